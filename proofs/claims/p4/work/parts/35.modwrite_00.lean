/-! THE REFERENCE'S FILE -/
theorem bl_s {f : Nat → Int32} {y n m : Int} (n0 : 0 ≤ n) (h : m = n + 1) : bl_ f y m = bl_ f y n ++ [gr f (y + n)] := by
  unfold bl_
  rw [show m.toNat = n.toNat + 1 by omega, List.range_succ, List.map_append]
  show _ ++ [gr f (y + ((n.toNat : Nat) : Int))] = _
  rw [show ((n.toNat : Nat) : Int) = n by omega]
theorem bl_0 {f : Nat → Int32} {y n : Int} (h : n = 0) : bl_ f y n = [] := by
  subst h
  rfl
theorem by_fit {x : Int32} (h : -128 ≤ x.toInt ∧ x.toInt ≤ 127) : by_ x.toInt = x := by
  unfold by_
  rw [Int32.ofInt_toInt]
  exact bz_fit h
/-- one more byte of a run, laid as a number of one byte -/
theorem lb_s {f : Nat → Int32} {y n m v p : Int} {q : Nat} {X : List Int32} {z : Int32} (hq : q = 1) (hz : z = gr f p) (hp : p = y + n) (hf : -128 ≤ z.toInt ∧ z.toInt ≤ 127) (hv : v = z.toInt) (n0 : 0 ≤ n) (h : m = n + 1) : X ++ bl_ f y n ++ nk_ v q = X ++ bl_ f y m := by
  rw [hq, nk_1, bl_s n0 h, hv, by_fit hf, hz, hp, List.append_assoc]
theorem ap_sub {f g : Nat → Int32} {s t y n : Int} {K A B C : List Int32} (h : ap_ f s g t K) (e : K = A ++ (B ++ C)) (hy : y = s + (A.length : Int)) (hn : n = (B.length : Int)) : bl_ g y n = B := by
  subst e hy hn
  refine List.ext_getElem? (fun k => ?_)
  by_cases c : k < B.length
  · have q := h.2.2 (A.length + k) (by rw [List.length_append, List.length_append]; omega)
    rw [List.getElem?_append_right (by omega), show A.length + k - A.length = k by omega, List.getElem?_append_left c] at q
    rw [bl_get (by omega), q]
    exact congrArg (fun z => some (gr g z)) (by omega)
  · rw [List.getElem?_eq_none (by rw [bl_len]; omega), List.getElem?_eq_none (by omega)]
theorem ly_3 {V : VW_} {i k1 k2 m : Int} {n1 n2 n3 : Nat} {P : List Int32} (h1 : k1 = 67324752) (g1 : n1 = 4) (h2 : k2 = 20) (g2 : n2 = 4) (hm : m = mt_ V i P) (g3 : n3 = 2) : [] ++ nk_ k1 n1 ++ nk_ k2 n2 ++ nk_ m n3 = nk_ 67324752 4 ++ nk_ 20 4 ++ nk_ (mt_ V i P) 2 := by
  subst h1 g1 h2 g2 hm g3
  rfl
theorem hd_E {V : VW_} {i k1 k2 su h s z : Int} {n1 n2 n3 n4 n5 n6 : Nat} {P : List Int32} (h1 : k1 = 0) (g1 : n1 = 2) (h2 : k2 = 33) (g2 : n2 = 2) (es : su = su_ V i) (g3 : n3 = 4) (eh : h = hr_ V i P) (g4 : n4 = 4) (e1 : s = vS V i) (g5 : n5 = 4) (e2 : z = vZ V i) (g6 : n6 = 4) (z0 : 0 ≤ z) (z1 : z ≤ 24) : nk_ 67324752 4 ++ nk_ 20 4 ++ nk_ (mt_ V i P) 2 ++ nk_ k1 n1 ++ nk_ k2 n2 ++ nk_ su n3 ++ nk_ h n4 ++ nk_ s n5 ++ nk_ z n6 = nk_ 67324752 4 ++ sh_ V i P := by
  subst h1 g1 h2 g2 es g3 eh g4 e1 g5 g6
  rw [nk_42 z0 (by omega), e2]
  have e : nk_ 20 4 = nk_ 20 2 ++ nk_ 0 2 := nk_42 (by omega) (by omega)
  rw [e]
  unfold sh_ s20_
  simp only [List.append_assoc]
theorem s20_bl {V : VW_} {f g : Nat → Int32} {s t y n i : Int} {P : List Int32} (h : ap_ f s g t (nk_ 67324752 4 ++ sh_ V i P)) (hy : y = s + 8) (hn : n = 20) : bl_ g y n = s20_ V i P := by
  refine ap_sub (A := nk_ 67324752 4 ++ (nk_ 20 2 ++ nk_ 0 2)) (B := s20_ V i P) (C := nk_ 0 2) h ?_ ?_ ?_
  · unfold sh_
    simp only [List.append_assoc]
  · rw [List.length_append, List.length_append, nk_len, nk_len, nk_len]
    omega
  · rw [s20_len]
    omega
def eh_ (V : VW_) (i : Int) (P : List Int32) (w : Int) : List Int32 := nk_ 33639248 4 ++ nk_ 20 2 ++ sh_ V i P ++ nk_ 0 2 ++ nk_ 0 2 ++ nk_ 0 2 ++ nk_ 0 4 ++ nk_ w 4
theorem ey_E {k1 k2 k3 : Int} {n1 n2 n3 : Nat} (h1 : k1 = 33639248) (g1 : n1 = 4) (h2 : k2 = 20) (g2 : n2 = 2) (h3 : k3 = 20) (g3 : n3 = 4) {f : Nat → Int32} {y n : Int} (hn : n = 0) : [] ++ nk_ k1 n1 ++ nk_ k2 n2 ++ nk_ k3 n3 = nk_ 33639248 4 ++ nk_ 20 2 ++ nk_ 20 4 ++ bl_ f y n := by
  subst h1 g1 h2 g2 h3 g3
  rw [bl_0 hn, List.append_nil]
  rfl
theorem eh_E {V : VW_} {i k1 k2 w v : Int} {n1 n2 n3 : Nat} {P B : List Int32} (hB : B = s20_ V i P) (h1 : k1 = 0) (g1 : n1 = 8) (h2 : k2 = 0) (g2 : n2 = 4) (hw : v = w) (g3 : n3 = 4) : nk_ 33639248 4 ++ nk_ 20 2 ++ nk_ 20 4 ++ B ++ nk_ k1 n1 ++ nk_ k2 n2 ++ nk_ v n3 = eh_ V i P w := by
  subst hB h1 g1 h2 g2 hw g3
  have e : nk_ 20 4 = nk_ 20 2 ++ nk_ 0 2 := nk_42 (by omega) (by omega)
  rw [e, nk_08]
  unfold eh_ sh_
  simp only [List.append_assoc]
theorem fE_M {c d w k1 k2 k3 : Int} {n1 n2 n3 n4 n5 n6 n7 : Nat} {X : List Int32} (h1 : k1 = 101010256) (g1 : n1 = 4) (h2 : k2 = 0) (g2 : n2 = 4) (g3 : n3 = 2) (g4 : n4 = 2) (g5 : n5 = 4) (g6 : n6 = 4) (h3 : k3 = 0) (g7 : n7 = 2) : X ++ nk_ k1 n1 ++ nk_ k2 n2 ++ nk_ c n3 ++ nk_ c n4 ++ nk_ d n5 ++ nk_ w n6 ++ nk_ k3 n7 = X ++ fE_ c d w := by
  subst h1 g1 h2 g2 g3 g4 g5 g6 h3 g7
  have e : nk_ 0 4 = nk_ 0 2 ++ nk_ 0 2 := nk_42 (by omega) (by omega)
  rw [e]
  unfold fE_
  simp only [List.append_assoc]
theorem fw_bl {g : Nat → Int32} {s : Int} {K : List Int32} (h : fw_ g s K) : bl_ g 0 s = K := bl_sub (A := []) (B := K) (C := []) h (by rw [List.append_nil]; rfl) rfl h.1
theorem fwE_ {f : Nat → Int32} {s v : Int} {q : Nat} {X : List Int32} {w : Int} (h : fw_ f s (X ++ nk_ v q)) (hv : v = w) (hq : q = 1 := by decide) : fw_ f s (X ++ nk_ w 1) := by
  subst hv hq
  exact h
