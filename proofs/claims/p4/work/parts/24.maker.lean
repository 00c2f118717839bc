/-- the parts' bytes -/
def NL_ (V : VW_) (i : Int) : List Int32 := (List.range (vZ V i).toNat).map (fun (k : Nat) => Int32.ofInt (vN V i (k : Int)))
def DL_ (V : VW_) (i : Int) : List Int32 := (List.range (vS V i).toNat).map (fun (k : Nat) => vD V i (k : Int))
def sD_ (V : VW_) (i : Int) : Int → Int32 := fun j => if 0 ≤ j ∧ j < vS V i then vD V i j else 0
theorem NL_bl {f : Nat → Int32} {V : VW_} {i y n : Int} (e : n = vZ V i) (h : ∀ k : Int, 0 ≤ k → k < vZ V i → gx f (y + k) = vN V i k) : bl_ f y n = NL_ V i := by
  subst e
  refine mp_ext (α := Nat) (fun k hk => ?_)
  rw [← h (k : Int) (by omega) (by omega)]
  show gr f (y + (k : Int)) = Int32.ofInt (gr f (y + (k : Int))).toInt
  rw [Int32.ofInt_toInt]
theorem DL_bl {f : Nat → Int32} {V : VW_} {i y n : Int} (e : n = vS V i) (h : ∀ k : Int, 0 ≤ k → k < vS V i → gr f (y + k) = vD V i k) : bl_ f y n = DL_ V i := by
  subst e
  refine mp_ext (α := Nat) (fun k hk => ?_)
  exact h (k : Int) (by omega) (by omega)
theorem sD_sq {f : Nat → Int32} {V : VW_} {i y n : Int} (e : n = vS V i) (h : ∀ k : Int, 0 ≤ k → k < vS V i → gr f (y + k) = vD V i k) : sq f y n = sD_ V i := by
  subst e
  funext j
  unfold sq sD_
  by_cases c : 0 ≤ j ∧ j < vS V i
  · rw [if_pos c, if_pos c, h j c.1 c.2]
  · rw [if_neg c, if_neg c]
def PR_ (a : Int → Int32) (n : Int) (P : List Int32) : Prop := ∃ f : Nat → Int32, pF_ a n f (P.length : Int) ∧ P = bl_ f 0 (P.length : Int)
theorem PR_of {a : Int → Int32} {n z : Int} {f : Nat → Int32} (h : pF_ a n f z) (z0 : 0 ≤ z) : PR_ a n (bl_ f 0 z) := by
  have e : ((bl_ f 0 z).length : Int) = z := by
    rw [bl_len]
    omega
  refine ⟨f, ?_, ?_⟩
  · rw [e]
    exact h
  · rw [e]
theorem PR_u {a : Int → Int32} {n : Int} {P Q : List Int32} (h : PR_ a n P) (k : PR_ a n Q) : P = Q := by
  obtain ⟨f, h1, h2⟩ := h
  obtain ⟨g, k1, k2⟩ := k
  obtain ⟨u1, u2⟩ := pF_u h1 k1
  rw [h2, k2]
  exact bl_cg u1 (fun j j0 j1 => by
    rw [Int.zero_add]
    exact u2 j j0 j1)
def su_ (V : VW_) (i : Int) : Int := (cw_ (vD V i) (vS V i).toNat ^^^ (-1)).toInt
def mt_ (V : VW_) (i : Int) (P : List Int32) : Int := if (P.length : Int) < vS V i then 8 else 0
def hr_ (V : VW_) (i : Int) (P : List Int32) : Int := if (P.length : Int) < vS V i then (P.length : Int) else vS V i
/-- what record and entry both say; the twenty bytes of it that the reference takes out of the record -/
def s20_ (V : VW_) (i : Int) (P : List Int32) : List Int32 := nk_ (mt_ V i P) 2 ++ nk_ 0 2 ++ nk_ 33 2 ++ nk_ (su_ V i) 4 ++ nk_ (hr_ V i P) 4 ++ nk_ (vS V i) 4 ++ nk_ (vZ V i) 2
def sh_ (V : VW_) (i : Int) (P : List Int32) : List Int32 := nk_ 20 2 ++ nk_ 0 2 ++ s20_ V i P ++ nk_ 0 2
theorem s20_len (V : VW_) (i : Int) (P : List Int32) : (s20_ V i P).length = 20 := by
  unfold s20_
  rw [List.length_append, List.length_append, List.length_append, List.length_append, List.length_append, List.length_append, nk_len, nk_len, nk_len, nk_len, nk_len, nk_len, nk_len]
theorem sh_len (V : VW_) (i : Int) (P : List Int32) : (sh_ V i P).length = 26 := by
  unfold sh_
  rw [List.length_append, List.length_append, List.length_append, nk_len, nk_len, s20_len]
def bd_ (V : VW_) (i : Int) (P : List Int32) : List Int32 := if (P.length : Int) < vS V i then P else DL_ V i
def rc_ (V : VW_) (i : Int) (P : List Int32) : List Int32 := nk_ 67324752 4 ++ sh_ V i P ++ NL_ V i ++ bd_ V i P
def en_L (V : VW_) (i : Int) (P : List Int32) (w : Int) : List Int32 := nk_ 33639248 4 ++ nk_ 20 2 ++ sh_ V i P ++ nk_ 0 2 ++ nk_ 0 2 ++ nk_ 0 2 ++ nk_ 0 4 ++ nk_ w 4 ++ NL_ V i
def fE_ (c d w : Int) : List Int32 := nk_ 101010256 4 ++ nk_ 0 2 ++ nk_ 0 2 ++ nk_ c 2 ++ nk_ c 2 ++ nk_ d 4 ++ nk_ w 4 ++ nk_ 0 2
def fL_ (V : VW_) : Nat → List Int32 → List Int32 → Prop
  | 0, F, D => F = [] ∧ D = []
  | i + 1, F, D => ∃ (F1 D1 P : List Int32), fL_ V i F1 D1 ∧ PR_ (sD_ V (i : Int)) (vS V (i : Int)) P ∧ F = F1 ++ rc_ V (i : Int) P ∧ D = D1 ++ en_L V (i : Int) P (F1.length : Int)
theorem fL_u {V : VW_} : ∀ (i : Nat) {F D F' D' : List Int32}, fL_ V i F D → fL_ V i F' D' → F = F' ∧ D = D'
  | 0, _, _, _, _, h, k => ⟨h.1.trans k.1.symm, h.2.trans k.2.symm⟩
  | i + 1, _, _, _, _, ⟨F1, D1, P, h1, h2, h3, h4⟩, ⟨F2, D2, Q, k1, k2, k3, k4⟩ => by
    obtain ⟨u1, u2⟩ := fL_u i h1 k1
    have u3 := PR_u h2 k2
    subst u1 u2 u3
    exact ⟨h3.trans k3.symm, h4.trans k4.symm⟩
theorem fL_s {V : VW_} {i i2 w : Int} {F D F2 D2 P : List Int32} (h : fL_ V i.toNat F D) (i0 : 0 ≤ i) (hi : i2 = i + 1) (p : PR_ (sD_ V i) (vS V i) P) (hw : w = (F.length : Int)) (e1 : F2 = F ++ rc_ V i P) (e2 : D2 = D ++ en_L V i P w) : fL_ V i2.toNat F2 D2 := by
  rw [show i2.toNat = i.toNat + 1 by omega]
  have e : ((i.toNat : Nat) : Int) = i := by omega
  refine ⟨F, D, P, h, ?_, ?_, ?_⟩
  · rw [e]
    exact p
  · rw [e]
    exact e1
  · rw [e, ← hw]
    exact e2
def FI_ (V : VW_) (K : List Int32) : Prop := ∃ F D : List Int32, fL_ V (vC V).toNat F D ∧ K = F ++ D ++ fE_ (vC V) (D.length : Int) (F.length : Int)
theorem FI_u {V : VW_} {K L : List Int32} (h : FI_ V K) (k : FI_ V L) : K = L := by
  obtain ⟨F, D, h1, h2⟩ := h
  obtain ⟨G, E, k1, k2⟩ := k
  obtain ⟨u1, u2⟩ := fL_u _ h1 k1
  subst u1 u2
  exact h2.trans k2.symm
/-- a row that has these bytes -/
def fw_ (f : Nat → Int32) (s : Int) (K : List Int32) : Prop := s = (K.length : Int) ∧ ∀ k : Nat, k < K.length → K[k]? = some (gr f (k : Int))
theorem fw_ap {f g : Nat → Int32} {s t : Int} {K L : List Int32} (h : fw_ f s K) (a : ap_ f s g t L) : fw_ g t (K ++ L) := by
  obtain ⟨h1, h2⟩ := h
  obtain ⟨a1, a2, a3⟩ := a
  refine ⟨by rw [List.length_append, Int.natCast_add]; omega, fun k hk => ?_⟩
  rw [List.length_append] at hk
  by_cases c : k < K.length
  · rw [List.getElem?_append_left c, h2 k c, a2 _ (by omega) (by omega)]
  · rw [List.getElem?_append_right (by omega), a3 (k - K.length) (by omega)]
    exact congrArg (fun z => some (gr g z)) (by omega)
theorem fw_nil {f : Nat → Int32} {s : Int} (h : s = 0) : fw_ f s [] := ⟨h, fun k hk => absurd hk (Nat.not_lt_zero k)⟩
theorem fw_rl {f g : Nat → Int32} {s t : Int} {K : List Int32} (h : fw_ f s K) (k : fw_ g t K) : s = t ∧ rl_B f g s := by
  refine ⟨h.1.trans k.1.symm, fun j j0 j1 => ?_⟩
  have q := h.1
  have e1 := h.2 j.toNat (by omega)
  have e2 := k.2 j.toNat (by omega)
  rw [show ((j.toNat : Nat) : Int) = j by omega] at e1 e2
  exact Option.some.inj (e1.symm.trans e2)
/-- a piece of a row, taken out -/
theorem bl_sub {f : Nat → Int32} {s y n : Int} {K A B C : List Int32} (h : fw_ f s K) (e : K = A ++ (B ++ C)) (hy : y = (A.length : Int)) (hn : n = (B.length : Int)) : bl_ f y n = B := by
  subst e hy hn
  refine List.ext_getElem? (fun k => ?_)
  by_cases c : k < B.length
  · have q := h.2 (A.length + k) (by rw [List.length_append, List.length_append]; omega)
    rw [List.getElem?_append_right (by omega), show A.length + k - A.length = k by omega, List.getElem?_append_left c] at q
    rw [bl_get (by omega), q]
    exact congrArg (fun z => some (gr f z)) (by omega)
  · rw [List.getElem?_eq_none (by rw [bl_len]; omega), List.getElem?_eq_none (by omega)]
/-- every part's record stands in the file -/
theorem fL_in {V : VW_} : ∀ (n : Nat) {F D : List Int32}, fL_ V n F D → ∀ i : Nat, i < n → ∃ F1 D1 P T : List Int32, fL_ V i F1 D1 ∧ PR_ (sD_ V (i : Int)) (vS V (i : Int)) P ∧ F = F1 ++ (rc_ V (i : Int) P ++ T)
  | 0, _, _, _, i, hi => absurd hi (Nat.not_lt_zero i)
  | n + 1, _, _, ⟨F1, D1, P, h1, h2, h3, h4⟩, i, hi => by
    by_cases c : i = n
    · subst c
      exact ⟨F1, D1, P, [], h1, h2, by rw [List.append_nil]; exact h3⟩
    · obtain ⟨F2, D2, Q, T, k1, k2, k3⟩ := fL_in n h1 i (by omega)
      exact ⟨F2, D2, Q, T ++ rc_ V (n : Int) P, k1, k2, by rw [h3, k3]; simp only [List.append_assoc]⟩
theorem rc_E {V : VW_} {i m su hr s z k1 k2 k3 k4 k5 k6 : Int} {P N B : List Int32} (h1 : k1 = 67324752) (h2 : k2 = 20) (h3 : k3 = 0) (em : m = mt_ V i P) (h4 : k4 = 0) (h5 : k5 = 33) (es : su = su_ V i) (eh : hr = hr_ V i P) (e1 : s = vS V i) (e2 : z = vZ V i) (h6 : k6 = 0) (eN : N = NL_ V i) (eB : B = bd_ V i P) : [] ++ nk_ k1 4 ++ nk_ k2 2 ++ nk_ k3 2 ++ nk_ m 2 ++ nk_ k4 2 ++ nk_ k5 2 ++ nk_ su 4 ++ nk_ hr 4 ++ nk_ s 4 ++ nk_ z 2 ++ nk_ k6 2 ++ N ++ B = rc_ V i P := by
  subst h1 h2 h3 em h4 h5 es eh e1 e2 h6 eN eB
  unfold rc_ sh_ s20_
  simp only [List.append_assoc, List.nil_append]
theorem rc_len (V : VW_) (i : Int) (P : List Int32) : 30 ≤ (rc_ V i P).length := by
  unfold rc_
  rw [List.length_append, List.length_append, List.length_append, nk_len, sh_len]
  omega
theorem en_E {V : VW_} {i w k1 k2 k3 k4 k5 k6 : Int} {P N S : List Int32} (h1 : k1 = 33639248) (h2 : k2 = 20) (eS : S = sh_ V i P) (h3 : k3 = 0) (h4 : k4 = 0) (h5 : k5 = 0) (h6 : k6 = 0) (eN : N = NL_ V i) : [] ++ nk_ k1 4 ++ nk_ k2 2 ++ S ++ nk_ k3 2 ++ nk_ k4 2 ++ nk_ k5 2 ++ nk_ k6 4 ++ nk_ w 4 ++ N = en_L V i P w := by
  subst h1 h2 eS h3 h4 h5 h6 eN
  unfold en_L
  simp only [List.append_assoc, List.nil_append]
theorem fE_E {c d w k1 k2 k3 k4 : Int} (h1 : k1 = 101010256) (h2 : k2 = 0) (h3 : k3 = 0) (h4 : k4 = 0) : [] ++ nk_ k1 4 ++ nk_ k2 2 ++ nk_ k3 2 ++ nk_ c 2 ++ nk_ c 2 ++ nk_ d 4 ++ nk_ w 4 ++ nk_ k4 2 = fE_ c d w := by
  subst h1 h2 h3 h4
  unfold fE_
  simp only [List.append_assoc, List.nil_append]
theorem mt_y {V : VW_} {i m p : Int} {P : List Int32} (hp : p = (P.length : Int)) (h : p < vS V i) (hm : m = 8) : m = mt_ V i P := by
  unfold mt_
  rw [if_pos (by omega)]
  exact hm
theorem mt_n {V : VW_} {i m p : Int} {P : List Int32} (hp : p = (P.length : Int)) (h : ¬ p < vS V i) (hm : m = 0) : m = mt_ V i P := by
  unfold mt_
  rw [if_neg (by omega)]
  exact hm
theorem hr_y {V : VW_} {i m p : Int} {P : List Int32} (hp : p = (P.length : Int)) (h : p < vS V i) (hm : m = p) : m = hr_ V i P := by
  unfold hr_
  rw [if_pos (by omega)]
  omega
theorem hr_n {V : VW_} {i m p : Int} {P : List Int32} (hp : p = (P.length : Int)) (h : ¬ p < vS V i) (hm : m = vS V i) : m = hr_ V i P := by
  unfold hr_
  rw [if_neg (by omega)]
  exact hm
theorem bd_y {V : VW_} {i p : Int} {P B : List Int32} (hp : p = (P.length : Int)) (h : p < vS V i) (hm : B = P) : B = bd_ V i P := by
  unfold bd_
  rw [if_pos (by omega)]
  exact hm
theorem bd_n {V : VW_} {i p : Int} {P B : List Int32} (hp : p = (P.length : Int)) (h : ¬ p < vS V i) (hm : B = DL_ V i) : B = bd_ V i P := by
  unfold bd_
  rw [if_neg (by omega)]
  exact hm
theorem su_E {V : VW_} {i y n : Int} {f : Nat → Int32} {s : Int32} (e : s = cr_n f y n.toNat ^^^ (-1)) (en : n = vS V i) (h : ∀ k : Int, 0 ≤ k → k < vS V i → gr f (y + k) = vD V i k) (n0 : 0 ≤ n) : s.toInt = su_ V i := by
  subst en
  unfold su_
  rw [e, cr_cw (d := vD V i) _ (fun j j0 j1 => h j j0 (by omega))]
theorem sh_bl {V : VW_} {f : Nat → Int32} {s y i : Int} {K F D T P : List Int32} (h : fw_ f s (K ++ D)) (e : K = F ++ (rc_ V i P ++ T)) (hy : y = (F.length : Int) + 4) : bl_ f y 26 = sh_ V i P ∧ y + 26 ≤ s := by
  constructor
  · refine bl_sub (A := F ++ nk_ 67324752 4) (B := sh_ V i P) (C := NL_ V i ++ (bd_ V i P ++ (T ++ D))) h ?_ ?_ ?_
    · rw [e]
      unfold rc_
      simp only [List.append_assoc]
    · rw [List.length_append, nk_len]
      omega
    · rw [sh_len]
      rfl
  · have q := h.1
    have l := rc_len V i P
    rw [e, List.length_append, List.length_append, List.length_append] at q
    omega
