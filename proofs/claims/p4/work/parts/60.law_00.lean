/-! BOTH SIDES -/
theorem rl_gx {f g : Nat → Int32} {s : Int} (h : rl_B f g s) : ∀ k : Int, 0 ≤ k → k < s → gx f k = gx g k := fun k k0 k1 => congrArg Int32.toInt (h k k0 k1)
theorem AD_g {V W : VW_} {a a' : Int → Int} {m s : Int} {d d' : Int → Int32} (h : AD_ V a m s d W) (ha : ∀ k : Int, 0 ≤ k → k < m → a k = a' k) (hd : ∀ k : Int, 0 ≤ k → k < s → d k = d' k) : ∃ W' : VW_, AD_ V a' m s d' W' ∧ vE_ W W' := by
  rcases h with ⟨q, q0, q1, q2, q3⟩ | ⟨n, r, r0, r1⟩
  · refine ⟨_, Or.inl ⟨q, q0, q1, nE_cg q2 ha, rfl⟩, ?_⟩
    rw [q3]
    exact vse_vE ha hd
  · refine ⟨_, Or.inr ⟨fun i i0 i1 q => n i i0 i1 (nE_cg q (fun k k0 k1 => (ha k k0 k1).symm)), r, isP_cg r0 ha, rfl⟩, ?_⟩
    rw [r1]
    exact vin_vE ha hd
theorem RM_g {V : VW_} {a a' : Int → Int} {m s : Int} (ha : ∀ k : Int, 0 ≤ k → k < m → a k = a' k) (h : RM_ V a m s) : RM_ V a' m s := by
  have hb : ∀ k : Int, 0 ≤ k → k < m → a' k = a k := fun k k0 k1 => (ha k k0 k1).symm
  exact ⟨h.1, fun q q0 q1 q2 => h.2.1 q q0 q1 (nE_cg q2 hb), fun n => h.2.2 (fun q q0 q1 q2 => n q q0 q1 (nE_cg q2 ha))⟩
theorem iA_g {a a' : Int → Int} {n : Int} (ha : ∀ k : Int, 0 ≤ k → k < n → a k = a' k) (h : iA_ a 0 n) : iA_ a' 0 n := iA_cong (fun k k0 k1 => ha k k0 (by omega)) h
def rV_ (c : Int) (fn fz fb fg : Nat → Int32) (b e : Int) (z n s d : Nat → Int32) : Prop := ∃ V : VW_, srt_ V ∧ rC_ c fn fz fb fg V ∧ rM_ b e z n s d V
theorem add_law {f g fn fz fb fg z n s d : Nat → Int32} {V : VW_} {t u m c e kr th o r : Int} (hs : srt_ V) (rl : rl_B f g t) (tu : t = u)
    (k0 : kr = 0 ∨ kr = 1 ∨ kr = 2) (k1 : kr = 1 → ¬ (0 ≤ m ∧ m ≤ t ∧ iA_ (gx f) 0 m)) (k2 : kr = 2 → (0 ≤ m ∧ m ≤ t ∧ iA_ (gx f) 0 m) ∧ ¬ RM_ V (gx f) m (t - m)) (k3 : kr = 0 → (0 ≤ m ∧ m ≤ t ∧ iA_ (gx f) 0 m) ∧ RM_ V (gx f) m (t - m) ∧ hid_ (∃ W : VW_, AD_ V (gx f) m (t - m) (fun k => gr f (m + k)) W ∧ rC_ c fn fz fb fg W ∧ o = vC W)) (k4 : ¬ kr = 0 → rC_ c fn fz fb fg V)
    (m0 : th = 0 ∨ th = 1 ∨ th = 2) (m1 : th = 1 → ¬ (0 ≤ m ∧ m ≤ u ∧ iA_ (gx g) 0 m)) (ma : th ≠ 1 → 0 ≤ m ∧ m ≤ u ∧ iA_ (gx g) 0 m) (m2 : th = 2 → ¬ RM_ V (gx g) m (u - m)) (m3 : th = 0 → RM_ V (gx g) m (u - m) ∧ hid_ (∃ W : VW_, AD_ V (gx g) m (u - m) (fun k => gr g (m + k)) W ∧ rM_ 0 e z n s d W ∧ r = vC W)) (m4 : th ≠ 0 → rM_ 0 e z n s d V) : kr = th ∧ (kr = 0 → o = r) ∧ hid_ (rV_ c fn fz fb fg 0 e z n s d) := by
  subst tu
  have ha : 0 ≤ m → m ≤ t → ∀ k : Int, 0 ≤ k → k < m → gx f k = gx g k := fun _ p1 k q0 q1 => rl_gx rl k q0 (by omega)
  have hb : 0 ≤ m → m ≤ t → ∀ k : Int, 0 ≤ k → k < m → gx g k = gx f k := fun p0 p1 k q0 q1 => (ha p0 p1 k q0 q1).symm
  have hd : 0 ≤ m → ∀ k : Int, 0 ≤ k → k < t - m → gr f (m + k) = gr g (m + k) := fun p0 k q0 q1 => rl (m + k) (by omega) (by omega)
  rcases k0 with h | h | h
  · obtain ⟨⟨a1, a2, a3⟩, b1, b2⟩ := k3 h
    have e1 : ¬ th = 1 := fun q => m1 q ⟨a1, a2, iA_g (ha a1 a2) a3⟩
    have e2 : ¬ th = 2 := fun q => m2 q (RM_g (ha a1 a2) b1)
    have e3 : th = 0 := by omega
    obtain ⟨c1, c2⟩ := m3 e3
    obtain ⟨W, w1, w2, w3⟩ := hid_o b2
    obtain ⟨W', v1, v2, v3⟩ := hid_o c2
    obtain ⟨X, x1, x2⟩ := AD_g w1 (ha a1 a2) (hd a1)
    have eW := AD_u hs x1 v1
    subst eW
    refine ⟨by omega, fun _ => ?_, hid_i ⟨X, srt_AD hs x1, rC_vE w2 x2, v2⟩⟩
    have q := x2.1
    omega
  · have e1 : th = 1 := Classical.byContradiction (fun q => by
      obtain ⟨a1, a2, a3⟩ := ma q
      exact k1 h ⟨a1, a2, iA_g (hb a1 a2) a3⟩)
    exact ⟨by omega, fun q => absurd q (by omega), hid_i ⟨V, hs, k4 (by omega), m4 (by omega)⟩⟩
  · obtain ⟨⟨a1, a2, a3⟩, b1⟩ := k2 h
    have e1 : ¬ th = 1 := fun q => m1 q ⟨a1, a2, iA_g (ha a1 a2) a3⟩
    have e2 : ¬ th = 0 := fun q => b1 (RM_g (hb a1 a2) (m3 q).1)
    exact ⟨by omega, fun q => absurd q (by omega), hid_i ⟨V, hs, k4 (by omega), m4 (by omega)⟩⟩
theorem rem_law {f g fn fz fb fg z n s d : Nat → Int32} {V : VW_} {t u c e x r : Int} (hs : srt_ V) (rl : rl_B f g t) (tu : t = u) (h : hid_ (∃ q : Int, isF_ V t (gx f) q ∧ (0 ≤ q ∧ x = 1 ∧ rC_ c fn fz fb fg (vou_ V q) ∨ q = -1 ∧ x = 0 ∧ rC_ c fn fz fb fg V))) (k : hid_ (∃ q : Int, isF_ V u (gx g) q ∧ (0 ≤ q ∧ r = 1 ∧ rM_ 0 e z n s d (vou_ V q) ∨ q = -1 ∧ r = 0 ∧ rM_ 0 e z n s d V))) : x = r ∧ hid_ (rV_ c fn fz fb fg 0 e z n s d) := by
  subst tu
  obtain ⟨q, h1, h2⟩ := hid_o h
  obtain ⟨p, k1, k2⟩ := hid_o k
  have e1 := isF_u hs (isF_cg h1 (rl_gx rl)) k1
  subst e1
  rcases h2 with ⟨a1, a2, a3⟩ | ⟨a1, a2, a3⟩
  · rcases k2 with ⟨b1, b2, b3⟩ | ⟨b1, b2, b3⟩
    · exact ⟨by omega, hid_i ⟨vou_ V q, srt_ou hs a1, a3, b3⟩⟩
    · omega
  · rcases k2 with ⟨b1, b2, b3⟩ | ⟨b1, b2, b3⟩
    · omega
    · exact ⟨by omega, hid_i ⟨V, hs, a3, b3⟩⟩
theorem rd_law {A : Int → Int32} {fn fz fb fg fn' fz' fb' fg' z n s d : Nat → Int32} {V : VW_} {t u c c' e x r : Int} (hs : srt_ V) (tu : t = u) (R : rC_ c fn fz fb fg V) (h : hid_ (∃ W : VW_, rd_ A t x W ∧ (x = 0 → rC_ c' fn' fz' fb' fg' W))) (k : hid_ (∃ W : VW_, rd_ A u r W ∧ (r = 0 → rM_ 0 e z n s d W))) (kV : ¬ r = 0 → rM_ 0 e z n s d V) : x = r ∧ (x = 0 → hid_ (rV_ c' fn' fz' fb' fg' 0 e z n s d)) ∧ (¬ x = 0 → hid_ (rV_ c fn fz fb fg 0 e z n s d)) := by
  subst tu
  obtain ⟨W, h1, h2⟩ := hid_o h
  obtain ⟨W', k1, k2⟩ := hid_o k
  obtain ⟨u1, u2⟩ := rd_u h1 k1
  refine ⟨u1, fun q => ?_, fun q => hid_i ⟨V, hs, R, kV (by omega)⟩⟩
  have eW := u2 q
  subst eW
  exact hid_i ⟨W, rd_srt h1 q, h2 q, k2 (by omega)⟩
theorem fi_law {f g : Nat → Int32} {V : VW_} {t u : Int} (h : hid_ (∃ K : List Int32, FI_ V K ∧ fw_ f t K)) (k : hid_ (∃ K : List Int32, FI_ V K ∧ fw_ g u K)) : t = u ∧ rl_B f g t := by
  obtain ⟨K, h1, h2⟩ := hid_o h
  obtain ⟨L, k1, k2⟩ := hid_o k
  have e := FI_u h1 k1
  subst e
  exact fw_rl h2 k2
theorem rr_law {A : Int → Int32} {fn fz fb fg fn' fz' fb' fg' z n s d : Nat → Int32} {V : VW_} {t u c c' e kr th o r i x : Int} (hs : srt_ V) (tu : t = u) (R : rC_ c fn fz fb fg V)
    (k0 : kr = 0 ∨ kr = 1 ∨ kr = 2) (k1 : kr = 1 → ¬ (0 ≤ i ∧ i < t)) (k2 : kr = 2 → (0 ≤ i ∧ i < t) ∧ ¬ (0 ≤ x ∧ x ≤ 255)) (k3 : kr = 0 → (0 ≤ i ∧ i < t) ∧ (0 ≤ x ∧ x ≤ 255) ∧ hid_ (∃ W : VW_, rd_ A t o W ∧ (o = 0 → rC_ c' fn' fz' fb' fg' W)))
    (m0 : th = 0 ∨ th = 1 ∨ th = 2) (m1 : th = 0 → (0 ≤ i ∧ i < u) ∧ (0 ≤ x ∧ x ≤ 255)) (m2 : th = 1 → ¬ (0 ≤ i ∧ i < u)) (m3 : th = 2 → (0 ≤ i ∧ i < u) ∧ ¬ (0 ≤ x ∧ x ≤ 255)) (mR : th = 0 → hid_ (∃ W : VW_, rd_ A u r W ∧ (r = 0 → rM_ 0 e z n s d W))) (mV : ¬ (th = 0 ∧ r = 0) → rM_ 0 e z n s d V) : kr = th ∧ (kr = 0 → o = r) ∧ (kr = 0 ∧ o = 0 → hid_ (rV_ c' fn' fz' fb' fg' 0 e z n s d)) ∧ (¬ (kr = 0 ∧ o = 0) → hid_ (rV_ c fn fz fb fg 0 e z n s d)) := by
  have e1 : kr = th := by omega
  by_cases h : kr = 0
  · have q := rd_law hs tu R (k3 h).2.2 (mR (by omega)) (fun w => mV (by omega))
    exact ⟨e1, fun _ => q.1, fun w => q.2.1 w.2, fun w => q.2.2 (fun v => w ⟨h, v⟩)⟩
  · exact ⟨e1, fun w => absurd w h, fun w => absurd w.1 h, fun _ => hid_i ⟨V, hs, R, mV (by omega)⟩⟩

/-! relations and relation: both sides -/
theorem rl_law {fn fz fb fg z n s d : Nat → Int32} {V : VW_} {c e i kr th o r : Int} (hs : srt_ V) (Rc : rC_ c fn fz fb fg V) (Rm : rM_ 0 e z n s d V) (h0 : 0 ≤ c) (k0 : kr = 0 ∨ kr = 1) (k1 : kr = 1 → ¬ (0 ≤ i ∧ i < c)) (k2 : kr = 0 → (0 ≤ i ∧ i < c) ∧ hid_ (∃ t : Int, isF_ (cN_ c fn fz) (gx fz i + 5) (tn6_ (cN_ c fn fz) i) t ∧ o = nl6_ (tT6_ t (mk_ (mB_ fb (gx fg t)) (gx fg (t + 1) - gx fg t))))) (m0 : th = 0 ∨ th = 1) (m1 : th = 1 → ¬ (0 ≤ i ∧ i < e)) (m2 : th = 0 → (0 ≤ i ∧ i < e) ∧ hid_ (∃ t : Int, isF_ (cN_ e n z) (gx z i + 5) (tn6_ (cN_ e n z) i) t ∧ r = nl6_ (tT6_ t (mk_ (fun j => gr d (4000 * t + j)) (gx s t))))) : kr = th ∧ (kr = 0 → o = r) := by
  have ce : c = e := Rc.1.trans Rm.1.symm
  have e1 : kr = th := by
    rcases k0 with q | q <;> rcases m0 with p | p
    · omega
    · exact absurd (k2 q).1 (by rw [ce]; exact m1 p)
    · exact absurd (m2 p).1 (by rw [← ce]; exact k1 q)
    · omega
  refine ⟨e1, fun q => ?_⟩
  obtain ⟨a1, a2⟩ := k2 q
  obtain ⟨b1, b2⟩ := m2 (by omega)
  obtain ⟨t, t1, t2⟩ := hid_o a2
  obtain ⟨u, u1, u2⟩ := hid_o b2
  have t3 := tl_N (rC_N Rc) a1.1 a1.2 t1
  have u3 := tl_N (rM_N Rm) b1.1 b1.2 u1
  have tu := isF_u hs t3 u3
  have tl : t < c := by
    have w := isF_lt t3 (by rw [← Rc.1]; exact h0)
    rw [← Rc.1] at w
    exact w
  rw [mk_C Rc tl] at t2
  rw [mk_M Rm (by omega), ← tu] at u2
  rw [t2, u2]
theorem gq_u {V : VW_} {T : Option (List RE_)} {k r s x y : Int} (hs : srt_ V) (h : gq6_ V T k r x) (h' : gq6_ V T k s y) : x = y ∧ (x = 0 → r = s) := by
  rcases h with ⟨h1, h2, L, R, h3, h4, h5⟩ | ⟨h1, h2⟩
  · rcases h' with ⟨g1, g2, L', R', g3, g4, g5⟩ | ⟨g1, g2⟩
    · refine ⟨by omega, fun _ => ?_⟩
      have e : L = L' := Option.some.inj (h3.symm.trans g3)
      rw [← e] at g4
      have e2 : R = R' := Option.some.inj (h4.symm.trans g4)
      rw [← e2] at g5
      exact isF_u hs h5 g5
    · exact absurd ⟨h2, L, R, h3, h4⟩ g2
  · rcases h' with ⟨g1, g2, L', R', g3, g4, g5⟩ | ⟨g1, g2⟩
    · exact absurd ⟨g2, L', R', g3, g4⟩ h2
    · exact ⟨by omega, fun q => absurd q (by omega)⟩
theorem gq_N {c n' : Int} {n z : Nat → Int32} {V : VW_} {T : Option (List RE_)} {k r x : Int} (R : rN_ c n z V) (h : gq6_ (cN_ c n z) T k r x) : gq6_ V T k r x := by
  rcases h with ⟨h1, h2, L, Q, h3, h4, h5⟩ | h
  · exact Or.inl ⟨h1, h2, L, Q, h3, h4, isF_N R h5⟩
  · exact Or.inr h
theorem rn_law {fn fz fb fg z n s d : Nat → Int32} {V : VW_} {c e i k kr th o r : Int} (hs : srt_ V) (Rc : rC_ c fn fz fb fg V) (Rm : rM_ 0 e z n s d V) (h0 : 0 ≤ c) (k0 : kr = 0 ∨ kr = 1) (k1 : kr = 1 → hid_ (¬ (0 ≤ i ∧ i < c) ∨ ((0 ≤ i ∧ i < c) ∧ ∃ t : Int, isF_ (cN_ c fn fz) (gx fz i + 5) (tn6_ (cN_ c fn fz) i) t ∧ gq6_ (cN_ c fn fz) (tT6_ t (mk_ (mB_ fb (gx fg t)) (gx fg (t + 1) - gx fg t))) k 0 1))) (k2 : kr = 0 → (0 ≤ i ∧ i < c) ∧ hid_ (∃ t : Int, isF_ (cN_ c fn fz) (gx fz i + 5) (tn6_ (cN_ c fn fz) i) t ∧ gq6_ (cN_ c fn fz) (tT6_ t (mk_ (mB_ fb (gx fg t)) (gx fg (t + 1) - gx fg t))) k o 0)) (m : hid_ ((¬ (0 ≤ i ∧ i < e) ∧ th = 1) ∨ ((0 ≤ i ∧ i < e) ∧ ∃ t : Int, isF_ (cN_ e n z) (gx z i + 5) (tn6_ (cN_ e n z) i) t ∧ gq6_ (cN_ e n z) (tT6_ t (mk_ (fun j => gr d (4000 * t + j)) (gx s t))) k r th))) : kr = th ∧ (kr = 0 → o = r) := by
  have ce : c = e := Rc.1.trans Rm.1.symm
  have key : ∀ (x : Int) (y : Int), (0 ≤ i ∧ i < c) → (∃ t : Int, isF_ (cN_ c fn fz) (gx fz i + 5) (tn6_ (cN_ c fn fz) i) t ∧ gq6_ (cN_ c fn fz) (tT6_ t (mk_ (mB_ fb (gx fg t)) (gx fg (t + 1) - gx fg t))) k x y) → y = th ∧ (y = 0 → x = r) := fun x y a1 a2 => by
    rcases hid_o m with ⟨b1, b2⟩ | ⟨b1, u, u1, u2⟩
    · exact absurd a1 (by rw [ce]; exact b1)
    · obtain ⟨t, t1, t2⟩ := a2
      have t3 := tl_N (rC_N Rc) a1.1 a1.2 t1
      have u3 := tl_N (rM_N Rm) b1.1 b1.2 u1
      have tu := isF_u hs t3 u3
      have tl : t < c := by
        have w := isF_lt t3 (by rw [← Rc.1]; exact h0)
        rw [← Rc.1] at w
        exact w
      rw [mk_C Rc tl] at t2
      rw [mk_M Rm (by omega), ← tu] at u2
      exact gq_u hs (gq_N (n' := 0) (rC_N Rc) t2) (gq_N (n' := 0) (rM_N Rm) u2)
  rcases k0 with q | q
  · obtain ⟨a1, a2⟩ := k2 q
    have w := key o 0 a1 (hid_o a2)
    exact ⟨by omega, fun _ => w.2 rfl⟩
  · rcases hid_o (k1 q) with a | ⟨a1, a2⟩
    · rcases hid_o m with ⟨b1, b2⟩ | ⟨b1, _⟩
      · exact ⟨by omega, fun w => absurd w (by omega)⟩
      · exact absurd b1 (by rw [← ce]; exact a)
    · have w := key 0 1 a1 a2
      exact ⟨by omega, fun y => absurd y (by omega)⟩
