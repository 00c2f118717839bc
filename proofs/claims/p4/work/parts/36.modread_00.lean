/-- the first i parts of set 1 stand in set 0 too -/
def cp_I (z z2 : Nat → Int32) (i : Int) : Prop := ∀ j : Int, 0 ≤ j → gx z2 j = if j < i then gx z (17 + j) else gx z j
def cp_N (n n2 : Nat → Int32) (i : Int) : Prop := ∀ j : Int, 0 ≤ j → ∀ k : Int, 0 ≤ k → k < 24 → gx n2 (24 * j + k) = if j < i then gx n (24 * (17 + j) + k) else gx n (24 * j + k)
theorem cp_0 {z : Nat → Int32} : cp_I z z 0 := fun j h => by rw [if_neg (by omega)]
theorem cp_N0 {n : Nat → Int32} : cp_N n n 0 := fun j h k _ _ => by rw [if_neg (by omega)]
theorem cp_s {z z1 z2 : Nat → Int32} {i i2 fr to : Int} (h : cp_I z z1 i) (h0 : 0 ≤ i) (h1 : i ≤ 16) (hf : fr = 17 + i) (ht : to = i) (hm : mv_Z z1 z2 fr to) (h2 : i2 = i + 1) : cp_I z z2 i2 := by
  subst hf ht h2
  intro j j0
  rw [hm j j0]
  by_cases w : j = to
  · subst w
    rw [if_pos rfl, if_pos (by omega), h _ (by omega), if_neg (by omega)]
  · rw [if_neg w, h j j0]
    by_cases w2 : j < to
    · rw [if_pos w2, if_pos (by omega)]
    · rw [if_neg w2, if_neg (by omega)]
theorem cp_Ns {n n1 n2 : Nat → Int32} {i i2 fr to : Int} (h : cp_N n n1 i) (h0 : 0 ≤ i) (h1 : i ≤ 16) (hf : fr = 17 + i) (ht : to = i) (hm : mv_N n1 n2 fr to) (h2 : i2 = i + 1) : cp_N n n2 i2 := by
  subst hf ht h2
  intro j j0 k k0 k1
  by_cases w : j = to
  · subst w
    rw [hm.1 k k0 k1, if_pos (by omega), h _ (by omega) k k0 k1, if_neg (by omega)]
  · rw [hm.2 _ (by omega) (by omega), h j j0 k k0 k1]
    by_cases w2 : j < to
    · rw [if_pos w2, if_pos (by omega)]
    · rw [if_neg w2, if_neg (by omega)]
theorem cp_end {c : Int} {z s n z2 s2 n2 : Nat → Int32} (h : ms_I 17 c z s n) (hz : cp_I z z2 c) (hs : cp_I s s2 c) (hn : cp_N n n2 c) : ms_I 0 c z2 s2 n2 := by
  obtain ⟨g1, g2, g3, g4, g5⟩ := h
  have ez : ∀ j : Int, 0 ≤ j → j < c → gx z2 (0 + j) = gx z (17 + j) := fun j h0 h1 => by rw [Int.zero_add, hz j h0, if_pos h1]
  have es : ∀ j : Int, 0 ≤ j → j < c → gx s2 (0 + j) = gx s (17 + j) := fun j h0 h1 => by rw [Int.zero_add, hs j h0, if_pos h1]
  refine ⟨g1, g2, fun j h0 h1 => by rw [ez j h0 h1, es j h0 h1]; exact g3 j h0 h1, ?_, fun p q p0 pq qc hnm => ?_⟩
  · have e : ∀ m : Nat, (m : Int) ≤ c → sm s2 0 m = sm s 17 m := by
      intro m
      induction m with
      | zero => intro _; rfl
      | succ m ih =>
        intro hm
        rw [sm, sm, ih (by omega), es m (by omega) (by omega)]
    rw [e c.toNat (by omega)]
    exact g4
  · have hp := g3 p p0 (by omega)
    refine g5 p q p0 pq qc ⟨by rw [← ez p p0 (by omega), ← ez q (by omega) qc]; exact hnm.1, fun k k0 k1 => ?_⟩
    have a := hnm.2 k k0 (by rw [ez p p0 (by omega)]; exact k1)
    rw [show 24 * (0 + p) + k = 24 * p + k by omega, show 24 * (0 + q) + k = 24 * q + k by omega, hn p p0 k k0 (by omega), hn q (by omega) k k0 (by omega), if_pos (by omega), if_pos qc] at a
    exact a
theorem ms_nil {z s n : Nat → Int32} : ms_I 17 0 z s n := ⟨by omega, by omega, fun i h0 h1 => absurd h1 (by omega), by show (0 : Int) ≤ 12000; omega, fun i j h0 h1 h2 => absurd h2 (by omega)⟩
theorem ot_tr {z z1 z2 : Nat → Int32} {b : Int} (h : ot_Z z z1 b) (g : ot_Z z1 z2 b) : ot_Z z z2 b := fun j j0 j1 => (g j j0 j1).trans (h j j0 j1)
theorem ot_trN {n n1 n2 : Nat → Int32} {b : Int} (h : ot_N n n1 b) (g : ot_N n1 n2 b) : ot_N n n2 b := fun j j0 j1 => (g j j0 j1).trans (h j j0 j1)

theorem ot_trD {d d1 d2 : Nat → Int32} {b : Int} (h : ot_D d d1 b) (g : ot_D d1 d2 b) : ot_D d d2 b := fun j j0 j1 => (g j j0 j1).trans (h j j0 j1)
theorem ab_eq {f : Nat → Int32} {A : Int → Int32} {Z p q : Int} {i j : Int32} (hA : ∀ j : Int, 0 ≤ j → j < Z → A j = gr f j) (e1 : i = gr f p) (e2 : j = gr f q) (p0 : 0 ≤ p) (p1 : p < Z) (q0 : 0 ≤ q) (q1 : q < Z) (h : i.toInt = j.toInt) : A p = A q := by
  rw [hA p p0 p1, hA q q0 q1, ← e1, ← e2]
  exact Int32.toInt_inj.mp h
theorem ab_ne {f : Nat → Int32} {A : Int → Int32} {Z p q : Int} {i j : Int32} (hA : ∀ j : Int, 0 ≤ j → j < Z → A j = gr f j) (e1 : i = gr f p) (e2 : j = gr f q) (p0 : 0 ≤ p) (p1 : p < Z) (q0 : 0 ≤ q) (q1 : q < Z) (h : ¬ i.toInt = j.toInt) : ¬ A p = A q := fun z => h (by
  rw [hA p p0 p1, hA q q0 q1, ← e1, ← e2] at z
  rw [z])
theorem rr_Y {A : Int → Int32} {lim e : Int} (hB : ∀ j : Int, -128 ≤ (A j).toInt ∧ (A j).toInt ≤ 127) (hy : ey_ A e) (h0 : aw A (e + 42) 4 + 30 + aw A (e + 28) 2 + aw A (e + 20) 4 ≤ lim) (h : ((aw A (aw A (e + 42) 4) 4 = 67324752 ∧ aw A (aw A (e + 42) 4 + 4) 4 = 20 ∧ aw A (aw A (e + 42) 4 + 28) 2 = 0) ∧ ∀ j : Int, 0 ≤ j → j < 20 → A (aw A (e + 42) 4 + 8 + j) = A (e + 10 + j)) ∧ ∀ j : Int, 0 ≤ j → j < aw A (e + 28) 2 → A (aw A (e + 42) 4 + 30 + j) = A (e + 46 + j)) : rr_ A lim e := (rr_iff rfl hB hy).mpr ⟨h0, h.1.1.1, h.1.1.2.1, h.1.1.2.2, h.1.2, h.2⟩
theorem rr_X {A : Int → Int32} {lim e : Int} (hB : ∀ j : Int, -128 ≤ (A j).toInt ∧ (A j).toInt ≤ 127) (hy : ey_ A e) (h : ¬ (((aw A (aw A (e + 42) 4) 4 = 67324752 ∧ aw A (aw A (e + 42) 4 + 4) 4 = 20 ∧ aw A (aw A (e + 42) 4 + 28) 2 = 0) ∧ ∀ j : Int, 0 ≤ j → j < 20 → A (aw A (e + 42) 4 + 8 + j) = A (e + 10 + j)) ∧ ∀ j : Int, 0 ≤ j → j < aw A (e + 28) 2 → A (aw A (e + 42) 4 + 30 + j) = A (e + 46 + j))) : ¬ rr_ A lim e := fun q => h (by
  have z := (rr_iff rfl hB hy).mp q
  exact ⟨⟨⟨z.2.1, z.2.2.1, z.2.2.2.1⟩, z.2.2.2.2.1⟩, z.2.2.2.2.2⟩)
theorem dz_eq {A : Int → Int32} {x e : Int} {n k : Nat} (h : dy_ A x e n) (hk : dz A x k = e) : k = n := by
  rcases Nat.lt_trichotomy k n with w | w | w
  · have u := (h.1 k w).1
    omega
  · exact w
  · have u := dz_up A x (k - n) n
    rw [show n + (k - n) = k by omega, h.2] at u
    omega
def cp_D (s d d2 : Nat → Int32) (i : Int) : Prop := (∀ j : Int, 0 ≤ j → j < i → ∀ k : Int, 0 ≤ k → k < gx s (17 + j) → gr d2 (4000 * j + k) = gr d (4000 * (17 + j) + k)) ∧ ∀ j : Int, i ≤ j → ∀ k : Int, 0 ≤ k → k < 4000 → gr d2 (4000 * j + k) = gr d (4000 * j + k)
theorem cp_D0 {s d : Nat → Int32} : cp_D s d d 0 := ⟨fun j h0 h1 => absurd h1 (by omega), fun _ _ _ _ _ => rfl⟩
theorem cp_Ds {s d d1 d2 : Nat → Int32} {i i2 fr to m : Int} (h : cp_D s d d1 i) (h0 : 0 ≤ i) (h1 : i ≤ 16) (hf : fr = 17 + i) (ht : to = i) (hm : mv_D d1 d2 fr to m) (em : m = gx s (17 + i)) (m4 : m ≤ 4000) (hs : ∀ j : Int, 0 ≤ j → j < i → gx s (17 + j) ≤ 4000) (h2 : i2 = i + 1) : cp_D s d d2 i2 := by
  subst hf ht h2 em
  refine ⟨fun j j0 j1 k k0 k1 => ?_, fun j j0 k k0 k1 => ?_⟩
  · by_cases c : j = to
    · subst c
      rw [hm.1 k k0 k1]
      exact h.2 (17 + j) (by omega) k k0 (by omega)
    · have q := hs j j0 (by omega)
      rw [hm.2 _ (by omega) (by omega)]
      exact h.1 j j0 (by omega) k k0 k1
  · rw [hm.2 _ (by omega) (by omega)]
    exact h.2 j (by omega) k k0 k1
theorem rM_cp {c : Int} {z s n d z2 s2 n2 d2 : Nat → Int32} {V : VW_} (R : rM_ 17 c z n s d V) (I : ms_I 17 c z s n) (hz : cp_I z z2 c) (hs : cp_I s s2 c) (hn : cp_N n n2 c) (hd : cp_D s d d2 c) : rM_ 0 c z2 n2 s2 d2 V := by
  refine ⟨R.1, fun i i0 i1 => ?_⟩
  obtain ⟨a1, a2, a3, a4⟩ := R.2 i i0 i1
  have q5 := I.2.2.1 i i0 i1
  rw [Int.zero_add]
  refine ⟨?_, ?_, fun k k0 k1 => ?_, fun k k0 k1 => ?_⟩
  · rw [hz i i0, if_pos i1]
    exact a1
  · rw [hs i i0, if_pos i1]
    exact a2
  · rw [hn i i0 k k0 (by omega), if_pos i1]
    exact a3 k k0 k1
  · rw [hd.1 i i0 i1 k k0 (by omega)]
    exact a4 k k0 k1
/-- a row with a byte changed -/
theorem xr_M {F R : Nat → Int32} {A : Int → Int32} {s k j : Int} {ix x u v w : Int32} (hA : A j = xr_ (gr F) k x j) (rl : rl_B F R s) (h0 : 0 ≤ j) (h1 : j < s) (hi : ix.toInt = k) (k0 : 0 ≤ k) (k1 : k < s) (xj : w = gr R k) (xu : u = w ^^^ x) (xv : v = u.toInt8.toInt32) : A j = gr (upd R ix.toNatClampNeg (vp_nar .byte v)) j := by
  rw [hA, gr_updb hi j k0 h0]
  unfold xr_
  by_cases c : j = k
  · rw [if_pos c, if_pos c, xv, i8_i8, xu, xj, ← rl k k0 k1, c]
  · rw [if_neg c, if_neg c]
    exact rl j h0 h1
