/-- omega must not look into this one -/
def hide_ (p : Prop) : Prop := p
theorem hide_mp {p q : Prop} (h : hide_ (p → q)) (hp : p) : q := h hp
/-- part t tells the relations of part i: its name is i's and five bytes more -/
def isT (z n rl : Nat → Int32) (c i t : Int) : Prop := 0 ≤ t ∧ t < c ∧ gx z t = gx z i + 5 ∧ (∀ k : Int, 0 ≤ k → k < gx z i → gx n (24 * t + k) = gx n (24 * i + k)) ∧ ∀ k : Int, 0 ≤ k → k < 5 → gx n (24 * t + (gx z i + k)) = gx rl k
theorem isT_uniq {z s n rl : Nat → Int32} {c i t u : Int} (h : ms_I 0 c z s n) (hi : 0 ≤ gx z i) (h1 : isT z n rl c i t) (h2 : isT z n rl c i u) : t = u := by
  have key : ∀ p q : Int, p < q → isT z n rl c i p → isT z n rl c i q → False := fun p q pq a d => by
    refine h.2.2.2.2 p q a.1 pq d.2.1 ⟨by rw [Int.zero_add, Int.zero_add, a.2.2.1, d.2.2.1], fun k k0 k1 => ?_⟩
    rw [Int.zero_add] at k1 ⊢
    rw [Int.zero_add]
    rw [a.2.2.1] at k1
    by_cases w : k < gx z i
    · rw [a.2.2.2.1 k k0 w, d.2.2.2.1 k k0 w]
    · have e1 := a.2.2.2.2 (k - gx z i) (by omega) (by omega)
      have e2 := d.2.2.2.2 (k - gx z i) (by omega) (by omega)
      rw [show gx z i + (k - gx z i) = k by omega] at e1 e2
      rw [e1, e2]
  rcases Int.lt_trichotomy t u with w | w | w
  · exact (key t u w h1 h2).elim
  · exact w
  · exact (key u t w h2 h1).elim
theorem isT_inj {z s n rl : Nat → Int32} {c i j t : Int} (h : ms_I 0 c z s n) (hi : 0 ≤ i) (hic : i < c) (hj : 0 ≤ j) (hjc : j < c) (h1 : isT z n rl c i t) (h2 : isT z n rl c j t) : i = j := by
  have key : ∀ p q : Int, 0 ≤ p → p < q → q < c → isT z n rl c p t → isT z n rl c q t → False := fun p q p0 pq qc a d => by
    have e : gx z p = gx z q := by have e1 := a.2.2.1; have e2 := d.2.2.1; omega
    refine h.2.2.2.2 p q p0 pq qc ⟨by rw [Int.zero_add, Int.zero_add]; exact e, fun k k0 k1 => ?_⟩
    rw [Int.zero_add] at k1 ⊢
    rw [Int.zero_add, ← a.2.2.2.1 k k0 k1, ← d.2.2.2.1 k k0 (by omega)]
  rcases Int.lt_trichotomy i j with w | w | w
  · exact (key i j hi w hjc h1 h2).elim
  · exact w
  · exact (key j i hj w hic h2 h1).elim
/-- the sizes of those t < k for which P holds -/
noncomputable def wsum (P : Int → Prop) (s : Nat → Int32) : Nat → Int
  | 0 => 0
  | k + 1 => wsum P s k + @ite Int (P k) (Classical.propDecidable _) (gx s k) 0
theorem wsum_add {P Q : Int → Prop} {s : Nat → Int32} {t0 : Int} (hne : ¬ P t0) (h0 : 0 ≤ t0) (hQ : ∀ t, Q t ↔ P t ∨ t = t0) : ∀ k : Nat, wsum Q s k = wsum P s k + (if t0 < (k : Int) then gx s t0 else 0)
  | 0 => by rw [wsum, wsum, if_neg (by omega)]; rfl
  | k + 1 => by
    have ih := wsum_add hne h0 hQ (s := s) k
    rw [wsum, wsum, ih]
    by_cases w : (k : Int) = t0
    · have q1 : Q k := (hQ k).mpr (Or.inr w)
      have q2 : ¬ P k := by rw [w]; exact hne
      rw [@if_pos _ (Classical.propDecidable _) q1, @if_neg _ (Classical.propDecidable _) q2, if_neg (by omega), if_pos (by omega), w]
    · by_cases p : P k
      · rw [@if_pos _ (Classical.propDecidable _) ((hQ k).mpr (Or.inl p)), @if_pos _ (Classical.propDecidable _) p]
        by_cases w2 : t0 < (k : Int)
        · rw [if_pos w2, if_pos (by omega)]; omega
        · rw [if_neg w2, if_neg (by omega)]; omega
      · have q : ¬ Q k := fun z => ((hQ k).mp z).elim p w
        rw [@if_neg _ (Classical.propDecidable _) q, @if_neg _ (Classical.propDecidable _) p]
        by_cases w2 : t0 < (k : Int)
        · rw [if_pos w2, if_pos (by omega)]; omega
        · rw [if_neg w2, if_neg (by omega)]
theorem wsum_le {P : Int → Prop} {s : Nat → Int32} : ∀ k : Nat, (∀ j : Int, 0 ≤ j → j < k → 0 ≤ gx s (0 + j)) → wsum P s k ≤ sm s 0 k
  | 0, _ => Int.le_refl _
  | k + 1, h => by
    have ih := wsum_le (P := P) k (fun j a0 a1 => h j a0 (by omega))
    have c := h k (by omega) (by omega)
    rw [wsum, sm]
    rw [Int.zero_add] at c ⊢
    by_cases p : P k
    · rw [@if_pos _ (Classical.propDecidable _) p]; omega
    · rw [@if_neg _ (Classical.propDecidable _) p]; omega
/-- what i's relations may weigh -/
noncomputable def tS (z n rl s : Nat → Int32) (c i : Int) : Int := @dite Int (∃ t, isT z n rl c i t) (Classical.propDecidable _) (fun h => gx s (Classical.choose h)) (fun _ => 0)
noncomputable def tsum (z n rl s : Nat → Int32) (c : Int) : Nat → Int
  | 0 => 0
  | m + 1 => tsum z n rl s c m + tS z n rl s c m
theorem tS_of {z s n rl : Nat → Int32} {c i t : Int} (h : ms_I 0 c z s n) (hi : 0 ≤ gx z i) (ht : isT z n rl c i t) : tS z n rl s c i = gx s t := by
  have he : ∃ t, isT z n rl c i t := ⟨t, ht⟩
  unfold tS
  rw [@dif_pos _ (Classical.propDecidable _) he]
  rw [isT_uniq h hi (Classical.choose_spec he) ht]
theorem tS_no {z s n rl : Nat → Int32} {c i : Int} (h : ¬ ∃ t, isT z n rl c i t) : tS z n rl s c i = 0 := by
  unfold tS
  rw [@dif_neg _ (Classical.propDecidable _) h]
theorem tS_nn {z s n rl : Nat → Int32} {c i : Int} (h : ms_I 0 c z s n) (hi : 0 ≤ gx z i) : 0 ≤ tS z n rl s c i := by
  by_cases he : ∃ t, isT z n rl c i t
  · obtain ⟨t, ht⟩ := he
    rw [tS_of h hi ht]
    have a := h.2.2.1 t ht.1 ht.2.1
    rw [Int.zero_add] at a
    omega
  · rw [tS_no he]
    omega
theorem tsum_w {z s n rl : Nat → Int32} {c : Int} (h : ms_I 0 c z s n) : ∀ m : Nat, (m : Int) ≤ c → tsum z n rl s c m ≤ wsum (fun t => ∃ j : Int, 0 ≤ j ∧ j < m ∧ isT z n rl c j t) s c.toNat
  | 0, _ => by
    rw [tsum]
    have e : ∀ k : Nat, 0 ≤ wsum (fun t => ∃ j : Int, 0 ≤ j ∧ j < ((0 : Nat) : Int) ∧ isT z n rl c j t) s k := by
      intro k
      induction k with
      | zero => exact Int.le_refl _
      | succ k ih =>
        rw [wsum, @if_neg _ (Classical.propDecidable _) (fun q => by obtain ⟨j, j0, j1, -⟩ := q; omega)]
        omega
    exact e _
  | m + 1, hm => by
    have ih := tsum_w (rl := rl) h m (by omega)
    have hz := h.2.2.1 m (by omega) (by omega)
    rw [Int.zero_add] at hz
    rw [tsum]
    by_cases he : ∃ t, isT z n rl c m t
    · obtain ⟨t, ht⟩ := he
      rw [tS_of h (by omega) ht]
      rw [wsum_add (P := fun t => ∃ j : Int, 0 ≤ j ∧ j < m ∧ isT z n rl c j t) (t0 := t) (fun q => by
        obtain ⟨j, j0, j1, j2⟩ := q
        have e := isT_inj h j0 (by omega) (by omega) (by omega) j2 ht
        omega) ht.1 (fun u => ⟨fun q => by
          obtain ⟨j, j0, j1, j2⟩ := q
          by_cases w : j < m
          · exact Or.inl ⟨j, j0, w, j2⟩
          · rw [show j = m by omega] at j2
            exact Or.inr (isT_uniq h (by omega) j2 ht), fun q => by
          rcases q with ⟨j, j0, j1, j2⟩ | rfl
          · exact ⟨j, j0, by omega, j2⟩
          · exact ⟨m, by omega, by omega, ht⟩⟩) c.toNat, if_pos (by have := ht.2.1; omega)]
      omega
    · rw [tS_no he]
      have e : wsum (fun t => ∃ j : Int, 0 ≤ j ∧ j < ((m + 1 : Nat) : Int) ∧ isT z n rl c j t) s c.toNat = wsum (fun t => ∃ j : Int, 0 ≤ j ∧ j < m ∧ isT z n rl c j t) s c.toNat := by
        congr 1
        funext t
        refine propext ⟨fun q => ?_, fun q => ?_⟩
        · obtain ⟨j, j0, j1, j2⟩ := q
          by_cases w : j < m
          · exact ⟨j, j0, w, j2⟩
          · rw [show j = m by omega] at j2
            exact absurd ⟨t, j2⟩ he
        · obtain ⟨j, j0, j1, j2⟩ := q
          exact ⟨j, j0, by omega, j2⟩
      rw [e]
      omega
theorem tsum_le {z s n rl : Nat → Int32} {c : Int} (h : ms_I 0 c z s n) {i : Int} (h0 : 0 ≤ i) (h1 : i ≤ c) : tsum z n rl s c i.toNat ≤ 12000 := by
  have a := tsum_w (rl := rl) h i.toNat (by omega)
  have b := wsum_le (P := fun t => ∃ j : Int, 0 ≤ j ∧ j < (i.toNat : Int) ∧ isT z n rl c j t) (s := s) c.toNat (fun j a0 a1 => (h.2.2.1 j a0 (by omega)).2.2.1)
  have d := h.2.2.2.1
  omega
theorem tsum_s {z s n rl : Nat → Int32} {c i m : Int} (h0 : 0 ≤ i) (hm : m = i + 1) : tsum z n rl s c m.toNat = tsum z n rl s c i.toNat + tS z n rl s c i := by
  subst hm
  rw [show (i + 1).toNat = i.toNat + 1 by omega, tsum, show ((i.toNat : Nat) : Int) = i by omega]
theorem nar_z {v : Int32} (h : v.toInt = 0 ∨ v.toInt = 1) : vp_nar .boolean v = v := by
  unfold vp_nar
  rw [nar_b h]
theorem cnt_same {f g : Nat → Int32} {o b : Int} : ∀ n : Nat, (∀ j : Int, 0 ≤ j → j < n → gx f (o + j) = gx g (o + j)) → cnt f o b n = cnt g o b n
  | 0, _ => rfl
  | n + 1, h => by rw [cnt, cnt, cnt_same n (fun j a0 a1 => h j a0 (by omega)), h n (by omega) (by omega)]
/-- one 0 the fewer -/
theorem cnt_put {f : Nat → Int32} {i v : Int32} (h0 : 0 ≤ i.toInt) (hf : gx f i.toInt = 0) (hv : v.toInt ≠ 0) : ∀ n : Nat, i.toInt < n → cnt (upd f i.toNatClampNeg v) 0 0 n = cnt f 0 0 n - 1
  | 0, h => absurd h (by omega)
  | n + 1, h => by
    rw [cnt, cnt]
    by_cases w : i.toInt = n
    · have e1 : gx (upd f i.toNatClampNeg v) (0 + (n : Int)) = v.toInt := by rw [gx_upd rfl _ h0 (by omega), if_pos (by omega)]
      have e2 : gx f (0 + (n : Int)) = 0 := by rw [Int.zero_add, ← w]; exact hf
      rw [cnt_same (f := upd f i.toNatClampNeg v) (g := f) n (fun j a0 a1 => by rw [gx_upd rfl _ h0 (by omega), if_neg (by omega)]), e1, if_neg hv, e2, if_pos rfl]
      omega
    · have e1 : gx (upd f i.toNatClampNeg v) (0 + (n : Int)) = gx f (0 + (n : Int)) := by rw [gx_upd rfl _ h0 (by omega), if_neg (by omega)]
      rw [cnt_put h0 hf hv n (by omega), e1]
      omega

theorem isF_m {c r l : Int} {z n k : Nat → Int32} (p0 : -1 ≤ r) (p1 : r < c) (p2 : 0 ≤ r → nl_eq z n r l k) (p3 : r = -1 → ∀ i : Int, 0 ≤ i → i < c → ¬ nl_eq z n i l k) : isF_ (cN_ c n z) l (gx k) r := by
  by_cases w : r = -1
  · exact Or.inr ⟨w, fun i i0 i1 q => p3 w i i0 i1 q⟩
  · exact Or.inl ⟨by omega, p1, p2 (by omega)⟩
