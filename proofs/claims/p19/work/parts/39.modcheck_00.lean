/-! ROWS OF NUMBERS -/
theorem omg_8f1365aab8 {x0 : Int} {x1 : Int} {x2 : Int} (a0 : (((1 : Int) ≤ x0) ∧ ((x0 ≤ (24 : Int)) ∧ (((0 : Int) ≤ x1) ∧ (x1 ≤ (4000 : Int)))))) (a1 : ((0 : Int) ≤ x2)) : ((0 : Int) ≤ (x0 + x2)) := by omega
theorem omg_6b22c2aded {x0 : Int} {x1 : Int} {x2 : Int} {x3 : Int} (a0 : ((0 : Int) ≤ x0)) (a1 : (x1 = (x2 + x0))) (a2 : (x3 < x2)) : (¬ (x3 = x1)) := by omega
theorem omg_35c0ffac4f {x0 : Int} {x1 : Int} {x2 : Int} {x3 : Int} {x4 : Int} {x5 : Int} (a0 : (x0 < (200 : Int))) (a1 : (((0 : Int) ≤ x1) ∧ (x1 ≤ (8 : Int)))) (a2 : ((0 : Int) ≤ x2)) (a3 : (¬ (x0 ≤ x2))) (a4 : ((0 : Int) ≤ x3)) (a5 : (x4 = x1)) (a6 : (¬ (x4 ≤ x3))) (a7 : (x5 = ((8 : Int) * x2))) : (((-(2147483648 : Int)) ≤ (x5 + x3)) ∧ ((x5 + x3) < (2147483648 : Int))) := by omega
theorem omg_9ea2cfb216 {x0 : Int} {x1 : Int} {x2 : Int} {x3 : Int} {x4 : Int} {x5 : Int} {x6 : Int} (a0 : (x0 < (200 : Int))) (a1 : (((0 : Int) ≤ x1) ∧ (x1 ≤ (8 : Int)))) (a2 : ((0 : Int) ≤ x2)) (a3 : (¬ (x0 ≤ x2))) (a4 : ((0 : Int) ≤ x3)) (a5 : (x4 = x1)) (a6 : (¬ (x4 ≤ x3))) (a7 : (x5 = ((8 : Int) * x2))) (a8 : (x6 = (x5 + x3))) : (((0 : Int) ≤ x6) ∧ (x6 < (((1600 : Nat) : Nat) : Int))) := by omega
theorem omg_33a43421e8 {x0 : Int} {x1 : Int} {x2 : Int} {x3 : Int} {x4 : Int} (a0 : ((0 : Int) ≤ x0)) (a1 : (x0 < (200 : Int))) (a2 : (((0 : Int) ≤ x1) ∧ (x1 ≤ (8 : Int)))) (a3 : ((0 : Int) ≤ x2)) (a4 : (x3 = x1)) (a5 : (¬ (x3 ≤ x2))) (a6 : (x4 = ((8 : Int) * x0))) : (((-(2147483648 : Int)) ≤ (x4 + x2)) ∧ ((x4 + x2) < (2147483648 : Int))) := by omega
theorem omg_827e506848 {x0 : Int} {x1 : Int} {x2 : Int} {x3 : Int} {x4 : Int} {x5 : Int} (a0 : ((0 : Int) ≤ x0)) (a1 : (x0 < (200 : Int))) (a2 : (((0 : Int) ≤ x1) ∧ (x1 ≤ (8 : Int)))) (a3 : ((0 : Int) ≤ x2)) (a4 : (x3 = x1)) (a5 : (¬ (x3 ≤ x2))) (a6 : (x4 = ((8 : Int) * x0))) (a7 : (x5 = (x4 + x2))) : (((0 : Int) ≤ x5) ∧ (x5 < (((1600 : Nat) : Nat) : Int))) := by omega
theorem omg_78941f563b {x0 : Int} {x1 : Int} {x2 : Int} (a0 : (((0 : Int) ≤ x0) ∧ (x0 ≤ (8 : Int)))) (a1 : ((0 : Int) ≤ x1)) (a2 : (x2 = x0)) (a3 : (¬ (x2 ≤ x1))) : (((-(2147483648 : Int)) ≤ (x1 + (1 : Int))) ∧ ((x1 + (1 : Int)) < (2147483648 : Int))) := by omega
theorem omg_fc2511a08d {x0 : Int} {x1 : Int} {x2 : Nat} {x3 : Int} {x4 : Int} (a0 : (((0 : Int) ≤ x0) ∧ (x0 ≤ (8 : Int)))) (a1 : ((Int.toNat ((8 : Int) - x1)) < (x2 + (1 : Nat)))) (a2 : (x3 = x0)) (a3 : (¬ (x3 ≤ x1))) (a4 : (x4 = (x1 + (1 : Int)))) : ((Int.toNat ((8 : Int) - x4)) < x2) := by omega
/-- omega must not look into this one -/
def hide_ (p : Prop) : Prop := p
theorem hide_mp {p q : Prop} (h : hide_ (p → q)) (hp : p) : q := h hp
/-- part t tells the relations of part i: its name is i's and five bytes more -/
def isT (z n rl : Nat → Int32) (c i t : Int) : Prop := 0 ≤ t ∧ t < c ∧ gx z t = gx z i + 5 ∧ (∀ k : Int, 0 ≤ k → k < gx z i → gx n (24 * t + k) = gx n (24 * i + k)) ∧ ∀ k : Int, 0 ≤ k → k < 5 → gx n (24 * t + (gx z i + k)) = gx rl k
theorem isT_uniq {z s n rl : Nat → Int32} {c i t u : Int} (h : ms_I 0 c z s n) (hi : 0 ≤ gx z i) (h1 : isT z n rl c i t) (h2 : isT z n rl c i u) : t = u := by
  have key : ∀ p q : Int, p < q → isT z n rl c i p → isT z n rl c i q → False := fun p q pq a d => by
    refine h.2.2.2.2 p q a.1 pq d.2.1 ⟨by rw [Int.zero_add, Int.zero_add, a.2.2.1, d.2.2.1], fun k k0 k1 => ?_⟩
    rw [Int.zero_add] at k1 ⊢
    rw [Int.zero_add]
    rw [a.2.2.1] at k1
    by_cases w : k < gx z i
    · rw [a.2.2.2.1 k k0 w, d.2.2.2.1 k k0 w]
    · have e1 := a.2.2.2.2 (k - gx z i) (by omega) (by omega)
      have e2 := d.2.2.2.2 (k - gx z i) (by omega) (by omega)
      rw [show gx z i + (k - gx z i) = k by omega] at e1 e2
      rw [e1, e2]
  rcases Int.lt_trichotomy t u with w | w | w
  · exact (key t u w h1 h2).elim
  · exact w
  · exact (key u t w h2 h1).elim
theorem isT_inj {z s n rl : Nat → Int32} {c i j t : Int} (h : ms_I 0 c z s n) (hi : 0 ≤ i) (hic : i < c) (hj : 0 ≤ j) (hjc : j < c) (h1 : isT z n rl c i t) (h2 : isT z n rl c j t) : i = j := by
  have key : ∀ p q : Int, 0 ≤ p → p < q → q < c → isT z n rl c p t → isT z n rl c q t → False := fun p q p0 pq qc a d => by
    have e : gx z p = gx z q := by have e1 := a.2.2.1; have e2 := d.2.2.1; omega
    refine h.2.2.2.2 p q p0 pq qc ⟨by rw [Int.zero_add, Int.zero_add]; exact e, fun k k0 k1 => ?_⟩
    rw [Int.zero_add] at k1 ⊢
    rw [Int.zero_add, ← a.2.2.2.1 k k0 k1, ← d.2.2.2.1 k k0 (by omega)]
  rcases Int.lt_trichotomy i j with w | w | w
  · exact (key i j hi w hjc h1 h2).elim
  · exact w
  · exact (key j i hj w hic h2 h1).elim
/-- the sizes of those t < k for which P holds -/
noncomputable def wsum (P : Int → Prop) (s : Nat → Int32) : Nat → Int
  | 0 => 0
  | k + 1 => wsum P s k + @ite Int (P k) (Classical.propDecidable _) (gx s k) 0
theorem wsum_add {P Q : Int → Prop} {s : Nat → Int32} {t0 : Int} (hne : ¬ P t0) (h0 : 0 ≤ t0) (hQ : ∀ t, Q t ↔ P t ∨ t = t0) : ∀ k : Nat, wsum Q s k = wsum P s k + (if t0 < (k : Int) then gx s t0 else 0)
  | 0 => by rw [wsum, wsum, if_neg (by omega)]; rfl
  | k + 1 => by
    have ih := wsum_add hne h0 hQ (s := s) k
    rw [wsum, wsum, ih]
    by_cases w : (k : Int) = t0
    · have q1 : Q k := (hQ k).mpr (Or.inr w)
      have q2 : ¬ P k := by rw [w]; exact hne
      rw [@if_pos _ (Classical.propDecidable _) q1, @if_neg _ (Classical.propDecidable _) q2, if_neg (by omega), if_pos (by omega), w]
    · by_cases p : P k
      · rw [@if_pos _ (Classical.propDecidable _) ((hQ k).mpr (Or.inl p)), @if_pos _ (Classical.propDecidable _) p]
        by_cases w2 : t0 < (k : Int)
        · rw [if_pos w2, if_pos (by omega)]; omega
        · rw [if_neg w2, if_neg (by omega)]; omega
      · have q : ¬ Q k := fun z => ((hQ k).mp z).elim p w
        rw [@if_neg _ (Classical.propDecidable _) q, @if_neg _ (Classical.propDecidable _) p]
        by_cases w2 : t0 < (k : Int)
        · rw [if_pos w2, if_pos (by omega)]; omega
        · rw [if_neg w2, if_neg (by omega)]
theorem wsum_le {P : Int → Prop} {s : Nat → Int32} : ∀ k : Nat, (∀ j : Int, 0 ≤ j → j < k → 0 ≤ gx s (0 + j)) → wsum P s k ≤ sm s 0 k
  | 0, _ => Int.le_refl _
  | k + 1, h => by
    have ih := wsum_le (P := P) k (fun j a0 a1 => h j a0 (by omega))
    have c := h k (by omega) (by omega)
    rw [wsum, sm]
    rw [Int.zero_add] at c ⊢
    by_cases p : P k
    · rw [@if_pos _ (Classical.propDecidable _) p]; omega
    · rw [@if_neg _ (Classical.propDecidable _) p]; omega
/-- what i's relations may weigh -/
noncomputable def tS (z n rl s : Nat → Int32) (c i : Int) : Int := @dite Int (∃ t, isT z n rl c i t) (Classical.propDecidable _) (fun h => gx s (Classical.choose h)) (fun _ => 0)
noncomputable def tsum (z n rl s : Nat → Int32) (c : Int) : Nat → Int
  | 0 => 0
  | m + 1 => tsum z n rl s c m + tS z n rl s c m
theorem tS_of {z s n rl : Nat → Int32} {c i t : Int} (h : ms_I 0 c z s n) (hi : 0 ≤ gx z i) (ht : isT z n rl c i t) : tS z n rl s c i = gx s t := by
  have he : ∃ t, isT z n rl c i t := ⟨t, ht⟩
  unfold tS
  rw [@dif_pos _ (Classical.propDecidable _) he]
  rw [isT_uniq h hi (Classical.choose_spec he) ht]
theorem tS_no {z s n rl : Nat → Int32} {c i : Int} (h : ¬ ∃ t, isT z n rl c i t) : tS z n rl s c i = 0 := by
  unfold tS
  rw [@dif_neg _ (Classical.propDecidable _) h]
theorem tS_nn {z s n rl : Nat → Int32} {c i : Int} (h : ms_I 0 c z s n) (hi : 0 ≤ gx z i) : 0 ≤ tS z n rl s c i := by
  by_cases he : ∃ t, isT z n rl c i t
  · obtain ⟨t, ht⟩ := he
    rw [tS_of h hi ht]
    have a := h.2.2.1 t ht.1 ht.2.1
    rw [Int.zero_add] at a
    omega
  · rw [tS_no he]
    omega
theorem tsum_w {z s n rl : Nat → Int32} {c : Int} (h : ms_I 0 c z s n) : ∀ m : Nat, (m : Int) ≤ c → tsum z n rl s c m ≤ wsum (fun t => ∃ j : Int, 0 ≤ j ∧ j < m ∧ isT z n rl c j t) s c.toNat
  | 0, _ => by
    rw [tsum]
    have e : ∀ k : Nat, 0 ≤ wsum (fun t => ∃ j : Int, 0 ≤ j ∧ j < ((0 : Nat) : Int) ∧ isT z n rl c j t) s k := by
      intro k
      induction k with
      | zero => exact Int.le_refl _
      | succ k ih =>
        rw [wsum, @if_neg _ (Classical.propDecidable _) (fun q => by obtain ⟨j, j0, j1, -⟩ := q; omega)]
        omega
    exact e _
  | m + 1, hm => by
    have ih := tsum_w (rl := rl) h m (by omega)
    have hz := h.2.2.1 m (by omega) (by omega)
    rw [Int.zero_add] at hz
    rw [tsum]
    by_cases he : ∃ t, isT z n rl c m t
    · obtain ⟨t, ht⟩ := he
      rw [tS_of h (by omega) ht]
      rw [wsum_add (P := fun t => ∃ j : Int, 0 ≤ j ∧ j < m ∧ isT z n rl c j t) (t0 := t) (fun q => by
        obtain ⟨j, j0, j1, j2⟩ := q
        have e := isT_inj h j0 (by omega) (by omega) (by omega) j2 ht
        omega) ht.1 (fun u => ⟨fun q => by
          obtain ⟨j, j0, j1, j2⟩ := q
          by_cases w : j < m
          · exact Or.inl ⟨j, j0, w, j2⟩
          · rw [show j = m by omega] at j2
            exact Or.inr (isT_uniq h (by omega) j2 ht), fun q => by
          rcases q with ⟨j, j0, j1, j2⟩ | rfl
          · exact ⟨j, j0, by omega, j2⟩
          · exact ⟨m, by omega, by omega, ht⟩⟩) c.toNat, if_pos (by have := ht.2.1; omega)]
      omega
    · rw [tS_no he]
      have e : wsum (fun t => ∃ j : Int, 0 ≤ j ∧ j < ((m + 1 : Nat) : Int) ∧ isT z n rl c j t) s c.toNat = wsum (fun t => ∃ j : Int, 0 ≤ j ∧ j < m ∧ isT z n rl c j t) s c.toNat := by
        congr 1
        funext t
        refine propext ⟨fun q => ?_, fun q => ?_⟩
        · obtain ⟨j, j0, j1, j2⟩ := q
          by_cases w : j < m
          · exact ⟨j, j0, w, j2⟩
          · rw [show j = m by omega] at j2
            exact absurd ⟨t, j2⟩ he
        · obtain ⟨j, j0, j1, j2⟩ := q
          exact ⟨j, j0, by omega, j2⟩
      rw [e]
      omega
theorem tsum_le {z s n rl : Nat → Int32} {c : Int} (h : ms_I 0 c z s n) {i : Int} (h0 : 0 ≤ i) (h1 : i ≤ c) : tsum z n rl s c i.toNat ≤ 12000 := by
  have a := tsum_w (rl := rl) h i.toNat (by omega)
  have b := wsum_le (P := fun t => ∃ j : Int, 0 ≤ j ∧ j < (i.toNat : Int) ∧ isT z n rl c j t) (s := s) c.toNat (fun j a0 a1 => (h.2.2.1 j a0 (by omega)).2.2.1)
  have d := h.2.2.2.1
  omega
theorem tsum_s {z s n rl : Nat → Int32} {c i m : Int} (h0 : 0 ≤ i) (hm : m = i + 1) : tsum z n rl s c m.toNat = tsum z n rl s c i.toNat + tS z n rl s c i := by
  subst hm
  rw [show (i + 1).toNat = i.toNat + 1 by omega, tsum, show ((i.toNat : Nat) : Int) = i by omega]
theorem nar_z {v : Int32} (h : v.toInt = 0 ∨ v.toInt = 1) : vp_nar .boolean v = v := by
  unfold vp_nar
  rw [nar_b h]
theorem cnt_same {f g : Nat → Int32} {o b : Int} : ∀ n : Nat, (∀ j : Int, 0 ≤ j → j < n → gx f (o + j) = gx g (o + j)) → cnt f o b n = cnt g o b n
  | 0, _ => rfl
  | n + 1, h => by rw [cnt, cnt, cnt_same n (fun j a0 a1 => h j a0 (by omega)), h n (by omega) (by omega)]
/-- one 0 the fewer -/
theorem cnt_put {f : Nat → Int32} {i v : Int32} (h0 : 0 ≤ i.toInt) (hf : gx f i.toInt = 0) (hv : v.toInt ≠ 0) : ∀ n : Nat, i.toInt < n → cnt (upd f i.toNatClampNeg v) 0 0 n = cnt f 0 0 n - 1
  | 0, h => absurd h (by omega)
  | n + 1, h => by
    rw [cnt, cnt]
    by_cases w : i.toInt = n
    · have e1 : gx (upd f i.toNatClampNeg v) (0 + (n : Int)) = v.toInt := by rw [gx_upd rfl _ h0 (by omega), if_pos (by omega)]
      have e2 : gx f (0 + (n : Int)) = 0 := by rw [Int.zero_add, ← w]; exact hf
      rw [cnt_same (f := upd f i.toNatClampNeg v) (g := f) n (fun j a0 a1 => by rw [gx_upd rfl _ h0 (by omega), if_neg (by omega)]), e1, if_neg hv, e2, if_pos rfl]
      omega
    · have e1 : gx (upd f i.toNatClampNeg v) (0 + (n : Int)) = gx f (0 + (n : Int)) := by rw [gx_upd rfl _ h0 (by omega), if_neg (by omega)]
      rw [cnt_put h0 hf hv n (by omega), e1]
      omega

theorem isF_m {c r l : Int} {z n k : Nat → Int32} (p0 : -1 ≤ r) (p1 : r < c) (p2 : 0 ≤ r → nl_eq z n r l k) (p3 : r = -1 → ∀ i : Int, 0 ≤ i → i < c → ¬ nl_eq z n i l k) : isF_ (cN_ c n z) l (gx k) r := by
  by_cases w : r = -1
  · exact Or.inr ⟨w, fun i i0 i1 q => p3 w i i0 i1 q⟩
  · exact Or.inl ⟨by omega, p1, p2 (by omega)⟩

theorem d_Mod_tellerOf_0 : decode prog_12_method_79_code 0 = .ok (.aload_n 0, 1) := by decide +kernel
theorem d_Mod_tellerOf_1 : decode prog_12_method_79_code 1 = .ok (.aload_n 0, 1) := by decide +kernel
theorem d_Mod_tellerOf_2 : decode prog_12_method_79_code 2 = .ok (.getfield 44, 3) := by decide +kernel
theorem d_Mod_tellerOf_5 : decode prog_12_method_79_code 5 = .ok (.bipush 24, 2) := by decide +kernel
theorem d_Mod_tellerOf_7 : decode prog_12_method_79_code 7 = .ok (.iload_n 1, 1) := by decide +kernel
theorem d_Mod_tellerOf_8 : decode prog_12_method_79_code 8 = .ok (.imul, 1) := by decide +kernel
theorem d_Mod_tellerOf_9 : decode prog_12_method_79_code 9 = .ok (.aload_n 0, 1) := by decide +kernel
theorem d_Mod_tellerOf_10 : decode prog_12_method_79_code 10 = .ok (.getfield 41, 3) := by decide +kernel
theorem d_Mod_tellerOf_13 : decode prog_12_method_79_code 13 = .ok (.iload_n 1, 1) := by decide +kernel
theorem d_Mod_tellerOf_14 : decode prog_12_method_79_code 14 = .ok (.iaload, 1) := by decide +kernel
theorem d_Mod_tellerOf_15 : decode prog_12_method_79_code 15 = .ok (.invokevirtual 136, 3) := by decide +kernel
theorem d_Mod_tellerOf_18 : decode prog_12_method_79_code 18 = .ok (.iconst 0, 1) := by decide +kernel
theorem d_Mod_tellerOf_19 : decode prog_12_method_79_code 19 = .ok (.istore_n 2, 1) := by decide +kernel
theorem d_Mod_tellerOf_20 : decode prog_12_method_79_code 20 = .ok (.iload_n 2, 1) := by decide +kernel
theorem d_Mod_tellerOf_21 : decode prog_12_method_79_code 21 = .ok (.iconst 5, 1) := by decide +kernel
theorem d_Mod_tellerOf_22 : decode prog_12_method_79_code 22 = .ok (.if_icmp .ge 34, 3) := by decide +kernel
theorem d_Mod_tellerOf_56 : decode prog_12_method_79_code 56 = .ok (.aload_n 0, 1) := by decide +kernel
theorem d_Mod_tellerOf_57 : decode prog_12_method_79_code 57 = .ok (.iconst 0, 1) := by decide +kernel
theorem d_Mod_tellerOf_58 : decode prog_12_method_79_code 58 = .ok (.invokevirtual 121, 3) := by decide +kernel
theorem d_Mod_tellerOf_61 : decode prog_12_method_79_code 61 = .ok (.ireturn, 1) := by decide +kernel
theorem d_Mod_tellerOf_25 : decode prog_12_method_79_code 25 = .ok (.aload_n 0, 1) := by decide +kernel
theorem d_Mod_tellerOf_26 : decode prog_12_method_79_code 26 = .ok (.getfield 54, 3) := by decide +kernel
theorem d_Mod_tellerOf_29 : decode prog_12_method_79_code 29 = .ok (.aload_n 0, 1) := by decide +kernel
theorem d_Mod_tellerOf_30 : decode prog_12_method_79_code 30 = .ok (.getfield 114, 3) := by decide +kernel
theorem d_Mod_tellerOf_33 : decode prog_12_method_79_code 33 = .ok (.aload_n 0, 1) := by decide +kernel
theorem d_Mod_tellerOf_34 : decode prog_12_method_79_code 34 = .ok (.getfield 7, 3) := by decide +kernel
theorem d_Mod_tellerOf_37 : decode prog_12_method_79_code 37 = .ok (.iload_n 2, 1) := by decide +kernel
theorem d_Mod_tellerOf_38 : decode prog_12_method_79_code 38 = .ok (.baload, 1) := by decide +kernel
theorem d_Mod_tellerOf_39 : decode prog_12_method_79_code 39 = .ok (.bastore, 1) := by decide +kernel
theorem d_Mod_tellerOf_40 : decode prog_12_method_79_code 40 = .ok (.aload_n 0, 1) := by decide +kernel
theorem d_Mod_tellerOf_41 : decode prog_12_method_79_code 41 = .ok (.dup, 1) := by decide +kernel
theorem d_Mod_tellerOf_42 : decode prog_12_method_79_code 42 = .ok (.getfield 114, 3) := by decide +kernel
theorem d_Mod_tellerOf_45 : decode prog_12_method_79_code 45 = .ok (.iconst 1, 1) := by decide +kernel
theorem d_Mod_tellerOf_46 : decode prog_12_method_79_code 46 = .ok (.iadd, 1) := by decide +kernel
theorem d_Mod_tellerOf_47 : decode prog_12_method_79_code 47 = .ok (.putfield 114, 3) := by decide +kernel
theorem d_Mod_tellerOf_50 : decode prog_12_method_79_code 50 = .ok (.iinc 2 1, 3) := by decide +kernel
theorem d_Mod_tellerOf_53 : decode prog_12_method_79_code 53 = .ok (.goto (-33), 3) := by decide +kernel
abbrev y_Mod_tellerOf : MethodName := ⟨"PackageBookModel", "tellerOf", "(I)I"⟩
abbrev i_Mod_tellerOf : pb_I := (y_Mod_tellerOf, prog_12_method_79_code, 3, (some Jvm.ClassFile.FieldType.int), [], { frames := 2, cells := 0, slots := 0, locals := 48 })
set_option maxRecDepth 100000 in
set_option maxHeartbeats 4000000 in
theorem g_Mod_tellerOf {l : Launch} (hl : l.stackTraces = false) (G : pb_G) (h : Nat) (m_rels : Nat) (m_openRels : Nat) (m_closeRels : Nat) (m_openRel : Nat) (m_closeRel : Nat) (m_comment : Nat) (m_ends : Nat) (m_order : Nat) (m_tape : Nat) (m_count : Nat) (m_nameSize : Nat) (m_names : Nat) (m_size : Nat) (m_data : Nat) (m_looked : Nat) (m_file : Nat) (m_directory : Nat) (m_out : Nat) (m_row : Nat) (m_made : Nat) (m_length : Nat) (m_pressed : Nat) (m_mark : Nat) (m_idSize : Nat) (m_ids : Nat) (m_goalSize : Nat) (m_goals : Nat) (m_value : Nat) (m_faults : Nat) (m_reached : Nat) (v_thrown : Int32) (v_taped : Int32) (v_lookedSize : Int32) (v_fileSize : Int32) (v_directorySize : Int32) (v_outSize : Int32) (v_rowSize : Int32) (v_bitAt : Int32) (v_bitEnd : Int32) (v_why : Int32) (v_madeSize : Int32) (v_firstCount : Int32) (v_secondCount : Int32) (v_heldBits : Int32) (v_heldCount : Int32) (v_pressedSize : Int32) (v_at : Int32) (v_bad : Int32) (v_markSize : Int32) (v_relationCount : Int32) (v_valueSize : Int32) (v_faultCount : Int32) (a_names : Nat → Int32) (a_nameSize : Nat → Int32) (a_looked : Nat → Int32) (a_rels : Nat → Int32) (a_count : Nat → Int32) (a_size : Nat → Int32) (i : Int32) (I : ms_I 0 (gx a_count 0) a_nameSize a_size a_names) (i0 : 0 ≤ i.toInt) (i1 : i.toInt < gx a_count 0) (C6_rels : ∀ x : Int, 0 ≤ x → x < 5 → gx a_rels x = tr_ x) (F_a_names : sb_Fit a_names) (F_a_looked : sb_Fit a_looked) (F_a_rels : sb_Fit a_rels) : Cn l G i_Mod_tellerOf [.ref h, .int i] [(h, .inr (10, [.ref m_rels, .ref m_openRels, .ref m_closeRels, .ref m_openRel, .ref m_closeRel, .ref m_comment, .ref m_ends, .ref m_order, .int v_thrown, .int v_taped, .ref m_tape, .ref m_count, .ref m_nameSize, .ref m_names, .ref m_size, .ref m_data, .int v_lookedSize, .ref m_looked, .int v_fileSize, .ref m_file, .int v_directorySize, .ref m_directory, .int v_outSize, .ref m_out, .int v_rowSize, .ref m_row, .int v_bitAt, .int v_bitEnd, .int v_why, .int v_madeSize, .ref m_made, .ref m_length, .int v_firstCount, .int v_secondCount, .int v_heldBits, .int v_heldCount, .int v_pressedSize, .ref m_pressed, .int v_at, .int v_bad, .int v_markSize, .ref m_mark, .int v_relationCount, .ref m_idSize, .ref m_ids, .ref m_goalSize, .ref m_goals, .int v_valueSize, .ref m_value, .int v_faultCount, .ref m_faults, .ref m_reached])), (m_names, .inl (G.2.1, 816, .inl a_names)), (m_nameSize, .inl (G.2.2.1, 34, .inl a_nameSize)), (m_looked, .inl (G.2.1, 40, .inl a_looked)), (m_rels, .inl (G.2.1, 5, .inl a_rels)), (m_count, .inl (G.2.2.1, 2, .inl a_count))] (S := Int32 × Int32 × (Nat → Int32)) (fun rv_ u => rv_ = some (.int u.1) ∧ (-1 ≤ u.1.toInt) ∧ (u.1.toInt < gx a_count 0) ∧ (0 ≤ u.1.toInt → isT a_nameSize a_names a_rels (gx a_count 0) i.toInt (u.1.toInt)) ∧ (0 ≤ u.2.1.toInt) ∧ (u.2.1.toInt ≤ 8000) ∧ (isF_ (cN_ (gx a_count 0) a_names a_nameSize) (gx a_nameSize i.toInt + 5) (tn6_ (cN_ (gx a_count 0) a_names a_nameSize) i.toInt) u.1.toInt) ∧ (sb_Fit u.2.2)) (fun u => [(h, .inr (10, [.ref m_rels, .ref m_openRels, .ref m_closeRels, .ref m_openRel, .ref m_closeRel, .ref m_comment, .ref m_ends, .ref m_order, .int v_thrown, .int v_taped, .ref m_tape, .ref m_count, .ref m_nameSize, .ref m_names, .ref m_size, .ref m_data, .int u.2.1, .ref m_looked, .int v_fileSize, .ref m_file, .int v_directorySize, .ref m_directory, .int v_outSize, .ref m_out, .int v_rowSize, .ref m_row, .int v_bitAt, .int v_bitEnd, .int v_why, .int v_madeSize, .ref m_made, .ref m_length, .int v_firstCount, .int v_secondCount, .int v_heldBits, .int v_heldCount, .int v_pressedSize, .ref m_pressed, .int v_at, .int v_bad, .int v_markSize, .ref m_mark, .int v_relationCount, .ref m_idSize, .ref m_ids, .ref m_goalSize, .ref m_goals, .int v_valueSize, .ref m_value, .int v_faultCount, .ref m_faults, .ref m_reached])), (m_names, .inl (G.2.1, 816, .inl a_names)), (m_nameSize, .inl (G.2.2.1, 34, .inl a_nameSize)), (m_looked, .inl (G.2.1, 40, .inl u.2.2)), (m_rels, .inl (G.2.1, 5, .inl a_rels)), (m_count, .inl (G.2.2.1, 2, .inl a_count))]) := by
  refine Cn.of hl (by decide +kernel) rfl (Nat.le_of_ble_eq_true rfl) (fun M hQ => ?_)
  refine pb_eq (pc' := 0) (lo' := [(0, .ref h), (1, .int i)]) (rest' := []) (ws' := [(h, .inr (10, [.ref m_rels, .ref m_openRels, .ref m_closeRels, .ref m_openRel, .ref m_closeRel, .ref m_comment, .ref m_ends, .ref m_order, .int v_thrown, .int v_taped, .ref m_tape, .ref m_count, .ref m_nameSize, .ref m_names, .ref m_size, .ref m_data, .int v_lookedSize, .ref m_looked, .int v_fileSize, .ref m_file, .int v_directorySize, .ref m_directory, .int v_outSize, .ref m_out, .int v_rowSize, .ref m_row, .int v_bitAt, .int v_bitEnd, .int v_why, .int v_madeSize, .ref m_made, .ref m_length, .int v_firstCount, .int v_secondCount, .int v_heldBits, .int v_heldCount, .int v_pressedSize, .ref m_pressed, .int v_at, .int v_bad, .int v_markSize, .ref m_mark, .int v_relationCount, .ref m_idSize, .ref m_ids, .ref m_goalSize, .ref m_goals, .int v_valueSize, .ref m_value, .int v_faultCount, .ref m_faults, .ref m_reached])), (m_names, .inl (G.2.1, 816, .inl a_names)), (m_nameSize, .inl (G.2.2.1, 34, .inl a_nameSize)), (m_looked, .inl (G.2.1, 40, .inl a_looked)), (m_rels, .inl (G.2.1, 5, .inl a_rels)), (m_count, .inl (G.2.2.1, 2, .inl a_count))]) ?_
  have zl0 : (0 : Int32).toInt = 0 := by decide
  have zl1 : (1 : Int32).toInt = 1 := by decide
  have zl24 : (24 : Int32).toInt = 24 := by decide
  have w0 := I.1
  have w1 := I.2.1
  have q5 := I.2.2.1 i.toInt (by omega) (by omega)
  rw [Int.zero_add] at q5
  refine pb_aload_n (pc := 0) d_Mod_tellerOf_0 0 rfl rfl ?_
  refine pb_aload_n (pc := 1) d_Mod_tellerOf_1 0 rfl rfl ?_
  refine pb_get (pc := 2) d_Mod_tellerOf_2 0 13 rfl rfl (by decide) in_Mod k_1159 rfl ?_
  refine pb_bipush (pc := 5) (v := 24) d_Mod_tellerOf_5 (by decide) ?_
  refine pb_iload_n (pc := 7) d_Mod_tellerOf_7 1 rfl rfl ?_
  refine pb_imul (pc := 8) d_Mod_tellerOf_8 ?_
  refine pb_topi (fun ix1 eix1 => ?_)
  try have tix1 : ix1.toInt = 24 * i.toInt := ti_mul eix1 (by decide) rfl (by omega) (by omega)
  refine pb_aload_n (pc := 9) d_Mod_tellerOf_9 0 rfl rfl ?_
  refine pb_get (pc := 10) d_Mod_tellerOf_10 0 12 rfl rfl (by decide) in_Mod k_1158 rfl ?_
  refine pb_iload_n (pc := 13) d_Mod_tellerOf_13 1 rfl rfl ?_
  refine pb_iald (pc := 14) d_Mod_tellerOf_14 2 rfl (vp_in_iff.mpr (by omega)) ?_
  refine pb_topi (fun ix2 eix2 => ?_)
  have tix2 : ix2.toInt = gx a_nameSize (i.toInt) := gx_ld eix2 rfl
  refine pb_callV (pc := 15) (I := i_Mod_tellerOf) (qb := 0) (ci := 10) (nA := 3) (rest := []) (wr := [(m_nameSize, .inl (G.2.2.1, 34, .inl a_nameSize)), (m_rels, .inl (G.2.1, 5, .inl a_rels)), (m_count, .inl (G.2.2.1, 2, .inl a_count))]) d_Mod_tellerOf_15 (g_Mod_look hl G h m_rels m_openRels m_closeRels m_openRel m_closeRel m_comment m_ends m_order m_tape m_count m_nameSize m_names m_size m_data m_looked m_file m_directory m_out m_row m_made m_length m_pressed m_mark m_idSize m_ids m_goalSize m_goals m_value m_faults m_reached v_thrown v_taped v_lookedSize v_fileSize v_directorySize v_outSize v_rowSize v_bitAt v_bitEnd v_why v_madeSize v_firstCount v_secondCount v_heldBits v_heldCount v_pressedSize v_at v_bad v_markSize v_relationCount v_valueSize v_faultCount a_looked m_names 816 a_names ix1 ix2 (by first | (with_reducible assumption) | omega (splitDisjunctions := false) | assumption | omega | decide) (by first | (with_reducible assumption) | omega (splitDisjunctions := false) | assumption | omega | decide) (by first | (with_reducible assumption) | omega (splitDisjunctions := false) | assumption | omega | decide) F_a_looked F_a_names) rfl rfl [0, 3, 1] [2, 4, 5] (by decide) rfl rfl rfl (by decide) (by decide) k_1329 rfl k_128 k_1326 k_1328 k_53 ⟨rfl, hy_Mod_look⟩ (by decide) rfl rfl (Nat.le_of_ble_eq_true rfl) (by decide) (fun v9 ux4 ch3 => ?_)
  obtain ⟨g_5, rfl⟩ : ∃ z9, z9 = ux4 := ⟨_, rfl⟩
  obtain ⟨ech3, ch3⟩ := ch3
  have ech3 : v9 = none := ech3
  subst ech3
  obtain ⟨fh6, fh7⟩ : (∀ k : Int, 0 ≤ k → k < ix2.toInt → k < 40 → gx g_5 k = gx a_names (ix1.toInt + k)) ∧ (sb_Fit g_5) := ch3
  have lkF := fh6
  refine pb_eq (pc' := 18) (lo' := [(0, .ref h), (1, .int i)]) (rest' := []) (ws' := [(m_nameSize, .inl (G.2.2.1, 34, .inl a_nameSize)), (m_rels, .inl (G.2.1, 5, .inl a_rels)), (m_count, .inl (G.2.2.1, 2, .inl a_count)), (h, .inr (10, [.ref m_rels, .ref m_openRels, .ref m_closeRels, .ref m_openRel, .ref m_closeRel, .ref m_comment, .ref m_ends, .ref m_order, .int v_thrown, .int v_taped, .ref m_tape, .ref m_count, .ref m_nameSize, .ref m_names, .ref m_size, .ref m_data, .int ix2, .ref m_looked, .int v_fileSize, .ref m_file, .int v_directorySize, .ref m_directory, .int v_outSize, .ref m_out, .int v_rowSize, .ref m_row, .int v_bitAt, .int v_bitEnd, .int v_why, .int v_madeSize, .ref m_made, .ref m_length, .int v_firstCount, .int v_secondCount, .int v_heldBits, .int v_heldCount, .int v_pressedSize, .ref m_pressed, .int v_at, .int v_bad, .int v_markSize, .ref m_mark, .int v_relationCount, .ref m_idSize, .ref m_ids, .ref m_goalSize, .ref m_goals, .int v_valueSize, .ref m_value, .int v_faultCount, .ref m_faults, .ref m_reached])), (m_looked, .inl (G.2.1, 40, .inl g_5)), (m_names, .inl (G.2.1, 816, .inl a_names))]) ?_
  refine pb_iconst (pc := 18) (v := 0) d_Mod_tellerOf_18 (by decide) ?_
  refine pb_istore_n (pc := 19) (lo' := [(2, .int 0), (0, .ref h), (1, .int i)]) d_Mod_tellerOf_19 rfl (by decide) rfl ?_
  have hL20_8 : ∀ (N9 : Nat) (k : Int32) (ls : Int32) (lk : Nat → Int32), (sb_Fit lk) → (0 ≤ k.toInt) → (k.toInt ≤ 5) → (ls.toInt = gx a_nameSize i.toInt + k.toInt) → (∀ j : Int, 0 ≤ j → j < gx a_nameSize i.toInt → gx lk j = gx a_names (24 * i.toInt + j)) → (∀ j : Int, 0 ≤ j → j < k.toInt → gx lk (gx a_nameSize i.toInt + j) = gx a_rels j) → ((5 - k.toInt).toNat) < N9 → pb_P l G M i_Mod_tellerOf 20 [(2, .int k), (0, .ref h), (1, .int i)] [] [(h, .inr (10, [.ref m_rels, .ref m_openRels, .ref m_closeRels, .ref m_openRel, .ref m_closeRel, .ref m_comment, .ref m_ends, .ref m_order, .int v_thrown, .int v_taped, .ref m_tape, .ref m_count, .ref m_nameSize, .ref m_names, .ref m_size, .ref m_data, .int ls, .ref m_looked, .int v_fileSize, .ref m_file, .int v_directorySize, .ref m_directory, .int v_outSize, .ref m_out, .int v_rowSize, .ref m_row, .int v_bitAt, .int v_bitEnd, .int v_why, .int v_madeSize, .ref m_made, .ref m_length, .int v_firstCount, .int v_secondCount, .int v_heldBits, .int v_heldCount, .int v_pressedSize, .ref m_pressed, .int v_at, .int v_bad, .int v_markSize, .ref m_mark, .int v_relationCount, .ref m_idSize, .ref m_ids, .ref m_goalSize, .ref m_goals, .int v_valueSize, .ref m_value, .int v_faultCount, .ref m_faults, .ref m_reached])), (m_names, .inl (G.2.1, 816, .inl a_names)), (m_nameSize, .inl (G.2.2.1, 34, .inl a_nameSize)), (m_looked, .inl (G.2.1, 40, .inl lk)), (m_rels, .inl (G.2.1, 5, .inl a_rels)), (m_count, .inl (G.2.2.1, 2, .inl a_count))] 0 0 := by
    intro N9
    induction N9 with
    | zero => intro k ls lk F_lk k0 k1 k2 hlk hr hm9; exact absurd hm9 (Nat.not_lt_zero _)
    | succ N9 ih20 =>
      intro k ls lk F_lk k0 k1 k2 hlk hr hm9
      refine pb_iload_n (pc := 20) d_Mod_tellerOf_20 0 rfl rfl ?_
      refine pb_iconst (pc := 21) (v := 5) d_Mod_tellerOf_21 (by decide) ?_
      refine pb_icmp_ge (pc := 22) (tgt := 56) d_Mod_tellerOf_22 (by decide) (fun wx9 => ?_) (fun wx9 => ?_)
      · have twx9 : 5 ≤ k.toInt := (ti_le (by decide) rfl).mp wx9
        refine pb_aload_n (pc := 56) d_Mod_tellerOf_56 1 rfl rfl ?_
        refine pb_iconst (pc := 57) (v := 0) d_Mod_tellerOf_57 (by decide) ?_
        refine pb_callV (pc := 58) (I := i_Mod_tellerOf) (qb := 0) (ci := 10) (nA := 1) (rest := []) (wr := [(m_rels, .inl (G.2.1, 5, .inl a_rels))]) d_Mod_tellerOf_58 (g_Mod_find hl G h m_rels m_openRels m_closeRels m_openRel m_closeRel m_comment m_ends m_order m_tape m_count m_nameSize m_names m_size m_data m_looked m_file m_directory m_out m_row m_made m_length m_pressed m_mark m_idSize m_ids m_goalSize m_goals m_value m_faults m_reached v_thrown v_taped ls v_fileSize v_directorySize v_outSize v_rowSize v_bitAt v_bitEnd v_why v_madeSize v_firstCount v_secondCount v_heldBits v_heldCount v_pressedSize v_at v_bad v_markSize v_relationCount v_valueSize v_faultCount a_count a_nameSize a_names lk 0 (by first | (with_reducible assumption) | omega (splitDisjunctions := false) | assumption | omega | decide) (by first | (with_reducible assumption) | omega (splitDisjunctions := false) | assumption | omega | decide) (by simpa only [zl0, Int.mul_zero] using fun i a0 a1 => (⟨(I.2.2.1 i a0 a1).1, (I.2.2.1 i a0 a1).2.1⟩ : 1 ≤ gx a_nameSize (0 + i) ∧ gx a_nameSize (0 + i) ≤ 24)) (by simpa only [zl0] using I.1) (by simpa only [zl0] using I.2.1) (by first | (with_reducible assumption) | omega (splitDisjunctions := false) | assumption | omega | decide) (by first | (with_reducible assumption) | omega (splitDisjunctions := false) | assumption | omega | decide) F_a_names F_lk) rfl rfl [0, 5, 2, 1, 3] [4] (by decide) rfl rfl rfl (by decide) (by decide) k_1337 rfl k_128 k_1334 k_1336 k_55 ⟨rfl, hy_Mod_find⟩ (by decide) rfl rfl (Nat.le_of_ble_eq_true rfl) (by decide) (fun v9 ux11 ch10 => ?_)
        obtain ⟨r_12, rfl⟩ : ∃ z9, z9 = ux11 := ⟨_, rfl⟩
        obtain ⟨ech10, ch10⟩ := ch10
        have ech10 : v9 = some (.int r_12) := ech10
        subst ech10
        obtain ⟨fh13, fh14, fh15, fh16⟩ : (-1 ≤ r_12.toInt) ∧ (r_12.toInt < gx a_count (0 : Int32).toInt) ∧ (0 ≤ r_12.toInt → nl_eq a_nameSize a_names ((17 * (0 : Int32).toInt + r_12.toInt)) ls.toInt lk) ∧ (r_12.toInt = -1 → ∀ i : Int, 0 ≤ i → i < gx a_count (0 : Int32).toInt → ¬ nl_eq a_nameSize a_names (17 * (0 : Int32).toInt + i) ls.toInt lk) := ch10
        have fnd := fh15
        have fp1 := fh14
        simp only [zl0, Int.mul_zero, Int.zero_add] at fnd fp1
        have fn3 := fh16
        have fp0 := fh13
        simp only [zl0, Int.mul_zero, Int.zero_add] at fn3
        refine pb_eq (pc' := 61) (lo' := [(2, .int k), (0, .ref h), (1, .int i)]) (rest' := [.int r_12]) (ws' := [(m_rels, .inl (G.2.1, 5, .inl a_rels)), (h, .inr (10, [.ref m_rels, .ref m_openRels, .ref m_closeRels, .ref m_openRel, .ref m_closeRel, .ref m_comment, .ref m_ends, .ref m_order, .int v_thrown, .int v_taped, .ref m_tape, .ref m_count, .ref m_nameSize, .ref m_names, .ref m_size, .ref m_data, .int ls, .ref m_looked, .int v_fileSize, .ref m_file, .int v_directorySize, .ref m_directory, .int v_outSize, .ref m_out, .int v_rowSize, .ref m_row, .int v_bitAt, .int v_bitEnd, .int v_why, .int v_madeSize, .ref m_made, .ref m_length, .int v_firstCount, .int v_secondCount, .int v_heldBits, .int v_heldCount, .int v_pressedSize, .ref m_pressed, .int v_at, .int v_bad, .int v_markSize, .ref m_mark, .int v_relationCount, .ref m_idSize, .ref m_ids, .ref m_goalSize, .ref m_goals, .int v_valueSize, .ref m_value, .int v_faultCount, .ref m_faults, .ref m_reached])), (m_count, .inl (G.2.2.1, 2, .inl a_count)), (m_nameSize, .inl (G.2.2.1, 34, .inl a_nameSize)), (m_names, .inl (G.2.1, 816, .inl a_names)), (m_looked, .inl (G.2.1, 40, .inl lk))]) ?_
        exact pb_iret (pc := 61) hQ d_Mod_tellerOf_61 rfl rfl (r_12, ls, lk) ⟨rfl, (by (try dsimp only); first | done | (with_reducible assumption) | omega (splitDisjunctions := false) | assumption | (clear fh15 fh16 fnd fn3 hm9; first | omega (splitDisjunctions := false) | omega) | omega | decide), (show r_12.toInt < gx a_count 0 from (by (try dsimp only); omega)), (show 0 ≤ r_12.toInt → isT a_nameSize a_names a_rels (gx a_count 0) i.toInt (r_12.toInt) from (by (try dsimp only); exact fun h9 => by have q := fnd h9; exact ⟨h9, by omega, by have q1 := q.1; omega, fun k9 k90 k91 => (q.2 k9 k90 (by omega)).trans (hlk k9 k90 k91), fun k9 k90 k91 => (q.2 (gx a_nameSize i.toInt + k9) (by (exact omg_8f1365aab8 q5 k90)) (by omega)).trans (hr k9 k90 (by omega))⟩)), (by (try dsimp only); first | done | (with_reducible assumption) | omega (splitDisjunctions := false) | assumption | (clear fh15 fh16 fnd fn3 hm9; first | omega (splitDisjunctions := false) | omega) | omega | decide), (by (try dsimp only); first | done | (with_reducible assumption) | omega (splitDisjunctions := false) | assumption | (clear fh15 fh16 fnd fn3 hm9; first | omega (splitDisjunctions := false) | omega) | omega | decide), (show isF_ (cN_ (gx a_count 0) a_names a_nameSize) (gx a_nameSize i.toInt + 5) (tn6_ (cN_ (gx a_count 0) a_names a_nameSize) i.toInt) r_12.toInt from (tl_m (isF_m fp0 fp1 fnd fn3) (by omega) hlk (fun j j0 j1 => hr j j0 (by omega)) C6_rels)), F_lk⟩ [1, 4, 3, 5, 0, 2] (by decide) rfl rfl (by decide) (by decide)
      · have twx9 : ¬ 5 ≤ k.toInt := fun z9 => wx9 ((ti_le (by decide) rfl).mpr z9)
        refine pb_aload_n (pc := 25) d_Mod_tellerOf_25 1 rfl rfl ?_
        refine pb_get (pc := 26) d_Mod_tellerOf_26 0 17 rfl rfl (by decide) in_Mod k_1163 rfl ?_
        refine pb_aload_n (pc := 29) d_Mod_tellerOf_29 1 rfl rfl ?_
        refine pb_get (pc := 30) d_Mod_tellerOf_30 0 16 rfl rfl (by decide) in_Mod k_1162 rfl ?_
        refine pb_aload_n (pc := 33) d_Mod_tellerOf_33 1 rfl rfl ?_
        refine pb_get (pc := 34) d_Mod_tellerOf_34 0 0 rfl rfl (by decide) in_Mod k_1146 rfl ?_
        refine pb_iload_n (pc := 37) d_Mod_tellerOf_37 0 rfl rfl ?_
        refine pb_bald (pc := 38) d_Mod_tellerOf_38 4 rfl (vp_in_iff.mpr (by omega)) ?_
        refine pb_topi (fun ix17 eix17 => ?_)
        have xix17 : ix17 = gr a_rels (k.toInt) := gr_ld eix17 (by omega)
        have yix17 : ix17.toInt = gx a_rels (k.toInt) := congrArg Int32.toInt xix17
        have tix17 : -128 ≤ ix17.toInt ∧ ix17.toInt ≤ 127 := ti_fit (F_a_rels _) eix17
        refine pb_bast (pc := 39) (ws' := [(h, .inr (10, [.ref m_rels, .ref m_openRels, .ref m_closeRels, .ref m_openRel, .ref m_closeRel, .ref m_comment, .ref m_ends, .ref m_order, .int v_thrown, .int v_taped, .ref m_tape, .ref m_count, .ref m_nameSize, .ref m_names, .ref m_size, .ref m_data, .int ls, .ref m_looked, .int v_fileSize, .ref m_file, .int v_directorySize, .ref m_directory, .int v_outSize, .ref m_out, .int v_rowSize, .ref m_row, .int v_bitAt, .int v_bitEnd, .int v_why, .int v_madeSize, .ref m_made, .ref m_length, .int v_firstCount, .int v_secondCount, .int v_heldBits, .int v_heldCount, .int v_pressedSize, .ref m_pressed, .int v_at, .int v_bad, .int v_markSize, .ref m_mark, .int v_relationCount, .ref m_idSize, .ref m_ids, .ref m_goalSize, .ref m_goals, .int v_valueSize, .ref m_value, .int v_faultCount, .ref m_faults, .ref m_reached])), (m_names, .inl (G.2.1, 816, .inl a_names)), (m_nameSize, .inl (G.2.2.1, 34, .inl a_nameSize)), (m_looked, .inl (G.2.1, 40, .inl (upd lk ((ls : Int32).toNatClampNeg) (vp_nar .byte ix17)))), (m_rels, .inl (G.2.1, 5, .inl a_rels)), (m_count, .inl (G.2.2.1, 2, .inl a_count))]) d_Mod_tellerOf_39 3 rfl (vp_in_iff.mpr (by omega)) rfl ?_
        refine pb_aload_n (pc := 40) d_Mod_tellerOf_40 1 rfl rfl ?_
        refine pb_dup (pc := 41) d_Mod_tellerOf_41 rfl ?_
        refine pb_get (pc := 42) d_Mod_tellerOf_42 0 16 rfl rfl (by decide) in_Mod k_1162 rfl ?_
        refine pb_iconst (pc := 45) (v := 1) d_Mod_tellerOf_45 (by decide) ?_
        refine pb_iadd (pc := 46) d_Mod_tellerOf_46 ?_
        refine pb_topi (fun ix18 eix18 => ?_)
        try have tix18 : ix18.toInt = ls.toInt + 1 := t2_add eix18 rfl (by decide) (by omega)
        refine pb_put (pc := 47) (ty := .int) (ws' := [(h, .inr (10, [.ref m_rels, .ref m_openRels, .ref m_closeRels, .ref m_openRel, .ref m_closeRel, .ref m_comment, .ref m_ends, .ref m_order, .int v_thrown, .int v_taped, .ref m_tape, .ref m_count, .ref m_nameSize, .ref m_names, .ref m_size, .ref m_data, .int ix18, .ref m_looked, .int v_fileSize, .ref m_file, .int v_directorySize, .ref m_directory, .int v_outSize, .ref m_out, .int v_rowSize, .ref m_row, .int v_bitAt, .int v_bitEnd, .int v_why, .int v_madeSize, .ref m_made, .ref m_length, .int v_firstCount, .int v_secondCount, .int v_heldBits, .int v_heldCount, .int v_pressedSize, .ref m_pressed, .int v_at, .int v_bad, .int v_markSize, .ref m_mark, .int v_relationCount, .ref m_idSize, .ref m_ids, .ref m_goalSize, .ref m_goals, .int v_valueSize, .ref m_value, .int v_faultCount, .ref m_faults, .ref m_reached])), (m_names, .inl (G.2.1, 816, .inl a_names)), (m_nameSize, .inl (G.2.2.1, 34, .inl a_nameSize)), (m_looked, .inl (G.2.1, 40, .inl (upd lk ((ls : Int32).toNatClampNeg) (vp_nar .byte ix17)))), (m_rels, .inl (G.2.1, 5, .inl a_rels)), (m_count, .inl (G.2.2.1, 2, .inl a_count))]) d_Mod_tellerOf_47 0 16 t_Mod t_Mod_ok n_Mod rfl rfl (by decide) in_Mod k_1162 rfl (by decide +kernel) rfl rfl (Nat.le_of_ble_eq_true rfl) rfl ?_
        refine pb_iincN (pc := 50) (c := 1) d_Mod_tellerOf_50 0 rfl (by decide) (by decide) (fun ix19 eix19 => ?_)
        have tix19 : ix19.toInt = k.toInt + 1 := t2_add eix19 rfl (by decide) (by first | omega | (have r90 := ti_rng k; have r91 := ti_rng ix19; have r92 := ti_rng i; omega))
        refine pb_eq (pc' := 53) (lo' := [(2, .int ix19), (0, .ref h), (1, .int i)]) (rest' := []) (ws' := [(h, .inr (10, [.ref m_rels, .ref m_openRels, .ref m_closeRels, .ref m_openRel, .ref m_closeRel, .ref m_comment, .ref m_ends, .ref m_order, .int v_thrown, .int v_taped, .ref m_tape, .ref m_count, .ref m_nameSize, .ref m_names, .ref m_size, .ref m_data, .int ix18, .ref m_looked, .int v_fileSize, .ref m_file, .int v_directorySize, .ref m_directory, .int v_outSize, .ref m_out, .int v_rowSize, .ref m_row, .int v_bitAt, .int v_bitEnd, .int v_why, .int v_madeSize, .ref m_made, .ref m_length, .int v_firstCount, .int v_secondCount, .int v_heldBits, .int v_heldCount, .int v_pressedSize, .ref m_pressed, .int v_at, .int v_bad, .int v_markSize, .ref m_mark, .int v_relationCount, .ref m_idSize, .ref m_ids, .ref m_goalSize, .ref m_goals, .int v_valueSize, .ref m_value, .int v_faultCount, .ref m_faults, .ref m_reached])), (m_names, .inl (G.2.1, 816, .inl a_names)), (m_nameSize, .inl (G.2.2.1, 34, .inl a_nameSize)), (m_looked, .inl (G.2.1, 40, .inl (upd lk ((ls : Int32).toNatClampNeg) (vp_nar .byte ix17)))), (m_rels, .inl (G.2.1, 5, .inl a_rels)), (m_count, .inl (G.2.2.1, 2, .inl a_count))]) ?_
        refine pb_goto (pc := 53) (tgt := 20) d_Mod_tellerOf_53 (by decide) ?_
        exact ih20 ix19 ix18 (upd lk ((ls : Int32).toNatClampNeg) (vp_nar .byte ix17)) (sb_fitU F_lk (fit_nar _)) (by first | (with_reducible assumption) | (exact omg_c14412231a k0 tix19) | assumption | omega | decide) (by first | (with_reducible assumption) | omega (splitDisjunctions := false) | assumption | omega | decide) (by first | (with_reducible assumption) | omega (splitDisjunctions := false) | assumption | omega | decide) (fun j j0 j1 => by rw [gx_updb rfl j (by omega) j0 (by omega), if_neg (by (exact omg_6b22c2aded k0 k2 j1))]; exact hlk j j0 j1) (fun j j0 j1 => by rw [gx_updb rfl _ (by omega) (by omega) (by omega)]; split <;> first | (rename_i w; rw [show j = k.toInt by omega]; omega) | exact hr j j0 (by omega)) (by (exact omg_4f6aa606d0 hm9 twx9 tix19))
  refine pb_re (ws' := [(h, .inr (10, [.ref m_rels, .ref m_openRels, .ref m_closeRels, .ref m_openRel, .ref m_closeRel, .ref m_comment, .ref m_ends, .ref m_order, .int v_thrown, .int v_taped, .ref m_tape, .ref m_count, .ref m_nameSize, .ref m_names, .ref m_size, .ref m_data, .int ix2, .ref m_looked, .int v_fileSize, .ref m_file, .int v_directorySize, .ref m_directory, .int v_outSize, .ref m_out, .int v_rowSize, .ref m_row, .int v_bitAt, .int v_bitEnd, .int v_why, .int v_madeSize, .ref m_made, .ref m_length, .int v_firstCount, .int v_secondCount, .int v_heldBits, .int v_heldCount, .int v_pressedSize, .ref m_pressed, .int v_at, .int v_bad, .int v_markSize, .ref m_mark, .int v_relationCount, .ref m_idSize, .ref m_ids, .ref m_goalSize, .ref m_goals, .int v_valueSize, .ref m_value, .int v_faultCount, .ref m_faults, .ref m_reached])), (m_names, .inl (G.2.1, 816, .inl a_names)), (m_nameSize, .inl (G.2.2.1, 34, .inl a_nameSize)), (m_looked, .inl (G.2.1, 40, .inl g_5)), (m_rels, .inl (G.2.1, 5, .inl a_rels)), (m_count, .inl (G.2.2.1, 2, .inl a_count))]) (lo' := [(2, .int 0), (0, .ref h), (1, .int i)]) [3, 5, 0, 4, 1, 2] [0, 1, 2] (by decide) rfl rfl rfl ?_
  exact hL20_8 _ 0 ix2 g_5 fh7 (by first | (with_reducible assumption) | omega (splitDisjunctions := false) | assumption | omega | decide) (by first | (with_reducible assumption) | omega (splitDisjunctions := false) | assumption | omega | decide) (by first | (with_reducible assumption) | omega (splitDisjunctions := false) | assumption | omega | decide) (fun j j0 j1 => by rw [lkF j j0 (by omega) (by omega)]; exact congrArg (gx a_names) (by omega)) (fun j j0 j1 => absurd j1 (by omega)) (Nat.lt_succ_self _)

theorem d_Mod_isTeller_0 : decode prog_12_method_80_code 0 = .ok (.iconst 0, 1) := by decide +kernel
theorem d_Mod_isTeller_1 : decode prog_12_method_80_code 1 = .ok (.istore_n 2, 1) := by decide +kernel
theorem d_Mod_isTeller_2 : decode prog_12_method_80_code 2 = .ok (.iconst 0, 1) := by decide +kernel
theorem d_Mod_isTeller_3 : decode prog_12_method_80_code 3 = .ok (.istore_n 3, 1) := by decide +kernel
theorem d_Mod_isTeller_4 : decode prog_12_method_80_code 4 = .ok (.iload_n 3, 1) := by decide +kernel
theorem d_Mod_isTeller_5 : decode prog_12_method_80_code 5 = .ok (.aload_n 0, 1) := by decide +kernel
theorem d_Mod_isTeller_6 : decode prog_12_method_80_code 6 = .ok (.getfield 37, 3) := by decide +kernel
theorem d_Mod_isTeller_9 : decode prog_12_method_80_code 9 = .ok (.iconst 0, 1) := by decide +kernel
theorem d_Mod_isTeller_10 : decode prog_12_method_80_code 10 = .ok (.iaload, 1) := by decide +kernel
theorem d_Mod_isTeller_11 : decode prog_12_method_80_code 11 = .ok (.if_icmp .ge 28, 3) := by decide +kernel
theorem d_Mod_isTeller_39 : decode prog_12_method_80_code 39 = .ok (.iload_n 2, 1) := by decide +kernel
theorem d_Mod_isTeller_40 : decode prog_12_method_80_code 40 = .ok (.ireturn, 1) := by decide +kernel
theorem d_Mod_isTeller_14 : decode prog_12_method_80_code 14 = .ok (.iload_n 2, 1) := by decide +kernel
theorem d_Mod_isTeller_15 : decode prog_12_method_80_code 15 = .ok (.ifCond .ne 12, 3) := by decide +kernel
theorem d_Mod_isTeller_27 : decode prog_12_method_80_code 27 = .ok (.iconst 1, 1) := by decide +kernel
theorem d_Mod_isTeller_28 : decode prog_12_method_80_code 28 = .ok (.goto 4, 3) := by decide +kernel
theorem d_Mod_isTeller_32 : decode prog_12_method_80_code 32 = .ok (.istore_n 2, 1) := by decide +kernel
theorem d_Mod_isTeller_33 : decode prog_12_method_80_code 33 = .ok (.iinc 3 1, 3) := by decide +kernel
theorem d_Mod_isTeller_36 : decode prog_12_method_80_code 36 = .ok (.goto (-32), 3) := by decide +kernel
theorem d_Mod_isTeller_18 : decode prog_12_method_80_code 18 = .ok (.aload_n 0, 1) := by decide +kernel
theorem d_Mod_isTeller_19 : decode prog_12_method_80_code 19 = .ok (.iload_n 3, 1) := by decide +kernel
theorem d_Mod_isTeller_20 : decode prog_12_method_80_code 20 = .ok (.invokevirtual 404, 3) := by decide +kernel
theorem k_1558 : (Jvm.Cond.methodLink "PackageBookModel" (404 : Nat) ({ cls := "PackageBookModel", name := "tellerOf", desc := "(I)I" } : Jvm.MethodName)) ∈ uW := uW_of 1558 (by decide +kernel) (by decide +kernel)
theorem k_1561 : (Jvm.Cond.code ({ cls := "PackageBookModel", name := "tellerOf", desc := "(I)I" } : Jvm.MethodName) prog_12_method_79_code (3 : Nat) (Option.some Jvm.ClassFile.FieldType.int)) ∈ uW := uW_of 1561 (by decide +kernel) (by decide +kernel)
theorem k_1560 : (Jvm.Cond.instanceMethod ({ cls := "PackageBookModel", name := "tellerOf", desc := "(I)I" } : Jvm.MethodName)) ∈ uW := uW_of 1560 (by decide +kernel) (by decide +kernel)
theorem k_93 : Cond.selects "PackageBookModel" ⟨"PackageBookModel", "tellerOf", "(I)I"⟩ ⟨"PackageBookModel", "tellerOf", "(I)I"⟩ ∈ uW := uW_of 93 (by decide +kernel) (by decide +kernel)
theorem hy_Mod_tellerOf : (y_Mod_tellerOf).cls ≠ "java/lang/invoke/MethodHandle" ∧ (y_Mod_tellerOf).cls ≠ "java/lang/invoke/VarHandle" ∧ (parseMethodDescriptor (y_Mod_tellerOf).desc).map (fun d => d.parameters.length) = some 1 := by decide +kernel
theorem d_Mod_isTeller_23 : decode prog_12_method_80_code 23 = .ok (.iload_n 1, 1) := by decide +kernel
theorem d_Mod_isTeller_24 : decode prog_12_method_80_code 24 = .ok (.if_icmp .ne 7, 3) := by decide +kernel
theorem d_Mod_isTeller_31 : decode prog_12_method_80_code 31 = .ok (.iconst 0, 1) := by decide +kernel
abbrev y_Mod_isTeller : MethodName := ⟨"PackageBookModel", "isTeller", "(I)Z"⟩
abbrev i_Mod_isTeller : pb_I := (y_Mod_isTeller, prog_12_method_80_code, 4, (some Jvm.ClassFile.FieldType.boolean), [], { frames := 3, cells := 0, slots := 0, locals := 70 })
set_option maxRecDepth 100000 in
set_option maxHeartbeats 4000000 in
theorem g_Mod_isTeller {l : Launch} (hl : l.stackTraces = false) (G : pb_G) (h : Nat) (m_rels : Nat) (m_openRels : Nat) (m_closeRels : Nat) (m_openRel : Nat) (m_closeRel : Nat) (m_comment : Nat) (m_ends : Nat) (m_order : Nat) (m_tape : Nat) (m_count : Nat) (m_nameSize : Nat) (m_names : Nat) (m_size : Nat) (m_data : Nat) (m_looked : Nat) (m_file : Nat) (m_directory : Nat) (m_out : Nat) (m_row : Nat) (m_made : Nat) (m_length : Nat) (m_pressed : Nat) (m_mark : Nat) (m_idSize : Nat) (m_ids : Nat) (m_goalSize : Nat) (m_goals : Nat) (m_value : Nat) (m_faults : Nat) (m_reached : Nat) (v_thrown : Int32) (v_taped : Int32) (v_lookedSize : Int32) (v_fileSize : Int32) (v_directorySize : Int32) (v_outSize : Int32) (v_rowSize : Int32) (v_bitAt : Int32) (v_bitEnd : Int32) (v_why : Int32) (v_madeSize : Int32) (v_firstCount : Int32) (v_secondCount : Int32) (v_heldBits : Int32) (v_heldCount : Int32) (v_pressedSize : Int32) (v_at : Int32) (v_bad : Int32) (v_markSize : Int32) (v_relationCount : Int32) (v_valueSize : Int32) (v_faultCount : Int32) (a_names : Nat → Int32) (a_nameSize : Nat → Int32) (a_looked : Nat → Int32) (a_rels : Nat → Int32) (a_count : Nat → Int32) (a_size : Nat → Int32) (i : Int32) (I : ms_I 0 (gx a_count 0) a_nameSize a_size a_names) (y0 : 0 ≤ v_lookedSize.toInt) (y1 : v_lookedSize.toInt ≤ 8000) (C6_rels : ∀ x : Int, 0 ≤ x → x < 5 → gx a_rels x = tr_ x) (F_a_names : sb_Fit a_names) (F_a_looked : sb_Fit a_looked) (F_a_rels : sb_Fit a_rels) : Cn l G i_Mod_isTeller [.ref h, .int i] [(h, .inr (10, [.ref m_rels, .ref m_openRels, .ref m_closeRels, .ref m_openRel, .ref m_closeRel, .ref m_comment, .ref m_ends, .ref m_order, .int v_thrown, .int v_taped, .ref m_tape, .ref m_count, .ref m_nameSize, .ref m_names, .ref m_size, .ref m_data, .int v_lookedSize, .ref m_looked, .int v_fileSize, .ref m_file, .int v_directorySize, .ref m_directory, .int v_outSize, .ref m_out, .int v_rowSize, .ref m_row, .int v_bitAt, .int v_bitEnd, .int v_why, .int v_madeSize, .ref m_made, .ref m_length, .int v_firstCount, .int v_secondCount, .int v_heldBits, .int v_heldCount, .int v_pressedSize, .ref m_pressed, .int v_at, .int v_bad, .int v_markSize, .ref m_mark, .int v_relationCount, .ref m_idSize, .ref m_ids, .ref m_goalSize, .ref m_goals, .int v_valueSize, .ref m_value, .int v_faultCount, .ref m_faults, .ref m_reached])), (m_names, .inl (G.2.1, 816, .inl a_names)), (m_nameSize, .inl (G.2.2.1, 34, .inl a_nameSize)), (m_looked, .inl (G.2.1, 40, .inl a_looked)), (m_rels, .inl (G.2.1, 5, .inl a_rels)), (m_count, .inl (G.2.2.1, 2, .inl a_count))] (S := Int32 × Int32 × (Nat → Int32)) (fun rv_ u => rv_ = some (.int u.1) ∧ (u.1.toInt = 0 ∨ u.1.toInt = 1) ∧ (0 ≤ u.2.1.toInt) ∧ (u.2.1.toInt ≤ 8000) ∧ (sb_Fit u.2.2)) (fun u => [(h, .inr (10, [.ref m_rels, .ref m_openRels, .ref m_closeRels, .ref m_openRel, .ref m_closeRel, .ref m_comment, .ref m_ends, .ref m_order, .int v_thrown, .int v_taped, .ref m_tape, .ref m_count, .ref m_nameSize, .ref m_names, .ref m_size, .ref m_data, .int u.2.1, .ref m_looked, .int v_fileSize, .ref m_file, .int v_directorySize, .ref m_directory, .int v_outSize, .ref m_out, .int v_rowSize, .ref m_row, .int v_bitAt, .int v_bitEnd, .int v_why, .int v_madeSize, .ref m_made, .ref m_length, .int v_firstCount, .int v_secondCount, .int v_heldBits, .int v_heldCount, .int v_pressedSize, .ref m_pressed, .int v_at, .int v_bad, .int v_markSize, .ref m_mark, .int v_relationCount, .ref m_idSize, .ref m_ids, .ref m_goalSize, .ref m_goals, .int v_valueSize, .ref m_value, .int v_faultCount, .ref m_faults, .ref m_reached])), (m_names, .inl (G.2.1, 816, .inl a_names)), (m_nameSize, .inl (G.2.2.1, 34, .inl a_nameSize)), (m_looked, .inl (G.2.1, 40, .inl u.2.2)), (m_rels, .inl (G.2.1, 5, .inl a_rels)), (m_count, .inl (G.2.2.1, 2, .inl a_count))]) := by
  refine Cn.of hl (by decide +kernel) rfl (Nat.le_of_ble_eq_true rfl) (fun M hQ => ?_)
  refine pb_eq (pc' := 0) (lo' := [(0, .ref h), (1, .int i)]) (rest' := []) (ws' := [(h, .inr (10, [.ref m_rels, .ref m_openRels, .ref m_closeRels, .ref m_openRel, .ref m_closeRel, .ref m_comment, .ref m_ends, .ref m_order, .int v_thrown, .int v_taped, .ref m_tape, .ref m_count, .ref m_nameSize, .ref m_names, .ref m_size, .ref m_data, .int v_lookedSize, .ref m_looked, .int v_fileSize, .ref m_file, .int v_directorySize, .ref m_directory, .int v_outSize, .ref m_out, .int v_rowSize, .ref m_row, .int v_bitAt, .int v_bitEnd, .int v_why, .int v_madeSize, .ref m_made, .ref m_length, .int v_firstCount, .int v_secondCount, .int v_heldBits, .int v_heldCount, .int v_pressedSize, .ref m_pressed, .int v_at, .int v_bad, .int v_markSize, .ref m_mark, .int v_relationCount, .ref m_idSize, .ref m_ids, .ref m_goalSize, .ref m_goals, .int v_valueSize, .ref m_value, .int v_faultCount, .ref m_faults, .ref m_reached])), (m_names, .inl (G.2.1, 816, .inl a_names)), (m_nameSize, .inl (G.2.2.1, 34, .inl a_nameSize)), (m_looked, .inl (G.2.1, 40, .inl a_looked)), (m_rels, .inl (G.2.1, 5, .inl a_rels)), (m_count, .inl (G.2.2.1, 2, .inl a_count))]) ?_
  have zl0 : (0 : Int32).toInt = 0 := by decide
  have zl1 : (1 : Int32).toInt = 1 := by decide
  have w0 := I.1
  have w1 := I.2.1
  refine pb_iconst (pc := 0) (v := 0) d_Mod_isTeller_0 (by decide) ?_
  refine pb_istore_n (pc := 1) (lo' := [(2, .int 0), (0, .ref h), (1, .int i)]) d_Mod_isTeller_1 rfl (by decide) rfl ?_
  refine pb_iconst (pc := 2) (v := 0) d_Mod_isTeller_2 (by decide) ?_
  refine pb_istore_n (pc := 3) (lo' := [(3, .int 0), (2, .int 0), (0, .ref h), (1, .int i)]) d_Mod_isTeller_3 rfl (by decide) rfl ?_
  have hL4_1 : ∀ (N9 : Nat) (s : Int32) (k : Int32) (ls : Int32) (lk : Nat → Int32), (sb_Fit lk) → (0 ≤ k.toInt) → (s.toInt = 0 ∨ s.toInt = 1) → (0 ≤ ls.toInt) → (ls.toInt ≤ 8000) → ((gx a_count 0 - k.toInt).toNat) < N9 → pb_P l G M i_Mod_isTeller 4 [(2, .int s), (3, .int k), (0, .ref h), (1, .int i)] [] [(h, .inr (10, [.ref m_rels, .ref m_openRels, .ref m_closeRels, .ref m_openRel, .ref m_closeRel, .ref m_comment, .ref m_ends, .ref m_order, .int v_thrown, .int v_taped, .ref m_tape, .ref m_count, .ref m_nameSize, .ref m_names, .ref m_size, .ref m_data, .int ls, .ref m_looked, .int v_fileSize, .ref m_file, .int v_directorySize, .ref m_directory, .int v_outSize, .ref m_out, .int v_rowSize, .ref m_row, .int v_bitAt, .int v_bitEnd, .int v_why, .int v_madeSize, .ref m_made, .ref m_length, .int v_firstCount, .int v_secondCount, .int v_heldBits, .int v_heldCount, .int v_pressedSize, .ref m_pressed, .int v_at, .int v_bad, .int v_markSize, .ref m_mark, .int v_relationCount, .ref m_idSize, .ref m_ids, .ref m_goalSize, .ref m_goals, .int v_valueSize, .ref m_value, .int v_faultCount, .ref m_faults, .ref m_reached])), (m_names, .inl (G.2.1, 816, .inl a_names)), (m_nameSize, .inl (G.2.2.1, 34, .inl a_nameSize)), (m_looked, .inl (G.2.1, 40, .inl lk)), (m_rels, .inl (G.2.1, 5, .inl a_rels)), (m_count, .inl (G.2.2.1, 2, .inl a_count))] 0 0 := by
    intro N9
    induction N9 with
    | zero => intro s k ls lk F_lk k0 k1 k2 k3 hm9; exact absurd hm9 (Nat.not_lt_zero _)
    | succ N9 ih4 =>
      intro s k ls lk F_lk k0 k1 k2 k3 hm9
      refine pb_iload_n (pc := 4) d_Mod_isTeller_4 1 rfl rfl ?_
      refine pb_aload_n (pc := 5) d_Mod_isTeller_5 2 rfl rfl ?_
      refine pb_get (pc := 6) d_Mod_isTeller_6 0 11 rfl rfl (by decide) in_Mod k_1157 rfl ?_
      refine pb_iconst (pc := 9) (v := 0) d_Mod_isTeller_9 (by decide) ?_
      refine pb_iald (pc := 10) d_Mod_isTeller_10 5 rfl (by unfold vp_in; decide) ?_
      refine pb_topi (fun ix2 eix2 => ?_)
      have tix2 : ix2.toInt = gx a_count (0) := gx_ld eix2 (by omega)
      refine pb_icmp_ge (pc := 11) (tgt := 39) d_Mod_isTeller_11 (by decide) (fun wx3 => ?_) (fun wx3 => ?_)
      · have twx3 : ix2.toInt ≤ k.toInt := (ti_le rfl rfl).mp wx3
        refine pb_iload_n (pc := 39) d_Mod_isTeller_39 0 rfl rfl ?_
        exact pb_iret (pc := 40) hQ d_Mod_isTeller_40 rfl (nar_b (by omega)) (s, ls, lk) ⟨rfl, (by (try dsimp only); first | done | (with_reducible assumption) | omega (splitDisjunctions := false) | assumption | omega | decide), (by (try dsimp only); first | done | (with_reducible assumption) | omega (splitDisjunctions := false) | assumption | omega | decide), (by (try dsimp only); first | done | (with_reducible assumption) | omega (splitDisjunctions := false) | assumption | omega | decide), F_lk⟩ [0, 1, 2, 3, 4, 5] (by decide) rfl rfl (by decide) (by decide)
      · have twx3 : ¬ ix2.toInt ≤ k.toInt := fun z9 => wx3 ((ti_le rfl rfl).mpr z9)
        refine pb_iload_n (pc := 14) d_Mod_isTeller_14 0 rfl rfl ?_
        refine pb_if_ne (pc := 15) (tgt := 27) d_Mod_isTeller_15 (by decide) (fun wx4 => ?_) (fun wx4 => ?_)
        · have twx4 : ¬ s.toInt = 0 := fun z9 => wx4 ((ti_eq rfl (by decide)).mpr z9)
          refine pb_iconst (pc := 27) (v := 1) d_Mod_isTeller_27 (by decide) ?_
          refine pb_goto (pc := 28) (tgt := 32) d_Mod_isTeller_28 (by decide) ?_
          refine pb_istore_n (pc := 32) (lo' := [(2, .int 1), (3, .int k), (0, .ref h), (1, .int i)]) d_Mod_isTeller_32 rfl (by decide) rfl ?_
          refine pb_iincN (pc := 33) (c := 1) d_Mod_isTeller_33 1 rfl (by decide) (by decide) (fun ix5 eix5 => ?_)
          have tix5 : ix5.toInt = k.toInt + 1 := t2_add eix5 rfl (by decide) (by first | omega | (have r90 := ti_rng k; have r91 := ti_rng ix5; have r92 := ti_rng i; omega))
          refine pb_eq (pc' := 36) (lo' := [(3, .int ix5), (2, .int 1), (0, .ref h), (1, .int i)]) (rest' := []) (ws' := [(h, .inr (10, [.ref m_rels, .ref m_openRels, .ref m_closeRels, .ref m_openRel, .ref m_closeRel, .ref m_comment, .ref m_ends, .ref m_order, .int v_thrown, .int v_taped, .ref m_tape, .ref m_count, .ref m_nameSize, .ref m_names, .ref m_size, .ref m_data, .int ls, .ref m_looked, .int v_fileSize, .ref m_file, .int v_directorySize, .ref m_directory, .int v_outSize, .ref m_out, .int v_rowSize, .ref m_row, .int v_bitAt, .int v_bitEnd, .int v_why, .int v_madeSize, .ref m_made, .ref m_length, .int v_firstCount, .int v_secondCount, .int v_heldBits, .int v_heldCount, .int v_pressedSize, .ref m_pressed, .int v_at, .int v_bad, .int v_markSize, .ref m_mark, .int v_relationCount, .ref m_idSize, .ref m_ids, .ref m_goalSize, .ref m_goals, .int v_valueSize, .ref m_value, .int v_faultCount, .ref m_faults, .ref m_reached])), (m_names, .inl (G.2.1, 816, .inl a_names)), (m_nameSize, .inl (G.2.2.1, 34, .inl a_nameSize)), (m_looked, .inl (G.2.1, 40, .inl lk)), (m_rels, .inl (G.2.1, 5, .inl a_rels)), (m_count, .inl (G.2.2.1, 2, .inl a_count))]) ?_
          refine pb_goto (pc := 36) (tgt := 4) d_Mod_isTeller_36 (by decide) ?_
          refine pb_re (ws' := [(h, .inr (10, [.ref m_rels, .ref m_openRels, .ref m_closeRels, .ref m_openRel, .ref m_closeRel, .ref m_comment, .ref m_ends, .ref m_order, .int v_thrown, .int v_taped, .ref m_tape, .ref m_count, .ref m_nameSize, .ref m_names, .ref m_size, .ref m_data, .int ls, .ref m_looked, .int v_fileSize, .ref m_file, .int v_directorySize, .ref m_directory, .int v_outSize, .ref m_out, .int v_rowSize, .ref m_row, .int v_bitAt, .int v_bitEnd, .int v_why, .int v_madeSize, .ref m_made, .ref m_length, .int v_firstCount, .int v_secondCount, .int v_heldBits, .int v_heldCount, .int v_pressedSize, .ref m_pressed, .int v_at, .int v_bad, .int v_markSize, .ref m_mark, .int v_relationCount, .ref m_idSize, .ref m_ids, .ref m_goalSize, .ref m_goals, .int v_valueSize, .ref m_value, .int v_faultCount, .ref m_faults, .ref m_reached])), (m_names, .inl (G.2.1, 816, .inl a_names)), (m_nameSize, .inl (G.2.2.1, 34, .inl a_nameSize)), (m_looked, .inl (G.2.1, 40, .inl lk)), (m_rels, .inl (G.2.1, 5, .inl a_rels)), (m_count, .inl (G.2.2.1, 2, .inl a_count))]) (lo' := [(2, .int 1), (3, .int ix5), (0, .ref h), (1, .int i)]) [0, 1, 2, 3, 4, 5] [1, 0, 2, 3] (by decide) rfl rfl rfl ?_
          exact ih4 1 ix5 ls lk F_lk (by first | (with_reducible assumption) | omega (splitDisjunctions := false) | assumption | omega | decide) (by first | (with_reducible assumption) | omega (splitDisjunctions := false) | assumption | omega | decide) (by first | (with_reducible assumption) | omega (splitDisjunctions := false) | assumption | omega | decide) (by first | (with_reducible assumption) | omega (splitDisjunctions := false) | assumption | omega | decide) (by (exact omg_b30a0bed9f hm9 tix2 twx3 tix5))
        · have twx4 : s.toInt = 0 := (ti_eq rfl (by decide)).mp wx4
          refine pb_aload_n (pc := 18) d_Mod_isTeller_18 2 rfl rfl ?_
          refine pb_iload_n (pc := 19) d_Mod_isTeller_19 1 rfl rfl ?_
          refine pb_callV (pc := 20) (I := i_Mod_isTeller) (qb := 0) (ci := 10) (nA := 1) (rest := []) (wr := []) d_Mod_isTeller_20 (g_Mod_tellerOf hl G h m_rels m_openRels m_closeRels m_openRel m_closeRel m_comment m_ends m_order m_tape m_count m_nameSize m_names m_size m_data m_looked m_file m_directory m_out m_row m_made m_length m_pressed m_mark m_idSize m_ids m_goalSize m_goals m_value m_faults m_reached v_thrown v_taped ls v_fileSize v_directorySize v_outSize v_rowSize v_bitAt v_bitEnd v_why v_madeSize v_firstCount v_secondCount v_heldBits v_heldCount v_pressedSize v_at v_bad v_markSize v_relationCount v_valueSize v_faultCount a_names a_nameSize lk a_rels a_count a_size k (by first | assumption | decide | omega) (by first | (with_reducible assumption) | omega (splitDisjunctions := false) | assumption | omega | decide) (by first | (with_reducible assumption) | omega (splitDisjunctions := false) | assumption | omega | decide) (by first | assumption | decide | omega) F_a_names F_lk F_a_rels) rfl rfl [0, 1, 2, 3, 4, 5] [] (by decide) rfl rfl rfl (by decide) (by decide) k_1561 rfl k_128 k_1558 k_1560 k_93 ⟨rfl, hy_Mod_tellerOf⟩ (by decide) rfl rfl (Nat.le_of_ble_eq_true rfl) (by decide) (fun v9 ux7 ch6 => ?_)
          obtain ⟨r_8, ls_9, lk_10⟩ := ux7
          obtain ⟨ech6, ch6⟩ := ch6
          have ech6 : v9 = some (.int r_8) := ech6
          subst ech6
          obtain ⟨fh11, fh12, fh13, fh14, fh15, fh16, fh17⟩ : (-1 ≤ r_8.toInt) ∧ (r_8.toInt < gx a_count 0) ∧ (0 ≤ r_8.toInt → isT a_nameSize a_names a_rels (gx a_count 0) k.toInt (r_8.toInt)) ∧ (0 ≤ ls_9.toInt) ∧ (ls_9.toInt ≤ 8000) ∧ (isF_ (cN_ (gx a_count 0) a_names a_nameSize) (gx a_nameSize k.toInt + 5) (tn6_ (cN_ (gx a_count 0) a_names a_nameSize) k.toInt) r_8.toInt) ∧ (sb_Fit lk_10) := ch6
          refine pb_eq (pc' := 23) (lo' := [(2, .int s), (3, .int k), (0, .ref h), (1, .int i)]) (rest' := [.int r_8]) (ws' := [(h, .inr (10, [.ref m_rels, .ref m_openRels, .ref m_closeRels, .ref m_openRel, .ref m_closeRel, .ref m_comment, .ref m_ends, .ref m_order, .int v_thrown, .int v_taped, .ref m_tape, .ref m_count, .ref m_nameSize, .ref m_names, .ref m_size, .ref m_data, .int ls_9, .ref m_looked, .int v_fileSize, .ref m_file, .int v_directorySize, .ref m_directory, .int v_outSize, .ref m_out, .int v_rowSize, .ref m_row, .int v_bitAt, .int v_bitEnd, .int v_why, .int v_madeSize, .ref m_made, .ref m_length, .int v_firstCount, .int v_secondCount, .int v_heldBits, .int v_heldCount, .int v_pressedSize, .ref m_pressed, .int v_at, .int v_bad, .int v_markSize, .ref m_mark, .int v_relationCount, .ref m_idSize, .ref m_ids, .ref m_goalSize, .ref m_goals, .int v_valueSize, .ref m_value, .int v_faultCount, .ref m_faults, .ref m_reached])), (m_names, .inl (G.2.1, 816, .inl a_names)), (m_nameSize, .inl (G.2.2.1, 34, .inl a_nameSize)), (m_looked, .inl (G.2.1, 40, .inl lk_10)), (m_rels, .inl (G.2.1, 5, .inl a_rels)), (m_count, .inl (G.2.2.1, 2, .inl a_count))]) ?_
          refine pb_iload_n (pc := 23) d_Mod_isTeller_23 3 rfl rfl ?_
          refine pb_icmp_ne (pc := 24) (tgt := 31) d_Mod_isTeller_24 (by decide) (fun wx18 => ?_) (fun wx18 => ?_)
          · have twx18 : ¬ r_8.toInt = i.toInt := fun z9 => wx18 ((ti_eq rfl rfl).mpr z9)
            refine pb_iconst (pc := 31) (v := 0) d_Mod_isTeller_31 (by decide) ?_
            refine pb_istore_n (pc := 32) (lo' := [(2, .int 0), (3, .int k), (0, .ref h), (1, .int i)]) d_Mod_isTeller_32 rfl (by decide) rfl ?_
            refine pb_iincN (pc := 33) (c := 1) d_Mod_isTeller_33 1 rfl (by decide) (by decide) (fun ix19 eix19 => ?_)
            have tix19 : ix19.toInt = k.toInt + 1 := t2_add eix19 rfl (by decide) (by first | omega | (have r90 := ti_rng k; have r91 := ti_rng ix19; have r92 := ti_rng i; omega))
            refine pb_eq (pc' := 36) (lo' := [(3, .int ix19), (2, .int 0), (0, .ref h), (1, .int i)]) (rest' := []) (ws' := [(h, .inr (10, [.ref m_rels, .ref m_openRels, .ref m_closeRels, .ref m_openRel, .ref m_closeRel, .ref m_comment, .ref m_ends, .ref m_order, .int v_thrown, .int v_taped, .ref m_tape, .ref m_count, .ref m_nameSize, .ref m_names, .ref m_size, .ref m_data, .int ls_9, .ref m_looked, .int v_fileSize, .ref m_file, .int v_directorySize, .ref m_directory, .int v_outSize, .ref m_out, .int v_rowSize, .ref m_row, .int v_bitAt, .int v_bitEnd, .int v_why, .int v_madeSize, .ref m_made, .ref m_length, .int v_firstCount, .int v_secondCount, .int v_heldBits, .int v_heldCount, .int v_pressedSize, .ref m_pressed, .int v_at, .int v_bad, .int v_markSize, .ref m_mark, .int v_relationCount, .ref m_idSize, .ref m_ids, .ref m_goalSize, .ref m_goals, .int v_valueSize, .ref m_value, .int v_faultCount, .ref m_faults, .ref m_reached])), (m_names, .inl (G.2.1, 816, .inl a_names)), (m_nameSize, .inl (G.2.2.1, 34, .inl a_nameSize)), (m_looked, .inl (G.2.1, 40, .inl lk_10)), (m_rels, .inl (G.2.1, 5, .inl a_rels)), (m_count, .inl (G.2.2.1, 2, .inl a_count))]) ?_
            refine pb_goto (pc := 36) (tgt := 4) d_Mod_isTeller_36 (by decide) ?_
            refine pb_re (ws' := [(h, .inr (10, [.ref m_rels, .ref m_openRels, .ref m_closeRels, .ref m_openRel, .ref m_closeRel, .ref m_comment, .ref m_ends, .ref m_order, .int v_thrown, .int v_taped, .ref m_tape, .ref m_count, .ref m_nameSize, .ref m_names, .ref m_size, .ref m_data, .int ls_9, .ref m_looked, .int v_fileSize, .ref m_file, .int v_directorySize, .ref m_directory, .int v_outSize, .ref m_out, .int v_rowSize, .ref m_row, .int v_bitAt, .int v_bitEnd, .int v_why, .int v_madeSize, .ref m_made, .ref m_length, .int v_firstCount, .int v_secondCount, .int v_heldBits, .int v_heldCount, .int v_pressedSize, .ref m_pressed, .int v_at, .int v_bad, .int v_markSize, .ref m_mark, .int v_relationCount, .ref m_idSize, .ref m_ids, .ref m_goalSize, .ref m_goals, .int v_valueSize, .ref m_value, .int v_faultCount, .ref m_faults, .ref m_reached])), (m_names, .inl (G.2.1, 816, .inl a_names)), (m_nameSize, .inl (G.2.2.1, 34, .inl a_nameSize)), (m_looked, .inl (G.2.1, 40, .inl lk_10)), (m_rels, .inl (G.2.1, 5, .inl a_rels)), (m_count, .inl (G.2.2.1, 2, .inl a_count))]) (lo' := [(2, .int 0), (3, .int ix19), (0, .ref h), (1, .int i)]) [0, 1, 2, 3, 4, 5] [1, 0, 2, 3] (by decide) rfl rfl rfl ?_
            exact ih4 0 ix19 ls_9 lk_10 fh17 (by first | (with_reducible assumption) | omega (splitDisjunctions := false) | assumption | (clear fh13 hm9; first | omega (splitDisjunctions := false) | omega) | omega | decide) (by first | (with_reducible assumption) | omega (splitDisjunctions := false) | assumption | (clear fh13 hm9; first | omega (splitDisjunctions := false) | omega) | omega | decide) (by first | (with_reducible assumption) | omega (splitDisjunctions := false) | assumption | (clear fh13 hm9; first | omega (splitDisjunctions := false) | omega) | omega | decide) (by first | (with_reducible assumption) | omega (splitDisjunctions := false) | assumption | (clear fh13 hm9; first | omega (splitDisjunctions := false) | omega) | omega | decide) (by first | (clear fh13; (exact omg_b30a0bed9f hm9 tix2 twx3 tix19)) | omega)
          · have twx18 : r_8.toInt = i.toInt := (ti_eq rfl rfl).mp wx18
            refine pb_iconst (pc := 27) (v := 1) d_Mod_isTeller_27 (by decide) ?_
            refine pb_goto (pc := 28) (tgt := 32) d_Mod_isTeller_28 (by decide) ?_
            refine pb_istore_n (pc := 32) (lo' := [(2, .int 1), (3, .int k), (0, .ref h), (1, .int i)]) d_Mod_isTeller_32 rfl (by decide) rfl ?_
            refine pb_iincN (pc := 33) (c := 1) d_Mod_isTeller_33 1 rfl (by decide) (by decide) (fun ix20 eix20 => ?_)
            have tix20 : ix20.toInt = k.toInt + 1 := t2_add eix20 rfl (by decide) (by first | omega | (have r90 := ti_rng k; have r91 := ti_rng ix20; have r92 := ti_rng i; omega))
            refine pb_eq (pc' := 36) (lo' := [(3, .int ix20), (2, .int 1), (0, .ref h), (1, .int i)]) (rest' := []) (ws' := [(h, .inr (10, [.ref m_rels, .ref m_openRels, .ref m_closeRels, .ref m_openRel, .ref m_closeRel, .ref m_comment, .ref m_ends, .ref m_order, .int v_thrown, .int v_taped, .ref m_tape, .ref m_count, .ref m_nameSize, .ref m_names, .ref m_size, .ref m_data, .int ls_9, .ref m_looked, .int v_fileSize, .ref m_file, .int v_directorySize, .ref m_directory, .int v_outSize, .ref m_out, .int v_rowSize, .ref m_row, .int v_bitAt, .int v_bitEnd, .int v_why, .int v_madeSize, .ref m_made, .ref m_length, .int v_firstCount, .int v_secondCount, .int v_heldBits, .int v_heldCount, .int v_pressedSize, .ref m_pressed, .int v_at, .int v_bad, .int v_markSize, .ref m_mark, .int v_relationCount, .ref m_idSize, .ref m_ids, .ref m_goalSize, .ref m_goals, .int v_valueSize, .ref m_value, .int v_faultCount, .ref m_faults, .ref m_reached])), (m_names, .inl (G.2.1, 816, .inl a_names)), (m_nameSize, .inl (G.2.2.1, 34, .inl a_nameSize)), (m_looked, .inl (G.2.1, 40, .inl lk_10)), (m_rels, .inl (G.2.1, 5, .inl a_rels)), (m_count, .inl (G.2.2.1, 2, .inl a_count))]) ?_
            refine pb_goto (pc := 36) (tgt := 4) d_Mod_isTeller_36 (by decide) ?_
            refine pb_re (ws' := [(h, .inr (10, [.ref m_rels, .ref m_openRels, .ref m_closeRels, .ref m_openRel, .ref m_closeRel, .ref m_comment, .ref m_ends, .ref m_order, .int v_thrown, .int v_taped, .ref m_tape, .ref m_count, .ref m_nameSize, .ref m_names, .ref m_size, .ref m_data, .int ls_9, .ref m_looked, .int v_fileSize, .ref m_file, .int v_directorySize, .ref m_directory, .int v_outSize, .ref m_out, .int v_rowSize, .ref m_row, .int v_bitAt, .int v_bitEnd, .int v_why, .int v_madeSize, .ref m_made, .ref m_length, .int v_firstCount, .int v_secondCount, .int v_heldBits, .int v_heldCount, .int v_pressedSize, .ref m_pressed, .int v_at, .int v_bad, .int v_markSize, .ref m_mark, .int v_relationCount, .ref m_idSize, .ref m_ids, .ref m_goalSize, .ref m_goals, .int v_valueSize, .ref m_value, .int v_faultCount, .ref m_faults, .ref m_reached])), (m_names, .inl (G.2.1, 816, .inl a_names)), (m_nameSize, .inl (G.2.2.1, 34, .inl a_nameSize)), (m_looked, .inl (G.2.1, 40, .inl lk_10)), (m_rels, .inl (G.2.1, 5, .inl a_rels)), (m_count, .inl (G.2.2.1, 2, .inl a_count))]) (lo' := [(2, .int 1), (3, .int ix20), (0, .ref h), (1, .int i)]) [0, 1, 2, 3, 4, 5] [1, 0, 2, 3] (by decide) rfl rfl rfl ?_
            exact ih4 1 ix20 ls_9 lk_10 fh17 (by first | (with_reducible assumption) | omega (splitDisjunctions := false) | assumption | (clear fh13 hm9; first | omega (splitDisjunctions := false) | omega) | omega | decide) (by first | (with_reducible assumption) | omega (splitDisjunctions := false) | assumption | (clear fh13 hm9; first | omega (splitDisjunctions := false) | omega) | omega | decide) (by first | (with_reducible assumption) | omega (splitDisjunctions := false) | assumption | (clear fh13 hm9; first | omega (splitDisjunctions := false) | omega) | omega | decide) (by first | (with_reducible assumption) | omega (splitDisjunctions := false) | assumption | (clear fh13 hm9; first | omega (splitDisjunctions := false) | omega) | omega | decide) (by first | (clear fh13; (exact omg_b30a0bed9f hm9 tix2 twx3 tix20)) | omega)
  refine pb_re (ws' := [(h, .inr (10, [.ref m_rels, .ref m_openRels, .ref m_closeRels, .ref m_openRel, .ref m_closeRel, .ref m_comment, .ref m_ends, .ref m_order, .int v_thrown, .int v_taped, .ref m_tape, .ref m_count, .ref m_nameSize, .ref m_names, .ref m_size, .ref m_data, .int v_lookedSize, .ref m_looked, .int v_fileSize, .ref m_file, .int v_directorySize, .ref m_directory, .int v_outSize, .ref m_out, .int v_rowSize, .ref m_row, .int v_bitAt, .int v_bitEnd, .int v_why, .int v_madeSize, .ref m_made, .ref m_length, .int v_firstCount, .int v_secondCount, .int v_heldBits, .int v_heldCount, .int v_pressedSize, .ref m_pressed, .int v_at, .int v_bad, .int v_markSize, .ref m_mark, .int v_relationCount, .ref m_idSize, .ref m_ids, .ref m_goalSize, .ref m_goals, .int v_valueSize, .ref m_value, .int v_faultCount, .ref m_faults, .ref m_reached])), (m_names, .inl (G.2.1, 816, .inl a_names)), (m_nameSize, .inl (G.2.2.1, 34, .inl a_nameSize)), (m_looked, .inl (G.2.1, 40, .inl a_looked)), (m_rels, .inl (G.2.1, 5, .inl a_rels)), (m_count, .inl (G.2.2.1, 2, .inl a_count))]) (lo' := [(2, .int 0), (3, .int 0), (0, .ref h), (1, .int i)]) [0, 1, 2, 3, 4, 5] [1, 0, 2, 3] (by decide) rfl rfl rfl ?_
  exact hL4_1 _ 0 0 v_lookedSize a_looked F_a_looked (by first | (with_reducible assumption) | omega (splitDisjunctions := false) | assumption | omega | decide) (by first | (with_reducible assumption) | omega (splitDisjunctions := false) | assumption | omega | decide) (by first | (with_reducible assumption) | omega (splitDisjunctions := false) | assumption | omega | decide) (by first | (with_reducible assumption) | omega (splitDisjunctions := false) | assumption | omega | decide) (Nat.lt_succ_self _)

theorem d_Mod_goalOf_0 : decode prog_12_method_82_code 0 = .ok (.aload_n 0, 1) := by decide +kernel
theorem d_Mod_goalOf_1 : decode prog_12_method_82_code 1 = .ok (.aload_n 0, 1) := by decide +kernel
theorem d_Mod_goalOf_2 : decode prog_12_method_82_code 2 = .ok (.getfield 90, 3) := by decide +kernel
theorem d_Mod_goalOf_5 : decode prog_12_method_82_code 5 = .ok (.bipush 24, 2) := by decide +kernel
theorem d_Mod_goalOf_7 : decode prog_12_method_82_code 7 = .ok (.iload_n 1, 1) := by decide +kernel
theorem d_Mod_goalOf_8 : decode prog_12_method_82_code 8 = .ok (.imul, 1) := by decide +kernel
theorem d_Mod_goalOf_9 : decode prog_12_method_82_code 9 = .ok (.aload_n 0, 1) := by decide +kernel
theorem d_Mod_goalOf_10 : decode prog_12_method_82_code 10 = .ok (.getfield 87, 3) := by decide +kernel
theorem d_Mod_goalOf_13 : decode prog_12_method_82_code 13 = .ok (.iload_n 1, 1) := by decide +kernel
theorem d_Mod_goalOf_14 : decode prog_12_method_82_code 14 = .ok (.iaload, 1) := by decide +kernel
theorem d_Mod_goalOf_15 : decode prog_12_method_82_code 15 = .ok (.invokevirtual 136, 3) := by decide +kernel
theorem d_Mod_goalOf_18 : decode prog_12_method_82_code 18 = .ok (.aload_n 0, 1) := by decide +kernel
theorem d_Mod_goalOf_19 : decode prog_12_method_82_code 19 = .ok (.iconst 0, 1) := by decide +kernel
theorem d_Mod_goalOf_20 : decode prog_12_method_82_code 20 = .ok (.invokevirtual 121, 3) := by decide +kernel
theorem d_Mod_goalOf_23 : decode prog_12_method_82_code 23 = .ok (.ireturn, 1) := by decide +kernel
abbrev y_Mod_goalOf : MethodName := ⟨"PackageBookModel", "goalOf", "(I)I"⟩
abbrev i_Mod_goalOf : pb_I := (y_Mod_goalOf, prog_12_method_82_code, 2, (some Jvm.ClassFile.FieldType.int), [], { frames := 2, cells := 0, slots := 0, locals := 48 })
set_option maxRecDepth 100000 in
set_option maxHeartbeats 4000000 in
theorem g_Mod_goalOf {l : Launch} (hl : l.stackTraces = false) (G : pb_G) (h : Nat) (m_rels : Nat) (m_openRels : Nat) (m_closeRels : Nat) (m_openRel : Nat) (m_closeRel : Nat) (m_comment : Nat) (m_ends : Nat) (m_order : Nat) (m_tape : Nat) (m_count : Nat) (m_nameSize : Nat) (m_names : Nat) (m_size : Nat) (m_data : Nat) (m_looked : Nat) (m_file : Nat) (m_directory : Nat) (m_out : Nat) (m_row : Nat) (m_made : Nat) (m_length : Nat) (m_pressed : Nat) (m_mark : Nat) (m_idSize : Nat) (m_ids : Nat) (m_goalSize : Nat) (m_goals : Nat) (m_value : Nat) (m_faults : Nat) (m_reached : Nat) (v_thrown : Int32) (v_taped : Int32) (v_lookedSize : Int32) (v_fileSize : Int32) (v_directorySize : Int32) (v_outSize : Int32) (v_rowSize : Int32) (v_bitAt : Int32) (v_bitEnd : Int32) (v_why : Int32) (v_madeSize : Int32) (v_firstCount : Int32) (v_secondCount : Int32) (v_heldBits : Int32) (v_heldCount : Int32) (v_pressedSize : Int32) (v_at : Int32) (v_bad : Int32) (v_markSize : Int32) (v_relationCount : Int32) (v_valueSize : Int32) (v_faultCount : Int32) (a_goals : Nat → Int32) (a_goalSize : Nat → Int32) (a_names : Nat → Int32) (a_nameSize : Nat → Int32) (a_looked : Nat → Int32) (a_count : Nat → Int32) (a_size : Nat → Int32) (k : Int32) (I : ms_I 0 (gx a_count 0) a_nameSize a_size a_names) (GO : ∀ x : Int, 0 ≤ x → x < 200 → 0 ≤ gx a_goalSize x ∧ gx a_goalSize x ≤ 24) (k0 : 0 ≤ k.toInt) (k1 : k.toInt < 200) (F_a_goals : sb_Fit a_goals) (F_a_names : sb_Fit a_names) (F_a_looked : sb_Fit a_looked) : Cn l G i_Mod_goalOf [.ref h, .int k] [(h, .inr (10, [.ref m_rels, .ref m_openRels, .ref m_closeRels, .ref m_openRel, .ref m_closeRel, .ref m_comment, .ref m_ends, .ref m_order, .int v_thrown, .int v_taped, .ref m_tape, .ref m_count, .ref m_nameSize, .ref m_names, .ref m_size, .ref m_data, .int v_lookedSize, .ref m_looked, .int v_fileSize, .ref m_file, .int v_directorySize, .ref m_directory, .int v_outSize, .ref m_out, .int v_rowSize, .ref m_row, .int v_bitAt, .int v_bitEnd, .int v_why, .int v_madeSize, .ref m_made, .ref m_length, .int v_firstCount, .int v_secondCount, .int v_heldBits, .int v_heldCount, .int v_pressedSize, .ref m_pressed, .int v_at, .int v_bad, .int v_markSize, .ref m_mark, .int v_relationCount, .ref m_idSize, .ref m_ids, .ref m_goalSize, .ref m_goals, .int v_valueSize, .ref m_value, .int v_faultCount, .ref m_faults, .ref m_reached])), (m_goals, .inl (G.2.1, 4800, .inl a_goals)), (m_goalSize, .inl (G.2.2.1, 200, .inl a_goalSize)), (m_names, .inl (G.2.1, 816, .inl a_names)), (m_nameSize, .inl (G.2.2.1, 34, .inl a_nameSize)), (m_looked, .inl (G.2.1, 40, .inl a_looked)), (m_count, .inl (G.2.2.1, 2, .inl a_count))] (S := Int32 × Int32 × (Nat → Int32)) (fun rv_ u => rv_ = some (.int u.1) ∧ (-1 ≤ u.1.toInt) ∧ (u.1.toInt < gx a_count 0) ∧ (0 ≤ u.2.1.toInt) ∧ (u.2.1.toInt ≤ 8000) ∧ (isF_ (cN_ (gx a_count 0) a_names a_nameSize) (gx a_goalSize k.toInt) (fun j => gx a_goals (24 * k.toInt + j)) u.1.toInt) ∧ (sb_Fit u.2.2)) (fun u => [(h, .inr (10, [.ref m_rels, .ref m_openRels, .ref m_closeRels, .ref m_openRel, .ref m_closeRel, .ref m_comment, .ref m_ends, .ref m_order, .int v_thrown, .int v_taped, .ref m_tape, .ref m_count, .ref m_nameSize, .ref m_names, .ref m_size, .ref m_data, .int u.2.1, .ref m_looked, .int v_fileSize, .ref m_file, .int v_directorySize, .ref m_directory, .int v_outSize, .ref m_out, .int v_rowSize, .ref m_row, .int v_bitAt, .int v_bitEnd, .int v_why, .int v_madeSize, .ref m_made, .ref m_length, .int v_firstCount, .int v_secondCount, .int v_heldBits, .int v_heldCount, .int v_pressedSize, .ref m_pressed, .int v_at, .int v_bad, .int v_markSize, .ref m_mark, .int v_relationCount, .ref m_idSize, .ref m_ids, .ref m_goalSize, .ref m_goals, .int v_valueSize, .ref m_value, .int v_faultCount, .ref m_faults, .ref m_reached])), (m_goals, .inl (G.2.1, 4800, .inl a_goals)), (m_goalSize, .inl (G.2.2.1, 200, .inl a_goalSize)), (m_names, .inl (G.2.1, 816, .inl a_names)), (m_nameSize, .inl (G.2.2.1, 34, .inl a_nameSize)), (m_looked, .inl (G.2.1, 40, .inl u.2.2)), (m_count, .inl (G.2.2.1, 2, .inl a_count))]) := by
  refine Cn.of hl (by decide +kernel) rfl (Nat.le_of_ble_eq_true rfl) (fun M hQ => ?_)
  refine pb_eq (pc' := 0) (lo' := [(0, .ref h), (1, .int k)]) (rest' := []) (ws' := [(h, .inr (10, [.ref m_rels, .ref m_openRels, .ref m_closeRels, .ref m_openRel, .ref m_closeRel, .ref m_comment, .ref m_ends, .ref m_order, .int v_thrown, .int v_taped, .ref m_tape, .ref m_count, .ref m_nameSize, .ref m_names, .ref m_size, .ref m_data, .int v_lookedSize, .ref m_looked, .int v_fileSize, .ref m_file, .int v_directorySize, .ref m_directory, .int v_outSize, .ref m_out, .int v_rowSize, .ref m_row, .int v_bitAt, .int v_bitEnd, .int v_why, .int v_madeSize, .ref m_made, .ref m_length, .int v_firstCount, .int v_secondCount, .int v_heldBits, .int v_heldCount, .int v_pressedSize, .ref m_pressed, .int v_at, .int v_bad, .int v_markSize, .ref m_mark, .int v_relationCount, .ref m_idSize, .ref m_ids, .ref m_goalSize, .ref m_goals, .int v_valueSize, .ref m_value, .int v_faultCount, .ref m_faults, .ref m_reached])), (m_goals, .inl (G.2.1, 4800, .inl a_goals)), (m_goalSize, .inl (G.2.2.1, 200, .inl a_goalSize)), (m_names, .inl (G.2.1, 816, .inl a_names)), (m_nameSize, .inl (G.2.2.1, 34, .inl a_nameSize)), (m_looked, .inl (G.2.1, 40, .inl a_looked)), (m_count, .inl (G.2.2.1, 2, .inl a_count))]) ?_
  have zl0 : (0 : Int32).toInt = 0 := by decide
  have zl1 : (1 : Int32).toInt = 1 := by decide
  have zl24 : (24 : Int32).toInt = 24 := by decide
  have g5 := GO k.toInt k0 k1
  refine pb_aload_n (pc := 0) d_Mod_goalOf_0 0 rfl rfl ?_
  refine pb_aload_n (pc := 1) d_Mod_goalOf_1 0 rfl rfl ?_
  refine pb_get (pc := 2) d_Mod_goalOf_2 0 46 rfl rfl (by decide) in_Mod k_1192 rfl ?_
  refine pb_bipush (pc := 5) (v := 24) d_Mod_goalOf_5 (by decide) ?_
  refine pb_iload_n (pc := 7) d_Mod_goalOf_7 1 rfl rfl ?_
  refine pb_imul (pc := 8) d_Mod_goalOf_8 ?_
  refine pb_topi (fun ix1 eix1 => ?_)
  try have tix1 : ix1.toInt = 24 * k.toInt := ti_mul eix1 (by decide) rfl (by omega) (by omega)
  refine pb_aload_n (pc := 9) d_Mod_goalOf_9 0 rfl rfl ?_
  refine pb_get (pc := 10) d_Mod_goalOf_10 0 45 rfl rfl (by decide) in_Mod k_1191 rfl ?_
  refine pb_iload_n (pc := 13) d_Mod_goalOf_13 1 rfl rfl ?_
  refine pb_iald (pc := 14) d_Mod_goalOf_14 2 rfl (vp_in_iff.mpr (by omega)) ?_
  refine pb_topi (fun ix2 eix2 => ?_)
  have tix2 : ix2.toInt = gx a_goalSize (k.toInt) := gx_ld eix2 rfl
  refine pb_callV (pc := 15) (I := i_Mod_goalOf) (qb := 0) (ci := 10) (nA := 3) (rest := []) (wr := [(m_goalSize, .inl (G.2.2.1, 200, .inl a_goalSize)), (m_names, .inl (G.2.1, 816, .inl a_names)), (m_nameSize, .inl (G.2.2.1, 34, .inl a_nameSize)), (m_count, .inl (G.2.2.1, 2, .inl a_count))]) d_Mod_goalOf_15 (g_Mod_look hl G h m_rels m_openRels m_closeRels m_openRel m_closeRel m_comment m_ends m_order m_tape m_count m_nameSize m_names m_size m_data m_looked m_file m_directory m_out m_row m_made m_length m_pressed m_mark m_idSize m_ids m_goalSize m_goals m_value m_faults m_reached v_thrown v_taped v_lookedSize v_fileSize v_directorySize v_outSize v_rowSize v_bitAt v_bitEnd v_why v_madeSize v_firstCount v_secondCount v_heldBits v_heldCount v_pressedSize v_at v_bad v_markSize v_relationCount v_valueSize v_faultCount a_looked m_goals 4800 a_goals ix1 ix2 (by first | (with_reducible assumption) | omega (splitDisjunctions := false) | assumption | omega | decide) (by first | (with_reducible assumption) | omega (splitDisjunctions := false) | assumption | omega | decide) (by first | (with_reducible assumption) | omega (splitDisjunctions := false) | assumption | omega | decide) F_a_looked F_a_goals) rfl rfl [0, 5, 1] [2, 3, 4, 6] (by decide) rfl rfl rfl (by decide) (by decide) k_1329 rfl k_128 k_1326 k_1328 k_53 ⟨rfl, hy_Mod_look⟩ (by decide) rfl rfl (Nat.le_of_ble_eq_true rfl) (by decide) (fun v9 ux4 ch3 => ?_)
  obtain ⟨g_5, rfl⟩ : ∃ z9, z9 = ux4 := ⟨_, rfl⟩
  obtain ⟨ech3, ch3⟩ := ch3
  have ech3 : v9 = none := ech3
  subst ech3
  obtain ⟨fh6, fh7⟩ : (∀ k : Int, 0 ≤ k → k < ix2.toInt → k < 40 → gx g_5 k = gx a_goals (ix1.toInt + k)) ∧ (sb_Fit g_5) := ch3
  have lkF := fh6
  refine pb_eq (pc' := 18) (lo' := [(0, .ref h), (1, .int k)]) (rest' := []) (ws' := [(m_goalSize, .inl (G.2.2.1, 200, .inl a_goalSize)), (m_names, .inl (G.2.1, 816, .inl a_names)), (m_nameSize, .inl (G.2.2.1, 34, .inl a_nameSize)), (m_count, .inl (G.2.2.1, 2, .inl a_count)), (h, .inr (10, [.ref m_rels, .ref m_openRels, .ref m_closeRels, .ref m_openRel, .ref m_closeRel, .ref m_comment, .ref m_ends, .ref m_order, .int v_thrown, .int v_taped, .ref m_tape, .ref m_count, .ref m_nameSize, .ref m_names, .ref m_size, .ref m_data, .int ix2, .ref m_looked, .int v_fileSize, .ref m_file, .int v_directorySize, .ref m_directory, .int v_outSize, .ref m_out, .int v_rowSize, .ref m_row, .int v_bitAt, .int v_bitEnd, .int v_why, .int v_madeSize, .ref m_made, .ref m_length, .int v_firstCount, .int v_secondCount, .int v_heldBits, .int v_heldCount, .int v_pressedSize, .ref m_pressed, .int v_at, .int v_bad, .int v_markSize, .ref m_mark, .int v_relationCount, .ref m_idSize, .ref m_ids, .ref m_goalSize, .ref m_goals, .int v_valueSize, .ref m_value, .int v_faultCount, .ref m_faults, .ref m_reached])), (m_looked, .inl (G.2.1, 40, .inl g_5)), (m_goals, .inl (G.2.1, 4800, .inl a_goals))]) ?_
  refine pb_aload_n (pc := 18) d_Mod_goalOf_18 0 rfl rfl ?_
  refine pb_iconst (pc := 19) (v := 0) d_Mod_goalOf_19 (by decide) ?_
  refine pb_callV (pc := 20) (I := i_Mod_goalOf) (qb := 4) (ci := 10) (nA := 1) (rest := []) (wr := [(m_goalSize, .inl (G.2.2.1, 200, .inl a_goalSize)), (m_goals, .inl (G.2.1, 4800, .inl a_goals))]) d_Mod_goalOf_20 (g_Mod_find hl G h m_rels m_openRels m_closeRels m_openRel m_closeRel m_comment m_ends m_order m_tape m_count m_nameSize m_names m_size m_data m_looked m_file m_directory m_out m_row m_made m_length m_pressed m_mark m_idSize m_ids m_goalSize m_goals m_value m_faults m_reached v_thrown v_taped ix2 v_fileSize v_directorySize v_outSize v_rowSize v_bitAt v_bitEnd v_why v_madeSize v_firstCount v_secondCount v_heldBits v_heldCount v_pressedSize v_at v_bad v_markSize v_relationCount v_valueSize v_faultCount a_count a_nameSize a_names g_5 0 (by first | (with_reducible assumption) | omega (splitDisjunctions := false) | assumption | omega | decide) (by first | (with_reducible assumption) | omega (splitDisjunctions := false) | assumption | omega | decide) (by simpa only [zl0, Int.mul_zero] using fun i a0 a1 => (⟨(I.2.2.1 i a0 a1).1, (I.2.2.1 i a0 a1).2.1⟩ : 1 ≤ gx a_nameSize (0 + i) ∧ gx a_nameSize (0 + i) ≤ 24)) (by simpa only [zl0] using I.1) (by simpa only [zl0] using I.2.1) (by first | (with_reducible assumption) | omega (splitDisjunctions := false) | assumption | omega | decide) (by first | (with_reducible assumption) | omega (splitDisjunctions := false) | assumption | omega | decide) F_a_names fh7) rfl rfl [4, 3, 2, 1, 5] [0, 6] (by decide) rfl rfl rfl (by decide) (by decide) k_1337 rfl k_128 k_1334 k_1336 k_55 ⟨rfl, hy_Mod_find⟩ (by decide) rfl rfl (Nat.le_of_ble_eq_true rfl) (by decide) (fun v9 ux9 ch8 => ?_)
  obtain ⟨r_10, rfl⟩ : ∃ z9, z9 = ux9 := ⟨_, rfl⟩
  obtain ⟨ech8, ch8⟩ := ch8
  have ech8 : v9 = some (.int r_10) := ech8
  subst ech8
  obtain ⟨fh11, fh12, fh13, fh14⟩ : (-1 ≤ r_10.toInt) ∧ (r_10.toInt < gx a_count (0 : Int32).toInt) ∧ (0 ≤ r_10.toInt → nl_eq a_nameSize a_names ((17 * (0 : Int32).toInt + r_10.toInt)) ix2.toInt g_5) ∧ (r_10.toInt = -1 → ∀ i : Int, 0 ≤ i → i < gx a_count (0 : Int32).toInt → ¬ nl_eq a_nameSize a_names (17 * (0 : Int32).toInt + i) ix2.toInt g_5) := ch8
  have fp1 := fh12
  simp only [zl0] at fp1
  have fp0 := fh11
  have fnd := fh13
  have fn3 := fh14
  simp only [zl0, Int.mul_zero, Int.zero_add] at fnd fn3
  refine pb_eq (pc' := 23) (lo' := [(0, .ref h), (1, .int k)]) (rest' := [.int r_10]) (ws' := [(m_goalSize, .inl (G.2.2.1, 200, .inl a_goalSize)), (m_goals, .inl (G.2.1, 4800, .inl a_goals)), (h, .inr (10, [.ref m_rels, .ref m_openRels, .ref m_closeRels, .ref m_openRel, .ref m_closeRel, .ref m_comment, .ref m_ends, .ref m_order, .int v_thrown, .int v_taped, .ref m_tape, .ref m_count, .ref m_nameSize, .ref m_names, .ref m_size, .ref m_data, .int ix2, .ref m_looked, .int v_fileSize, .ref m_file, .int v_directorySize, .ref m_directory, .int v_outSize, .ref m_out, .int v_rowSize, .ref m_row, .int v_bitAt, .int v_bitEnd, .int v_why, .int v_madeSize, .ref m_made, .ref m_length, .int v_firstCount, .int v_secondCount, .int v_heldBits, .int v_heldCount, .int v_pressedSize, .ref m_pressed, .int v_at, .int v_bad, .int v_markSize, .ref m_mark, .int v_relationCount, .ref m_idSize, .ref m_ids, .ref m_goalSize, .ref m_goals, .int v_valueSize, .ref m_value, .int v_faultCount, .ref m_faults, .ref m_reached])), (m_count, .inl (G.2.2.1, 2, .inl a_count)), (m_nameSize, .inl (G.2.2.1, 34, .inl a_nameSize)), (m_names, .inl (G.2.1, 816, .inl a_names)), (m_looked, .inl (G.2.1, 40, .inl g_5))]) ?_
  exact pb_iret (pc := 23) hQ d_Mod_goalOf_23 rfl rfl (r_10, ix2, g_5) ⟨rfl, (by (try dsimp only); first | done | (with_reducible assumption) | omega (splitDisjunctions := false) | assumption | (clear fh13 fh14 fnd fn3; first | omega (splitDisjunctions := false) | omega) | omega | decide), (by (try dsimp only); first | done | (with_reducible assumption) | omega (splitDisjunctions := false) | assumption | (clear fh13 fh14 fnd fn3; first | omega (splitDisjunctions := false) | omega) | omega | decide), (by (try dsimp only); first | done | (with_reducible assumption) | omega (splitDisjunctions := false) | assumption | (clear fh13 fh14 fnd fn3; first | omega (splitDisjunctions := false) | omega) | omega | decide), (by (try dsimp only); first | done | (with_reducible assumption) | omega (splitDisjunctions := false) | assumption | (clear fh13 fh14 fnd fn3; first | omega (splitDisjunctions := false) | omega) | omega | decide), (show isF_ (cN_ (gx a_count 0) a_names a_nameSize) (gx a_goalSize k.toInt) (fun j => gx a_goals (24 * k.toInt + j)) r_10.toInt from (by have q9 := isF_m fp0 fp1 fnd fn3; rw [show ix2.toInt = gx a_goalSize k.toInt by omega] at q9; exact isF_cg q9 (fun j j0 j1 => by rw [lkF j j0 (by omega) (by omega)]; exact congrArg (gx a_goals) (by omega)))), fh7⟩ [2, 1, 0, 5, 4, 6, 3] (by decide) rfl rfl (by decide) (by decide)

theorem d_Mod_isAgain_0 : decode prog_12_method_83_code 0 = .ok (.iconst 0, 1) := by decide +kernel
theorem d_Mod_isAgain_1 : decode prog_12_method_83_code 1 = .ok (.istore_n 2, 1) := by decide +kernel
theorem d_Mod_isAgain_2 : decode prog_12_method_83_code 2 = .ok (.iconst 0, 1) := by decide +kernel
theorem d_Mod_isAgain_3 : decode prog_12_method_83_code 3 = .ok (.istore_n 3, 1) := by decide +kernel
theorem d_Mod_isAgain_4 : decode prog_12_method_83_code 4 = .ok (.iload_n 3, 1) := by decide +kernel
theorem d_Mod_isAgain_5 : decode prog_12_method_83_code 5 = .ok (.iload_n 1, 1) := by decide +kernel
theorem d_Mod_isAgain_6 : decode prog_12_method_83_code 6 = .ok (.if_icmp .ge 105, 3) := by decide +kernel
theorem d_Mod_isAgain_111 : decode prog_12_method_83_code 111 = .ok (.iload_n 2, 1) := by decide +kernel
theorem d_Mod_isAgain_112 : decode prog_12_method_83_code 112 = .ok (.ireturn, 1) := by decide +kernel
theorem d_Mod_isAgain_31 : decode prog_12_method_83_code 31 = .ok (.iconst 0, 1) := by decide +kernel
theorem d_Mod_isAgain_32 : decode prog_12_method_83_code 32 = .ok (.istore 5, 2) := by decide +kernel
theorem d_Mod_isAgain_34 : decode prog_12_method_83_code 34 = .ok (.iload 4, 2) := by decide +kernel
theorem d_Mod_isAgain_36 : decode prog_12_method_83_code 36 = .ok (.ifCond .eq 54, 3) := by decide +kernel
theorem d_Mod_isAgain_90 : decode prog_12_method_83_code 90 = .ok (.iload_n 2, 1) := by decide +kernel
theorem d_Mod_isAgain_91 : decode prog_12_method_83_code 91 = .ok (.ifCond .ne 8, 3) := by decide +kernel
theorem d_Mod_isAgain_99 : decode prog_12_method_83_code 99 = .ok (.iconst 1, 1) := by decide +kernel
theorem d_Mod_isAgain_100 : decode prog_12_method_83_code 100 = .ok (.goto 4, 3) := by decide +kernel
theorem d_Mod_isAgain_104 : decode prog_12_method_83_code 104 = .ok (.istore_n 2, 1) := by decide +kernel
theorem d_Mod_isAgain_105 : decode prog_12_method_83_code 105 = .ok (.iinc 3 1, 3) := by decide +kernel
theorem d_Mod_isAgain_108 : decode prog_12_method_83_code 108 = .ok (.goto (-104), 3) := by decide +kernel
theorem d_Mod_isAgain_94 : decode prog_12_method_83_code 94 = .ok (.iload 4, 2) := by decide +kernel
theorem d_Mod_isAgain_96 : decode prog_12_method_83_code 96 = .ok (.ifCond .eq 7, 3) := by decide +kernel
theorem d_Mod_isAgain_103 : decode prog_12_method_83_code 103 = .ok (.iconst 0, 1) := by decide +kernel
theorem d_Mod_isAgain_39 : decode prog_12_method_83_code 39 = .ok (.iload 5, 2) := by decide +kernel
theorem d_Mod_isAgain_41 : decode prog_12_method_83_code 41 = .ok (.aload_n 0, 1) := by decide +kernel
theorem d_Mod_isAgain_42 : decode prog_12_method_83_code 42 = .ok (.getfield 81, 3) := by decide +kernel
theorem d_Mod_isAgain_45 : decode prog_12_method_83_code 45 = .ok (.iload_n 1, 1) := by decide +kernel
theorem d_Mod_isAgain_46 : decode prog_12_method_83_code 46 = .ok (.iaload, 1) := by decide +kernel
theorem d_Mod_isAgain_47 : decode prog_12_method_83_code 47 = .ok (.if_icmp .ge 43, 3) := by decide +kernel
theorem d_Mod_isAgain_50 : decode prog_12_method_83_code 50 = .ok (.aload_n 0, 1) := by decide +kernel
theorem d_Mod_isAgain_51 : decode prog_12_method_83_code 51 = .ok (.getfield 84, 3) := by decide +kernel
theorem d_Mod_isAgain_54 : decode prog_12_method_83_code 54 = .ok (.bipush 8, 2) := by decide +kernel
theorem d_Mod_isAgain_56 : decode prog_12_method_83_code 56 = .ok (.iload_n 3, 1) := by decide +kernel
theorem d_Mod_isAgain_57 : decode prog_12_method_83_code 57 = .ok (.imul, 1) := by decide +kernel
theorem d_Mod_isAgain_58 : decode prog_12_method_83_code 58 = .ok (.iload 5, 2) := by decide +kernel
theorem d_Mod_isAgain_60 : decode prog_12_method_83_code 60 = .ok (.iadd, 1) := by decide +kernel
theorem d_Mod_isAgain_61 : decode prog_12_method_83_code 61 = .ok (.baload, 1) := by decide +kernel
theorem d_Mod_isAgain_62 : decode prog_12_method_83_code 62 = .ok (.aload_n 0, 1) := by decide +kernel
theorem d_Mod_isAgain_63 : decode prog_12_method_83_code 63 = .ok (.getfield 84, 3) := by decide +kernel
theorem d_Mod_isAgain_66 : decode prog_12_method_83_code 66 = .ok (.bipush 8, 2) := by decide +kernel
theorem d_Mod_isAgain_68 : decode prog_12_method_83_code 68 = .ok (.iload_n 1, 1) := by decide +kernel
theorem d_Mod_isAgain_69 : decode prog_12_method_83_code 69 = .ok (.imul, 1) := by decide +kernel
theorem d_Mod_isAgain_70 : decode prog_12_method_83_code 70 = .ok (.iload 5, 2) := by decide +kernel
theorem d_Mod_isAgain_72 : decode prog_12_method_83_code 72 = .ok (.iadd, 1) := by decide +kernel
theorem d_Mod_isAgain_73 : decode prog_12_method_83_code 73 = .ok (.baload, 1) := by decide +kernel
theorem d_Mod_isAgain_74 : decode prog_12_method_83_code 74 = .ok (.if_icmp .ne 7, 3) := by decide +kernel
theorem d_Mod_isAgain_81 : decode prog_12_method_83_code 81 = .ok (.iconst 0, 1) := by decide +kernel
theorem d_Mod_isAgain_82 : decode prog_12_method_83_code 82 = .ok (.istore 4, 2) := by decide +kernel
theorem d_Mod_isAgain_84 : decode prog_12_method_83_code 84 = .ok (.iinc 5 1, 3) := by decide +kernel
theorem d_Mod_isAgain_87 : decode prog_12_method_83_code 87 = .ok (.goto (-53), 3) := by decide +kernel
theorem d_Mod_isAgain_77 : decode prog_12_method_83_code 77 = .ok (.iconst 1, 1) := by decide +kernel
theorem d_Mod_isAgain_78 : decode prog_12_method_83_code 78 = .ok (.goto 4, 3) := by decide +kernel
theorem d_Mod_isAgain_9 : decode prog_12_method_83_code 9 = .ok (.aload_n 0, 1) := by decide +kernel
theorem d_Mod_isAgain_10 : decode prog_12_method_83_code 10 = .ok (.getfield 81, 3) := by decide +kernel
theorem d_Mod_isAgain_13 : decode prog_12_method_83_code 13 = .ok (.iload_n 3, 1) := by decide +kernel
theorem d_Mod_isAgain_14 : decode prog_12_method_83_code 14 = .ok (.iaload, 1) := by decide +kernel
theorem d_Mod_isAgain_15 : decode prog_12_method_83_code 15 = .ok (.aload_n 0, 1) := by decide +kernel
theorem d_Mod_isAgain_16 : decode prog_12_method_83_code 16 = .ok (.getfield 81, 3) := by decide +kernel
theorem d_Mod_isAgain_19 : decode prog_12_method_83_code 19 = .ok (.iload_n 1, 1) := by decide +kernel
theorem d_Mod_isAgain_20 : decode prog_12_method_83_code 20 = .ok (.iaload, 1) := by decide +kernel
theorem d_Mod_isAgain_21 : decode prog_12_method_83_code 21 = .ok (.if_icmp .ne 7, 3) := by decide +kernel
theorem d_Mod_isAgain_28 : decode prog_12_method_83_code 28 = .ok (.iconst 0, 1) := by decide +kernel
theorem d_Mod_isAgain_29 : decode prog_12_method_83_code 29 = .ok (.istore 4, 2) := by decide +kernel
theorem d_Mod_isAgain_24 : decode prog_12_method_83_code 24 = .ok (.iconst 1, 1) := by decide +kernel
theorem d_Mod_isAgain_25 : decode prog_12_method_83_code 25 = .ok (.goto 4, 3) := by decide +kernel
abbrev y_Mod_isAgain : MethodName := ⟨"PackageBookModel", "isAgain", "(I)Z"⟩
abbrev i_Mod_isAgain : pb_I := (y_Mod_isAgain, prog_12_method_83_code, 6, (some Jvm.ClassFile.FieldType.boolean), [], { frames := 0, cells := 0, slots := 0, locals := 0 })
set_option maxRecDepth 100000 in
set_option maxHeartbeats 4000000 in
theorem g_Mod_isAgain {l : Launch} (hl : l.stackTraces = false) (G : pb_G) (h : Nat) (m_rels : Nat) (m_openRels : Nat) (m_closeRels : Nat) (m_openRel : Nat) (m_closeRel : Nat) (m_comment : Nat) (m_ends : Nat) (m_order : Nat) (m_tape : Nat) (m_count : Nat) (m_nameSize : Nat) (m_names : Nat) (m_size : Nat) (m_data : Nat) (m_looked : Nat) (m_file : Nat) (m_directory : Nat) (m_out : Nat) (m_row : Nat) (m_made : Nat) (m_length : Nat) (m_pressed : Nat) (m_mark : Nat) (m_idSize : Nat) (m_ids : Nat) (m_goalSize : Nat) (m_goals : Nat) (m_value : Nat) (m_faults : Nat) (m_reached : Nat) (v_thrown : Int32) (v_taped : Int32) (v_lookedSize : Int32) (v_fileSize : Int32) (v_directorySize : Int32) (v_outSize : Int32) (v_rowSize : Int32) (v_bitAt : Int32) (v_bitEnd : Int32) (v_why : Int32) (v_madeSize : Int32) (v_firstCount : Int32) (v_secondCount : Int32) (v_heldBits : Int32) (v_heldCount : Int32) (v_pressedSize : Int32) (v_at : Int32) (v_bad : Int32) (v_markSize : Int32) (v_relationCount : Int32) (v_valueSize : Int32) (v_faultCount : Int32) (a_idSize : Nat → Int32) (a_ids : Nat → Int32) (k : Int32) (ID : ∀ x : Int, 0 ≤ x → x < 200 → 0 ≤ gx a_idSize x ∧ gx a_idSize x ≤ 8) (k0 : 0 ≤ k.toInt) (k1 : k.toInt < 200) (F_a_ids : sb_Fit a_ids) : Cn l G i_Mod_isAgain [.ref h, .int k] [(h, .inr (10, [.ref m_rels, .ref m_openRels, .ref m_closeRels, .ref m_openRel, .ref m_closeRel, .ref m_comment, .ref m_ends, .ref m_order, .int v_thrown, .int v_taped, .ref m_tape, .ref m_count, .ref m_nameSize, .ref m_names, .ref m_size, .ref m_data, .int v_lookedSize, .ref m_looked, .int v_fileSize, .ref m_file, .int v_directorySize, .ref m_directory, .int v_outSize, .ref m_out, .int v_rowSize, .ref m_row, .int v_bitAt, .int v_bitEnd, .int v_why, .int v_madeSize, .ref m_made, .ref m_length, .int v_firstCount, .int v_secondCount, .int v_heldBits, .int v_heldCount, .int v_pressedSize, .ref m_pressed, .int v_at, .int v_bad, .int v_markSize, .ref m_mark, .int v_relationCount, .ref m_idSize, .ref m_ids, .ref m_goalSize, .ref m_goals, .int v_valueSize, .ref m_value, .int v_faultCount, .ref m_faults, .ref m_reached])), (m_idSize, .inl (G.2.2.1, 200, .inl a_idSize)), (m_ids, .inl (G.2.1, 1600, .inl a_ids))] (S := Int32) (fun rv_ u => rv_ = some (.int u) ∧ (u.toInt = 0 ∨ u.toInt = 1)) (fun u => [(h, .inr (10, [.ref m_rels, .ref m_openRels, .ref m_closeRels, .ref m_openRel, .ref m_closeRel, .ref m_comment, .ref m_ends, .ref m_order, .int v_thrown, .int v_taped, .ref m_tape, .ref m_count, .ref m_nameSize, .ref m_names, .ref m_size, .ref m_data, .int v_lookedSize, .ref m_looked, .int v_fileSize, .ref m_file, .int v_directorySize, .ref m_directory, .int v_outSize, .ref m_out, .int v_rowSize, .ref m_row, .int v_bitAt, .int v_bitEnd, .int v_why, .int v_madeSize, .ref m_made, .ref m_length, .int v_firstCount, .int v_secondCount, .int v_heldBits, .int v_heldCount, .int v_pressedSize, .ref m_pressed, .int v_at, .int v_bad, .int v_markSize, .ref m_mark, .int v_relationCount, .ref m_idSize, .ref m_ids, .ref m_goalSize, .ref m_goals, .int v_valueSize, .ref m_value, .int v_faultCount, .ref m_faults, .ref m_reached])), (m_idSize, .inl (G.2.2.1, 200, .inl a_idSize)), (m_ids, .inl (G.2.1, 1600, .inl a_ids))]) := by
  refine Cn.of hl (by decide +kernel) rfl (Nat.le_of_ble_eq_true rfl) (fun M hQ => ?_)
  refine pb_eq (pc' := 0) (lo' := [(0, .ref h), (1, .int k)]) (rest' := []) (ws' := [(h, .inr (10, [.ref m_rels, .ref m_openRels, .ref m_closeRels, .ref m_openRel, .ref m_closeRel, .ref m_comment, .ref m_ends, .ref m_order, .int v_thrown, .int v_taped, .ref m_tape, .ref m_count, .ref m_nameSize, .ref m_names, .ref m_size, .ref m_data, .int v_lookedSize, .ref m_looked, .int v_fileSize, .ref m_file, .int v_directorySize, .ref m_directory, .int v_outSize, .ref m_out, .int v_rowSize, .ref m_row, .int v_bitAt, .int v_bitEnd, .int v_why, .int v_madeSize, .ref m_made, .ref m_length, .int v_firstCount, .int v_secondCount, .int v_heldBits, .int v_heldCount, .int v_pressedSize, .ref m_pressed, .int v_at, .int v_bad, .int v_markSize, .ref m_mark, .int v_relationCount, .ref m_idSize, .ref m_ids, .ref m_goalSize, .ref m_goals, .int v_valueSize, .ref m_value, .int v_faultCount, .ref m_faults, .ref m_reached])), (m_idSize, .inl (G.2.2.1, 200, .inl a_idSize)), (m_ids, .inl (G.2.1, 1600, .inl a_ids))]) ?_
  have zl0 : (0 : Int32).toInt = 0 := by decide
  have zl1 : (1 : Int32).toInt = 1 := by decide
  have zl8 : (8 : Int32).toInt = 8 := by decide
  have g5 := ID k.toInt k0 k1
  refine pb_iconst (pc := 0) (v := 0) d_Mod_isAgain_0 (by decide) ?_
  refine pb_istore_n (pc := 1) (lo' := [(2, .int 0), (0, .ref h), (1, .int k)]) d_Mod_isAgain_1 rfl (by decide) rfl ?_
  refine pb_iconst (pc := 2) (v := 0) d_Mod_isAgain_2 (by decide) ?_
  refine pb_istore_n (pc := 3) (lo' := [(3, .int 0), (2, .int 0), (0, .ref h), (1, .int k)]) d_Mod_isAgain_3 rfl (by decide) rfl ?_
  have hL4_1 : ∀ (N9 : Nat) (s : Int32) (j : Int32), (0 ≤ j.toInt) → (s.toInt = 0 ∨ s.toInt = 1) → ((k.toInt - j.toInt).toNat) < N9 → pb_P l G M i_Mod_isAgain 4 [(2, .int s), (3, .int j), (0, .ref h), (1, .int k)] [] [(h, .inr (10, [.ref m_rels, .ref m_openRels, .ref m_closeRels, .ref m_openRel, .ref m_closeRel, .ref m_comment, .ref m_ends, .ref m_order, .int v_thrown, .int v_taped, .ref m_tape, .ref m_count, .ref m_nameSize, .ref m_names, .ref m_size, .ref m_data, .int v_lookedSize, .ref m_looked, .int v_fileSize, .ref m_file, .int v_directorySize, .ref m_directory, .int v_outSize, .ref m_out, .int v_rowSize, .ref m_row, .int v_bitAt, .int v_bitEnd, .int v_why, .int v_madeSize, .ref m_made, .ref m_length, .int v_firstCount, .int v_secondCount, .int v_heldBits, .int v_heldCount, .int v_pressedSize, .ref m_pressed, .int v_at, .int v_bad, .int v_markSize, .ref m_mark, .int v_relationCount, .ref m_idSize, .ref m_ids, .ref m_goalSize, .ref m_goals, .int v_valueSize, .ref m_value, .int v_faultCount, .ref m_faults, .ref m_reached])), (m_idSize, .inl (G.2.2.1, 200, .inl a_idSize)), (m_ids, .inl (G.2.1, 1600, .inl a_ids))] 0 0 := by
    intro N9
    induction N9 with
    | zero => intro s j j0 j1 hm9; exact absurd hm9 (Nat.not_lt_zero _)
    | succ N9 ih4 =>
      intro s j j0 j1 hm9
      refine pb_iload_n (pc := 4) d_Mod_isAgain_4 1 rfl rfl ?_
      refine pb_iload_n (pc := 5) d_Mod_isAgain_5 3 rfl rfl ?_
      refine pb_icmp_ge (pc := 6) (tgt := 111) d_Mod_isAgain_6 (by decide) (fun wx2 => ?_) (fun wx2 => ?_)
      · have twx2 : k.toInt ≤ j.toInt := (ti_le rfl rfl).mp wx2
        refine pb_iload_n (pc := 111) d_Mod_isAgain_111 0 rfl rfl ?_
        exact pb_iret (pc := 112) hQ d_Mod_isAgain_112 rfl (nar_b (by omega)) (s) ⟨rfl, (by (try dsimp only); first | done | (with_reducible assumption) | omega (splitDisjunctions := false) | assumption | omega | decide)⟩ [0, 1, 2] (by decide) rfl rfl (by decide) (by decide)
      · have twx2 : ¬ k.toInt ≤ j.toInt := fun z9 => wx2 ((ti_le rfl rfl).mpr z9)
        have hJ31_3 : ∀ (sm_ : Int32), pb_P l G M i_Mod_isAgain 31 [(4, .int sm_), (2, .int s), (3, .int j), (0, .ref h), (1, .int k)] [] [(h, .inr (10, [.ref m_rels, .ref m_openRels, .ref m_closeRels, .ref m_openRel, .ref m_closeRel, .ref m_comment, .ref m_ends, .ref m_order, .int v_thrown, .int v_taped, .ref m_tape, .ref m_count, .ref m_nameSize, .ref m_names, .ref m_size, .ref m_data, .int v_lookedSize, .ref m_looked, .int v_fileSize, .ref m_file, .int v_directorySize, .ref m_directory, .int v_outSize, .ref m_out, .int v_rowSize, .ref m_row, .int v_bitAt, .int v_bitEnd, .int v_why, .int v_madeSize, .ref m_made, .ref m_length, .int v_firstCount, .int v_secondCount, .int v_heldBits, .int v_heldCount, .int v_pressedSize, .ref m_pressed, .int v_at, .int v_bad, .int v_markSize, .ref m_mark, .int v_relationCount, .ref m_idSize, .ref m_ids, .ref m_goalSize, .ref m_goals, .int v_valueSize, .ref m_value, .int v_faultCount, .ref m_faults, .ref m_reached])), (m_idSize, .inl (G.2.2.1, 200, .inl a_idSize)), (m_ids, .inl (G.2.1, 1600, .inl a_ids))] 0 0 := by
          intro sm_
          refine pb_iconst (pc := 31) (v := 0) d_Mod_isAgain_31 (by decide) ?_
          refine pb_istore (pc := 32) (lo' := [(5, .int 0), (4, .int sm_), (2, .int s), (3, .int j), (0, .ref h), (1, .int k)]) d_Mod_isAgain_32 (by decide) rfl ?_
          have hL34_4 : ∀ (N9 : Nat) (s4 : Int32) (i5 : Int32), (0 ≤ i5.toInt) → ((8 - i5.toInt).toNat) < N9 → pb_P l G M i_Mod_isAgain 34 [(4, .int s4), (5, .int i5), (2, .int s), (3, .int j), (0, .ref h), (1, .int k)] [] [(h, .inr (10, [.ref m_rels, .ref m_openRels, .ref m_closeRels, .ref m_openRel, .ref m_closeRel, .ref m_comment, .ref m_ends, .ref m_order, .int v_thrown, .int v_taped, .ref m_tape, .ref m_count, .ref m_nameSize, .ref m_names, .ref m_size, .ref m_data, .int v_lookedSize, .ref m_looked, .int v_fileSize, .ref m_file, .int v_directorySize, .ref m_directory, .int v_outSize, .ref m_out, .int v_rowSize, .ref m_row, .int v_bitAt, .int v_bitEnd, .int v_why, .int v_madeSize, .ref m_made, .ref m_length, .int v_firstCount, .int v_secondCount, .int v_heldBits, .int v_heldCount, .int v_pressedSize, .ref m_pressed, .int v_at, .int v_bad, .int v_markSize, .ref m_mark, .int v_relationCount, .ref m_idSize, .ref m_ids, .ref m_goalSize, .ref m_goals, .int v_valueSize, .ref m_value, .int v_faultCount, .ref m_faults, .ref m_reached])), (m_idSize, .inl (G.2.2.1, 200, .inl a_idSize)), (m_ids, .inl (G.2.1, 1600, .inl a_ids))] 0 0 := by
            intro N9
            induction N9 with
            | zero => intro s4 i5 l0 hm9; exact absurd hm9 (Nat.not_lt_zero _)
            | succ N9 ih34 =>
              intro s4 i5 l0 hm9
              refine pb_iload (pc := 34) d_Mod_isAgain_34 0 rfl ?_
              refine pb_if_eq (pc := 36) (tgt := 90) d_Mod_isAgain_36 (by decide) (fun wx5 => ?_) (fun wx5 => ?_)
              · have twx5 : s4.toInt = 0 := (ti_eq rfl (by decide)).mp wx5
                refine pb_iload_n (pc := 90) d_Mod_isAgain_90 2 rfl rfl ?_
                refine pb_if_ne (pc := 91) (tgt := 99) d_Mod_isAgain_91 (by decide) (fun wx6 => ?_) (fun wx6 => ?_)
                · have twx6 : ¬ s.toInt = 0 := fun z9 => wx6 ((ti_eq rfl (by decide)).mpr z9)
                  refine pb_iconst (pc := 99) (v := 1) d_Mod_isAgain_99 (by decide) ?_
                  refine pb_goto (pc := 100) (tgt := 104) d_Mod_isAgain_100 (by decide) ?_
                  refine pb_istore_n (pc := 104) (lo' := [(2, .int 1), (4, .int s4), (5, .int i5), (3, .int j), (0, .ref h), (1, .int k)]) d_Mod_isAgain_104 rfl (by decide) rfl ?_
                  refine pb_iincN (pc := 105) (c := 1) d_Mod_isAgain_105 3 rfl (by decide) (by decide) (fun ix7 eix7 => ?_)
                  have tix7 : ix7.toInt = j.toInt + 1 := t2_add eix7 rfl (by decide) (by first | omega | (have r90 := ti_rng j; have r91 := ti_rng ix7; have r92 := ti_rng s4; have r93 := ti_rng i5; have r94 := ti_rng k; omega))
                  refine pb_eq (pc' := 108) (lo' := [(3, .int ix7), (2, .int 1), (4, .int s4), (5, .int i5), (0, .ref h), (1, .int k)]) (rest' := []) (ws' := [(h, .inr (10, [.ref m_rels, .ref m_openRels, .ref m_closeRels, .ref m_openRel, .ref m_closeRel, .ref m_comment, .ref m_ends, .ref m_order, .int v_thrown, .int v_taped, .ref m_tape, .ref m_count, .ref m_nameSize, .ref m_names, .ref m_size, .ref m_data, .int v_lookedSize, .ref m_looked, .int v_fileSize, .ref m_file, .int v_directorySize, .ref m_directory, .int v_outSize, .ref m_out, .int v_rowSize, .ref m_row, .int v_bitAt, .int v_bitEnd, .int v_why, .int v_madeSize, .ref m_made, .ref m_length, .int v_firstCount, .int v_secondCount, .int v_heldBits, .int v_heldCount, .int v_pressedSize, .ref m_pressed, .int v_at, .int v_bad, .int v_markSize, .ref m_mark, .int v_relationCount, .ref m_idSize, .ref m_ids, .ref m_goalSize, .ref m_goals, .int v_valueSize, .ref m_value, .int v_faultCount, .ref m_faults, .ref m_reached])), (m_idSize, .inl (G.2.2.1, 200, .inl a_idSize)), (m_ids, .inl (G.2.1, 1600, .inl a_ids))]) ?_
                  refine pb_goto (pc := 108) (tgt := 4) d_Mod_isAgain_108 (by decide) ?_
                  refine pb_re (ws' := [(h, .inr (10, [.ref m_rels, .ref m_openRels, .ref m_closeRels, .ref m_openRel, .ref m_closeRel, .ref m_comment, .ref m_ends, .ref m_order, .int v_thrown, .int v_taped, .ref m_tape, .ref m_count, .ref m_nameSize, .ref m_names, .ref m_size, .ref m_data, .int v_lookedSize, .ref m_looked, .int v_fileSize, .ref m_file, .int v_directorySize, .ref m_directory, .int v_outSize, .ref m_out, .int v_rowSize, .ref m_row, .int v_bitAt, .int v_bitEnd, .int v_why, .int v_madeSize, .ref m_made, .ref m_length, .int v_firstCount, .int v_secondCount, .int v_heldBits, .int v_heldCount, .int v_pressedSize, .ref m_pressed, .int v_at, .int v_bad, .int v_markSize, .ref m_mark, .int v_relationCount, .ref m_idSize, .ref m_ids, .ref m_goalSize, .ref m_goals, .int v_valueSize, .ref m_value, .int v_faultCount, .ref m_faults, .ref m_reached])), (m_idSize, .inl (G.2.2.1, 200, .inl a_idSize)), (m_ids, .inl (G.2.1, 1600, .inl a_ids))]) (lo' := [(2, .int 1), (3, .int ix7), (0, .ref h), (1, .int k)]) [0, 1, 2] [1, 0, 4, 5] (by decide) rfl rfl rfl ?_
                  exact ih4 1 ix7 (by first | (with_reducible assumption) | omega (splitDisjunctions := false) | assumption | omega | decide) (by first | (with_reducible assumption) | omega (splitDisjunctions := false) | assumption | omega | decide) (by omega)
                · have twx6 : s.toInt = 0 := (ti_eq rfl (by decide)).mp wx6
                  refine pb_iload (pc := 94) d_Mod_isAgain_94 0 rfl ?_
                  refine pb_if_eq (pc := 96) (tgt := 103) d_Mod_isAgain_96 (by decide) (fun wx8 => ?_) (fun wx8 => ?_)
                  · have twx8 : s4.toInt = 0 := (ti_eq rfl (by decide)).mp wx8
                    refine pb_iconst (pc := 103) (v := 0) d_Mod_isAgain_103 (by decide) ?_
                    refine pb_istore_n (pc := 104) (lo' := [(2, .int 0), (4, .int s4), (5, .int i5), (3, .int j), (0, .ref h), (1, .int k)]) d_Mod_isAgain_104 rfl (by decide) rfl ?_
                    refine pb_iincN (pc := 105) (c := 1) d_Mod_isAgain_105 3 rfl (by decide) (by decide) (fun ix9 eix9 => ?_)
                    have tix9 : ix9.toInt = j.toInt + 1 := t2_add eix9 rfl (by decide) (by first | omega | (have r90 := ti_rng j; have r91 := ti_rng ix9; have r92 := ti_rng s4; have r93 := ti_rng i5; have r94 := ti_rng k; omega))
                    refine pb_eq (pc' := 108) (lo' := [(3, .int ix9), (2, .int 0), (4, .int s4), (5, .int i5), (0, .ref h), (1, .int k)]) (rest' := []) (ws' := [(h, .inr (10, [.ref m_rels, .ref m_openRels, .ref m_closeRels, .ref m_openRel, .ref m_closeRel, .ref m_comment, .ref m_ends, .ref m_order, .int v_thrown, .int v_taped, .ref m_tape, .ref m_count, .ref m_nameSize, .ref m_names, .ref m_size, .ref m_data, .int v_lookedSize, .ref m_looked, .int v_fileSize, .ref m_file, .int v_directorySize, .ref m_directory, .int v_outSize, .ref m_out, .int v_rowSize, .ref m_row, .int v_bitAt, .int v_bitEnd, .int v_why, .int v_madeSize, .ref m_made, .ref m_length, .int v_firstCount, .int v_secondCount, .int v_heldBits, .int v_heldCount, .int v_pressedSize, .ref m_pressed, .int v_at, .int v_bad, .int v_markSize, .ref m_mark, .int v_relationCount, .ref m_idSize, .ref m_ids, .ref m_goalSize, .ref m_goals, .int v_valueSize, .ref m_value, .int v_faultCount, .ref m_faults, .ref m_reached])), (m_idSize, .inl (G.2.2.1, 200, .inl a_idSize)), (m_ids, .inl (G.2.1, 1600, .inl a_ids))]) ?_
                    refine pb_goto (pc := 108) (tgt := 4) d_Mod_isAgain_108 (by decide) ?_
                    refine pb_re (ws' := [(h, .inr (10, [.ref m_rels, .ref m_openRels, .ref m_closeRels, .ref m_openRel, .ref m_closeRel, .ref m_comment, .ref m_ends, .ref m_order, .int v_thrown, .int v_taped, .ref m_tape, .ref m_count, .ref m_nameSize, .ref m_names, .ref m_size, .ref m_data, .int v_lookedSize, .ref m_looked, .int v_fileSize, .ref m_file, .int v_directorySize, .ref m_directory, .int v_outSize, .ref m_out, .int v_rowSize, .ref m_row, .int v_bitAt, .int v_bitEnd, .int v_why, .int v_madeSize, .ref m_made, .ref m_length, .int v_firstCount, .int v_secondCount, .int v_heldBits, .int v_heldCount, .int v_pressedSize, .ref m_pressed, .int v_at, .int v_bad, .int v_markSize, .ref m_mark, .int v_relationCount, .ref m_idSize, .ref m_ids, .ref m_goalSize, .ref m_goals, .int v_valueSize, .ref m_value, .int v_faultCount, .ref m_faults, .ref m_reached])), (m_idSize, .inl (G.2.2.1, 200, .inl a_idSize)), (m_ids, .inl (G.2.1, 1600, .inl a_ids))]) (lo' := [(2, .int 0), (3, .int ix9), (0, .ref h), (1, .int k)]) [0, 1, 2] [1, 0, 4, 5] (by decide) rfl rfl rfl ?_
                    exact ih4 0 ix9 (by first | (with_reducible assumption) | omega (splitDisjunctions := false) | assumption | omega | decide) (by first | (with_reducible assumption) | omega (splitDisjunctions := false) | assumption | omega | decide) (by omega)
                  · have twx8 : ¬ s4.toInt = 0 := fun z9 => wx8 ((ti_eq rfl (by decide)).mpr z9)
                    refine pb_iconst (pc := 99) (v := 1) d_Mod_isAgain_99 (by decide) ?_
                    refine pb_goto (pc := 100) (tgt := 104) d_Mod_isAgain_100 (by decide) ?_
                    refine pb_istore_n (pc := 104) (lo' := [(2, .int 1), (4, .int s4), (5, .int i5), (3, .int j), (0, .ref h), (1, .int k)]) d_Mod_isAgain_104 rfl (by decide) rfl ?_
                    refine pb_iincN (pc := 105) (c := 1) d_Mod_isAgain_105 3 rfl (by decide) (by decide) (fun ix10 eix10 => ?_)
                    have tix10 : ix10.toInt = j.toInt + 1 := t2_add eix10 rfl (by decide) (by first | omega | (have r90 := ti_rng j; have r91 := ti_rng ix10; have r92 := ti_rng s4; have r93 := ti_rng i5; have r94 := ti_rng k; omega))
                    refine pb_eq (pc' := 108) (lo' := [(3, .int ix10), (2, .int 1), (4, .int s4), (5, .int i5), (0, .ref h), (1, .int k)]) (rest' := []) (ws' := [(h, .inr (10, [.ref m_rels, .ref m_openRels, .ref m_closeRels, .ref m_openRel, .ref m_closeRel, .ref m_comment, .ref m_ends, .ref m_order, .int v_thrown, .int v_taped, .ref m_tape, .ref m_count, .ref m_nameSize, .ref m_names, .ref m_size, .ref m_data, .int v_lookedSize, .ref m_looked, .int v_fileSize, .ref m_file, .int v_directorySize, .ref m_directory, .int v_outSize, .ref m_out, .int v_rowSize, .ref m_row, .int v_bitAt, .int v_bitEnd, .int v_why, .int v_madeSize, .ref m_made, .ref m_length, .int v_firstCount, .int v_secondCount, .int v_heldBits, .int v_heldCount, .int v_pressedSize, .ref m_pressed, .int v_at, .int v_bad, .int v_markSize, .ref m_mark, .int v_relationCount, .ref m_idSize, .ref m_ids, .ref m_goalSize, .ref m_goals, .int v_valueSize, .ref m_value, .int v_faultCount, .ref m_faults, .ref m_reached])), (m_idSize, .inl (G.2.2.1, 200, .inl a_idSize)), (m_ids, .inl (G.2.1, 1600, .inl a_ids))]) ?_
                    refine pb_goto (pc := 108) (tgt := 4) d_Mod_isAgain_108 (by decide) ?_
                    refine pb_re (ws' := [(h, .inr (10, [.ref m_rels, .ref m_openRels, .ref m_closeRels, .ref m_openRel, .ref m_closeRel, .ref m_comment, .ref m_ends, .ref m_order, .int v_thrown, .int v_taped, .ref m_tape, .ref m_count, .ref m_nameSize, .ref m_names, .ref m_size, .ref m_data, .int v_lookedSize, .ref m_looked, .int v_fileSize, .ref m_file, .int v_directorySize, .ref m_directory, .int v_outSize, .ref m_out, .int v_rowSize, .ref m_row, .int v_bitAt, .int v_bitEnd, .int v_why, .int v_madeSize, .ref m_made, .ref m_length, .int v_firstCount, .int v_secondCount, .int v_heldBits, .int v_heldCount, .int v_pressedSize, .ref m_pressed, .int v_at, .int v_bad, .int v_markSize, .ref m_mark, .int v_relationCount, .ref m_idSize, .ref m_ids, .ref m_goalSize, .ref m_goals, .int v_valueSize, .ref m_value, .int v_faultCount, .ref m_faults, .ref m_reached])), (m_idSize, .inl (G.2.2.1, 200, .inl a_idSize)), (m_ids, .inl (G.2.1, 1600, .inl a_ids))]) (lo' := [(2, .int 1), (3, .int ix10), (0, .ref h), (1, .int k)]) [0, 1, 2] [1, 0, 4, 5] (by decide) rfl rfl rfl ?_
                    exact ih4 1 ix10 (by first | (with_reducible assumption) | omega (splitDisjunctions := false) | assumption | omega | decide) (by first | (with_reducible assumption) | omega (splitDisjunctions := false) | assumption | omega | decide) (by omega)
              · have twx5 : ¬ s4.toInt = 0 := fun z9 => wx5 ((ti_eq rfl (by decide)).mpr z9)
                refine pb_iload (pc := 39) d_Mod_isAgain_39 1 rfl ?_
                refine pb_aload_n (pc := 41) d_Mod_isAgain_41 4 rfl rfl ?_
                refine pb_get (pc := 42) d_Mod_isAgain_42 0 43 rfl rfl (by decide) in_Mod k_1189 rfl ?_
                refine pb_iload_n (pc := 45) d_Mod_isAgain_45 5 rfl rfl ?_
                refine pb_iald (pc := 46) d_Mod_isAgain_46 1 rfl (vp_in_iff.mpr (by omega)) ?_
                refine pb_topi (fun ix11 eix11 => ?_)
                have tix11 : ix11.toInt = gx a_idSize (k.toInt) := gx_ld eix11 rfl
                refine pb_icmp_ge (pc := 47) (tgt := 90) d_Mod_isAgain_47 (by decide) (fun wx12 => ?_) (fun wx12 => ?_)
                · have twx12 : ix11.toInt ≤ i5.toInt := (ti_le rfl rfl).mp wx12
                  refine pb_iload_n (pc := 90) d_Mod_isAgain_90 2 rfl rfl ?_
                  refine pb_if_ne (pc := 91) (tgt := 99) d_Mod_isAgain_91 (by decide) (fun wx13 => ?_) (fun wx13 => ?_)
                  · have twx13 : ¬ s.toInt = 0 := fun z9 => wx13 ((ti_eq rfl (by decide)).mpr z9)
                    refine pb_iconst (pc := 99) (v := 1) d_Mod_isAgain_99 (by decide) ?_
                    refine pb_goto (pc := 100) (tgt := 104) d_Mod_isAgain_100 (by decide) ?_
                    refine pb_istore_n (pc := 104) (lo' := [(2, .int 1), (4, .int s4), (5, .int i5), (3, .int j), (0, .ref h), (1, .int k)]) d_Mod_isAgain_104 rfl (by decide) rfl ?_
                    refine pb_iincN (pc := 105) (c := 1) d_Mod_isAgain_105 3 rfl (by decide) (by decide) (fun ix14 eix14 => ?_)
                    have tix14 : ix14.toInt = j.toInt + 1 := t2_add eix14 rfl (by decide) (by first | omega | (have r90 := ti_rng j; have r91 := ti_rng ix14; have r92 := ti_rng s4; have r93 := ti_rng i5; have r94 := ti_rng k; omega))
                    refine pb_eq (pc' := 108) (lo' := [(3, .int ix14), (2, .int 1), (4, .int s4), (5, .int i5), (0, .ref h), (1, .int k)]) (rest' := []) (ws' := [(h, .inr (10, [.ref m_rels, .ref m_openRels, .ref m_closeRels, .ref m_openRel, .ref m_closeRel, .ref m_comment, .ref m_ends, .ref m_order, .int v_thrown, .int v_taped, .ref m_tape, .ref m_count, .ref m_nameSize, .ref m_names, .ref m_size, .ref m_data, .int v_lookedSize, .ref m_looked, .int v_fileSize, .ref m_file, .int v_directorySize, .ref m_directory, .int v_outSize, .ref m_out, .int v_rowSize, .ref m_row, .int v_bitAt, .int v_bitEnd, .int v_why, .int v_madeSize, .ref m_made, .ref m_length, .int v_firstCount, .int v_secondCount, .int v_heldBits, .int v_heldCount, .int v_pressedSize, .ref m_pressed, .int v_at, .int v_bad, .int v_markSize, .ref m_mark, .int v_relationCount, .ref m_idSize, .ref m_ids, .ref m_goalSize, .ref m_goals, .int v_valueSize, .ref m_value, .int v_faultCount, .ref m_faults, .ref m_reached])), (m_idSize, .inl (G.2.2.1, 200, .inl a_idSize)), (m_ids, .inl (G.2.1, 1600, .inl a_ids))]) ?_
                    refine pb_goto (pc := 108) (tgt := 4) d_Mod_isAgain_108 (by decide) ?_
                    refine pb_re (ws' := [(h, .inr (10, [.ref m_rels, .ref m_openRels, .ref m_closeRels, .ref m_openRel, .ref m_closeRel, .ref m_comment, .ref m_ends, .ref m_order, .int v_thrown, .int v_taped, .ref m_tape, .ref m_count, .ref m_nameSize, .ref m_names, .ref m_size, .ref m_data, .int v_lookedSize, .ref m_looked, .int v_fileSize, .ref m_file, .int v_directorySize, .ref m_directory, .int v_outSize, .ref m_out, .int v_rowSize, .ref m_row, .int v_bitAt, .int v_bitEnd, .int v_why, .int v_madeSize, .ref m_made, .ref m_length, .int v_firstCount, .int v_secondCount, .int v_heldBits, .int v_heldCount, .int v_pressedSize, .ref m_pressed, .int v_at, .int v_bad, .int v_markSize, .ref m_mark, .int v_relationCount, .ref m_idSize, .ref m_ids, .ref m_goalSize, .ref m_goals, .int v_valueSize, .ref m_value, .int v_faultCount, .ref m_faults, .ref m_reached])), (m_idSize, .inl (G.2.2.1, 200, .inl a_idSize)), (m_ids, .inl (G.2.1, 1600, .inl a_ids))]) (lo' := [(2, .int 1), (3, .int ix14), (0, .ref h), (1, .int k)]) [0, 1, 2] [1, 0, 4, 5] (by decide) rfl rfl rfl ?_
                    exact ih4 1 ix14 (by first | (with_reducible assumption) | omega (splitDisjunctions := false) | assumption | omega | decide) (by first | (with_reducible assumption) | omega (splitDisjunctions := false) | assumption | omega | decide) (by omega)
                  · have twx13 : s.toInt = 0 := (ti_eq rfl (by decide)).mp wx13
                    refine pb_iload (pc := 94) d_Mod_isAgain_94 0 rfl ?_
                    refine pb_if_eq (pc := 96) (tgt := 103) d_Mod_isAgain_96 (by decide) (fun wx15 => ?_) (fun wx15 => ?_)
                    · have twx15 : s4.toInt = 0 := (ti_eq rfl (by decide)).mp wx15
                      refine pb_iconst (pc := 103) (v := 0) d_Mod_isAgain_103 (by decide) ?_
                      refine pb_istore_n (pc := 104) (lo' := [(2, .int 0), (4, .int s4), (5, .int i5), (3, .int j), (0, .ref h), (1, .int k)]) d_Mod_isAgain_104 rfl (by decide) rfl ?_
                      refine pb_iincN (pc := 105) (c := 1) d_Mod_isAgain_105 3 rfl (by decide) (by decide) (fun ix16 eix16 => ?_)
                      have tix16 : ix16.toInt = j.toInt + 1 := t2_add eix16 rfl (by decide) (by first | omega | (have r90 := ti_rng j; have r91 := ti_rng ix16; have r92 := ti_rng s4; have r93 := ti_rng i5; have r94 := ti_rng k; omega))
                      refine pb_eq (pc' := 108) (lo' := [(3, .int ix16), (2, .int 0), (4, .int s4), (5, .int i5), (0, .ref h), (1, .int k)]) (rest' := []) (ws' := [(h, .inr (10, [.ref m_rels, .ref m_openRels, .ref m_closeRels, .ref m_openRel, .ref m_closeRel, .ref m_comment, .ref m_ends, .ref m_order, .int v_thrown, .int v_taped, .ref m_tape, .ref m_count, .ref m_nameSize, .ref m_names, .ref m_size, .ref m_data, .int v_lookedSize, .ref m_looked, .int v_fileSize, .ref m_file, .int v_directorySize, .ref m_directory, .int v_outSize, .ref m_out, .int v_rowSize, .ref m_row, .int v_bitAt, .int v_bitEnd, .int v_why, .int v_madeSize, .ref m_made, .ref m_length, .int v_firstCount, .int v_secondCount, .int v_heldBits, .int v_heldCount, .int v_pressedSize, .ref m_pressed, .int v_at, .int v_bad, .int v_markSize, .ref m_mark, .int v_relationCount, .ref m_idSize, .ref m_ids, .ref m_goalSize, .ref m_goals, .int v_valueSize, .ref m_value, .int v_faultCount, .ref m_faults, .ref m_reached])), (m_idSize, .inl (G.2.2.1, 200, .inl a_idSize)), (m_ids, .inl (G.2.1, 1600, .inl a_ids))]) ?_
                      refine pb_goto (pc := 108) (tgt := 4) d_Mod_isAgain_108 (by decide) ?_
                      refine pb_re (ws' := [(h, .inr (10, [.ref m_rels, .ref m_openRels, .ref m_closeRels, .ref m_openRel, .ref m_closeRel, .ref m_comment, .ref m_ends, .ref m_order, .int v_thrown, .int v_taped, .ref m_tape, .ref m_count, .ref m_nameSize, .ref m_names, .ref m_size, .ref m_data, .int v_lookedSize, .ref m_looked, .int v_fileSize, .ref m_file, .int v_directorySize, .ref m_directory, .int v_outSize, .ref m_out, .int v_rowSize, .ref m_row, .int v_bitAt, .int v_bitEnd, .int v_why, .int v_madeSize, .ref m_made, .ref m_length, .int v_firstCount, .int v_secondCount, .int v_heldBits, .int v_heldCount, .int v_pressedSize, .ref m_pressed, .int v_at, .int v_bad, .int v_markSize, .ref m_mark, .int v_relationCount, .ref m_idSize, .ref m_ids, .ref m_goalSize, .ref m_goals, .int v_valueSize, .ref m_value, .int v_faultCount, .ref m_faults, .ref m_reached])), (m_idSize, .inl (G.2.2.1, 200, .inl a_idSize)), (m_ids, .inl (G.2.1, 1600, .inl a_ids))]) (lo' := [(2, .int 0), (3, .int ix16), (0, .ref h), (1, .int k)]) [0, 1, 2] [1, 0, 4, 5] (by decide) rfl rfl rfl ?_
                      exact ih4 0 ix16 (by first | (with_reducible assumption) | omega (splitDisjunctions := false) | assumption | omega | decide) (by first | (with_reducible assumption) | omega (splitDisjunctions := false) | assumption | omega | decide) (by omega)
                    · have twx15 : ¬ s4.toInt = 0 := fun z9 => wx15 ((ti_eq rfl (by decide)).mpr z9)
                      refine pb_iconst (pc := 99) (v := 1) d_Mod_isAgain_99 (by decide) ?_
                      refine pb_goto (pc := 100) (tgt := 104) d_Mod_isAgain_100 (by decide) ?_
                      refine pb_istore_n (pc := 104) (lo' := [(2, .int 1), (4, .int s4), (5, .int i5), (3, .int j), (0, .ref h), (1, .int k)]) d_Mod_isAgain_104 rfl (by decide) rfl ?_
                      refine pb_iincN (pc := 105) (c := 1) d_Mod_isAgain_105 3 rfl (by decide) (by decide) (fun ix17 eix17 => ?_)
                      have tix17 : ix17.toInt = j.toInt + 1 := t2_add eix17 rfl (by decide) (by first | omega | (have r90 := ti_rng j; have r91 := ti_rng ix17; have r92 := ti_rng s4; have r93 := ti_rng i5; have r94 := ti_rng k; omega))
                      refine pb_eq (pc' := 108) (lo' := [(3, .int ix17), (2, .int 1), (4, .int s4), (5, .int i5), (0, .ref h), (1, .int k)]) (rest' := []) (ws' := [(h, .inr (10, [.ref m_rels, .ref m_openRels, .ref m_closeRels, .ref m_openRel, .ref m_closeRel, .ref m_comment, .ref m_ends, .ref m_order, .int v_thrown, .int v_taped, .ref m_tape, .ref m_count, .ref m_nameSize, .ref m_names, .ref m_size, .ref m_data, .int v_lookedSize, .ref m_looked, .int v_fileSize, .ref m_file, .int v_directorySize, .ref m_directory, .int v_outSize, .ref m_out, .int v_rowSize, .ref m_row, .int v_bitAt, .int v_bitEnd, .int v_why, .int v_madeSize, .ref m_made, .ref m_length, .int v_firstCount, .int v_secondCount, .int v_heldBits, .int v_heldCount, .int v_pressedSize, .ref m_pressed, .int v_at, .int v_bad, .int v_markSize, .ref m_mark, .int v_relationCount, .ref m_idSize, .ref m_ids, .ref m_goalSize, .ref m_goals, .int v_valueSize, .ref m_value, .int v_faultCount, .ref m_faults, .ref m_reached])), (m_idSize, .inl (G.2.2.1, 200, .inl a_idSize)), (m_ids, .inl (G.2.1, 1600, .inl a_ids))]) ?_
                      refine pb_goto (pc := 108) (tgt := 4) d_Mod_isAgain_108 (by decide) ?_
                      refine pb_re (ws' := [(h, .inr (10, [.ref m_rels, .ref m_openRels, .ref m_closeRels, .ref m_openRel, .ref m_closeRel, .ref m_comment, .ref m_ends, .ref m_order, .int v_thrown, .int v_taped, .ref m_tape, .ref m_count, .ref m_nameSize, .ref m_names, .ref m_size, .ref m_data, .int v_lookedSize, .ref m_looked, .int v_fileSize, .ref m_file, .int v_directorySize, .ref m_directory, .int v_outSize, .ref m_out, .int v_rowSize, .ref m_row, .int v_bitAt, .int v_bitEnd, .int v_why, .int v_madeSize, .ref m_made, .ref m_length, .int v_firstCount, .int v_secondCount, .int v_heldBits, .int v_heldCount, .int v_pressedSize, .ref m_pressed, .int v_at, .int v_bad, .int v_markSize, .ref m_mark, .int v_relationCount, .ref m_idSize, .ref m_ids, .ref m_goalSize, .ref m_goals, .int v_valueSize, .ref m_value, .int v_faultCount, .ref m_faults, .ref m_reached])), (m_idSize, .inl (G.2.2.1, 200, .inl a_idSize)), (m_ids, .inl (G.2.1, 1600, .inl a_ids))]) (lo' := [(2, .int 1), (3, .int ix17), (0, .ref h), (1, .int k)]) [0, 1, 2] [1, 0, 4, 5] (by decide) rfl rfl rfl ?_
                      exact ih4 1 ix17 (by first | (with_reducible assumption) | omega (splitDisjunctions := false) | assumption | omega | decide) (by first | (with_reducible assumption) | omega (splitDisjunctions := false) | assumption | omega | decide) (by omega)
                · have twx12 : ¬ ix11.toInt ≤ i5.toInt := fun z9 => wx12 ((ti_le rfl rfl).mpr z9)
                  refine pb_aload_n (pc := 50) d_Mod_isAgain_50 4 rfl rfl ?_
                  refine pb_get (pc := 51) d_Mod_isAgain_51 0 44 rfl rfl (by decide) in_Mod k_1190 rfl ?_
                  refine pb_bipush (pc := 54) (v := 8) d_Mod_isAgain_54 (by decide) ?_
                  refine pb_iload_n (pc := 56) d_Mod_isAgain_56 3 rfl rfl ?_
                  refine pb_imul (pc := 57) d_Mod_isAgain_57 ?_
                  refine pb_topi (fun ix18 eix18 => ?_)
                  try have tix18 : ix18.toInt = 8 * j.toInt := ti_mul eix18 (by decide) rfl (by omega) (by omega)
                  refine pb_iload (pc := 58) d_Mod_isAgain_58 1 rfl ?_
                  refine pb_iadd (pc := 60) d_Mod_isAgain_60 ?_
                  refine pb_topi (fun ix19 eix19 => ?_)
                  try have tix19 : ix19.toInt = ix18.toInt + i5.toInt := t2_add eix19 rfl rfl (by (exact omg_35c0ffac4f k1 g5 j0 twx2 l0 tix11 twx12 tix18))
                  refine pb_bald (pc := 61) d_Mod_isAgain_61 2 rfl (vp_in_iff.mpr (by (exact omg_9ea2cfb216 k1 g5 j0 twx2 l0 tix11 twx12 tix18 tix19))) ?_
                  refine pb_topi (fun ix20 eix20 => ?_)
                  refine pb_aload_n (pc := 62) d_Mod_isAgain_62 4 rfl rfl ?_
                  refine pb_get (pc := 63) d_Mod_isAgain_63 0 44 rfl rfl (by decide) in_Mod k_1190 rfl ?_
                  refine pb_bipush (pc := 66) (v := 8) d_Mod_isAgain_66 (by decide) ?_
                  refine pb_iload_n (pc := 68) d_Mod_isAgain_68 5 rfl rfl ?_
                  refine pb_imul (pc := 69) d_Mod_isAgain_69 ?_
                  refine pb_topi (fun ix21 eix21 => ?_)
                  try have tix21 : ix21.toInt = 8 * k.toInt := ti_mul eix21 (by decide) rfl (by omega) (by omega)
                  refine pb_iload (pc := 70) d_Mod_isAgain_70 1 rfl ?_
                  refine pb_iadd (pc := 72) d_Mod_isAgain_72 ?_
                  refine pb_topi (fun ix22 eix22 => ?_)
                  try have tix22 : ix22.toInt = ix21.toInt + i5.toInt := t2_add eix22 rfl rfl (by (exact omg_33a43421e8 k0 k1 g5 l0 tix11 twx12 tix21))
                  refine pb_bald (pc := 73) d_Mod_isAgain_73 2 rfl (vp_in_iff.mpr (by (exact omg_827e506848 k0 k1 g5 l0 tix11 twx12 tix21 tix22))) ?_
                  refine pb_topi (fun ix23 eix23 => ?_)
                  refine pb_icmp_ne (pc := 74) (tgt := 81) d_Mod_isAgain_74 (by decide) (fun wx24 => ?_) (fun wx24 => ?_)
                  · have twx24 : ¬ ix20.toInt = ix23.toInt := fun z9 => wx24 ((ti_eq rfl rfl).mpr z9)
                    refine pb_iconst (pc := 81) (v := 0) d_Mod_isAgain_81 (by decide) ?_
                    refine pb_istore (pc := 82) (lo' := [(4, .int 0), (5, .int i5), (2, .int s), (3, .int j), (0, .ref h), (1, .int k)]) d_Mod_isAgain_82 (by decide) rfl ?_
                    refine pb_iincN (pc := 84) (c := 1) d_Mod_isAgain_84 1 rfl (by decide) (by decide) (fun ix25 eix25 => ?_)
                    have tix25 : ix25.toInt = i5.toInt + 1 := t2_add eix25 rfl (by decide) (by first | (exact omg_78941f563b g5 l0 tix11 twx12) | (have r90 := ti_rng i5; have r91 := ti_rng ix25; have r92 := ti_rng s; have r93 := ti_rng j; have r94 := ti_rng k; omega))
                    refine pb_eq (pc' := 87) (lo' := [(5, .int ix25), (4, .int 0), (2, .int s), (3, .int j), (0, .ref h), (1, .int k)]) (rest' := []) (ws' := [(h, .inr (10, [.ref m_rels, .ref m_openRels, .ref m_closeRels, .ref m_openRel, .ref m_closeRel, .ref m_comment, .ref m_ends, .ref m_order, .int v_thrown, .int v_taped, .ref m_tape, .ref m_count, .ref m_nameSize, .ref m_names, .ref m_size, .ref m_data, .int v_lookedSize, .ref m_looked, .int v_fileSize, .ref m_file, .int v_directorySize, .ref m_directory, .int v_outSize, .ref m_out, .int v_rowSize, .ref m_row, .int v_bitAt, .int v_bitEnd, .int v_why, .int v_madeSize, .ref m_made, .ref m_length, .int v_firstCount, .int v_secondCount, .int v_heldBits, .int v_heldCount, .int v_pressedSize, .ref m_pressed, .int v_at, .int v_bad, .int v_markSize, .ref m_mark, .int v_relationCount, .ref m_idSize, .ref m_ids, .ref m_goalSize, .ref m_goals, .int v_valueSize, .ref m_value, .int v_faultCount, .ref m_faults, .ref m_reached])), (m_idSize, .inl (G.2.2.1, 200, .inl a_idSize)), (m_ids, .inl (G.2.1, 1600, .inl a_ids))]) ?_
                    refine pb_goto (pc := 87) (tgt := 34) d_Mod_isAgain_87 (by decide) ?_
                    refine pb_re (ws' := [(h, .inr (10, [.ref m_rels, .ref m_openRels, .ref m_closeRels, .ref m_openRel, .ref m_closeRel, .ref m_comment, .ref m_ends, .ref m_order, .int v_thrown, .int v_taped, .ref m_tape, .ref m_count, .ref m_nameSize, .ref m_names, .ref m_size, .ref m_data, .int v_lookedSize, .ref m_looked, .int v_fileSize, .ref m_file, .int v_directorySize, .ref m_directory, .int v_outSize, .ref m_out, .int v_rowSize, .ref m_row, .int v_bitAt, .int v_bitEnd, .int v_why, .int v_madeSize, .ref m_made, .ref m_length, .int v_firstCount, .int v_secondCount, .int v_heldBits, .int v_heldCount, .int v_pressedSize, .ref m_pressed, .int v_at, .int v_bad, .int v_markSize, .ref m_mark, .int v_relationCount, .ref m_idSize, .ref m_ids, .ref m_goalSize, .ref m_goals, .int v_valueSize, .ref m_value, .int v_faultCount, .ref m_faults, .ref m_reached])), (m_idSize, .inl (G.2.2.1, 200, .inl a_idSize)), (m_ids, .inl (G.2.1, 1600, .inl a_ids))]) (lo' := [(4, .int 0), (5, .int ix25), (2, .int s), (3, .int j), (0, .ref h), (1, .int k)]) [0, 1, 2] [1, 0, 2, 3, 4, 5] (by decide) rfl rfl rfl ?_
                    exact ih34 0 ix25 (by first | (with_reducible assumption) | (exact omg_c14412231a l0 tix25) | assumption | omega | decide) (by (exact omg_fc2511a08d g5 hm9 tix11 twx12 tix25))
                  · have twx24 : ix20.toInt = ix23.toInt := (ti_eq rfl rfl).mp wx24
                    refine pb_iconst (pc := 77) (v := 1) d_Mod_isAgain_77 (by decide) ?_
                    refine pb_goto (pc := 78) (tgt := 82) d_Mod_isAgain_78 (by decide) ?_
                    refine pb_istore (pc := 82) (lo' := [(4, .int 1), (5, .int i5), (2, .int s), (3, .int j), (0, .ref h), (1, .int k)]) d_Mod_isAgain_82 (by decide) rfl ?_
                    refine pb_iincN (pc := 84) (c := 1) d_Mod_isAgain_84 1 rfl (by decide) (by decide) (fun ix26 eix26 => ?_)
                    have tix26 : ix26.toInt = i5.toInt + 1 := t2_add eix26 rfl (by decide) (by first | (exact omg_78941f563b g5 l0 tix11 twx12) | (have r90 := ti_rng i5; have r91 := ti_rng ix26; have r92 := ti_rng s; have r93 := ti_rng j; have r94 := ti_rng k; omega))
                    refine pb_eq (pc' := 87) (lo' := [(5, .int ix26), (4, .int 1), (2, .int s), (3, .int j), (0, .ref h), (1, .int k)]) (rest' := []) (ws' := [(h, .inr (10, [.ref m_rels, .ref m_openRels, .ref m_closeRels, .ref m_openRel, .ref m_closeRel, .ref m_comment, .ref m_ends, .ref m_order, .int v_thrown, .int v_taped, .ref m_tape, .ref m_count, .ref m_nameSize, .ref m_names, .ref m_size, .ref m_data, .int v_lookedSize, .ref m_looked, .int v_fileSize, .ref m_file, .int v_directorySize, .ref m_directory, .int v_outSize, .ref m_out, .int v_rowSize, .ref m_row, .int v_bitAt, .int v_bitEnd, .int v_why, .int v_madeSize, .ref m_made, .ref m_length, .int v_firstCount, .int v_secondCount, .int v_heldBits, .int v_heldCount, .int v_pressedSize, .ref m_pressed, .int v_at, .int v_bad, .int v_markSize, .ref m_mark, .int v_relationCount, .ref m_idSize, .ref m_ids, .ref m_goalSize, .ref m_goals, .int v_valueSize, .ref m_value, .int v_faultCount, .ref m_faults, .ref m_reached])), (m_idSize, .inl (G.2.2.1, 200, .inl a_idSize)), (m_ids, .inl (G.2.1, 1600, .inl a_ids))]) ?_
                    refine pb_goto (pc := 87) (tgt := 34) d_Mod_isAgain_87 (by decide) ?_
                    refine pb_re (ws' := [(h, .inr (10, [.ref m_rels, .ref m_openRels, .ref m_closeRels, .ref m_openRel, .ref m_closeRel, .ref m_comment, .ref m_ends, .ref m_order, .int v_thrown, .int v_taped, .ref m_tape, .ref m_count, .ref m_nameSize, .ref m_names, .ref m_size, .ref m_data, .int v_lookedSize, .ref m_looked, .int v_fileSize, .ref m_file, .int v_directorySize, .ref m_directory, .int v_outSize, .ref m_out, .int v_rowSize, .ref m_row, .int v_bitAt, .int v_bitEnd, .int v_why, .int v_madeSize, .ref m_made, .ref m_length, .int v_firstCount, .int v_secondCount, .int v_heldBits, .int v_heldCount, .int v_pressedSize, .ref m_pressed, .int v_at, .int v_bad, .int v_markSize, .ref m_mark, .int v_relationCount, .ref m_idSize, .ref m_ids, .ref m_goalSize, .ref m_goals, .int v_valueSize, .ref m_value, .int v_faultCount, .ref m_faults, .ref m_reached])), (m_idSize, .inl (G.2.2.1, 200, .inl a_idSize)), (m_ids, .inl (G.2.1, 1600, .inl a_ids))]) (lo' := [(4, .int 1), (5, .int ix26), (2, .int s), (3, .int j), (0, .ref h), (1, .int k)]) [0, 1, 2] [1, 0, 2, 3, 4, 5] (by decide) rfl rfl rfl ?_
                    exact ih34 1 ix26 (by first | (with_reducible assumption) | (exact omg_c14412231a l0 tix26) | assumption | omega | decide) (by (exact omg_fc2511a08d g5 hm9 tix11 twx12 tix26))
          refine pb_re (ws' := [(h, .inr (10, [.ref m_rels, .ref m_openRels, .ref m_closeRels, .ref m_openRel, .ref m_closeRel, .ref m_comment, .ref m_ends, .ref m_order, .int v_thrown, .int v_taped, .ref m_tape, .ref m_count, .ref m_nameSize, .ref m_names, .ref m_size, .ref m_data, .int v_lookedSize, .ref m_looked, .int v_fileSize, .ref m_file, .int v_directorySize, .ref m_directory, .int v_outSize, .ref m_out, .int v_rowSize, .ref m_row, .int v_bitAt, .int v_bitEnd, .int v_why, .int v_madeSize, .ref m_made, .ref m_length, .int v_firstCount, .int v_secondCount, .int v_heldBits, .int v_heldCount, .int v_pressedSize, .ref m_pressed, .int v_at, .int v_bad, .int v_markSize, .ref m_mark, .int v_relationCount, .ref m_idSize, .ref m_ids, .ref m_goalSize, .ref m_goals, .int v_valueSize, .ref m_value, .int v_faultCount, .ref m_faults, .ref m_reached])), (m_idSize, .inl (G.2.2.1, 200, .inl a_idSize)), (m_ids, .inl (G.2.1, 1600, .inl a_ids))]) (lo' := [(4, .int sm_), (5, .int 0), (2, .int s), (3, .int j), (0, .ref h), (1, .int k)]) [0, 1, 2] [1, 0, 2, 3, 4, 5] (by decide) rfl rfl rfl ?_
          exact hL34_4 _ sm_ 0 (by first | (with_reducible assumption) | omega (splitDisjunctions := false) | assumption | omega | decide) (Nat.lt_succ_self _)
        refine pb_aload_n (pc := 9) d_Mod_isAgain_9 2 rfl rfl ?_
        refine pb_get (pc := 10) d_Mod_isAgain_10 0 43 rfl rfl (by decide) in_Mod k_1189 rfl ?_
        refine pb_iload_n (pc := 13) d_Mod_isAgain_13 1 rfl rfl ?_
        refine pb_iald (pc := 14) d_Mod_isAgain_14 1 rfl (vp_in_iff.mpr (by omega)) ?_
        refine pb_topi (fun ix27 eix27 => ?_)
        have tix27 : ix27.toInt = gx a_idSize (j.toInt) := gx_ld eix27 rfl
        refine pb_aload_n (pc := 15) d_Mod_isAgain_15 2 rfl rfl ?_
        refine pb_get (pc := 16) d_Mod_isAgain_16 0 43 rfl rfl (by decide) in_Mod k_1189 rfl ?_
        refine pb_iload_n (pc := 19) d_Mod_isAgain_19 3 rfl rfl ?_
        refine pb_iald (pc := 20) d_Mod_isAgain_20 1 rfl (vp_in_iff.mpr (by omega)) ?_
        refine pb_topi (fun ix28 eix28 => ?_)
        have tix28 : ix28.toInt = gx a_idSize (k.toInt) := gx_ld eix28 rfl
        refine pb_icmp_ne (pc := 21) (tgt := 28) d_Mod_isAgain_21 (by decide) (fun wx29 => ?_) (fun wx29 => ?_)
        · have twx29 : ¬ ix27.toInt = ix28.toInt := fun z9 => wx29 ((ti_eq rfl rfl).mpr z9)
          refine pb_iconst (pc := 28) (v := 0) d_Mod_isAgain_28 (by decide) ?_
          refine pb_istore (pc := 29) (lo' := [(4, .int 0), (2, .int s), (3, .int j), (0, .ref h), (1, .int k)]) d_Mod_isAgain_29 (by decide) rfl ?_
          exact hJ31_3 0
        · have twx29 : ix27.toInt = ix28.toInt := (ti_eq rfl rfl).mp wx29
          refine pb_iconst (pc := 24) (v := 1) d_Mod_isAgain_24 (by decide) ?_
          refine pb_goto (pc := 25) (tgt := 29) d_Mod_isAgain_25 (by decide) ?_
          refine pb_istore (pc := 29) (lo' := [(4, .int 1), (2, .int s), (3, .int j), (0, .ref h), (1, .int k)]) d_Mod_isAgain_29 (by decide) rfl ?_
          exact hJ31_3 1
  refine pb_re (ws' := [(h, .inr (10, [.ref m_rels, .ref m_openRels, .ref m_closeRels, .ref m_openRel, .ref m_closeRel, .ref m_comment, .ref m_ends, .ref m_order, .int v_thrown, .int v_taped, .ref m_tape, .ref m_count, .ref m_nameSize, .ref m_names, .ref m_size, .ref m_data, .int v_lookedSize, .ref m_looked, .int v_fileSize, .ref m_file, .int v_directorySize, .ref m_directory, .int v_outSize, .ref m_out, .int v_rowSize, .ref m_row, .int v_bitAt, .int v_bitEnd, .int v_why, .int v_madeSize, .ref m_made, .ref m_length, .int v_firstCount, .int v_secondCount, .int v_heldBits, .int v_heldCount, .int v_pressedSize, .ref m_pressed, .int v_at, .int v_bad, .int v_markSize, .ref m_mark, .int v_relationCount, .ref m_idSize, .ref m_ids, .ref m_goalSize, .ref m_goals, .int v_valueSize, .ref m_value, .int v_faultCount, .ref m_faults, .ref m_reached])), (m_idSize, .inl (G.2.2.1, 200, .inl a_idSize)), (m_ids, .inl (G.2.1, 1600, .inl a_ids))]) (lo' := [(2, .int 0), (3, .int 0), (0, .ref h), (1, .int k)]) [0, 1, 2] [1, 0, 2, 3] (by decide) rfl rfl rfl ?_
  exact hL4_1 _ 0 0 (by first | (with_reducible assumption) | omega (splitDisjunctions := false) | assumption | omega | decide) (by first | (with_reducible assumption) | omega (splitDisjunctions := false) | assumption | omega | decide) (Nat.lt_succ_self _)
