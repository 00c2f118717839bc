/-! ROWS OF NUMBERS -/
theorem omg_2a1dffabea {x0 : Int} {x1 : Int} (a0 : (((8 : Int) ≤ x0) ∧ ((x0 < (12 : Int)) ∧ ((((3 : Int) + ((2 : Int) * (x0 - (4 : Int)))) ≤ x1) ∧ ((x1 < ((5 : Int) + ((2 : Int) * (x0 - (4 : Int))))) ∧ (x1 < (258 : Int))))))) : (¬ ((x1 ≤ (10 : Int)) ∨ (x1 = (258 : Int)))) := by omega
theorem omg_539f1d3122 {x0 : Int} {x1 : Int} (a0 : (((12 : Int) ≤ x0) ∧ ((x0 < (16 : Int)) ∧ ((((3 : Int) + ((4 : Int) * (x0 - (8 : Int)))) ≤ x1) ∧ ((x1 < ((7 : Int) + ((4 : Int) * (x0 - (8 : Int))))) ∧ (x1 < (258 : Int))))))) : (x1 ≤ (34 : Int)) := by omega
theorem omg_5aa528b8bf {x0 : Int} {x1 : Int} (a0 : (((24 : Int) ≤ x0) ∧ ((x0 < (28 : Int)) ∧ ((((3 : Int) + ((32 : Int) * (x0 - (20 : Int)))) ≤ x1) ∧ ((x1 < ((35 : Int) + ((32 : Int) * (x0 - (20 : Int))))) ∧ (x1 < (258 : Int))))))) : (¬ (x1 ≤ (34 : Int))) := by omega
theorem omg_cc9137dbb6 {x0 : Int} {x1 : Int} {x2 : Int} (a0 : (((14 : Int) ≤ x0) ∧ ((x0 < (16 : Int)) ∧ ((((1 : Int) + ((64 : Int) * (x0 - (12 : Int)))) ≤ x1) ∧ (x1 < ((65 : Int) + ((64 : Int) * (x0 - (12 : Int))))))))) (a1 : (x2 = x0)) : (x2 = ((12 : Int) + ((x1 - (1 : Int)) / (64 : Int)))) := by omega
theorem llr_0 {k : Int} (h0 : 0 ≤ k) (h1 : k < 8) : ll_f k = 3 + k := by
  unfold ll_f
  first | rw [if_pos (by omega)] | ((repeat' split) <;> omega)
theorem llr_1 {k : Int} (h0 : 8 ≤ k) (h1 : k < 12) : ll_f k = 3 + 2 * (k - 4) := by
  unfold ll_f
  first | rw [if_neg (by omega), if_pos (by omega)] | ((repeat' split) <;> omega)
theorem llr_2 {k : Int} (h0 : 12 ≤ k) (h1 : k < 16) : ll_f k = 3 + 4 * (k - 8) := by
  unfold ll_f
  first | rw [if_neg (by omega), if_neg (by omega), if_pos (by omega)] | ((repeat' split) <;> omega)
theorem llr_3 {k : Int} (h0 : 16 ≤ k) (h1 : k < 20) : ll_f k = 3 + 8 * (k - 12) := by
  unfold ll_f
  first | rw [if_neg (by omega), if_neg (by omega), if_neg (by omega), if_pos (by omega)] | ((repeat' split) <;> omega)
theorem llr_4 {k : Int} (h0 : 20 ≤ k) (h1 : k < 24) : ll_f k = 3 + 16 * (k - 16) := by
  unfold ll_f
  first | rw [if_neg (by omega), if_neg (by omega), if_neg (by omega), if_neg (by omega), if_pos (by omega)] | ((repeat' split) <;> omega)
theorem llr_5 {k : Int} (h0 : 24 ≤ k) (h1 : k < 28) : ll_f k = 3 + 32 * (k - 20) := by
  unfold ll_f
  first | rw [if_neg (by omega), if_neg (by omega), if_neg (by omega), if_neg (by omega), if_neg (by omega), if_pos (by omega)] | ((repeat' split) <;> omega)
theorem llr_28 {k : Int} (h : k = 28) : ll_f k = 258 := by
  subst h
  rfl
/-- where the search for a length ends -/
theorem ll_Q {k n : Int} (h0 : 0 ≤ k) (h1 : k ≤ 28) (h2 : ll_f k ≤ n) (h3 : k = 28 ∨ n < ll_f (k + 1)) (hn : n ≤ 258) : (k < 8 ∧ n = 3 + k) ∨ (8 ≤ k ∧ k < 12 ∧ 3 + 2 * (k - 4) ≤ n ∧ n < 5 + 2 * (k - 4) ∧ n < 258) ∨ (12 ≤ k ∧ k < 16 ∧ 3 + 4 * (k - 8) ≤ n ∧ n < 7 + 4 * (k - 8) ∧ n < 258) ∨ (16 ≤ k ∧ k < 20 ∧ 3 + 8 * (k - 12) ≤ n ∧ n < 11 + 8 * (k - 12) ∧ n < 258) ∨ (20 ≤ k ∧ k < 24 ∧ 3 + 16 * (k - 16) ≤ n ∧ n < 19 + 16 * (k - 16) ∧ n < 258) ∨ (24 ≤ k ∧ k < 28 ∧ 3 + 32 * (k - 20) ≤ n ∧ n < 35 + 32 * (k - 20) ∧ n < 258) ∨ (k = 28 ∧ n = 258) := by
  by_cases c28 : k = 28
  · have e := llr_28 c28
    exact Or.inr (Or.inr (Or.inr (Or.inr (Or.inr (Or.inr (⟨c28, by omega⟩))))))
  · have h4 : n < ll_f (k + 1) := by
      rcases h3 with q | q
      · exact absurd q c28
      · exact q
    clear h3
    by_cases c0 : k < 8
    · have e := llr_0 (k := k) (by omega) c0
      have f : ll_f (k + 1) ≤ 4 + k := by
        by_cases d : k + 1 < 8
        · have g := llr_0 (k := k + 1) (by omega) d
          omega
        · have g := llr_1 (k := k + 1) (by omega) (by omega)
          omega
      exact Or.inl ⟨c0, by omega⟩
    · by_cases c1 : k < 12
      · have e := llr_1 (k := k) (by omega) c1
        have f : ll_f (k + 1) ≤ 5 + 2 * (k - 4) := by
          by_cases d : k + 1 < 12
          · have g := llr_1 (k := k + 1) (by omega) d
            omega
          · have g := llr_2 (k := k + 1) (by omega) (by omega)
            omega
        have z : n < 258 := by
          omega
        exact Or.inr (Or.inl ⟨by omega, c1, by omega, by omega, z⟩)
      · by_cases c2 : k < 16
        · have e := llr_2 (k := k) (by omega) c2
          have f : ll_f (k + 1) ≤ 7 + 4 * (k - 8) := by
            by_cases d : k + 1 < 16
            · have g := llr_2 (k := k + 1) (by omega) d
              omega
            · have g := llr_3 (k := k + 1) (by omega) (by omega)
              omega
          have z : n < 258 := by
            omega
          exact Or.inr (Or.inr (Or.inl ⟨by omega, c2, by omega, by omega, z⟩))
        · by_cases c3 : k < 20
          · have e := llr_3 (k := k) (by omega) c3
            have f : ll_f (k + 1) ≤ 11 + 8 * (k - 12) := by
              by_cases d : k + 1 < 20
              · have g := llr_3 (k := k + 1) (by omega) d
                omega
              · have g := llr_4 (k := k + 1) (by omega) (by omega)
                omega
            have z : n < 258 := by
              omega
            exact Or.inr (Or.inr (Or.inr (Or.inl ⟨by omega, c3, by omega, by omega, z⟩)))
          · by_cases c4 : k < 24
            · have e := llr_4 (k := k) (by omega) c4
              have f : ll_f (k + 1) ≤ 19 + 16 * (k - 16) := by
                by_cases d : k + 1 < 24
                · have g := llr_4 (k := k + 1) (by omega) d
                  omega
                · have g := llr_5 (k := k + 1) (by omega) (by omega)
                  omega
              have z : n < 258 := by
                omega
              exact Or.inr (Or.inr (Or.inr (Or.inr (Or.inl ⟨by omega, c4, by omega, by omega, z⟩))))
            · by_cases c5 : k < 28
              · have e := llr_5 (k := k) (by omega) c5
                have f : ll_f (k + 1) ≤ 35 + 32 * (k - 20) := by
                  by_cases d : k + 1 < 28
                  · have g := llr_5 (k := k + 1) (by omega) d
                    omega
                  · have g := llr_28 (k := k + 1) (by omega)
                    omega
                have z : n < 258 := by
                  by_cases d : k + 1 < 28
                  · have g := llr_5 (k := k + 1) (by omega) d
                    omega
                  · have g := llr_28 (k := k + 1) (by omega)
                    omega
                exact Or.inr (Or.inr (Or.inr (Or.inr (Or.inr (Or.inl ⟨by omega, c5, by omega, by omega, z⟩)))))
              · exact absurd h1 (by omega)
theorem lo_k0 {S : Int × (Int → Int)} {k n s : Int} (h : k < 8) (hn : n = 3 + k) (h0 : 0 ≤ k) (hs : s = 257 + k) : sb_ S s = lo_ S n := lo_M2 (m := 0) (v := 0) (by omega) (by unfold lm_; rw [if_pos (by omega)]) (Or.inl ⟨rfl, by omega⟩)
theorem le_k0 {k n : Int} (h : k < 8) (hn : n = 3 + k) : le_c n = 7 := by
  unfold le_c
  rw [if_pos (by omega)]
theorem lo_K {S : Int × (Int → Int)} {k n v m s : Int} (h0 : 8 ≤ k) (h1 : k < 28) (h2 : ll_f k ≤ n) (h3 : k = 28 ∨ n < ll_f (k + 1)) (hn : n ≤ 258) (hm : m = k / 4 - 1) (hs : s = 257 + k) (hv : v = n - ll_f k) : bn_ (sb_ S s) v m.toNat = lo_ S n := by
  rcases ll_Q (by omega) (by omega) h2 h3 hn with q | q | q | q | q | q | q
  · omega
  · have f := llr_1 (k := k) (by omega) (by omega)
    clear h2 h3
    exact lo_M2 (by omega) (by unfold lm_; first | (rw [if_neg (by (first | exact omg_2a1dffabea q | omega)), if_pos (by omega)]; omega) | ((repeat' split) <;> omega)) (Or.inr (Or.inl ⟨by omega, by omega, by omega⟩))
  · have f := llr_2 (k := k) (by omega) (by omega)
    clear h2 h3
    exact lo_M2 (by omega) (by unfold lm_; first | (rw [if_neg (by omega), if_neg (by omega), if_pos (by (first | exact omg_539f1d3122 q | omega))]; omega) | ((repeat' split) <;> omega)) (Or.inr (Or.inr (Or.inl ⟨by omega, by omega, by omega⟩)))
  · have f := llr_3 (k := k) (by omega) (by omega)
    clear h2 h3
    exact lo_M2 (by omega) (by unfold lm_; first | (rw [if_neg (by omega), if_neg (by omega), if_neg (by omega), if_pos (by omega)]; omega) | ((repeat' split) <;> omega)) (Or.inr (Or.inr (Or.inr (Or.inl ⟨by omega, by omega, by omega⟩))))
  · have f := llr_4 (k := k) (by omega) (by omega)
    clear h2 h3
    exact lo_M2 (by omega) (by unfold lm_; first | (rw [if_neg (by omega), if_neg (by omega), if_neg (by omega), if_neg (by omega), if_pos (by omega)]; omega) | ((repeat' split) <;> omega)) (Or.inr (Or.inr (Or.inr (Or.inr (Or.inl ⟨by omega, by omega, by omega⟩)))))
  · have f := llr_5 (k := k) (by omega) (by omega)
    clear h2 h3
    exact lo_M2 (by omega) (by unfold lm_; first | (rw [if_neg (by omega), if_neg (by omega), if_neg (by (first | exact omg_5aa528b8bf q | omega)), if_neg (by omega), if_neg (by omega)]; omega) | ((repeat' split) <;> omega)) (Or.inr (Or.inr (Or.inr (Or.inr (Or.inr ⟨by omega, by omega, by omega⟩)))))
  · omega
theorem le_K {k n m : Int} (h0 : 8 ≤ k) (h1 : k < 28) (h2 : ll_f k ≤ n) (h3 : k = 28 ∨ n < ll_f (k + 1)) (hn : n ≤ 258) (hm : m = k / 4 - 1) : (k < 23 → le_c n = 7 + m) ∧ (23 ≤ k → le_c n = 8 + m) := by
  rcases ll_Q (by omega) (by omega) h2 h3 hn with q | q | q | q | q | q | q
  · omega
  · clear h2 h3
    constructor <;> (intro c; unfold le_c; (repeat' split) <;> omega)
  · clear h2 h3
    constructor <;> (intro c; unfold le_c; (repeat' split) <;> omega)
  · clear h2 h3
    constructor <;> (intro c; unfold le_c; (repeat' split) <;> omega)
  · clear h2 h3
    constructor <;> (intro c; unfold le_c; (repeat' split) <;> omega)
  · clear h2 h3
    constructor <;> (intro c; unfold le_c; (repeat' split) <;> omega)
  · omega
theorem ldr_0 {d : Int} (h0 : 0 ≤ d) (h1 : d < 4) : ld_f d = 1 + d := by
  unfold ld_f
  first | rw [if_pos (by omega)] | ((repeat' split) <;> omega)
theorem ldr_1 {d : Int} (h0 : 4 ≤ d) (h1 : d < 6) : ld_f d = 1 + 2 * (d - 2) := by
  unfold ld_f
  first | rw [if_neg (by omega), if_pos (by omega)] | ((repeat' split) <;> omega)
theorem ldr_2 {d : Int} (h0 : 6 ≤ d) (h1 : d < 8) : ld_f d = 1 + 4 * (d - 4) := by
  unfold ld_f
  first | rw [if_neg (by omega), if_neg (by omega), if_pos (by omega)] | ((repeat' split) <;> omega)
theorem ldr_3 {d : Int} (h0 : 8 ≤ d) (h1 : d < 10) : ld_f d = 1 + 8 * (d - 6) := by
  unfold ld_f
  first | rw [if_neg (by omega), if_neg (by omega), if_neg (by omega), if_pos (by omega)] | ((repeat' split) <;> omega)
theorem ldr_4 {d : Int} (h0 : 10 ≤ d) (h1 : d < 12) : ld_f d = 1 + 16 * (d - 8) := by
  unfold ld_f
  first | rw [if_neg (by omega), if_neg (by omega), if_neg (by omega), if_neg (by omega), if_pos (by omega)] | ((repeat' split) <;> omega)
theorem ldr_5 {d : Int} (h0 : 12 ≤ d) (h1 : d < 14) : ld_f d = 1 + 32 * (d - 10) := by
  unfold ld_f
  first | rw [if_neg (by omega), if_neg (by omega), if_neg (by omega), if_neg (by omega), if_neg (by omega), if_pos (by omega)] | ((repeat' split) <;> omega)
theorem ldr_6 {d : Int} (h0 : 14 ≤ d) (h1 : d < 16) : ld_f d = 1 + 64 * (d - 12) := by
  unfold ld_f
  first | rw [if_neg (by omega), if_neg (by omega), if_neg (by omega), if_neg (by omega), if_neg (by omega), if_neg (by omega), if_pos (by omega)] | ((repeat' split) <;> omega)
theorem ldr_7 {d : Int} (h0 : 16 ≤ d) (h1 : d < 18) : ld_f d = 1 + 128 * (d - 14) := by
  unfold ld_f
  first | rw [if_neg (by omega), if_neg (by omega), if_neg (by omega), if_neg (by omega), if_neg (by omega), if_neg (by omega), if_neg (by omega), if_pos (by omega)] | ((repeat' split) <;> omega)
theorem ldr_8 {d : Int} (h0 : 18 ≤ d) (h1 : d < 20) : ld_f d = 1 + 256 * (d - 16) := by
  unfold ld_f
  first | rw [if_neg (by omega), if_neg (by omega), if_neg (by omega), if_neg (by omega), if_neg (by omega), if_neg (by omega), if_neg (by omega), if_neg (by omega), if_pos (by omega)] | ((repeat' split) <;> omega)
theorem ldr_9 {d : Int} (h0 : 20 ≤ d) (h1 : d < 22) : ld_f d = 1 + 512 * (d - 18) := by
  unfold ld_f
  first | rw [if_neg (by omega), if_neg (by omega), if_neg (by omega), if_neg (by omega), if_neg (by omega), if_neg (by omega), if_neg (by omega), if_neg (by omega), if_neg (by omega), if_pos (by omega)] | ((repeat' split) <;> omega)
theorem ldr_10 {d : Int} (h0 : 22 ≤ d) (h1 : d < 24) : ld_f d = 1 + 1024 * (d - 20) := by
  unfold ld_f
  first | rw [if_neg (by omega), if_neg (by omega), if_neg (by omega), if_neg (by omega), if_neg (by omega), if_neg (by omega), if_neg (by omega), if_neg (by omega), if_neg (by omega), if_neg (by omega), if_pos (by omega)] | ((repeat' split) <;> omega)
theorem ldr_11 {d : Int} (h0 : 24 ≤ d) (h1 : d < 26) : ld_f d = 1 + 2048 * (d - 22) := by
  unfold ld_f
  first | rw [if_neg (by omega), if_neg (by omega), if_neg (by omega), if_neg (by omega), if_neg (by omega), if_neg (by omega), if_neg (by omega), if_neg (by omega), if_neg (by omega), if_neg (by omega), if_neg (by omega), if_pos (by omega)] | ((repeat' split) <;> omega)
theorem ldr_12 {d : Int} (h0 : 26 ≤ d) (h1 : d < 28) : ld_f d = 1 + 4096 * (d - 24) := by
  unfold ld_f
  first | rw [if_neg (by omega), if_neg (by omega), if_neg (by omega), if_neg (by omega), if_neg (by omega), if_neg (by omega), if_neg (by omega), if_neg (by omega), if_neg (by omega), if_neg (by omega), if_neg (by omega), if_neg (by omega), if_pos (by omega)] | ((repeat' split) <;> omega)
theorem ldr_13 {d : Int} (h0 : 28 ≤ d) (h1 : d < 30) : ld_f d = 1 + 8192 * (d - 26) := by
  unfold ld_f
  first | rw [if_neg (by omega), if_neg (by omega), if_neg (by omega), if_neg (by omega), if_neg (by omega), if_neg (by omega), if_neg (by omega), if_neg (by omega), if_neg (by omega), if_neg (by omega), if_neg (by omega), if_neg (by omega), if_neg (by omega)] | ((repeat' split) <;> omega)
theorem ld_Q {d n : Int} (h0 : 0 ≤ d) (h1 : d ≤ 29) (h2 : ld_f d ≤ n) (h3 : d = 29 ∨ n < ld_f (d + 1)) (hn : n ≤ 4000) : (d < 4 ∧ n = 1 + d) ∨ (4 ≤ d ∧ d < 6 ∧ 1 + 2 * (d - 2) ≤ n ∧ n < 3 + 2 * (d - 2)) ∨ (6 ≤ d ∧ d < 8 ∧ 1 + 4 * (d - 4) ≤ n ∧ n < 5 + 4 * (d - 4)) ∨ (8 ≤ d ∧ d < 10 ∧ 1 + 8 * (d - 6) ≤ n ∧ n < 9 + 8 * (d - 6)) ∨ (10 ≤ d ∧ d < 12 ∧ 1 + 16 * (d - 8) ≤ n ∧ n < 17 + 16 * (d - 8)) ∨ (12 ≤ d ∧ d < 14 ∧ 1 + 32 * (d - 10) ≤ n ∧ n < 33 + 32 * (d - 10)) ∨ (14 ≤ d ∧ d < 16 ∧ 1 + 64 * (d - 12) ≤ n ∧ n < 65 + 64 * (d - 12)) ∨ (16 ≤ d ∧ d < 18 ∧ 1 + 128 * (d - 14) ≤ n ∧ n < 129 + 128 * (d - 14)) ∨ (18 ≤ d ∧ d < 20 ∧ 1 + 256 * (d - 16) ≤ n ∧ n < 257 + 256 * (d - 16)) ∨ (20 ≤ d ∧ d < 22 ∧ 1 + 512 * (d - 18) ≤ n ∧ n < 513 + 512 * (d - 18)) ∨ (22 ≤ d ∧ d < 24 ∧ 1 + 1024 * (d - 20) ≤ n ∧ n < 1025 + 1024 * (d - 20)) := by
  have hd : d < 24 := Classical.byContradiction (fun c => by
    have g11 : 24 ≤ d → d < 26 → 4097 ≤ ld_f d := fun q r => by
      rw [ldr_11 q r]
      omega
    have g12 : 26 ≤ d → d < 28 → 4097 ≤ ld_f d := fun q r => by
      rw [ldr_12 q r]
      omega
    have g13 : 28 ≤ d → d < 30 → 4097 ≤ ld_f d := fun q r => by
      rw [ldr_13 q r]
      omega
    rcases (show (24 ≤ d ∧ d < 26) ∨ (26 ≤ d ∧ d < 28) ∨ (28 ≤ d ∧ d < 30) by omega) with q | q | q
    · have := g11 q.1 q.2
      omega
    · have := g12 q.1 q.2
      omega
    · have := g13 q.1 q.2
      omega)
  have h4 : n < ld_f (d + 1) := by
    rcases h3 with q | q
    · omega
    · exact q
  clear h3
  by_cases c0 : d < 4
  · have e := ldr_0 (d := d) (by omega) c0
    have f : ld_f (d + 1) ≤ 2 + d := by
      by_cases x : d + 1 < 4
      · have g := ldr_0 (d := d + 1) (by omega) x
        omega
      · have g := ldr_1 (d := d + 1) (by omega) (by omega)
        omega
    exact Or.inl ⟨c0, by omega⟩
  · by_cases c1 : d < 6
    · have e := ldr_1 (d := d) (by omega) c1
      have f : ld_f (d + 1) ≤ 3 + 2 * (d - 2) := by
        by_cases x : d + 1 < 6
        · have g := ldr_1 (d := d + 1) (by omega) x
          omega
        · have g := ldr_2 (d := d + 1) (by omega) (by omega)
          omega
      exact Or.inr (Or.inl ⟨by omega, c1, by omega, by omega⟩)
    · by_cases c2 : d < 8
      · have e := ldr_2 (d := d) (by omega) c2
        have f : ld_f (d + 1) ≤ 5 + 4 * (d - 4) := by
          by_cases x : d + 1 < 8
          · have g := ldr_2 (d := d + 1) (by omega) x
            omega
          · have g := ldr_3 (d := d + 1) (by omega) (by omega)
            omega
        exact Or.inr (Or.inr (Or.inl ⟨by omega, c2, by omega, by omega⟩))
      · by_cases c3 : d < 10
        · have e := ldr_3 (d := d) (by omega) c3
          have f : ld_f (d + 1) ≤ 9 + 8 * (d - 6) := by
            by_cases x : d + 1 < 10
            · have g := ldr_3 (d := d + 1) (by omega) x
              omega
            · have g := ldr_4 (d := d + 1) (by omega) (by omega)
              omega
          exact Or.inr (Or.inr (Or.inr (Or.inl ⟨by omega, c3, by omega, by omega⟩)))
        · by_cases c4 : d < 12
          · have e := ldr_4 (d := d) (by omega) c4
            have f : ld_f (d + 1) ≤ 17 + 16 * (d - 8) := by
              by_cases x : d + 1 < 12
              · have g := ldr_4 (d := d + 1) (by omega) x
                omega
              · have g := ldr_5 (d := d + 1) (by omega) (by omega)
                omega
            exact Or.inr (Or.inr (Or.inr (Or.inr (Or.inl ⟨by omega, c4, by omega, by omega⟩))))
          · by_cases c5 : d < 14
            · have e := ldr_5 (d := d) (by omega) c5
              have f : ld_f (d + 1) ≤ 33 + 32 * (d - 10) := by
                by_cases x : d + 1 < 14
                · have g := ldr_5 (d := d + 1) (by omega) x
                  omega
                · have g := ldr_6 (d := d + 1) (by omega) (by omega)
                  omega
              exact Or.inr (Or.inr (Or.inr (Or.inr (Or.inr (Or.inl ⟨by omega, c5, by omega, by omega⟩)))))
            · by_cases c6 : d < 16
              · have e := ldr_6 (d := d) (by omega) c6
                have f : ld_f (d + 1) ≤ 65 + 64 * (d - 12) := by
                  by_cases x : d + 1 < 16
                  · have g := ldr_6 (d := d + 1) (by omega) x
                    omega
                  · have g := ldr_7 (d := d + 1) (by omega) (by omega)
                    omega
                exact Or.inr (Or.inr (Or.inr (Or.inr (Or.inr (Or.inr (Or.inl ⟨by omega, c6, by omega, by omega⟩))))))
              · by_cases c7 : d < 18
                · have e := ldr_7 (d := d) (by omega) c7
                  have f : ld_f (d + 1) ≤ 129 + 128 * (d - 14) := by
                    by_cases x : d + 1 < 18
                    · have g := ldr_7 (d := d + 1) (by omega) x
                      omega
                    · have g := ldr_8 (d := d + 1) (by omega) (by omega)
                      omega
                  exact Or.inr (Or.inr (Or.inr (Or.inr (Or.inr (Or.inr (Or.inr (Or.inl ⟨by omega, c7, by omega, by omega⟩)))))))
                · by_cases c8 : d < 20
                  · have e := ldr_8 (d := d) (by omega) c8
                    have f : ld_f (d + 1) ≤ 257 + 256 * (d - 16) := by
                      by_cases x : d + 1 < 20
                      · have g := ldr_8 (d := d + 1) (by omega) x
                        omega
                      · have g := ldr_9 (d := d + 1) (by omega) (by omega)
                        omega
                    exact Or.inr (Or.inr (Or.inr (Or.inr (Or.inr (Or.inr (Or.inr (Or.inr (Or.inl ⟨by omega, c8, by omega, by omega⟩))))))))
                  · by_cases c9 : d < 22
                    · have e := ldr_9 (d := d) (by omega) c9
                      have f : ld_f (d + 1) ≤ 513 + 512 * (d - 18) := by
                        by_cases x : d + 1 < 22
                        · have g := ldr_9 (d := d + 1) (by omega) x
                          omega
                        · have g := ldr_10 (d := d + 1) (by omega) (by omega)
                          omega
                      exact Or.inr (Or.inr (Or.inr (Or.inr (Or.inr (Or.inr (Or.inr (Or.inr (Or.inr (Or.inl ⟨by omega, c9, by omega, by omega⟩)))))))))
                    · by_cases c10 : d < 24
                      · have e := ldr_10 (d := d) (by omega) c10
                        have f : ld_f (d + 1) ≤ 1025 + 1024 * (d - 20) := by
                          by_cases x : d + 1 < 24
                          · have g := ldr_10 (d := d + 1) (by omega) x
                            omega
                          · have g := ldr_11 (d := d + 1) (by omega) (by omega)
                            omega
                        exact Or.inr (Or.inr (Or.inr (Or.inr (Or.inr (Or.inr (Or.inr (Or.inr (Or.inr (Or.inr (⟨by omega, c10, by omega, by omega⟩))))))))))
                      · omega
theorem do_k0 {S : Int × (Int → Int)} {d n s : Int} (h : d < 4) (hn : n = 1 + d) (h0 : 0 ≤ d) (hs : s = d) : bc_ s 5 S = do_ S n := do_M2 (m := 0) (v := 0) (by unfold dm_; rw [if_pos (by omega)]) (Or.inl ⟨rfl, by omega⟩)
theorem di_k0 {d n : Int} (h : d < 4) (hn : n = 1 + d) : di_c n = 5 := by
  unfold di_c
  rw [if_pos (by omega)]
theorem do_K1 {S : Int × (Int → Int)} {d n v m s : Int} (q : 4 ≤ d ∧ d < 6 ∧ 1 + 2 * (d - 2) ≤ n ∧ n < 3 + 2 * (d - 2)) (hm : m = d / 2 - 1) (hs : s = d) (hv : v = n - ld_f d) : bn_ (bc_ s 5 S) v m.toNat = do_ S n := by
  have f := ldr_1 (d := d) (by omega) (by omega)
  exact do_M2 (by clear hv f hs; unfold dm_; first | (rw [if_neg (by omega), if_pos (by omega)]; omega) | ((repeat' split) <;> omega)) (Or.inr (Or.inl ⟨by omega, by omega, by omega⟩))
theorem di_K1 {d n m : Int} (q : 4 ≤ d ∧ d < 6 ∧ 1 + 2 * (d - 2) ≤ n ∧ n < 3 + 2 * (d - 2)) (hm : m = d / 2 - 1) : di_c n = 5 + m := by
  unfold di_c
  first | (rw [if_neg (by omega), if_pos (by omega)]; omega) | ((repeat' split) <;> omega)
theorem do_K2 {S : Int × (Int → Int)} {d n v m s : Int} (q : 6 ≤ d ∧ d < 8 ∧ 1 + 4 * (d - 4) ≤ n ∧ n < 5 + 4 * (d - 4)) (hm : m = d / 2 - 1) (hs : s = d) (hv : v = n - ld_f d) : bn_ (bc_ s 5 S) v m.toNat = do_ S n := by
  have f := ldr_2 (d := d) (by omega) (by omega)
  exact do_M2 (by clear hv f hs; unfold dm_; first | (rw [if_neg (by omega), if_neg (by omega), if_pos (by omega)]; omega) | ((repeat' split) <;> omega)) (Or.inr (Or.inr (Or.inl ⟨by omega, by omega, by omega⟩)))
theorem di_K2 {d n m : Int} (q : 6 ≤ d ∧ d < 8 ∧ 1 + 4 * (d - 4) ≤ n ∧ n < 5 + 4 * (d - 4)) (hm : m = d / 2 - 1) : di_c n = 5 + m := by
  unfold di_c
  first | (rw [if_neg (by omega), if_neg (by omega), if_pos (by omega)]; omega) | ((repeat' split) <;> omega)
theorem do_K3 {S : Int × (Int → Int)} {d n v m s : Int} (q : 8 ≤ d ∧ d < 10 ∧ 1 + 8 * (d - 6) ≤ n ∧ n < 9 + 8 * (d - 6)) (hm : m = d / 2 - 1) (hs : s = d) (hv : v = n - ld_f d) : bn_ (bc_ s 5 S) v m.toNat = do_ S n := by
  have f := ldr_3 (d := d) (by omega) (by omega)
  exact do_M2 (by clear hv f hs; unfold dm_; first | (rw [if_neg (by omega), if_neg (by omega), if_neg (by omega), if_pos (by omega)]; omega) | ((repeat' split) <;> omega)) (Or.inr (Or.inr (Or.inr (Or.inl ⟨by omega, by omega, by omega⟩))))
theorem di_K3 {d n m : Int} (q : 8 ≤ d ∧ d < 10 ∧ 1 + 8 * (d - 6) ≤ n ∧ n < 9 + 8 * (d - 6)) (hm : m = d / 2 - 1) : di_c n = 5 + m := by
  unfold di_c
  first | (rw [if_neg (by omega), if_neg (by omega), if_neg (by omega), if_pos (by omega)]; omega) | ((repeat' split) <;> omega)
theorem do_K4 {S : Int × (Int → Int)} {d n v m s : Int} (q : 10 ≤ d ∧ d < 12 ∧ 1 + 16 * (d - 8) ≤ n ∧ n < 17 + 16 * (d - 8)) (hm : m = d / 2 - 1) (hs : s = d) (hv : v = n - ld_f d) : bn_ (bc_ s 5 S) v m.toNat = do_ S n := by
  have f := ldr_4 (d := d) (by omega) (by omega)
  exact do_M2 (by clear hv f hs; unfold dm_; first | (rw [if_neg (by omega), if_neg (by omega), if_neg (by omega), if_neg (by omega), if_pos (by omega)]; omega) | ((repeat' split) <;> omega)) (Or.inr (Or.inr (Or.inr (Or.inr (Or.inl ⟨by omega, by omega, by omega⟩)))))
theorem di_K4 {d n m : Int} (q : 10 ≤ d ∧ d < 12 ∧ 1 + 16 * (d - 8) ≤ n ∧ n < 17 + 16 * (d - 8)) (hm : m = d / 2 - 1) : di_c n = 5 + m := by
  unfold di_c
  first | (rw [if_neg (by omega), if_neg (by omega), if_neg (by omega), if_neg (by omega), if_pos (by omega)]; omega) | ((repeat' split) <;> omega)
theorem do_K5 {S : Int × (Int → Int)} {d n v m s : Int} (q : 12 ≤ d ∧ d < 14 ∧ 1 + 32 * (d - 10) ≤ n ∧ n < 33 + 32 * (d - 10)) (hm : m = d / 2 - 1) (hs : s = d) (hv : v = n - ld_f d) : bn_ (bc_ s 5 S) v m.toNat = do_ S n := by
  have f := ldr_5 (d := d) (by omega) (by omega)
  exact do_M2 (by clear hv f hs; unfold dm_; first | (rw [if_neg (by omega), if_neg (by omega), if_neg (by omega), if_neg (by omega), if_neg (by omega), if_pos (by omega)]; omega) | ((repeat' split) <;> omega)) (Or.inr (Or.inr (Or.inr (Or.inr (Or.inr (Or.inl ⟨by omega, by omega, by omega⟩))))))
theorem di_K5 {d n m : Int} (q : 12 ≤ d ∧ d < 14 ∧ 1 + 32 * (d - 10) ≤ n ∧ n < 33 + 32 * (d - 10)) (hm : m = d / 2 - 1) : di_c n = 5 + m := by
  unfold di_c
  first | (rw [if_neg (by omega), if_neg (by omega), if_neg (by omega), if_neg (by omega), if_neg (by omega), if_pos (by omega)]; omega) | ((repeat' split) <;> omega)
theorem do_K6 {S : Int × (Int → Int)} {d n v m s : Int} (q : 14 ≤ d ∧ d < 16 ∧ 1 + 64 * (d - 12) ≤ n ∧ n < 65 + 64 * (d - 12)) (hm : m = d / 2 - 1) (hs : s = d) (hv : v = n - ld_f d) : bn_ (bc_ s 5 S) v m.toNat = do_ S n := by
  have f := ldr_6 (d := d) (by omega) (by omega)
  exact do_M2 (by clear hv f hs; unfold dm_; first | (rw [if_neg (by omega), if_neg (by omega), if_neg (by omega), if_neg (by omega), if_neg (by omega), if_neg (by omega), if_pos (by omega)]; omega) | ((repeat' split) <;> omega)) (Or.inr (Or.inr (Or.inr (Or.inr (Or.inr (Or.inr (Or.inl ⟨by omega, by (first | exact omg_cc9137dbb6 q hs | omega), by omega⟩)))))))
theorem di_K6 {d n m : Int} (q : 14 ≤ d ∧ d < 16 ∧ 1 + 64 * (d - 12) ≤ n ∧ n < 65 + 64 * (d - 12)) (hm : m = d / 2 - 1) : di_c n = 5 + m := by
  unfold di_c
  first | (rw [if_neg (by omega), if_neg (by omega), if_neg (by omega), if_neg (by omega), if_neg (by omega), if_neg (by omega), if_pos (by omega)]; omega) | ((repeat' split) <;> omega)
theorem do_K7 {S : Int × (Int → Int)} {d n v m s : Int} (q : 16 ≤ d ∧ d < 18 ∧ 1 + 128 * (d - 14) ≤ n ∧ n < 129 + 128 * (d - 14)) (hm : m = d / 2 - 1) (hs : s = d) (hv : v = n - ld_f d) : bn_ (bc_ s 5 S) v m.toNat = do_ S n := by
  have f := ldr_7 (d := d) (by omega) (by omega)
  exact do_M2 (by clear hv f hs; unfold dm_; first | (rw [if_neg (by omega), if_neg (by omega), if_neg (by omega), if_neg (by omega), if_neg (by omega), if_neg (by omega), if_neg (by omega), if_pos (by omega)]; omega) | ((repeat' split) <;> omega)) (Or.inr (Or.inr (Or.inr (Or.inr (Or.inr (Or.inr (Or.inr (Or.inl ⟨by omega, by omega, by omega⟩))))))))
theorem di_K7 {d n m : Int} (q : 16 ≤ d ∧ d < 18 ∧ 1 + 128 * (d - 14) ≤ n ∧ n < 129 + 128 * (d - 14)) (hm : m = d / 2 - 1) : di_c n = 5 + m := by
  unfold di_c
  first | (rw [if_neg (by omega), if_neg (by omega), if_neg (by omega), if_neg (by omega), if_neg (by omega), if_neg (by omega), if_neg (by omega), if_pos (by omega)]; omega) | ((repeat' split) <;> omega)
theorem do_K8 {S : Int × (Int → Int)} {d n v m s : Int} (q : 18 ≤ d ∧ d < 20 ∧ 1 + 256 * (d - 16) ≤ n ∧ n < 257 + 256 * (d - 16)) (hm : m = d / 2 - 1) (hs : s = d) (hv : v = n - ld_f d) : bn_ (bc_ s 5 S) v m.toNat = do_ S n := by
  have f := ldr_8 (d := d) (by omega) (by omega)
  exact do_M2 (by clear hv f hs; unfold dm_; first | (rw [if_neg (by omega), if_neg (by omega), if_neg (by omega), if_neg (by omega), if_neg (by omega), if_neg (by omega), if_neg (by omega), if_neg (by omega), if_pos (by omega)]; omega) | ((repeat' split) <;> omega)) (Or.inr (Or.inr (Or.inr (Or.inr (Or.inr (Or.inr (Or.inr (Or.inr (Or.inl ⟨by omega, by omega, by omega⟩)))))))))
theorem di_K8 {d n m : Int} (q : 18 ≤ d ∧ d < 20 ∧ 1 + 256 * (d - 16) ≤ n ∧ n < 257 + 256 * (d - 16)) (hm : m = d / 2 - 1) : di_c n = 5 + m := by
  unfold di_c
  first | (rw [if_neg (by omega), if_neg (by omega), if_neg (by omega), if_neg (by omega), if_neg (by omega), if_neg (by omega), if_neg (by omega), if_neg (by omega), if_pos (by omega)]; omega) | ((repeat' split) <;> omega)
theorem do_K9 {S : Int × (Int → Int)} {d n v m s : Int} (q : 20 ≤ d ∧ d < 22 ∧ 1 + 512 * (d - 18) ≤ n ∧ n < 513 + 512 * (d - 18)) (hm : m = d / 2 - 1) (hs : s = d) (hv : v = n - ld_f d) : bn_ (bc_ s 5 S) v m.toNat = do_ S n := by
  have f := ldr_9 (d := d) (by omega) (by omega)
  exact do_M2 (by clear hv f hs; unfold dm_; first | (rw [if_neg (by omega), if_neg (by omega), if_neg (by omega), if_neg (by omega), if_neg (by omega), if_neg (by omega), if_neg (by omega), if_neg (by omega), if_neg (by omega), if_pos (by omega)]; omega) | ((repeat' split) <;> omega)) (Or.inr (Or.inr (Or.inr (Or.inr (Or.inr (Or.inr (Or.inr (Or.inr (Or.inr (Or.inl ⟨by omega, by omega, by omega⟩))))))))))
theorem di_K9 {d n m : Int} (q : 20 ≤ d ∧ d < 22 ∧ 1 + 512 * (d - 18) ≤ n ∧ n < 513 + 512 * (d - 18)) (hm : m = d / 2 - 1) : di_c n = 5 + m := by
  unfold di_c
  first | (rw [if_neg (by omega), if_neg (by omega), if_neg (by omega), if_neg (by omega), if_neg (by omega), if_neg (by omega), if_neg (by omega), if_neg (by omega), if_neg (by omega), if_pos (by omega)]; omega) | ((repeat' split) <;> omega)
theorem do_K10 {S : Int × (Int → Int)} {d n v m s : Int} (q : 22 ≤ d ∧ d < 24 ∧ 1 + 1024 * (d - 20) ≤ n ∧ n < 1025 + 1024 * (d - 20)) (hm : m = d / 2 - 1) (hs : s = d) (hv : v = n - ld_f d) : bn_ (bc_ s 5 S) v m.toNat = do_ S n := by
  have f := ldr_10 (d := d) (by omega) (by omega)
  exact do_M2 (by clear hv f hs; unfold dm_; first | (rw [if_neg (by omega), if_neg (by omega), if_neg (by omega), if_neg (by omega), if_neg (by omega), if_neg (by omega), if_neg (by omega), if_neg (by omega), if_neg (by omega), if_neg (by omega)]; omega) | ((repeat' split) <;> omega)) (Or.inr (Or.inr (Or.inr (Or.inr (Or.inr (Or.inr (Or.inr (Or.inr (Or.inr (Or.inr ⟨by omega, by omega, by omega⟩))))))))))
theorem di_K10 {d n m : Int} (q : 22 ≤ d ∧ d < 24 ∧ 1 + 1024 * (d - 20) ≤ n ∧ n < 1025 + 1024 * (d - 20)) (hm : m = d / 2 - 1) : di_c n = 5 + m := by
  unfold di_c
  first | (rw [if_neg (by omega), if_neg (by omega), if_neg (by omega), if_neg (by omega), if_neg (by omega), if_neg (by omega), if_neg (by omega), if_neg (by omega), if_neg (by omega), if_neg (by omega)]; omega) | ((repeat' split) <;> omega)
theorem do_K {S : Int × (Int → Int)} {d n v m s : Int} (h0 : 4 ≤ d) (h1 : d ≤ 29) (h2 : ld_f d ≤ n) (h3 : d = 29 ∨ n < ld_f (d + 1)) (hn : n ≤ 4000) (hm : m = d / 2 - 1) (hs : s = d) (hv : v = n - ld_f d) : bn_ (bc_ s 5 S) v m.toNat = do_ S n ∧ di_c n = 5 + m := by
  rcases ld_Q (by omega) h1 h2 h3 hn with q | q | q | q | q | q | q | q | q | q | q
  · omega
  · exact ⟨do_K1 q hm hs hv, di_K1 q hm⟩
  · exact ⟨do_K2 q hm hs hv, di_K2 q hm⟩
  · exact ⟨do_K3 q hm hs hv, di_K3 q hm⟩
  · exact ⟨do_K4 q hm hs hv, di_K4 q hm⟩
  · exact ⟨do_K5 q hm hs hv, di_K5 q hm⟩
  · exact ⟨do_K6 q hm hs hv, di_K6 q hm⟩
  · exact ⟨do_K7 q hm hs hv, di_K7 q hm⟩
  · exact ⟨do_K8 q hm hs hv, di_K8 q hm⟩
  · exact ⟨do_K9 q hm hs hv, di_K9 q hm⟩
  · exact ⟨do_K10 q hm hs hv, di_K10 q hm⟩

theorem d_Mod_putBit_0 : decode prog_12_method_20_code 0 = .ok (.aload_n 0, 1) := by decide +kernel
theorem d_Mod_putBit_1 : decode prog_12_method_20_code 1 = .ok (.aload_n 0, 1) := by decide +kernel
theorem d_Mod_putBit_2 : decode prog_12_method_20_code 2 = .ok (.getfield 153, 3) := by decide +kernel
theorem k_1180 : (Jvm.Cond.fieldLink "PackageBookModel" (153 : Nat) "PackageBookModel" "heldBits" "I") ∈ uW := uW_c4 103 rfl (by decide +kernel)
theorem d_Mod_putBit_5 : decode prog_12_method_20_code 5 = .ok (.iload_n 1, 1) := by decide +kernel
theorem d_Mod_putBit_6 : decode prog_12_method_20_code 6 = .ok (.aload_n 0, 1) := by decide +kernel
theorem d_Mod_putBit_7 : decode prog_12_method_20_code 7 = .ok (.getfield 156, 3) := by decide +kernel
theorem k_1181 : (Jvm.Cond.fieldLink "PackageBookModel" (156 : Nat) "PackageBookModel" "heldCount" "I") ∈ uW := uW_c4 104 rfl (by decide +kernel)
theorem d_Mod_putBit_10 : decode prog_12_method_20_code 10 = .ok (.ishl, 1) := by decide +kernel
theorem d_Mod_putBit_11 : decode prog_12_method_20_code 11 = .ok (.iadd, 1) := by decide +kernel
theorem d_Mod_putBit_12 : decode prog_12_method_20_code 12 = .ok (.putfield 153, 3) := by decide +kernel
theorem d_Mod_putBit_15 : decode prog_12_method_20_code 15 = .ok (.aload_n 0, 1) := by decide +kernel
theorem d_Mod_putBit_16 : decode prog_12_method_20_code 16 = .ok (.dup, 1) := by decide +kernel
theorem d_Mod_putBit_17 : decode prog_12_method_20_code 17 = .ok (.getfield 156, 3) := by decide +kernel
theorem d_Mod_putBit_20 : decode prog_12_method_20_code 20 = .ok (.iconst 1, 1) := by decide +kernel
theorem d_Mod_putBit_21 : decode prog_12_method_20_code 21 = .ok (.iadd, 1) := by decide +kernel
theorem d_Mod_putBit_22 : decode prog_12_method_20_code 22 = .ok (.putfield 156, 3) := by decide +kernel
theorem d_Mod_putBit_25 : decode prog_12_method_20_code 25 = .ok (.aload_n 0, 1) := by decide +kernel
theorem d_Mod_putBit_26 : decode prog_12_method_20_code 26 = .ok (.getfield 156, 3) := by decide +kernel
theorem d_Mod_putBit_29 : decode prog_12_method_20_code 29 = .ok (.bipush 8, 2) := by decide +kernel
theorem d_Mod_putBit_31 : decode prog_12_method_20_code 31 = .ok (.if_icmp .ne 37, 3) := by decide +kernel
theorem d_Mod_putBit_68 : decode prog_12_method_20_code 68 = .ok (.return_, 1) := by decide +kernel
theorem d_Mod_putBit_34 : decode prog_12_method_20_code 34 = .ok (.aload_n 0, 1) := by decide +kernel
theorem d_Mod_putBit_35 : decode prog_12_method_20_code 35 = .ok (.getfield 75, 3) := by decide +kernel
theorem k_1183 : (Jvm.Cond.fieldLink "PackageBookModel" (75 : Nat) "PackageBookModel" "pressed" "[B") ∈ uW := uW_c4 106 rfl (by decide +kernel)
theorem d_Mod_putBit_38 : decode prog_12_method_20_code 38 = .ok (.aload_n 0, 1) := by decide +kernel
theorem d_Mod_putBit_39 : decode prog_12_method_20_code 39 = .ok (.getfield 159, 3) := by decide +kernel
theorem k_1182 : (Jvm.Cond.fieldLink "PackageBookModel" (159 : Nat) "PackageBookModel" "pressedSize" "I") ∈ uW := uW_c4 105 rfl (by decide +kernel)
theorem d_Mod_putBit_42 : decode prog_12_method_20_code 42 = .ok (.aload_n 0, 1) := by decide +kernel
theorem d_Mod_putBit_43 : decode prog_12_method_20_code 43 = .ok (.getfield 153, 3) := by decide +kernel
theorem d_Mod_putBit_46 : decode prog_12_method_20_code 46 = .ok (.i2b, 1) := by decide +kernel
theorem d_Mod_putBit_47 : decode prog_12_method_20_code 47 = .ok (.bastore, 1) := by decide +kernel
theorem d_Mod_putBit_48 : decode prog_12_method_20_code 48 = .ok (.aload_n 0, 1) := by decide +kernel
theorem d_Mod_putBit_49 : decode prog_12_method_20_code 49 = .ok (.dup, 1) := by decide +kernel
theorem d_Mod_putBit_50 : decode prog_12_method_20_code 50 = .ok (.getfield 159, 3) := by decide +kernel
theorem d_Mod_putBit_53 : decode prog_12_method_20_code 53 = .ok (.iconst 1, 1) := by decide +kernel
theorem d_Mod_putBit_54 : decode prog_12_method_20_code 54 = .ok (.iadd, 1) := by decide +kernel
theorem d_Mod_putBit_55 : decode prog_12_method_20_code 55 = .ok (.putfield 159, 3) := by decide +kernel
theorem d_Mod_putBit_58 : decode prog_12_method_20_code 58 = .ok (.aload_n 0, 1) := by decide +kernel
theorem d_Mod_putBit_59 : decode prog_12_method_20_code 59 = .ok (.iconst 0, 1) := by decide +kernel
theorem d_Mod_putBit_60 : decode prog_12_method_20_code 60 = .ok (.putfield 153, 3) := by decide +kernel
theorem d_Mod_putBit_63 : decode prog_12_method_20_code 63 = .ok (.aload_n 0, 1) := by decide +kernel
theorem d_Mod_putBit_64 : decode prog_12_method_20_code 64 = .ok (.iconst 0, 1) := by decide +kernel
theorem d_Mod_putBit_65 : decode prog_12_method_20_code 65 = .ok (.putfield 156, 3) := by decide +kernel
abbrev y_Mod_putBit : MethodName := ⟨"PackageBookModel", "putBit", "(I)V"⟩
abbrev i_Mod_putBit : pb_I := (y_Mod_putBit, prog_12_method_20_code, 2, (Option.none : Option Jvm.ClassFile.FieldType), [], { frames := 0, cells := 0, slots := 0, locals := 0 })
set_option maxRecDepth 100000 in
set_option maxHeartbeats 4000000 in
theorem g_Mod_putBit {l : Launch} (hl : l.stackTraces = false) (G : pb_G) (h : Nat) (m_rels : Nat) (m_openRels : Nat) (m_closeRels : Nat) (m_openRel : Nat) (m_closeRel : Nat) (m_comment : Nat) (m_ends : Nat) (m_order : Nat) (m_tape : Nat) (m_count : Nat) (m_nameSize : Nat) (m_names : Nat) (m_size : Nat) (m_data : Nat) (m_looked : Nat) (m_file : Nat) (m_directory : Nat) (m_out : Nat) (m_row : Nat) (m_made : Nat) (m_length : Nat) (m_pressed : Nat) (m_mark : Nat) (m_idSize : Nat) (m_ids : Nat) (m_goalSize : Nat) (m_goals : Nat) (m_value : Nat) (m_faults : Nat) (m_reached : Nat) (v_thrown : Int32) (v_taped : Int32) (v_lookedSize : Int32) (v_fileSize : Int32) (v_directorySize : Int32) (v_outSize : Int32) (v_rowSize : Int32) (v_bitAt : Int32) (v_bitEnd : Int32) (v_why : Int32) (v_madeSize : Int32) (v_firstCount : Int32) (v_secondCount : Int32) (v_heldBits : Int32) (v_heldCount : Int32) (v_pressedSize : Int32) (v_at : Int32) (v_bad : Int32) (v_markSize : Int32) (v_relationCount : Int32) (v_valueSize : Int32) (v_faultCount : Int32) (a_pressed : Nat → Int32) (b : Int32) (S : Int × (Int → Int)) (b0 : 0 ≤ v_heldCount.toInt) (b1 : v_heldCount.toInt < 8) (b2 : 0 ≤ v_pressedSize.toInt) (b3 : (8 * v_pressedSize.toInt + v_heldCount.toInt) + 1 ≤ 40000) (hM : pM_ a_pressed v_heldBits.toInt v_heldCount.toInt v_pressedSize.toInt S) (bb : 0 ≤ b.toInt ∧ b.toInt ≤ 1) (F_a_pressed : sb_Fit a_pressed) : Cn l G i_Mod_putBit [.ref h, .int b] [(h, .inr (10, [.ref m_rels, .ref m_openRels, .ref m_closeRels, .ref m_openRel, .ref m_closeRel, .ref m_comment, .ref m_ends, .ref m_order, .int v_thrown, .int v_taped, .ref m_tape, .ref m_count, .ref m_nameSize, .ref m_names, .ref m_size, .ref m_data, .int v_lookedSize, .ref m_looked, .int v_fileSize, .ref m_file, .int v_directorySize, .ref m_directory, .int v_outSize, .ref m_out, .int v_rowSize, .ref m_row, .int v_bitAt, .int v_bitEnd, .int v_why, .int v_madeSize, .ref m_made, .ref m_length, .int v_firstCount, .int v_secondCount, .int v_heldBits, .int v_heldCount, .int v_pressedSize, .ref m_pressed, .int v_at, .int v_bad, .int v_markSize, .ref m_mark, .int v_relationCount, .ref m_idSize, .ref m_ids, .ref m_goalSize, .ref m_goals, .int v_valueSize, .ref m_value, .int v_faultCount, .ref m_faults, .ref m_reached])), (m_pressed, .inl (G.2.1, 5000, .inl a_pressed))] (S := Int32 × Int32 × Int32 × (Nat → Int32)) (fun rv_ u => rv_ = none ∧ (0 ≤ u.2.1.toInt) ∧ (u.2.1.toInt < 8) ∧ (0 ≤ u.2.2.1.toInt) ∧ (8 * u.2.2.1.toInt + u.2.1.toInt = (8 * v_pressedSize.toInt + v_heldCount.toInt) + 1) ∧ (pM_ u.2.2.2 u.1.toInt u.2.1.toInt u.2.2.1.toInt (b1_ S b.toInt)) ∧ (sb_Fit u.2.2.2)) (fun u => [(h, .inr (10, [.ref m_rels, .ref m_openRels, .ref m_closeRels, .ref m_openRel, .ref m_closeRel, .ref m_comment, .ref m_ends, .ref m_order, .int v_thrown, .int v_taped, .ref m_tape, .ref m_count, .ref m_nameSize, .ref m_names, .ref m_size, .ref m_data, .int v_lookedSize, .ref m_looked, .int v_fileSize, .ref m_file, .int v_directorySize, .ref m_directory, .int v_outSize, .ref m_out, .int v_rowSize, .ref m_row, .int v_bitAt, .int v_bitEnd, .int v_why, .int v_madeSize, .ref m_made, .ref m_length, .int v_firstCount, .int v_secondCount, .int u.1, .int u.2.1, .int u.2.2.1, .ref m_pressed, .int v_at, .int v_bad, .int v_markSize, .ref m_mark, .int v_relationCount, .ref m_idSize, .ref m_ids, .ref m_goalSize, .ref m_goals, .int v_valueSize, .ref m_value, .int v_faultCount, .ref m_faults, .ref m_reached])), (m_pressed, .inl (G.2.1, 5000, .inl u.2.2.2))]) := by
  refine Cn.of hl (by decide +kernel) rfl (Nat.le_of_ble_eq_true rfl) (fun M hQ => ?_)
  refine pb_eq (pc' := 0) (lo' := [(0, .ref h), (1, .int b)]) (rest' := []) (ws' := [(h, .inr (10, [.ref m_rels, .ref m_openRels, .ref m_closeRels, .ref m_openRel, .ref m_closeRel, .ref m_comment, .ref m_ends, .ref m_order, .int v_thrown, .int v_taped, .ref m_tape, .ref m_count, .ref m_nameSize, .ref m_names, .ref m_size, .ref m_data, .int v_lookedSize, .ref m_looked, .int v_fileSize, .ref m_file, .int v_directorySize, .ref m_directory, .int v_outSize, .ref m_out, .int v_rowSize, .ref m_row, .int v_bitAt, .int v_bitEnd, .int v_why, .int v_madeSize, .ref m_made, .ref m_length, .int v_firstCount, .int v_secondCount, .int v_heldBits, .int v_heldCount, .int v_pressedSize, .ref m_pressed, .int v_at, .int v_bad, .int v_markSize, .ref m_mark, .int v_relationCount, .ref m_idSize, .ref m_ids, .ref m_goalSize, .ref m_goals, .int v_valueSize, .ref m_value, .int v_faultCount, .ref m_faults, .ref m_reached])), (m_pressed, .inl (G.2.1, 5000, .inl a_pressed))]) ?_
  have zl0 : (0 : Int32).toInt = 0 := by decide
  have zl1 : (1 : Int32).toInt = 1 := by decide
  have hbR := pM_hb hM
  have hp7 := p2_7 (k := v_heldCount.toInt) (by omega)
  refine pb_aload_n (pc := 0) d_Mod_putBit_0 0 rfl rfl ?_
  refine pb_aload_n (pc := 1) d_Mod_putBit_1 0 rfl rfl ?_
  refine pb_get (pc := 2) d_Mod_putBit_2 0 34 rfl rfl (by decide) in_Mod k_1180 rfl ?_
  refine pb_iload_n (pc := 5) d_Mod_putBit_5 1 rfl rfl ?_
  refine pb_aload_n (pc := 6) d_Mod_putBit_6 0 rfl rfl ?_
  refine pb_get (pc := 7) d_Mod_putBit_7 0 35 rfl rfl (by decide) in_Mod k_1181 rfl ?_
  refine pb_ishl (pc := 10) d_Mod_putBit_10 ?_
  refine pb_topi (fun i1 ei1 => ?_)
  have slF := bsl_E ei1 bb (by omega) (by omega)
  refine pb_iadd (pc := 11) d_Mod_putBit_11 ?_
  refine pb_topi (fun i2 ei2 => ?_)
  try have ti2 : i2.toInt = v_heldBits.toInt + i1.toInt := t2_add ei2 rfl rfl (by omega)
  refine pb_put (pc := 12) (ty := .int) (ws' := [(h, .inr (10, [.ref m_rels, .ref m_openRels, .ref m_closeRels, .ref m_openRel, .ref m_closeRel, .ref m_comment, .ref m_ends, .ref m_order, .int v_thrown, .int v_taped, .ref m_tape, .ref m_count, .ref m_nameSize, .ref m_names, .ref m_size, .ref m_data, .int v_lookedSize, .ref m_looked, .int v_fileSize, .ref m_file, .int v_directorySize, .ref m_directory, .int v_outSize, .ref m_out, .int v_rowSize, .ref m_row, .int v_bitAt, .int v_bitEnd, .int v_why, .int v_madeSize, .ref m_made, .ref m_length, .int v_firstCount, .int v_secondCount, .int i2, .int v_heldCount, .int v_pressedSize, .ref m_pressed, .int v_at, .int v_bad, .int v_markSize, .ref m_mark, .int v_relationCount, .ref m_idSize, .ref m_ids, .ref m_goalSize, .ref m_goals, .int v_valueSize, .ref m_value, .int v_faultCount, .ref m_faults, .ref m_reached])), (m_pressed, .inl (G.2.1, 5000, .inl a_pressed))]) d_Mod_putBit_12 0 34 t_Mod t_Mod_ok n_Mod rfl rfl (by decide) in_Mod k_1180 rfl (by decide +kernel) rfl rfl (Nat.le_of_ble_eq_true rfl) rfl ?_
  refine pb_aload_n (pc := 15) d_Mod_putBit_15 0 rfl rfl ?_
  refine pb_dup (pc := 16) d_Mod_putBit_16 rfl ?_
  refine pb_get (pc := 17) d_Mod_putBit_17 0 35 rfl rfl (by decide) in_Mod k_1181 rfl ?_
  refine pb_iconst (pc := 20) (v := 1) d_Mod_putBit_20 (by decide) ?_
  refine pb_iadd (pc := 21) d_Mod_putBit_21 ?_
  refine pb_topi (fun i3 ei3 => ?_)
  try have ti3 : i3.toInt = v_heldCount.toInt + 1 := t2_add ei3 rfl (by decide) (by omega)
  refine pb_put (pc := 22) (ty := .int) (ws' := [(h, .inr (10, [.ref m_rels, .ref m_openRels, .ref m_closeRels, .ref m_openRel, .ref m_closeRel, .ref m_comment, .ref m_ends, .ref m_order, .int v_thrown, .int v_taped, .ref m_tape, .ref m_count, .ref m_nameSize, .ref m_names, .ref m_size, .ref m_data, .int v_lookedSize, .ref m_looked, .int v_fileSize, .ref m_file, .int v_directorySize, .ref m_directory, .int v_outSize, .ref m_out, .int v_rowSize, .ref m_row, .int v_bitAt, .int v_bitEnd, .int v_why, .int v_madeSize, .ref m_made, .ref m_length, .int v_firstCount, .int v_secondCount, .int i2, .int i3, .int v_pressedSize, .ref m_pressed, .int v_at, .int v_bad, .int v_markSize, .ref m_mark, .int v_relationCount, .ref m_idSize, .ref m_ids, .ref m_goalSize, .ref m_goals, .int v_valueSize, .ref m_value, .int v_faultCount, .ref m_faults, .ref m_reached])), (m_pressed, .inl (G.2.1, 5000, .inl a_pressed))]) d_Mod_putBit_22 0 35 t_Mod t_Mod_ok n_Mod rfl rfl (by decide) in_Mod k_1181 rfl (by decide +kernel) rfl rfl (Nat.le_of_ble_eq_true rfl) rfl ?_
  refine pb_aload_n (pc := 25) d_Mod_putBit_25 0 rfl rfl ?_
  refine pb_get (pc := 26) d_Mod_putBit_26 0 35 rfl rfl (by decide) in_Mod k_1181 rfl ?_
  refine pb_bipush (pc := 29) (v := 8) d_Mod_putBit_29 (by decide) ?_
  refine pb_icmp_ne (pc := 31) (tgt := 68) d_Mod_putBit_31 (by decide) (fun w4 => ?_) (fun w4 => ?_)
  · have tw4 : ¬ i3.toInt = 8 := fun z9 => w4 ((ti_eq rfl (by decide)).mpr z9)
    exact pb_vret (pc := 68) hQ d_Mod_putBit_68 rfl (i2, i3, v_pressedSize, a_pressed) ⟨rfl, (by (try dsimp only); first | done | (with_reducible assumption) | omega (splitDisjunctions := false) | assumption | omega | decide), (by (try dsimp only); first | done | (with_reducible assumption) | omega (splitDisjunctions := false) | assumption | omega | decide), (by (try dsimp only); first | done | (with_reducible assumption) | omega (splitDisjunctions := false) | assumption | omega | decide), (by (try dsimp only); first | done | (with_reducible assumption) | omega (splitDisjunctions := false) | assumption | omega | decide), (show pM_ a_pressed i2.toInt i3.toInt v_pressedSize.toInt (b1_ S b.toInt) from (by first | exact pM_st hM bb (by omega) (by omega) (by omega) | exact pM_fu hM bb (by omega) hvX (fun j hj => (by rw [gr_updb rfl j (by omega) hj, eV, bz_nn])) (by omega) (by omega) (by omega))), F_a_pressed⟩ [0, 1] (by decide) rfl rfl (by decide) (by decide)
  · have tw4 : i3.toInt = 8 := (ti_eq rfl (by decide)).mp w4
    refine pb_aload_n (pc := 34) d_Mod_putBit_34 0 rfl rfl ?_
    refine pb_get (pc := 35) d_Mod_putBit_35 0 37 rfl rfl (by decide) in_Mod k_1183 rfl ?_
    refine pb_aload_n (pc := 38) d_Mod_putBit_38 0 rfl rfl ?_
    refine pb_get (pc := 39) d_Mod_putBit_39 0 36 rfl rfl (by decide) in_Mod k_1182 rfl ?_
    refine pb_aload_n (pc := 42) d_Mod_putBit_42 0 rfl rfl ?_
    refine pb_get (pc := 43) d_Mod_putBit_43 0 34 rfl rfl (by decide) in_Mod k_1180 rfl ?_
    have hvX : i2.toInt = v_heldBits.toInt + b.toInt * p2 v_heldCount.toInt := by omega
    refine pb_i2b (pc := 46) d_Mod_putBit_46 rfl ?_
    refine pb_topi (fun i5 ei5 => ?_)
    have ti5 : -128 ≤ i5.toInt ∧ i5.toInt ≤ 127 := ti_i2b ei5
    have eV := ei5
    refine pb_bast (pc := 47) (ws' := [(h, .inr (10, [.ref m_rels, .ref m_openRels, .ref m_closeRels, .ref m_openRel, .ref m_closeRel, .ref m_comment, .ref m_ends, .ref m_order, .int v_thrown, .int v_taped, .ref m_tape, .ref m_count, .ref m_nameSize, .ref m_names, .ref m_size, .ref m_data, .int v_lookedSize, .ref m_looked, .int v_fileSize, .ref m_file, .int v_directorySize, .ref m_directory, .int v_outSize, .ref m_out, .int v_rowSize, .ref m_row, .int v_bitAt, .int v_bitEnd, .int v_why, .int v_madeSize, .ref m_made, .ref m_length, .int v_firstCount, .int v_secondCount, .int i2, .int i3, .int v_pressedSize, .ref m_pressed, .int v_at, .int v_bad, .int v_markSize, .ref m_mark, .int v_relationCount, .ref m_idSize, .ref m_ids, .ref m_goalSize, .ref m_goals, .int v_valueSize, .ref m_value, .int v_faultCount, .ref m_faults, .ref m_reached])), (m_pressed, .inl (G.2.1, 5000, .inl (upd a_pressed ((v_pressedSize : Int32).toNatClampNeg) (vp_nar .byte i5))))]) d_Mod_putBit_47 1 rfl (vp_in_iff.mpr (by omega)) rfl ?_
    refine pb_aload_n (pc := 48) d_Mod_putBit_48 0 rfl rfl ?_
    refine pb_dup (pc := 49) d_Mod_putBit_49 rfl ?_
    refine pb_get (pc := 50) d_Mod_putBit_50 0 36 rfl rfl (by decide) in_Mod k_1182 rfl ?_
    refine pb_iconst (pc := 53) (v := 1) d_Mod_putBit_53 (by decide) ?_
    refine pb_iadd (pc := 54) d_Mod_putBit_54 ?_
    refine pb_topi (fun i6 ei6 => ?_)
    try have ti6 : i6.toInt = v_pressedSize.toInt + 1 := t2_add ei6 rfl (by decide) (by omega)
    refine pb_put (pc := 55) (ty := .int) (ws' := [(h, .inr (10, [.ref m_rels, .ref m_openRels, .ref m_closeRels, .ref m_openRel, .ref m_closeRel, .ref m_comment, .ref m_ends, .ref m_order, .int v_thrown, .int v_taped, .ref m_tape, .ref m_count, .ref m_nameSize, .ref m_names, .ref m_size, .ref m_data, .int v_lookedSize, .ref m_looked, .int v_fileSize, .ref m_file, .int v_directorySize, .ref m_directory, .int v_outSize, .ref m_out, .int v_rowSize, .ref m_row, .int v_bitAt, .int v_bitEnd, .int v_why, .int v_madeSize, .ref m_made, .ref m_length, .int v_firstCount, .int v_secondCount, .int i2, .int i3, .int i6, .ref m_pressed, .int v_at, .int v_bad, .int v_markSize, .ref m_mark, .int v_relationCount, .ref m_idSize, .ref m_ids, .ref m_goalSize, .ref m_goals, .int v_valueSize, .ref m_value, .int v_faultCount, .ref m_faults, .ref m_reached])), (m_pressed, .inl (G.2.1, 5000, .inl (upd a_pressed ((v_pressedSize : Int32).toNatClampNeg) (vp_nar .byte i5))))]) d_Mod_putBit_55 0 36 t_Mod t_Mod_ok n_Mod rfl rfl (by decide) in_Mod k_1182 rfl (by decide +kernel) rfl rfl (Nat.le_of_ble_eq_true rfl) rfl ?_
    refine pb_aload_n (pc := 58) d_Mod_putBit_58 0 rfl rfl ?_
    refine pb_iconst (pc := 59) (v := 0) d_Mod_putBit_59 (by decide) ?_
    refine pb_put (pc := 60) (ty := .int) (ws' := [(h, .inr (10, [.ref m_rels, .ref m_openRels, .ref m_closeRels, .ref m_openRel, .ref m_closeRel, .ref m_comment, .ref m_ends, .ref m_order, .int v_thrown, .int v_taped, .ref m_tape, .ref m_count, .ref m_nameSize, .ref m_names, .ref m_size, .ref m_data, .int v_lookedSize, .ref m_looked, .int v_fileSize, .ref m_file, .int v_directorySize, .ref m_directory, .int v_outSize, .ref m_out, .int v_rowSize, .ref m_row, .int v_bitAt, .int v_bitEnd, .int v_why, .int v_madeSize, .ref m_made, .ref m_length, .int v_firstCount, .int v_secondCount, .int 0, .int i3, .int i6, .ref m_pressed, .int v_at, .int v_bad, .int v_markSize, .ref m_mark, .int v_relationCount, .ref m_idSize, .ref m_ids, .ref m_goalSize, .ref m_goals, .int v_valueSize, .ref m_value, .int v_faultCount, .ref m_faults, .ref m_reached])), (m_pressed, .inl (G.2.1, 5000, .inl (upd a_pressed ((v_pressedSize : Int32).toNatClampNeg) (vp_nar .byte i5))))]) d_Mod_putBit_60 0 34 t_Mod t_Mod_ok n_Mod rfl rfl (by decide) in_Mod k_1180 rfl (by decide +kernel) rfl rfl (Nat.le_of_ble_eq_true rfl) rfl ?_
    refine pb_aload_n (pc := 63) d_Mod_putBit_63 0 rfl rfl ?_
    refine pb_iconst (pc := 64) (v := 0) d_Mod_putBit_64 (by decide) ?_
    refine pb_put (pc := 65) (ty := .int) (ws' := [(h, .inr (10, [.ref m_rels, .ref m_openRels, .ref m_closeRels, .ref m_openRel, .ref m_closeRel, .ref m_comment, .ref m_ends, .ref m_order, .int v_thrown, .int v_taped, .ref m_tape, .ref m_count, .ref m_nameSize, .ref m_names, .ref m_size, .ref m_data, .int v_lookedSize, .ref m_looked, .int v_fileSize, .ref m_file, .int v_directorySize, .ref m_directory, .int v_outSize, .ref m_out, .int v_rowSize, .ref m_row, .int v_bitAt, .int v_bitEnd, .int v_why, .int v_madeSize, .ref m_made, .ref m_length, .int v_firstCount, .int v_secondCount, .int 0, .int 0, .int i6, .ref m_pressed, .int v_at, .int v_bad, .int v_markSize, .ref m_mark, .int v_relationCount, .ref m_idSize, .ref m_ids, .ref m_goalSize, .ref m_goals, .int v_valueSize, .ref m_value, .int v_faultCount, .ref m_faults, .ref m_reached])), (m_pressed, .inl (G.2.1, 5000, .inl (upd a_pressed ((v_pressedSize : Int32).toNatClampNeg) (vp_nar .byte i5))))]) d_Mod_putBit_65 0 35 t_Mod t_Mod_ok n_Mod rfl rfl (by decide) in_Mod k_1181 rfl (by decide +kernel) rfl rfl (Nat.le_of_ble_eq_true rfl) rfl ?_
    exact pb_vret (pc := 68) hQ d_Mod_putBit_68 rfl (0, 0, i6, (upd a_pressed ((v_pressedSize : Int32).toNatClampNeg) (vp_nar .byte i5))) ⟨rfl, (by (try dsimp only); first | done | (with_reducible assumption) | omega (splitDisjunctions := false) | assumption | omega | decide), (by (try dsimp only); first | done | (with_reducible assumption) | omega (splitDisjunctions := false) | assumption | omega | decide), (by (try dsimp only); first | done | (with_reducible assumption) | omega (splitDisjunctions := false) | assumption | omega | decide), (by (try dsimp only); first | done | (with_reducible assumption) | omega (splitDisjunctions := false) | assumption | omega | decide), (show pM_ (upd a_pressed ((v_pressedSize : Int32).toNatClampNeg) (vp_nar .byte i5)) (0 : Int32).toInt (0 : Int32).toInt i6.toInt (b1_ S b.toInt) from (by first | exact pM_st hM bb (by omega) (by omega) (by omega) | exact pM_fu hM bb (by omega) hvX (fun j hj => (by rw [gr_updb rfl j (by omega) hj, eV, bz_nn])) (by omega) (by omega) (by omega))), (sb_fitU F_a_pressed (fit_nar _))⟩ [0, 1] (by decide) rfl rfl (by decide) (by decide)

theorem d_Mod_putNumber_0 : decode prog_12_method_21_code 0 = .ok (.iconst 0, 1) := by decide +kernel
theorem d_Mod_putNumber_1 : decode prog_12_method_21_code 1 = .ok (.istore_n 3, 1) := by decide +kernel
theorem d_Mod_putNumber_2 : decode prog_12_method_21_code 2 = .ok (.iload_n 3, 1) := by decide +kernel
theorem d_Mod_putNumber_3 : decode prog_12_method_21_code 3 = .ok (.iload_n 2, 1) := by decide +kernel
theorem d_Mod_putNumber_4 : decode prog_12_method_21_code 4 = .ok (.if_icmp .ge 18, 3) := by decide +kernel
theorem d_Mod_putNumber_22 : decode prog_12_method_21_code 22 = .ok (.return_, 1) := by decide +kernel
theorem d_Mod_putNumber_7 : decode prog_12_method_21_code 7 = .ok (.aload_n 0, 1) := by decide +kernel
theorem d_Mod_putNumber_8 : decode prog_12_method_21_code 8 = .ok (.iload_n 1, 1) := by decide +kernel
theorem d_Mod_putNumber_9 : decode prog_12_method_21_code 9 = .ok (.iload_n 3, 1) := by decide +kernel
theorem d_Mod_putNumber_10 : decode prog_12_method_21_code 10 = .ok (.ishr, 1) := by decide +kernel
theorem d_Mod_putNumber_11 : decode prog_12_method_21_code 11 = .ok (.iconst 1, 1) := by decide +kernel
theorem d_Mod_putNumber_12 : decode prog_12_method_21_code 12 = .ok (.iand, 1) := by decide +kernel
theorem d_Mod_putNumber_13 : decode prog_12_method_21_code 13 = .ok (.invokevirtual 162, 3) := by decide +kernel
theorem k_1382 : (Jvm.Cond.methodLink "PackageBookModel" (162 : Nat) ({ cls := "PackageBookModel", name := "putBit", desc := "(I)V" } : Jvm.MethodName)) ∈ uW := uW_c5 65 rfl (by decide +kernel)
theorem k_1385 : (Jvm.Cond.code ({ cls := "PackageBookModel", name := "putBit", desc := "(I)V" } : Jvm.MethodName) prog_12_method_20_code (2 : Nat) (Option.none : Option Jvm.ClassFile.FieldType)) ∈ uW := uW_c5 68 rfl (by decide +kernel)
theorem k_1384 : (Jvm.Cond.instanceMethod ({ cls := "PackageBookModel", name := "putBit", desc := "(I)V" } : Jvm.MethodName)) ∈ uW := uW_c5 67 rfl (by decide +kernel)
theorem k_62 : Cond.selects "PackageBookModel" ⟨"PackageBookModel", "putBit", "(I)V"⟩ ⟨"PackageBookModel", "putBit", "(I)V"⟩ ∈ uW := uW_of 62 (by decide +kernel) (by decide +kernel)
theorem hy_Mod_putBit : (y_Mod_putBit).cls ≠ "java/lang/invoke/MethodHandle" ∧ (y_Mod_putBit).cls ≠ "java/lang/invoke/VarHandle" ∧ (parseMethodDescriptor (y_Mod_putBit).desc).map (fun d => d.parameters.length) = some 1 := by decide +kernel
theorem d_Mod_putNumber_16 : decode prog_12_method_21_code 16 = .ok (.iinc 3 1, 3) := by decide +kernel
theorem d_Mod_putNumber_19 : decode prog_12_method_21_code 19 = .ok (.goto (-17), 3) := by decide +kernel
abbrev y_Mod_putNumber : MethodName := ⟨"PackageBookModel", "putNumber", "(II)V"⟩
abbrev i_Mod_putNumber : pb_I := (y_Mod_putNumber, prog_12_method_21_code, 4, (Option.none : Option Jvm.ClassFile.FieldType), [], { frames := 1, cells := 0, slots := 0, locals := 21 })
set_option maxRecDepth 100000 in
set_option maxHeartbeats 4000000 in
theorem g_Mod_putNumber {l : Launch} (hl : l.stackTraces = false) (G : pb_G) (h : Nat) (m_rels : Nat) (m_openRels : Nat) (m_closeRels : Nat) (m_openRel : Nat) (m_closeRel : Nat) (m_comment : Nat) (m_ends : Nat) (m_order : Nat) (m_tape : Nat) (m_count : Nat) (m_nameSize : Nat) (m_names : Nat) (m_size : Nat) (m_data : Nat) (m_looked : Nat) (m_file : Nat) (m_directory : Nat) (m_out : Nat) (m_row : Nat) (m_made : Nat) (m_length : Nat) (m_pressed : Nat) (m_mark : Nat) (m_idSize : Nat) (m_ids : Nat) (m_goalSize : Nat) (m_goals : Nat) (m_value : Nat) (m_faults : Nat) (m_reached : Nat) (v_thrown : Int32) (v_taped : Int32) (v_lookedSize : Int32) (v_fileSize : Int32) (v_directorySize : Int32) (v_outSize : Int32) (v_rowSize : Int32) (v_bitAt : Int32) (v_bitEnd : Int32) (v_why : Int32) (v_madeSize : Int32) (v_firstCount : Int32) (v_secondCount : Int32) (v_heldBits : Int32) (v_heldCount : Int32) (v_pressedSize : Int32) (v_at : Int32) (v_bad : Int32) (v_markSize : Int32) (v_relationCount : Int32) (v_valueSize : Int32) (v_faultCount : Int32) (a_pressed : Nat → Int32) (v : Int32) (n : Int32) (S : Int × (Int → Int)) (b0 : 0 ≤ v_heldCount.toInt) (b1 : v_heldCount.toInt < 8) (b2 : 0 ≤ v_pressedSize.toInt) (n0 : 0 ≤ n.toInt) (b3 : (8 * v_pressedSize.toInt + v_heldCount.toInt) + n.toInt ≤ 40000) (hM : pM_ a_pressed v_heldBits.toInt v_heldCount.toInt v_pressedSize.toInt S) (v0 : 0 ≤ v.toInt) (n9 : n.toInt ≤ 30) (F_a_pressed : sb_Fit a_pressed) : Cn l G i_Mod_putNumber [.ref h, .int v, .int n] [(h, .inr (10, [.ref m_rels, .ref m_openRels, .ref m_closeRels, .ref m_openRel, .ref m_closeRel, .ref m_comment, .ref m_ends, .ref m_order, .int v_thrown, .int v_taped, .ref m_tape, .ref m_count, .ref m_nameSize, .ref m_names, .ref m_size, .ref m_data, .int v_lookedSize, .ref m_looked, .int v_fileSize, .ref m_file, .int v_directorySize, .ref m_directory, .int v_outSize, .ref m_out, .int v_rowSize, .ref m_row, .int v_bitAt, .int v_bitEnd, .int v_why, .int v_madeSize, .ref m_made, .ref m_length, .int v_firstCount, .int v_secondCount, .int v_heldBits, .int v_heldCount, .int v_pressedSize, .ref m_pressed, .int v_at, .int v_bad, .int v_markSize, .ref m_mark, .int v_relationCount, .ref m_idSize, .ref m_ids, .ref m_goalSize, .ref m_goals, .int v_valueSize, .ref m_value, .int v_faultCount, .ref m_faults, .ref m_reached])), (m_pressed, .inl (G.2.1, 5000, .inl a_pressed))] (S := Int32 × Int32 × Int32 × (Nat → Int32)) (fun rv_ u => rv_ = none ∧ (0 ≤ u.2.1.toInt) ∧ (u.2.1.toInt < 8) ∧ (0 ≤ u.2.2.1.toInt) ∧ (8 * u.2.2.1.toInt + u.2.1.toInt = (8 * v_pressedSize.toInt + v_heldCount.toInt) + n.toInt) ∧ (pM_ u.2.2.2 u.1.toInt u.2.1.toInt u.2.2.1.toInt (bn_ S v.toInt n.toInt.toNat)) ∧ (sb_Fit u.2.2.2)) (fun u => [(h, .inr (10, [.ref m_rels, .ref m_openRels, .ref m_closeRels, .ref m_openRel, .ref m_closeRel, .ref m_comment, .ref m_ends, .ref m_order, .int v_thrown, .int v_taped, .ref m_tape, .ref m_count, .ref m_nameSize, .ref m_names, .ref m_size, .ref m_data, .int v_lookedSize, .ref m_looked, .int v_fileSize, .ref m_file, .int v_directorySize, .ref m_directory, .int v_outSize, .ref m_out, .int v_rowSize, .ref m_row, .int v_bitAt, .int v_bitEnd, .int v_why, .int v_madeSize, .ref m_made, .ref m_length, .int v_firstCount, .int v_secondCount, .int u.1, .int u.2.1, .int u.2.2.1, .ref m_pressed, .int v_at, .int v_bad, .int v_markSize, .ref m_mark, .int v_relationCount, .ref m_idSize, .ref m_ids, .ref m_goalSize, .ref m_goals, .int v_valueSize, .ref m_value, .int v_faultCount, .ref m_faults, .ref m_reached])), (m_pressed, .inl (G.2.1, 5000, .inl u.2.2.2))]) := by
  refine Cn.of hl (by decide +kernel) rfl (Nat.le_of_ble_eq_true rfl) (fun M hQ => ?_)
  refine pb_eq (pc' := 0) (lo' := [(0, .ref h), (1, .int v), (2, .int n)]) (rest' := []) (ws' := [(h, .inr (10, [.ref m_rels, .ref m_openRels, .ref m_closeRels, .ref m_openRel, .ref m_closeRel, .ref m_comment, .ref m_ends, .ref m_order, .int v_thrown, .int v_taped, .ref m_tape, .ref m_count, .ref m_nameSize, .ref m_names, .ref m_size, .ref m_data, .int v_lookedSize, .ref m_looked, .int v_fileSize, .ref m_file, .int v_directorySize, .ref m_directory, .int v_outSize, .ref m_out, .int v_rowSize, .ref m_row, .int v_bitAt, .int v_bitEnd, .int v_why, .int v_madeSize, .ref m_made, .ref m_length, .int v_firstCount, .int v_secondCount, .int v_heldBits, .int v_heldCount, .int v_pressedSize, .ref m_pressed, .int v_at, .int v_bad, .int v_markSize, .ref m_mark, .int v_relationCount, .ref m_idSize, .ref m_ids, .ref m_goalSize, .ref m_goals, .int v_valueSize, .ref m_value, .int v_faultCount, .ref m_faults, .ref m_reached])), (m_pressed, .inl (G.2.1, 5000, .inl a_pressed))]) ?_
  have zl0 : (0 : Int32).toInt = 0 := by decide
  have zl1 : (1 : Int32).toInt = 1 := by decide
  refine pb_iconst (pc := 0) (v := 0) d_Mod_putNumber_0 (by decide) ?_
  refine pb_istore_n (pc := 1) (lo' := [(3, .int 0), (0, .ref h), (1, .int v), (2, .int n)]) d_Mod_putNumber_1 rfl (by decide) rfl ?_
  have hL2_1 : ∀ (N9 : Nat) (k : Int32) (hb_ : Int32) (hc_ : Int32) (ps_ : Int32) (g_ : Nat → Int32), (sb_Fit g_) → (0 ≤ k.toInt) → (k.toInt ≤ n.toInt) → (0 ≤ hc_.toInt) → (hc_.toInt < 8) → (0 ≤ ps_.toInt) → (8 * ps_.toInt + hc_.toInt = (8 * v_pressedSize.toInt + v_heldCount.toInt) + k.toInt) → (pM_ g_ hb_.toInt hc_.toInt ps_.toInt (bn_ S v.toInt k.toInt.toNat)) → ((n.toInt - k.toInt).toNat) < N9 → pb_P l G M i_Mod_putNumber 2 [(3, .int k), (0, .ref h), (1, .int v), (2, .int n)] [] [(h, .inr (10, [.ref m_rels, .ref m_openRels, .ref m_closeRels, .ref m_openRel, .ref m_closeRel, .ref m_comment, .ref m_ends, .ref m_order, .int v_thrown, .int v_taped, .ref m_tape, .ref m_count, .ref m_nameSize, .ref m_names, .ref m_size, .ref m_data, .int v_lookedSize, .ref m_looked, .int v_fileSize, .ref m_file, .int v_directorySize, .ref m_directory, .int v_outSize, .ref m_out, .int v_rowSize, .ref m_row, .int v_bitAt, .int v_bitEnd, .int v_why, .int v_madeSize, .ref m_made, .ref m_length, .int v_firstCount, .int v_secondCount, .int hb_, .int hc_, .int ps_, .ref m_pressed, .int v_at, .int v_bad, .int v_markSize, .ref m_mark, .int v_relationCount, .ref m_idSize, .ref m_ids, .ref m_goalSize, .ref m_goals, .int v_valueSize, .ref m_value, .int v_faultCount, .ref m_faults, .ref m_reached])), (m_pressed, .inl (G.2.1, 5000, .inl g_))] 0 0 := by
    intro N9
    induction N9 with
    | zero => intro k hb_ hc_ ps_ g_ F_g_ k0 k1 k2 k3 k4 k5 kL hm9; exact absurd hm9 (Nat.not_lt_zero _)
    | succ N9 ih2 =>
      intro k hb_ hc_ ps_ g_ F_g_ k0 k1 k2 k3 k4 k5 kL hm9
      refine pb_iload_n (pc := 2) d_Mod_putNumber_2 0 rfl rfl ?_
      refine pb_iload_n (pc := 3) d_Mod_putNumber_3 3 rfl rfl ?_
      refine pb_icmp_ge (pc := 4) (tgt := 22) d_Mod_putNumber_4 (by decide) (fun w2 => ?_) (fun w2 => ?_)
      · have tw2 : n.toInt ≤ k.toInt := (ti_le rfl rfl).mp w2
        exact pb_vret (pc := 22) hQ d_Mod_putNumber_22 rfl (hb_, hc_, ps_, g_) ⟨rfl, (by (try dsimp only); first | done | (with_reducible assumption) | omega (splitDisjunctions := false) | assumption | omega | decide), (by (try dsimp only); first | done | (with_reducible assumption) | omega (splitDisjunctions := false) | assumption | omega | decide), (by (try dsimp only); first | done | (with_reducible assumption) | omega (splitDisjunctions := false) | assumption | omega | decide), (by (try dsimp only); first | done | (with_reducible assumption) | omega (splitDisjunctions := false) | assumption | omega | decide), (show pM_ g_ hb_.toInt hc_.toInt ps_.toInt (bn_ S v.toInt n.toInt.toNat) from (by rw [show n.toInt = k.toInt by omega]; exact kL)), F_g_⟩ [0, 1] (by decide) rfl rfl (by decide) (by decide)
      · have tw2 : ¬ n.toInt ≤ k.toInt := fun z9 => w2 ((ti_le rfl rfl).mpr z9)
        refine pb_aload_n (pc := 7) d_Mod_putNumber_7 1 rfl rfl ?_
        refine pb_iload_n (pc := 8) d_Mod_putNumber_8 2 rfl rfl ?_
        refine pb_iload_n (pc := 9) d_Mod_putNumber_9 0 rfl rfl ?_
        refine pb_ishr (pc := 10) d_Mod_putNumber_10 ?_
        refine pb_topi (fun i3 ei3 => ?_)
        have eQ := ei3
        refine pb_iconst (pc := 11) (v := 1) d_Mod_putNumber_11 (by decide) ?_
        refine pb_iand (pc := 12) d_Mod_putNumber_12 ?_
        refine pb_topi (fun i4 ei4 => ?_)
        have ti4 : 0 ≤ i4.toInt ∧ i4.toInt ≤ 1 := ti_and 1 ei4 (by decide) (by decide)
        have eB := ei4
        refine pb_callV (pc := 13) (I := i_Mod_putNumber) (qb := 0) (ci := 10) (nA := 1) (rest := []) (wr := []) d_Mod_putNumber_13 (g_Mod_putBit hl G h m_rels m_openRels m_closeRels m_openRel m_closeRel m_comment m_ends m_order m_tape m_count m_nameSize m_names m_size m_data m_looked m_file m_directory m_out m_row m_made m_length m_pressed m_mark m_idSize m_ids m_goalSize m_goals m_value m_faults m_reached v_thrown v_taped v_lookedSize v_fileSize v_directorySize v_outSize v_rowSize v_bitAt v_bitEnd v_why v_madeSize v_firstCount v_secondCount hb_ hc_ ps_ v_at v_bad v_markSize v_relationCount v_valueSize v_faultCount g_ i4 (bn_ S v.toInt k.toInt.toNat) (by first | (with_reducible assumption) | omega (splitDisjunctions := false) | assumption | omega | decide) (by first | (with_reducible assumption) | omega (splitDisjunctions := false) | assumption | omega | decide) (by first | (with_reducible assumption) | omega (splitDisjunctions := false) | assumption | omega | decide) (by first | (with_reducible assumption) | omega (splitDisjunctions := false) | assumption | omega | decide) kL (by first | (with_reducible assumption) | omega (splitDisjunctions := false) | assumption | omega | decide) F_g_) rfl rfl [0, 1] [] (by decide) rfl rfl rfl (by decide) (by decide) k_1385 rfl k_128 k_1382 k_1384 k_62 ⟨rfl, hy_Mod_putBit⟩ (by decide) rfl rfl (Nat.le_of_ble_eq_true rfl) (by decide) (fun v9 u6 ch5 => ?_)
        obtain ⟨hb_7, hc_8, ps_9, g_10⟩ := u6
        obtain ⟨ech5, ch5⟩ := ch5
        have ech5 : v9 = none := ech5
        subst ech5
        obtain ⟨fh11, fh12, fh13, fh14, fh15, fh16⟩ : (0 ≤ hc_8.toInt) ∧ (hc_8.toInt < 8) ∧ (0 ≤ ps_9.toInt) ∧ (8 * ps_9.toInt + hc_8.toInt = (8 * ps_.toInt + hc_.toInt) + 1) ∧ (pM_ g_10 hb_7.toInt hc_8.toInt ps_9.toInt (b1_ (bn_ S v.toInt k.toInt.toNat) i4.toInt)) ∧ (sb_Fit g_10) := ch5
        have bF := fh15
        refine pb_eq (pc' := 16) (lo' := [(3, .int k), (0, .ref h), (1, .int v), (2, .int n)]) (rest' := []) (ws' := [(h, .inr (10, [.ref m_rels, .ref m_openRels, .ref m_closeRels, .ref m_openRel, .ref m_closeRel, .ref m_comment, .ref m_ends, .ref m_order, .int v_thrown, .int v_taped, .ref m_tape, .ref m_count, .ref m_nameSize, .ref m_names, .ref m_size, .ref m_data, .int v_lookedSize, .ref m_looked, .int v_fileSize, .ref m_file, .int v_directorySize, .ref m_directory, .int v_outSize, .ref m_out, .int v_rowSize, .ref m_row, .int v_bitAt, .int v_bitEnd, .int v_why, .int v_madeSize, .ref m_made, .ref m_length, .int v_firstCount, .int v_secondCount, .int hb_7, .int hc_8, .int ps_9, .ref m_pressed, .int v_at, .int v_bad, .int v_markSize, .ref m_mark, .int v_relationCount, .ref m_idSize, .ref m_ids, .ref m_goalSize, .ref m_goals, .int v_valueSize, .ref m_value, .int v_faultCount, .ref m_faults, .ref m_reached])), (m_pressed, .inl (G.2.1, 5000, .inl g_10))]) ?_
        refine pb_iincN (pc := 16) (c := 1) d_Mod_putNumber_16 0 rfl (by decide) (by decide) (fun i17 ei17 => ?_)
        have ti17 : i17.toInt = k.toInt + 1 := t2_add ei17 rfl (by decide) (by first | omega | (have r90 := ti_rng k; have r91 := ti_rng i17; have r92 := ti_rng v; have r93 := ti_rng n; omega))
        refine pb_eq (pc' := 19) (lo' := [(3, .int i17), (0, .ref h), (1, .int v), (2, .int n)]) (rest' := []) (ws' := [(h, .inr (10, [.ref m_rels, .ref m_openRels, .ref m_closeRels, .ref m_openRel, .ref m_closeRel, .ref m_comment, .ref m_ends, .ref m_order, .int v_thrown, .int v_taped, .ref m_tape, .ref m_count, .ref m_nameSize, .ref m_names, .ref m_size, .ref m_data, .int v_lookedSize, .ref m_looked, .int v_fileSize, .ref m_file, .int v_directorySize, .ref m_directory, .int v_outSize, .ref m_out, .int v_rowSize, .ref m_row, .int v_bitAt, .int v_bitEnd, .int v_why, .int v_madeSize, .ref m_made, .ref m_length, .int v_firstCount, .int v_secondCount, .int hb_7, .int hc_8, .int ps_9, .ref m_pressed, .int v_at, .int v_bad, .int v_markSize, .ref m_mark, .int v_relationCount, .ref m_idSize, .ref m_ids, .ref m_goalSize, .ref m_goals, .int v_valueSize, .ref m_value, .int v_faultCount, .ref m_faults, .ref m_reached])), (m_pressed, .inl (G.2.1, 5000, .inl g_10))]) ?_
        refine pb_goto (pc := 19) (tgt := 2) d_Mod_putNumber_19 (by decide) ?_
        exact ih2 i17 hb_7 hc_8 ps_9 g_10 fh16 (by first | (with_reducible assumption) | omega (splitDisjunctions := false) | assumption | omega | decide) (by first | (with_reducible assumption) | omega (splitDisjunctions := false) | assumption | omega | decide) (by first | (with_reducible assumption) | omega (splitDisjunctions := false) | assumption | omega | decide) (by first | (with_reducible assumption) | omega (splitDisjunctions := false) | assumption | omega | decide) (by first | (with_reducible assumption) | omega (splitDisjunctions := false) | assumption | omega | decide) (by first | (with_reducible assumption) | omega (splitDisjunctions := false) | assumption | omega | decide) (pM_n bF eB eQ rfl v0 rfl k0 (by omega) (by omega)) (by (first | exact omg_7c8a06b1f5 hm9 tw2 ti17 | omega))
  exact hL2_1 _ 0 v_heldBits v_heldCount v_pressedSize a_pressed F_a_pressed (by first | (with_reducible assumption) | omega (splitDisjunctions := false) | assumption | omega | decide) (by first | (with_reducible assumption) | omega (splitDisjunctions := false) | assumption | omega | decide) (by first | (with_reducible assumption) | omega (splitDisjunctions := false) | assumption | omega | decide) (by first | (with_reducible assumption) | omega (splitDisjunctions := false) | assumption | omega | decide) (by first | (with_reducible assumption) | omega (splitDisjunctions := false) | assumption | omega | decide) (by first | (with_reducible assumption) | omega (splitDisjunctions := false) | assumption | omega | decide) (by rw [zl0]; exact hM) (Nat.lt_succ_self _)

theorem d_Mod_putCode_0 : decode prog_12_method_22_code 0 = .ok (.iload_n 2, 1) := by decide +kernel
theorem d_Mod_putCode_1 : decode prog_12_method_22_code 1 = .ok (.iconst 1, 1) := by decide +kernel
theorem d_Mod_putCode_2 : decode prog_12_method_22_code 2 = .ok (.isub, 1) := by decide +kernel
theorem d_Mod_putCode_3 : decode prog_12_method_22_code 3 = .ok (.istore_n 3, 1) := by decide +kernel
theorem d_Mod_putCode_4 : decode prog_12_method_22_code 4 = .ok (.iload_n 3, 1) := by decide +kernel
theorem d_Mod_putCode_5 : decode prog_12_method_22_code 5 = .ok (.ifCond .lt 18, 3) := by decide +kernel
theorem d_Mod_putCode_23 : decode prog_12_method_22_code 23 = .ok (.return_, 1) := by decide +kernel
theorem d_Mod_putCode_8 : decode prog_12_method_22_code 8 = .ok (.aload_n 0, 1) := by decide +kernel
theorem d_Mod_putCode_9 : decode prog_12_method_22_code 9 = .ok (.iload_n 1, 1) := by decide +kernel
theorem d_Mod_putCode_10 : decode prog_12_method_22_code 10 = .ok (.iload_n 3, 1) := by decide +kernel
theorem d_Mod_putCode_11 : decode prog_12_method_22_code 11 = .ok (.ishr, 1) := by decide +kernel
theorem d_Mod_putCode_12 : decode prog_12_method_22_code 12 = .ok (.iconst 1, 1) := by decide +kernel
theorem d_Mod_putCode_13 : decode prog_12_method_22_code 13 = .ok (.iand, 1) := by decide +kernel
theorem d_Mod_putCode_14 : decode prog_12_method_22_code 14 = .ok (.invokevirtual 162, 3) := by decide +kernel
theorem d_Mod_putCode_17 : decode prog_12_method_22_code 17 = .ok (.iinc 3 (-1), 3) := by decide +kernel
theorem d_Mod_putCode_20 : decode prog_12_method_22_code 20 = .ok (.goto (-16), 3) := by decide +kernel
abbrev y_Mod_putCode : MethodName := ⟨"PackageBookModel", "putCode", "(II)V"⟩
abbrev i_Mod_putCode : pb_I := (y_Mod_putCode, prog_12_method_22_code, 4, (Option.none : Option Jvm.ClassFile.FieldType), [], { frames := 1, cells := 0, slots := 0, locals := 21 })
set_option maxRecDepth 100000 in
set_option maxHeartbeats 4000000 in
theorem g_Mod_putCode {l : Launch} (hl : l.stackTraces = false) (G : pb_G) (h : Nat) (m_rels : Nat) (m_openRels : Nat) (m_closeRels : Nat) (m_openRel : Nat) (m_closeRel : Nat) (m_comment : Nat) (m_ends : Nat) (m_order : Nat) (m_tape : Nat) (m_count : Nat) (m_nameSize : Nat) (m_names : Nat) (m_size : Nat) (m_data : Nat) (m_looked : Nat) (m_file : Nat) (m_directory : Nat) (m_out : Nat) (m_row : Nat) (m_made : Nat) (m_length : Nat) (m_pressed : Nat) (m_mark : Nat) (m_idSize : Nat) (m_ids : Nat) (m_goalSize : Nat) (m_goals : Nat) (m_value : Nat) (m_faults : Nat) (m_reached : Nat) (v_thrown : Int32) (v_taped : Int32) (v_lookedSize : Int32) (v_fileSize : Int32) (v_directorySize : Int32) (v_outSize : Int32) (v_rowSize : Int32) (v_bitAt : Int32) (v_bitEnd : Int32) (v_why : Int32) (v_madeSize : Int32) (v_firstCount : Int32) (v_secondCount : Int32) (v_heldBits : Int32) (v_heldCount : Int32) (v_pressedSize : Int32) (v_at : Int32) (v_bad : Int32) (v_markSize : Int32) (v_relationCount : Int32) (v_valueSize : Int32) (v_faultCount : Int32) (a_pressed : Nat → Int32) (v : Int32) (n : Int32) (S : Int × (Int → Int)) (b0 : 0 ≤ v_heldCount.toInt) (b1 : v_heldCount.toInt < 8) (b2 : 0 ≤ v_pressedSize.toInt) (n0 : 0 ≤ n.toInt) (b3 : (8 * v_pressedSize.toInt + v_heldCount.toInt) + n.toInt ≤ 40000) (hM : pM_ a_pressed v_heldBits.toInt v_heldCount.toInt v_pressedSize.toInt S) (v0 : 0 ≤ v.toInt) (n9 : n.toInt ≤ 30) (F_a_pressed : sb_Fit a_pressed) : Cn l G i_Mod_putCode [.ref h, .int v, .int n] [(h, .inr (10, [.ref m_rels, .ref m_openRels, .ref m_closeRels, .ref m_openRel, .ref m_closeRel, .ref m_comment, .ref m_ends, .ref m_order, .int v_thrown, .int v_taped, .ref m_tape, .ref m_count, .ref m_nameSize, .ref m_names, .ref m_size, .ref m_data, .int v_lookedSize, .ref m_looked, .int v_fileSize, .ref m_file, .int v_directorySize, .ref m_directory, .int v_outSize, .ref m_out, .int v_rowSize, .ref m_row, .int v_bitAt, .int v_bitEnd, .int v_why, .int v_madeSize, .ref m_made, .ref m_length, .int v_firstCount, .int v_secondCount, .int v_heldBits, .int v_heldCount, .int v_pressedSize, .ref m_pressed, .int v_at, .int v_bad, .int v_markSize, .ref m_mark, .int v_relationCount, .ref m_idSize, .ref m_ids, .ref m_goalSize, .ref m_goals, .int v_valueSize, .ref m_value, .int v_faultCount, .ref m_faults, .ref m_reached])), (m_pressed, .inl (G.2.1, 5000, .inl a_pressed))] (S := Int32 × Int32 × Int32 × (Nat → Int32)) (fun rv_ u => rv_ = none ∧ (0 ≤ u.2.1.toInt) ∧ (u.2.1.toInt < 8) ∧ (0 ≤ u.2.2.1.toInt) ∧ (8 * u.2.2.1.toInt + u.2.1.toInt = (8 * v_pressedSize.toInt + v_heldCount.toInt) + n.toInt) ∧ (pM_ u.2.2.2 u.1.toInt u.2.1.toInt u.2.2.1.toInt (bc_ v.toInt n.toInt.toNat S)) ∧ (sb_Fit u.2.2.2)) (fun u => [(h, .inr (10, [.ref m_rels, .ref m_openRels, .ref m_closeRels, .ref m_openRel, .ref m_closeRel, .ref m_comment, .ref m_ends, .ref m_order, .int v_thrown, .int v_taped, .ref m_tape, .ref m_count, .ref m_nameSize, .ref m_names, .ref m_size, .ref m_data, .int v_lookedSize, .ref m_looked, .int v_fileSize, .ref m_file, .int v_directorySize, .ref m_directory, .int v_outSize, .ref m_out, .int v_rowSize, .ref m_row, .int v_bitAt, .int v_bitEnd, .int v_why, .int v_madeSize, .ref m_made, .ref m_length, .int v_firstCount, .int v_secondCount, .int u.1, .int u.2.1, .int u.2.2.1, .ref m_pressed, .int v_at, .int v_bad, .int v_markSize, .ref m_mark, .int v_relationCount, .ref m_idSize, .ref m_ids, .ref m_goalSize, .ref m_goals, .int v_valueSize, .ref m_value, .int v_faultCount, .ref m_faults, .ref m_reached])), (m_pressed, .inl (G.2.1, 5000, .inl u.2.2.2))]) := by
  refine Cn.of hl (by decide +kernel) rfl (Nat.le_of_ble_eq_true rfl) (fun M hQ => ?_)
  refine pb_eq (pc' := 0) (lo' := [(0, .ref h), (1, .int v), (2, .int n)]) (rest' := []) (ws' := [(h, .inr (10, [.ref m_rels, .ref m_openRels, .ref m_closeRels, .ref m_openRel, .ref m_closeRel, .ref m_comment, .ref m_ends, .ref m_order, .int v_thrown, .int v_taped, .ref m_tape, .ref m_count, .ref m_nameSize, .ref m_names, .ref m_size, .ref m_data, .int v_lookedSize, .ref m_looked, .int v_fileSize, .ref m_file, .int v_directorySize, .ref m_directory, .int v_outSize, .ref m_out, .int v_rowSize, .ref m_row, .int v_bitAt, .int v_bitEnd, .int v_why, .int v_madeSize, .ref m_made, .ref m_length, .int v_firstCount, .int v_secondCount, .int v_heldBits, .int v_heldCount, .int v_pressedSize, .ref m_pressed, .int v_at, .int v_bad, .int v_markSize, .ref m_mark, .int v_relationCount, .ref m_idSize, .ref m_ids, .ref m_goalSize, .ref m_goals, .int v_valueSize, .ref m_value, .int v_faultCount, .ref m_faults, .ref m_reached])), (m_pressed, .inl (G.2.1, 5000, .inl a_pressed))]) ?_
  have zl0 : (0 : Int32).toInt = 0 := by decide
  have zl1 : (1 : Int32).toInt = 1 := by decide
  refine pb_iload_n (pc := 0) d_Mod_putCode_0 2 rfl rfl ?_
  refine pb_iconst (pc := 1) (v := 1) d_Mod_putCode_1 (by decide) ?_
  refine pb_isub (pc := 2) d_Mod_putCode_2 ?_
  refine pb_topi (fun i1 ei1 => ?_)
  try have ti1 : i1.toInt = n.toInt - 1 := t2_sub ei1 rfl (by decide) (by omega)
  refine pb_istore_n (pc := 3) (lo' := [(3, .int i1), (0, .ref h), (1, .int v), (2, .int n)]) d_Mod_putCode_3 rfl (by decide) rfl ?_
  have hL4_2 : ∀ (N9 : Nat) (k : Int32) (hb_ : Int32) (hc_ : Int32) (ps_ : Int32) (g_ : Nat → Int32), (sb_Fit g_) → (-1 ≤ k.toInt) → (k.toInt ≤ n.toInt - 1) → (0 ≤ hc_.toInt) → (hc_.toInt < 8) → (0 ≤ ps_.toInt) → (8 * ps_.toInt + hc_.toInt = (8 * v_pressedSize.toInt + v_heldCount.toInt) + (n.toInt - 1 - k.toInt)) → (hid_ (∃ S9 : Int × (Int → Int), pM_ g_ hb_.toInt hc_.toInt ps_.toInt S9 ∧ bc_ v.toInt (k.toInt + 1).toNat S9 = bc_ v.toInt n.toInt.toNat S)) → ((k.toInt + 1).toNat) < N9 → pb_P l G M i_Mod_putCode 4 [(3, .int k), (0, .ref h), (1, .int v), (2, .int n)] [] [(h, .inr (10, [.ref m_rels, .ref m_openRels, .ref m_closeRels, .ref m_openRel, .ref m_closeRel, .ref m_comment, .ref m_ends, .ref m_order, .int v_thrown, .int v_taped, .ref m_tape, .ref m_count, .ref m_nameSize, .ref m_names, .ref m_size, .ref m_data, .int v_lookedSize, .ref m_looked, .int v_fileSize, .ref m_file, .int v_directorySize, .ref m_directory, .int v_outSize, .ref m_out, .int v_rowSize, .ref m_row, .int v_bitAt, .int v_bitEnd, .int v_why, .int v_madeSize, .ref m_made, .ref m_length, .int v_firstCount, .int v_secondCount, .int hb_, .int hc_, .int ps_, .ref m_pressed, .int v_at, .int v_bad, .int v_markSize, .ref m_mark, .int v_relationCount, .ref m_idSize, .ref m_ids, .ref m_goalSize, .ref m_goals, .int v_valueSize, .ref m_value, .int v_faultCount, .ref m_faults, .ref m_reached])), (m_pressed, .inl (G.2.1, 5000, .inl g_))] 0 0 := by
    intro N9
    induction N9 with
    | zero => intro k hb_ hc_ ps_ g_ F_g_ k0 k1 k2 k3 k4 k5 kL hm9; exact absurd hm9 (Nat.not_lt_zero _)
    | succ N9 ih4 =>
      intro k hb_ hc_ ps_ g_ F_g_ k0 k1 k2 k3 k4 k5 kL hm9
      refine pb_iload_n (pc := 4) d_Mod_putCode_4 0 rfl rfl ?_
      refine pb_if_lt (pc := 5) (tgt := 23) d_Mod_putCode_5 (by decide) (fun w3 => ?_) (fun w3 => ?_)
      · have tw3 : k.toInt < 0 := (ti_lt rfl (by decide)).mp w3
        exact pb_vret (pc := 23) hQ d_Mod_putCode_23 rfl (hb_, hc_, ps_, g_) ⟨rfl, (by (try dsimp only); first | done | (with_reducible assumption) | omega (splitDisjunctions := false) | assumption | omega | decide), (by (try dsimp only); first | done | (with_reducible assumption) | omega (splitDisjunctions := false) | assumption | omega | decide), (by (try dsimp only); first | done | (with_reducible assumption) | omega (splitDisjunctions := false) | assumption | omega | decide), (by (try dsimp only); first | done | (with_reducible assumption) | omega (splitDisjunctions := false) | assumption | omega | decide), (show pM_ g_ hb_.toInt hc_.toInt ps_.toInt (bc_ v.toInt n.toInt.toNat S) from (by obtain ⟨S9, hM9, hE9⟩ := hid_o kL; rw [show (k.toInt + 1).toNat = 0 by omega] at hE9; exact pM_c hM9 hE9)), F_g_⟩ [0, 1] (by decide) rfl rfl (by decide) (by decide)
      · have tw3 : ¬ k.toInt < 0 := fun z9 => w3 ((ti_lt rfl (by decide)).mpr z9)
        obtain ⟨S9, hM9, hE9⟩ := hid_o kL
        refine pb_aload_n (pc := 8) d_Mod_putCode_8 1 rfl rfl ?_
        refine pb_iload_n (pc := 9) d_Mod_putCode_9 2 rfl rfl ?_
        refine pb_iload_n (pc := 10) d_Mod_putCode_10 0 rfl rfl ?_
        refine pb_ishr (pc := 11) d_Mod_putCode_11 ?_
        refine pb_topi (fun i4 ei4 => ?_)
        have eQ := ei4
        refine pb_iconst (pc := 12) (v := 1) d_Mod_putCode_12 (by decide) ?_
        refine pb_iand (pc := 13) d_Mod_putCode_13 ?_
        refine pb_topi (fun i5 ei5 => ?_)
        have ti5 : 0 ≤ i5.toInt ∧ i5.toInt ≤ 1 := ti_and 1 ei5 (by decide) (by decide)
        have eB := ei5
        refine pb_callV (pc := 14) (I := i_Mod_putCode) (qb := 0) (ci := 10) (nA := 1) (rest := []) (wr := []) d_Mod_putCode_14 (g_Mod_putBit hl G h m_rels m_openRels m_closeRels m_openRel m_closeRel m_comment m_ends m_order m_tape m_count m_nameSize m_names m_size m_data m_looked m_file m_directory m_out m_row m_made m_length m_pressed m_mark m_idSize m_ids m_goalSize m_goals m_value m_faults m_reached v_thrown v_taped v_lookedSize v_fileSize v_directorySize v_outSize v_rowSize v_bitAt v_bitEnd v_why v_madeSize v_firstCount v_secondCount hb_ hc_ ps_ v_at v_bad v_markSize v_relationCount v_valueSize v_faultCount g_ i5 S9 (by first | (with_reducible assumption) | omega (splitDisjunctions := false) | assumption | omega | decide) (by first | (with_reducible assumption) | omega (splitDisjunctions := false) | assumption | omega | decide) (by first | (with_reducible assumption) | omega (splitDisjunctions := false) | assumption | omega | decide) (by first | (with_reducible assumption) | omega (splitDisjunctions := false) | assumption | omega | decide) hM9 (by first | (with_reducible assumption) | omega (splitDisjunctions := false) | assumption | omega | decide) F_g_) rfl rfl [0, 1] [] (by decide) rfl rfl rfl (by decide) (by decide) k_1385 rfl k_128 k_1382 k_1384 k_62 ⟨rfl, hy_Mod_putBit⟩ (by decide) rfl rfl (Nat.le_of_ble_eq_true rfl) (by decide) (fun v9 u7 ch6 => ?_)
        obtain ⟨hb_8, hc_9, ps_10, g_11⟩ := u7
        obtain ⟨ech6, ch6⟩ := ch6
        have ech6 : v9 = none := ech6
        subst ech6
        obtain ⟨fh12, fh13, fh14, fh15, fh16, fh17⟩ : (0 ≤ hc_9.toInt) ∧ (hc_9.toInt < 8) ∧ (0 ≤ ps_10.toInt) ∧ (8 * ps_10.toInt + hc_9.toInt = (8 * ps_.toInt + hc_.toInt) + 1) ∧ (pM_ g_11 hb_8.toInt hc_9.toInt ps_10.toInt (b1_ S9 i5.toInt)) ∧ (sb_Fit g_11) := ch6
        have bF := fh16
        refine pb_eq (pc' := 17) (lo' := [(3, .int k), (0, .ref h), (1, .int v), (2, .int n)]) (rest' := []) (ws' := [(h, .inr (10, [.ref m_rels, .ref m_openRels, .ref m_closeRels, .ref m_openRel, .ref m_closeRel, .ref m_comment, .ref m_ends, .ref m_order, .int v_thrown, .int v_taped, .ref m_tape, .ref m_count, .ref m_nameSize, .ref m_names, .ref m_size, .ref m_data, .int v_lookedSize, .ref m_looked, .int v_fileSize, .ref m_file, .int v_directorySize, .ref m_directory, .int v_outSize, .ref m_out, .int v_rowSize, .ref m_row, .int v_bitAt, .int v_bitEnd, .int v_why, .int v_madeSize, .ref m_made, .ref m_length, .int v_firstCount, .int v_secondCount, .int hb_8, .int hc_9, .int ps_10, .ref m_pressed, .int v_at, .int v_bad, .int v_markSize, .ref m_mark, .int v_relationCount, .ref m_idSize, .ref m_ids, .ref m_goalSize, .ref m_goals, .int v_valueSize, .ref m_value, .int v_faultCount, .ref m_faults, .ref m_reached])), (m_pressed, .inl (G.2.1, 5000, .inl g_11))]) ?_
        refine pb_iincN (pc := 17) (c := (-1)) d_Mod_putCode_17 0 rfl (by decide) (by decide) (fun i18 ei18 => ?_)
        have ti18 : i18.toInt = k.toInt + (-1) := t2_add ei18 rfl (by decide) (by first | omega | (have r90 := ti_rng k; have r91 := ti_rng i18; have r92 := ti_rng v; have r93 := ti_rng n; omega))
        refine pb_eq (pc' := 20) (lo' := [(3, .int i18), (0, .ref h), (1, .int v), (2, .int n)]) (rest' := []) (ws' := [(h, .inr (10, [.ref m_rels, .ref m_openRels, .ref m_closeRels, .ref m_openRel, .ref m_closeRel, .ref m_comment, .ref m_ends, .ref m_order, .int v_thrown, .int v_taped, .ref m_tape, .ref m_count, .ref m_nameSize, .ref m_names, .ref m_size, .ref m_data, .int v_lookedSize, .ref m_looked, .int v_fileSize, .ref m_file, .int v_directorySize, .ref m_directory, .int v_outSize, .ref m_out, .int v_rowSize, .ref m_row, .int v_bitAt, .int v_bitEnd, .int v_why, .int v_madeSize, .ref m_made, .ref m_length, .int v_firstCount, .int v_secondCount, .int hb_8, .int hc_9, .int ps_10, .ref m_pressed, .int v_at, .int v_bad, .int v_markSize, .ref m_mark, .int v_relationCount, .ref m_idSize, .ref m_ids, .ref m_goalSize, .ref m_goals, .int v_valueSize, .ref m_value, .int v_faultCount, .ref m_faults, .ref m_reached])), (m_pressed, .inl (G.2.1, 5000, .inl g_11))]) ?_
        refine pb_goto (pc := 20) (tgt := 4) d_Mod_putCode_20 (by decide) ?_
        exact ih4 i18 hb_8 hc_9 ps_10 g_11 fh17 (by first | (with_reducible assumption) | omega (splitDisjunctions := false) | assumption | omega | decide) (by first | (with_reducible assumption) | omega (splitDisjunctions := false) | assumption | omega | decide) (by first | (with_reducible assumption) | omega (splitDisjunctions := false) | assumption | omega | decide) (by first | (with_reducible assumption) | omega (splitDisjunctions := false) | assumption | omega | decide) (by first | (with_reducible assumption) | omega (splitDisjunctions := false) | assumption | omega | decide) (by first | (with_reducible assumption) | omega (splitDisjunctions := false) | assumption | omega | decide) (hid_i (pM_d bF hE9 eB eQ rfl v0 rfl (by omega) (by omega) (by omega))) (by (first | exact omg_2466cfbdcf hm9 tw3 ti18 | omega))
  exact hL4_2 _ i1 v_heldBits v_heldCount v_pressedSize a_pressed F_a_pressed (by first | (with_reducible assumption) | omega (splitDisjunctions := false) | assumption | omega | decide) (by first | (with_reducible assumption) | omega (splitDisjunctions := false) | assumption | omega | decide) (by first | (with_reducible assumption) | omega (splitDisjunctions := false) | assumption | omega | decide) (by first | (with_reducible assumption) | omega (splitDisjunctions := false) | assumption | omega | decide) (by first | (with_reducible assumption) | omega (splitDisjunctions := false) | assumption | omega | decide) (by first | (with_reducible assumption) | omega (splitDisjunctions := false) | assumption | omega | decide) (hid_i ⟨S, hM, by rw [show i1.toInt + 1 = n.toInt by omega]⟩) (Nat.lt_succ_self _)

theorem d_Mod_putSymbol_0 : decode prog_12_method_23_code 0 = .ok (.iload_n 1, 1) := by decide +kernel
theorem d_Mod_putSymbol_1 : decode prog_12_method_23_code 1 = .ok (.sipush 144, 3) := by decide +kernel
theorem d_Mod_putSymbol_4 : decode prog_12_method_23_code 4 = .ok (.if_icmp .ge 16, 3) := by decide +kernel
theorem d_Mod_putSymbol_20 : decode prog_12_method_23_code 20 = .ok (.iload_n 1, 1) := by decide +kernel
theorem d_Mod_putSymbol_21 : decode prog_12_method_23_code 21 = .ok (.sipush 256, 3) := by decide +kernel
theorem d_Mod_putSymbol_24 : decode prog_12_method_23_code 24 = .ok (.if_icmp .ge 17, 3) := by decide +kernel
theorem d_Mod_putSymbol_41 : decode prog_12_method_23_code 41 = .ok (.iload_n 1, 1) := by decide +kernel
theorem d_Mod_putSymbol_42 : decode prog_12_method_23_code 42 = .ok (.sipush 280, 3) := by decide +kernel
theorem d_Mod_putSymbol_45 : decode prog_12_method_23_code 45 = .ok (.if_icmp .ge 17, 3) := by decide +kernel
theorem d_Mod_putSymbol_62 : decode prog_12_method_23_code 62 = .ok (.aload_n 0, 1) := by decide +kernel
theorem d_Mod_putSymbol_63 : decode prog_12_method_23_code 63 = .ok (.iload_n 1, 1) := by decide +kernel
theorem d_Mod_putSymbol_64 : decode prog_12_method_23_code 64 = .ok (.bipush 88, 2) := by decide +kernel
theorem d_Mod_putSymbol_66 : decode prog_12_method_23_code 66 = .ok (.isub, 1) := by decide +kernel
theorem d_Mod_putSymbol_67 : decode prog_12_method_23_code 67 = .ok (.bipush 8, 2) := by decide +kernel
theorem d_Mod_putSymbol_69 : decode prog_12_method_23_code 69 = .ok (.invokevirtual 166, 3) := by decide +kernel
theorem k_1393 : (Jvm.Cond.methodLink "PackageBookModel" (166 : Nat) ({ cls := "PackageBookModel", name := "putCode", desc := "(II)V" } : Jvm.MethodName)) ∈ uW := uW_c5 76 rfl (by decide +kernel)
theorem k_1396 : (Jvm.Cond.code ({ cls := "PackageBookModel", name := "putCode", desc := "(II)V" } : Jvm.MethodName) prog_12_method_22_code (4 : Nat) (Option.none : Option Jvm.ClassFile.FieldType)) ∈ uW := uW_c5 79 rfl (by decide +kernel)
theorem k_1395 : (Jvm.Cond.instanceMethod ({ cls := "PackageBookModel", name := "putCode", desc := "(II)V" } : Jvm.MethodName)) ∈ uW := uW_c5 78 rfl (by decide +kernel)
theorem k_64 : Cond.selects "PackageBookModel" ⟨"PackageBookModel", "putCode", "(II)V"⟩ ⟨"PackageBookModel", "putCode", "(II)V"⟩ ∈ uW := uW_of 64 (by decide +kernel) (by decide +kernel)
theorem hy_Mod_putCode : (y_Mod_putCode).cls ≠ "java/lang/invoke/MethodHandle" ∧ (y_Mod_putCode).cls ≠ "java/lang/invoke/VarHandle" ∧ (parseMethodDescriptor (y_Mod_putCode).desc).map (fun d => d.parameters.length) = some 2 := by decide +kernel
theorem d_Mod_putSymbol_72 : decode prog_12_method_23_code 72 = .ok (.return_, 1) := by decide +kernel
theorem d_Mod_putSymbol_48 : decode prog_12_method_23_code 48 = .ok (.aload_n 0, 1) := by decide +kernel
theorem d_Mod_putSymbol_49 : decode prog_12_method_23_code 49 = .ok (.iload_n 1, 1) := by decide +kernel
theorem d_Mod_putSymbol_50 : decode prog_12_method_23_code 50 = .ok (.sipush 256, 3) := by decide +kernel
theorem d_Mod_putSymbol_53 : decode prog_12_method_23_code 53 = .ok (.isub, 1) := by decide +kernel
theorem d_Mod_putSymbol_54 : decode prog_12_method_23_code 54 = .ok (.bipush 7, 2) := by decide +kernel
theorem d_Mod_putSymbol_56 : decode prog_12_method_23_code 56 = .ok (.invokevirtual 166, 3) := by decide +kernel
theorem d_Mod_putSymbol_59 : decode prog_12_method_23_code 59 = .ok (.goto 13, 3) := by decide +kernel
theorem d_Mod_putSymbol_27 : decode prog_12_method_23_code 27 = .ok (.aload_n 0, 1) := by decide +kernel
theorem d_Mod_putSymbol_28 : decode prog_12_method_23_code 28 = .ok (.sipush 256, 3) := by decide +kernel
theorem d_Mod_putSymbol_31 : decode prog_12_method_23_code 31 = .ok (.iload_n 1, 1) := by decide +kernel
theorem d_Mod_putSymbol_32 : decode prog_12_method_23_code 32 = .ok (.iadd, 1) := by decide +kernel
theorem d_Mod_putSymbol_33 : decode prog_12_method_23_code 33 = .ok (.bipush 9, 2) := by decide +kernel
theorem d_Mod_putSymbol_35 : decode prog_12_method_23_code 35 = .ok (.invokevirtual 166, 3) := by decide +kernel
theorem d_Mod_putSymbol_38 : decode prog_12_method_23_code 38 = .ok (.goto 34, 3) := by decide +kernel
theorem d_Mod_putSymbol_7 : decode prog_12_method_23_code 7 = .ok (.aload_n 0, 1) := by decide +kernel
theorem d_Mod_putSymbol_8 : decode prog_12_method_23_code 8 = .ok (.bipush 48, 2) := by decide +kernel
theorem d_Mod_putSymbol_10 : decode prog_12_method_23_code 10 = .ok (.iload_n 1, 1) := by decide +kernel
theorem d_Mod_putSymbol_11 : decode prog_12_method_23_code 11 = .ok (.iadd, 1) := by decide +kernel
theorem d_Mod_putSymbol_12 : decode prog_12_method_23_code 12 = .ok (.bipush 8, 2) := by decide +kernel
theorem d_Mod_putSymbol_14 : decode prog_12_method_23_code 14 = .ok (.invokevirtual 166, 3) := by decide +kernel
theorem d_Mod_putSymbol_17 : decode prog_12_method_23_code 17 = .ok (.goto 55, 3) := by decide +kernel
abbrev y_Mod_putSymbol : MethodName := ⟨"PackageBookModel", "putSymbol", "(I)V"⟩
abbrev i_Mod_putSymbol : pb_I := (y_Mod_putSymbol, prog_12_method_23_code, 2, (Option.none : Option Jvm.ClassFile.FieldType), [], { frames := 2, cells := 0, slots := 0, locals := 44 })
set_option maxRecDepth 100000 in
set_option maxHeartbeats 4000000 in
theorem g_Mod_putSymbol {l : Launch} (hl : l.stackTraces = false) (G : pb_G) (h : Nat) (m_rels : Nat) (m_openRels : Nat) (m_closeRels : Nat) (m_openRel : Nat) (m_closeRel : Nat) (m_comment : Nat) (m_ends : Nat) (m_order : Nat) (m_tape : Nat) (m_count : Nat) (m_nameSize : Nat) (m_names : Nat) (m_size : Nat) (m_data : Nat) (m_looked : Nat) (m_file : Nat) (m_directory : Nat) (m_out : Nat) (m_row : Nat) (m_made : Nat) (m_length : Nat) (m_pressed : Nat) (m_mark : Nat) (m_idSize : Nat) (m_ids : Nat) (m_goalSize : Nat) (m_goals : Nat) (m_value : Nat) (m_faults : Nat) (m_reached : Nat) (v_thrown : Int32) (v_taped : Int32) (v_lookedSize : Int32) (v_fileSize : Int32) (v_directorySize : Int32) (v_outSize : Int32) (v_rowSize : Int32) (v_bitAt : Int32) (v_bitEnd : Int32) (v_why : Int32) (v_madeSize : Int32) (v_firstCount : Int32) (v_secondCount : Int32) (v_heldBits : Int32) (v_heldCount : Int32) (v_pressedSize : Int32) (v_at : Int32) (v_bad : Int32) (v_markSize : Int32) (v_relationCount : Int32) (v_valueSize : Int32) (v_faultCount : Int32) (a_pressed : Nat → Int32) (v : Int32) (S : Int × (Int → Int)) (b0 : 0 ≤ v_heldCount.toInt) (b1 : v_heldCount.toInt < 8) (b2 : 0 ≤ v_pressedSize.toInt) (b3 : (8 * v_pressedSize.toInt + v_heldCount.toInt) + 9 ≤ 40000) (hM : pM_ a_pressed v_heldBits.toInt v_heldCount.toInt v_pressedSize.toInt S) (v0 : 0 ≤ v.toInt) (v1 : v.toInt ≤ 287) (F_a_pressed : sb_Fit a_pressed) : Cn l G i_Mod_putSymbol [.ref h, .int v] [(h, .inr (10, [.ref m_rels, .ref m_openRels, .ref m_closeRels, .ref m_openRel, .ref m_closeRel, .ref m_comment, .ref m_ends, .ref m_order, .int v_thrown, .int v_taped, .ref m_tape, .ref m_count, .ref m_nameSize, .ref m_names, .ref m_size, .ref m_data, .int v_lookedSize, .ref m_looked, .int v_fileSize, .ref m_file, .int v_directorySize, .ref m_directory, .int v_outSize, .ref m_out, .int v_rowSize, .ref m_row, .int v_bitAt, .int v_bitEnd, .int v_why, .int v_madeSize, .ref m_made, .ref m_length, .int v_firstCount, .int v_secondCount, .int v_heldBits, .int v_heldCount, .int v_pressedSize, .ref m_pressed, .int v_at, .int v_bad, .int v_markSize, .ref m_mark, .int v_relationCount, .ref m_idSize, .ref m_ids, .ref m_goalSize, .ref m_goals, .int v_valueSize, .ref m_value, .int v_faultCount, .ref m_faults, .ref m_reached])), (m_pressed, .inl (G.2.1, 5000, .inl a_pressed))] (S := Int32 × Int32 × Int32 × (Nat → Int32)) (fun rv_ u => rv_ = none ∧ (0 ≤ u.2.1.toInt) ∧ (u.2.1.toInt < 8) ∧ (0 ≤ u.2.2.1.toInt) ∧ (v.toInt < 144 → 8 * u.2.2.1.toInt + u.2.1.toInt = (8 * v_pressedSize.toInt + v_heldCount.toInt) + 8) ∧ (144 ≤ v.toInt → v.toInt < 256 → 8 * u.2.2.1.toInt + u.2.1.toInt = (8 * v_pressedSize.toInt + v_heldCount.toInt) + 9) ∧ (256 ≤ v.toInt → v.toInt < 280 → 8 * u.2.2.1.toInt + u.2.1.toInt = (8 * v_pressedSize.toInt + v_heldCount.toInt) + 7) ∧ (280 ≤ v.toInt → 8 * u.2.2.1.toInt + u.2.1.toInt = (8 * v_pressedSize.toInt + v_heldCount.toInt) + 8) ∧ (pM_ u.2.2.2 u.1.toInt u.2.1.toInt u.2.2.1.toInt (sb_ S v.toInt)) ∧ (sb_Fit u.2.2.2)) (fun u => [(h, .inr (10, [.ref m_rels, .ref m_openRels, .ref m_closeRels, .ref m_openRel, .ref m_closeRel, .ref m_comment, .ref m_ends, .ref m_order, .int v_thrown, .int v_taped, .ref m_tape, .ref m_count, .ref m_nameSize, .ref m_names, .ref m_size, .ref m_data, .int v_lookedSize, .ref m_looked, .int v_fileSize, .ref m_file, .int v_directorySize, .ref m_directory, .int v_outSize, .ref m_out, .int v_rowSize, .ref m_row, .int v_bitAt, .int v_bitEnd, .int v_why, .int v_madeSize, .ref m_made, .ref m_length, .int v_firstCount, .int v_secondCount, .int u.1, .int u.2.1, .int u.2.2.1, .ref m_pressed, .int v_at, .int v_bad, .int v_markSize, .ref m_mark, .int v_relationCount, .ref m_idSize, .ref m_ids, .ref m_goalSize, .ref m_goals, .int v_valueSize, .ref m_value, .int v_faultCount, .ref m_faults, .ref m_reached])), (m_pressed, .inl (G.2.1, 5000, .inl u.2.2.2))]) := by
  refine Cn.of hl (by decide +kernel) rfl (Nat.le_of_ble_eq_true rfl) (fun M hQ => ?_)
  refine pb_eq (pc' := 0) (lo' := [(0, .ref h), (1, .int v)]) (rest' := []) (ws' := [(h, .inr (10, [.ref m_rels, .ref m_openRels, .ref m_closeRels, .ref m_openRel, .ref m_closeRel, .ref m_comment, .ref m_ends, .ref m_order, .int v_thrown, .int v_taped, .ref m_tape, .ref m_count, .ref m_nameSize, .ref m_names, .ref m_size, .ref m_data, .int v_lookedSize, .ref m_looked, .int v_fileSize, .ref m_file, .int v_directorySize, .ref m_directory, .int v_outSize, .ref m_out, .int v_rowSize, .ref m_row, .int v_bitAt, .int v_bitEnd, .int v_why, .int v_madeSize, .ref m_made, .ref m_length, .int v_firstCount, .int v_secondCount, .int v_heldBits, .int v_heldCount, .int v_pressedSize, .ref m_pressed, .int v_at, .int v_bad, .int v_markSize, .ref m_mark, .int v_relationCount, .ref m_idSize, .ref m_ids, .ref m_goalSize, .ref m_goals, .int v_valueSize, .ref m_value, .int v_faultCount, .ref m_faults, .ref m_reached])), (m_pressed, .inl (G.2.1, 5000, .inl a_pressed))]) ?_
  have zl0 : (0 : Int32).toInt = 0 := by decide
  have zl1 : (1 : Int32).toInt = 1 := by decide
  have zl7 : (7 : Int32).toInt = 7 := by decide
  have zl8 : (8 : Int32).toInt = 8 := by decide
  have zl9 : (9 : Int32).toInt = 9 := by decide
  have zl48 : (48 : Int32).toInt = 48 := by decide
  have zl256 : (256 : Int32).toInt = 256 := by decide
  refine pb_iload_n (pc := 0) d_Mod_putSymbol_0 1 rfl rfl ?_
  refine pb_sipush (pc := 1) (v := 144) d_Mod_putSymbol_1 (by decide) ?_
  refine pb_icmp_ge (pc := 4) (tgt := 20) d_Mod_putSymbol_4 (by decide) (fun w1 => ?_) (fun w1 => ?_)
  · have tw1 : 144 ≤ v.toInt := (ti_le (by decide) rfl).mp w1
    refine pb_iload_n (pc := 20) d_Mod_putSymbol_20 1 rfl rfl ?_
    refine pb_sipush (pc := 21) (v := 256) d_Mod_putSymbol_21 (by decide) ?_
    refine pb_icmp_ge (pc := 24) (tgt := 41) d_Mod_putSymbol_24 (by decide) (fun w2 => ?_) (fun w2 => ?_)
    · have tw2 : 256 ≤ v.toInt := (ti_le (by decide) rfl).mp w2
      refine pb_iload_n (pc := 41) d_Mod_putSymbol_41 1 rfl rfl ?_
      refine pb_sipush (pc := 42) (v := 280) d_Mod_putSymbol_42 (by decide) ?_
      refine pb_icmp_ge (pc := 45) (tgt := 62) d_Mod_putSymbol_45 (by decide) (fun w3 => ?_) (fun w3 => ?_)
      · have tw3 : 280 ≤ v.toInt := (ti_le (by decide) rfl).mp w3
        refine pb_aload_n (pc := 62) d_Mod_putSymbol_62 0 rfl rfl ?_
        refine pb_iload_n (pc := 63) d_Mod_putSymbol_63 1 rfl rfl ?_
        refine pb_bipush (pc := 64) (v := 88) d_Mod_putSymbol_64 (by decide) ?_
        refine pb_isub (pc := 66) d_Mod_putSymbol_66 ?_
        refine pb_topi (fun i4 ei4 => ?_)
        try have ti4 : i4.toInt = v.toInt - 88 := t2_sub ei4 rfl (by decide) (by omega)
        refine pb_bipush (pc := 67) (v := 8) d_Mod_putSymbol_67 (by decide) ?_
        refine pb_callV (pc := 69) (I := i_Mod_putSymbol) (qb := 0) (ci := 10) (nA := 2) (rest := []) (wr := []) d_Mod_putSymbol_69 (g_Mod_putCode hl G h m_rels m_openRels m_closeRels m_openRel m_closeRel m_comment m_ends m_order m_tape m_count m_nameSize m_names m_size m_data m_looked m_file m_directory m_out m_row m_made m_length m_pressed m_mark m_idSize m_ids m_goalSize m_goals m_value m_faults m_reached v_thrown v_taped v_lookedSize v_fileSize v_directorySize v_outSize v_rowSize v_bitAt v_bitEnd v_why v_madeSize v_firstCount v_secondCount v_heldBits v_heldCount v_pressedSize v_at v_bad v_markSize v_relationCount v_valueSize v_faultCount a_pressed i4 8 S (by first | (with_reducible assumption) | omega (splitDisjunctions := false) | assumption | omega | decide) (by first | (with_reducible assumption) | omega (splitDisjunctions := false) | assumption | omega | decide) (by first | (with_reducible assumption) | omega (splitDisjunctions := false) | assumption | omega | decide) (by first | (with_reducible assumption) | omega (splitDisjunctions := false) | assumption | omega | decide) (by first | (with_reducible assumption) | omega (splitDisjunctions := false) | assumption | omega | decide) (by first | (with_reducible assumption) | omega (splitDisjunctions := false) | assumption | omega | decide) (by first | (with_reducible assumption) | omega (splitDisjunctions := false) | assumption | omega | decide) (by first | (with_reducible assumption) | omega (splitDisjunctions := false) | assumption | omega | decide) F_a_pressed) rfl rfl [0, 1] [] (by decide) rfl rfl rfl (by decide) (by decide) k_1396 rfl k_128 k_1393 k_1395 k_64 ⟨rfl, hy_Mod_putCode⟩ (by decide) rfl rfl (Nat.le_of_ble_eq_true rfl) (by decide) (fun v9 u6 ch5 => ?_)
        obtain ⟨hb_7, hc_8, ps_9, g_10⟩ := u6
        obtain ⟨ech5, ch5⟩ := ch5
        have ech5 : v9 = none := ech5
        subst ech5
        obtain ⟨fh11, fh12, fh13, fh14, fh15, fh16⟩ : (0 ≤ hc_8.toInt) ∧ (hc_8.toInt < 8) ∧ (0 ≤ ps_9.toInt) ∧ (8 * ps_9.toInt + hc_8.toInt = (8 * v_pressedSize.toInt + v_heldCount.toInt) + (8 : Int32).toInt) ∧ (pM_ g_10 hb_7.toInt hc_8.toInt ps_9.toInt (bc_ i4.toInt (8 : Int32).toInt.toNat S)) ∧ (sb_Fit g_10) := ch5
        have cdF := fh15
        rw [show (8 : Int32).toInt.toNat = 8 by decide] at cdF
        have kMF : pM_ _ _ _ _ (sb_ S v.toInt) := pM_c cdF (sb_3 (by omega) (by omega))
        refine pb_eq (pc' := 72) (lo' := [(0, .ref h), (1, .int v)]) (rest' := []) (ws' := [(h, .inr (10, [.ref m_rels, .ref m_openRels, .ref m_closeRels, .ref m_openRel, .ref m_closeRel, .ref m_comment, .ref m_ends, .ref m_order, .int v_thrown, .int v_taped, .ref m_tape, .ref m_count, .ref m_nameSize, .ref m_names, .ref m_size, .ref m_data, .int v_lookedSize, .ref m_looked, .int v_fileSize, .ref m_file, .int v_directorySize, .ref m_directory, .int v_outSize, .ref m_out, .int v_rowSize, .ref m_row, .int v_bitAt, .int v_bitEnd, .int v_why, .int v_madeSize, .ref m_made, .ref m_length, .int v_firstCount, .int v_secondCount, .int hb_7, .int hc_8, .int ps_9, .ref m_pressed, .int v_at, .int v_bad, .int v_markSize, .ref m_mark, .int v_relationCount, .ref m_idSize, .ref m_ids, .ref m_goalSize, .ref m_goals, .int v_valueSize, .ref m_value, .int v_faultCount, .ref m_faults, .ref m_reached])), (m_pressed, .inl (G.2.1, 5000, .inl g_10))]) ?_
        exact pb_vret (pc := 72) hQ d_Mod_putSymbol_72 rfl (hb_7, hc_8, ps_9, g_10) ⟨rfl, (by (try dsimp only); first | done | (with_reducible assumption) | omega (splitDisjunctions := false) | assumption | omega | decide), (by (try dsimp only); first | done | (with_reducible assumption) | omega (splitDisjunctions := false) | assumption | omega | decide), (by (try dsimp only); first | done | (with_reducible assumption) | omega (splitDisjunctions := false) | assumption | omega | decide), (by (try dsimp only); first | done | (with_reducible assumption) | omega (splitDisjunctions := false) | assumption | omega | decide), (by (try dsimp only); first | done | (with_reducible assumption) | omega (splitDisjunctions := false) | assumption | omega | decide), (by (try dsimp only); first | done | (with_reducible assumption) | omega (splitDisjunctions := false) | assumption | omega | decide), (by (try dsimp only); first | done | (with_reducible assumption) | omega (splitDisjunctions := false) | assumption | omega | decide), kMF, fh16⟩ [0, 1] (by decide) rfl rfl (by decide) (by decide)
      · have tw3 : ¬ 280 ≤ v.toInt := fun z9 => w3 ((ti_le (by decide) rfl).mpr z9)
        refine pb_aload_n (pc := 48) d_Mod_putSymbol_48 0 rfl rfl ?_
        refine pb_iload_n (pc := 49) d_Mod_putSymbol_49 1 rfl rfl ?_
        refine pb_sipush (pc := 50) (v := 256) d_Mod_putSymbol_50 (by decide) ?_
        refine pb_isub (pc := 53) d_Mod_putSymbol_53 ?_
        refine pb_topi (fun i17 ei17 => ?_)
        try have ti17 : i17.toInt = v.toInt - 256 := t2_sub ei17 rfl (by decide) (by omega)
        refine pb_bipush (pc := 54) (v := 7) d_Mod_putSymbol_54 (by decide) ?_
        refine pb_callV (pc := 56) (I := i_Mod_putSymbol) (qb := 0) (ci := 10) (nA := 2) (rest := []) (wr := []) d_Mod_putSymbol_56 (g_Mod_putCode hl G h m_rels m_openRels m_closeRels m_openRel m_closeRel m_comment m_ends m_order m_tape m_count m_nameSize m_names m_size m_data m_looked m_file m_directory m_out m_row m_made m_length m_pressed m_mark m_idSize m_ids m_goalSize m_goals m_value m_faults m_reached v_thrown v_taped v_lookedSize v_fileSize v_directorySize v_outSize v_rowSize v_bitAt v_bitEnd v_why v_madeSize v_firstCount v_secondCount v_heldBits v_heldCount v_pressedSize v_at v_bad v_markSize v_relationCount v_valueSize v_faultCount a_pressed i17 7 S (by first | (with_reducible assumption) | omega (splitDisjunctions := false) | assumption | omega | decide) (by first | (with_reducible assumption) | omega (splitDisjunctions := false) | assumption | omega | decide) (by first | (with_reducible assumption) | omega (splitDisjunctions := false) | assumption | omega | decide) (by first | (with_reducible assumption) | omega (splitDisjunctions := false) | assumption | omega | decide) (by first | (with_reducible assumption) | omega (splitDisjunctions := false) | assumption | omega | decide) (by first | (with_reducible assumption) | omega (splitDisjunctions := false) | assumption | omega | decide) (by first | (with_reducible assumption) | omega (splitDisjunctions := false) | assumption | omega | decide) (by first | (with_reducible assumption) | omega (splitDisjunctions := false) | assumption | omega | decide) F_a_pressed) rfl rfl [0, 1] [] (by decide) rfl rfl rfl (by decide) (by decide) k_1396 rfl k_128 k_1393 k_1395 k_64 ⟨rfl, hy_Mod_putCode⟩ (by decide) rfl rfl (Nat.le_of_ble_eq_true rfl) (by decide) (fun v9 u19 ch18 => ?_)
        obtain ⟨hb_20, hc_21, ps_22, g_23⟩ := u19
        obtain ⟨ech18, ch18⟩ := ch18
        have ech18 : v9 = none := ech18
        subst ech18
        obtain ⟨fh24, fh25, fh26, fh27, fh28, fh29⟩ : (0 ≤ hc_21.toInt) ∧ (hc_21.toInt < 8) ∧ (0 ≤ ps_22.toInt) ∧ (8 * ps_22.toInt + hc_21.toInt = (8 * v_pressedSize.toInt + v_heldCount.toInt) + (7 : Int32).toInt) ∧ (pM_ g_23 hb_20.toInt hc_21.toInt ps_22.toInt (bc_ i17.toInt (7 : Int32).toInt.toNat S)) ∧ (sb_Fit g_23) := ch18
        have cdF := fh28
        rw [show (7 : Int32).toInt.toNat = 7 by decide] at cdF
        have kMF : pM_ _ _ _ _ (sb_ S v.toInt) := pM_c cdF (sb_2 (by omega) (by omega) (by omega))
        refine pb_eq (pc' := 59) (lo' := [(0, .ref h), (1, .int v)]) (rest' := []) (ws' := [(h, .inr (10, [.ref m_rels, .ref m_openRels, .ref m_closeRels, .ref m_openRel, .ref m_closeRel, .ref m_comment, .ref m_ends, .ref m_order, .int v_thrown, .int v_taped, .ref m_tape, .ref m_count, .ref m_nameSize, .ref m_names, .ref m_size, .ref m_data, .int v_lookedSize, .ref m_looked, .int v_fileSize, .ref m_file, .int v_directorySize, .ref m_directory, .int v_outSize, .ref m_out, .int v_rowSize, .ref m_row, .int v_bitAt, .int v_bitEnd, .int v_why, .int v_madeSize, .ref m_made, .ref m_length, .int v_firstCount, .int v_secondCount, .int hb_20, .int hc_21, .int ps_22, .ref m_pressed, .int v_at, .int v_bad, .int v_markSize, .ref m_mark, .int v_relationCount, .ref m_idSize, .ref m_ids, .ref m_goalSize, .ref m_goals, .int v_valueSize, .ref m_value, .int v_faultCount, .ref m_faults, .ref m_reached])), (m_pressed, .inl (G.2.1, 5000, .inl g_23))]) ?_
        refine pb_goto (pc := 59) (tgt := 72) d_Mod_putSymbol_59 (by decide) ?_
        exact pb_vret (pc := 72) hQ d_Mod_putSymbol_72 rfl (hb_20, hc_21, ps_22, g_23) ⟨rfl, (by (try dsimp only); first | done | (with_reducible assumption) | omega (splitDisjunctions := false) | assumption | omega | decide), (by (try dsimp only); first | done | (with_reducible assumption) | omega (splitDisjunctions := false) | assumption | omega | decide), (by (try dsimp only); first | done | (with_reducible assumption) | omega (splitDisjunctions := false) | assumption | omega | decide), (by (try dsimp only); first | done | (with_reducible assumption) | omega (splitDisjunctions := false) | assumption | omega | decide), (by (try dsimp only); first | done | (with_reducible assumption) | omega (splitDisjunctions := false) | assumption | omega | decide), (by (try dsimp only); first | done | (with_reducible assumption) | omega (splitDisjunctions := false) | assumption | omega | decide), (by (try dsimp only); first | done | (with_reducible assumption) | omega (splitDisjunctions := false) | assumption | omega | decide), kMF, fh29⟩ [0, 1] (by decide) rfl rfl (by decide) (by decide)
    · have tw2 : ¬ 256 ≤ v.toInt := fun z9 => w2 ((ti_le (by decide) rfl).mpr z9)
      refine pb_aload_n (pc := 27) d_Mod_putSymbol_27 0 rfl rfl ?_
      refine pb_sipush (pc := 28) (v := 256) d_Mod_putSymbol_28 (by decide) ?_
      refine pb_iload_n (pc := 31) d_Mod_putSymbol_31 1 rfl rfl ?_
      refine pb_iadd (pc := 32) d_Mod_putSymbol_32 ?_
      refine pb_topi (fun i30 ei30 => ?_)
      try have ti30 : i30.toInt = 256 + v.toInt := t2_add ei30 (by decide) rfl (by omega)
      refine pb_bipush (pc := 33) (v := 9) d_Mod_putSymbol_33 (by decide) ?_
      refine pb_callV (pc := 35) (I := i_Mod_putSymbol) (qb := 0) (ci := 10) (nA := 2) (rest := []) (wr := []) d_Mod_putSymbol_35 (g_Mod_putCode hl G h m_rels m_openRels m_closeRels m_openRel m_closeRel m_comment m_ends m_order m_tape m_count m_nameSize m_names m_size m_data m_looked m_file m_directory m_out m_row m_made m_length m_pressed m_mark m_idSize m_ids m_goalSize m_goals m_value m_faults m_reached v_thrown v_taped v_lookedSize v_fileSize v_directorySize v_outSize v_rowSize v_bitAt v_bitEnd v_why v_madeSize v_firstCount v_secondCount v_heldBits v_heldCount v_pressedSize v_at v_bad v_markSize v_relationCount v_valueSize v_faultCount a_pressed i30 9 S (by first | (with_reducible assumption) | omega (splitDisjunctions := false) | assumption | omega | decide) (by first | (with_reducible assumption) | omega (splitDisjunctions := false) | assumption | omega | decide) (by first | (with_reducible assumption) | omega (splitDisjunctions := false) | assumption | omega | decide) (by first | (with_reducible assumption) | omega (splitDisjunctions := false) | assumption | omega | decide) (by first | (with_reducible assumption) | omega (splitDisjunctions := false) | assumption | omega | decide) (by first | (with_reducible assumption) | omega (splitDisjunctions := false) | assumption | omega | decide) (by first | (with_reducible assumption) | omega (splitDisjunctions := false) | assumption | omega | decide) (by first | (with_reducible assumption) | omega (splitDisjunctions := false) | assumption | omega | decide) F_a_pressed) rfl rfl [0, 1] [] (by decide) rfl rfl rfl (by decide) (by decide) k_1396 rfl k_128 k_1393 k_1395 k_64 ⟨rfl, hy_Mod_putCode⟩ (by decide) rfl rfl (Nat.le_of_ble_eq_true rfl) (by decide) (fun v9 u32 ch31 => ?_)
      obtain ⟨hb_33, hc_34, ps_35, g_36⟩ := u32
      obtain ⟨ech31, ch31⟩ := ch31
      have ech31 : v9 = none := ech31
      subst ech31
      obtain ⟨fh37, fh38, fh39, fh40, fh41, fh42⟩ : (0 ≤ hc_34.toInt) ∧ (hc_34.toInt < 8) ∧ (0 ≤ ps_35.toInt) ∧ (8 * ps_35.toInt + hc_34.toInt = (8 * v_pressedSize.toInt + v_heldCount.toInt) + (9 : Int32).toInt) ∧ (pM_ g_36 hb_33.toInt hc_34.toInt ps_35.toInt (bc_ i30.toInt (9 : Int32).toInt.toNat S)) ∧ (sb_Fit g_36) := ch31
      have cdF := fh41
      rw [show (9 : Int32).toInt.toNat = 9 by decide] at cdF
      have kMF : pM_ _ _ _ _ (sb_ S v.toInt) := pM_c cdF (sb_1 (by omega) (by omega) (by omega))
      refine pb_eq (pc' := 38) (lo' := [(0, .ref h), (1, .int v)]) (rest' := []) (ws' := [(h, .inr (10, [.ref m_rels, .ref m_openRels, .ref m_closeRels, .ref m_openRel, .ref m_closeRel, .ref m_comment, .ref m_ends, .ref m_order, .int v_thrown, .int v_taped, .ref m_tape, .ref m_count, .ref m_nameSize, .ref m_names, .ref m_size, .ref m_data, .int v_lookedSize, .ref m_looked, .int v_fileSize, .ref m_file, .int v_directorySize, .ref m_directory, .int v_outSize, .ref m_out, .int v_rowSize, .ref m_row, .int v_bitAt, .int v_bitEnd, .int v_why, .int v_madeSize, .ref m_made, .ref m_length, .int v_firstCount, .int v_secondCount, .int hb_33, .int hc_34, .int ps_35, .ref m_pressed, .int v_at, .int v_bad, .int v_markSize, .ref m_mark, .int v_relationCount, .ref m_idSize, .ref m_ids, .ref m_goalSize, .ref m_goals, .int v_valueSize, .ref m_value, .int v_faultCount, .ref m_faults, .ref m_reached])), (m_pressed, .inl (G.2.1, 5000, .inl g_36))]) ?_
      refine pb_goto (pc := 38) (tgt := 72) d_Mod_putSymbol_38 (by decide) ?_
      exact pb_vret (pc := 72) hQ d_Mod_putSymbol_72 rfl (hb_33, hc_34, ps_35, g_36) ⟨rfl, (by (try dsimp only); first | done | (with_reducible assumption) | omega (splitDisjunctions := false) | assumption | omega | decide), (by (try dsimp only); first | done | (with_reducible assumption) | omega (splitDisjunctions := false) | assumption | omega | decide), (by (try dsimp only); first | done | (with_reducible assumption) | omega (splitDisjunctions := false) | assumption | omega | decide), (by (try dsimp only); first | done | (with_reducible assumption) | omega (splitDisjunctions := false) | assumption | omega | decide), (by (try dsimp only); first | done | (with_reducible assumption) | omega (splitDisjunctions := false) | assumption | omega | decide), (by (try dsimp only); first | done | (with_reducible assumption) | omega (splitDisjunctions := false) | assumption | omega | decide), (by (try dsimp only); first | done | (with_reducible assumption) | omega (splitDisjunctions := false) | assumption | omega | decide), kMF, fh42⟩ [0, 1] (by decide) rfl rfl (by decide) (by decide)
  · have tw1 : ¬ 144 ≤ v.toInt := fun z9 => w1 ((ti_le (by decide) rfl).mpr z9)
    refine pb_aload_n (pc := 7) d_Mod_putSymbol_7 0 rfl rfl ?_
    refine pb_bipush (pc := 8) (v := 48) d_Mod_putSymbol_8 (by decide) ?_
    refine pb_iload_n (pc := 10) d_Mod_putSymbol_10 1 rfl rfl ?_
    refine pb_iadd (pc := 11) d_Mod_putSymbol_11 ?_
    refine pb_topi (fun i43 ei43 => ?_)
    try have ti43 : i43.toInt = 48 + v.toInt := t2_add ei43 (by decide) rfl (by omega)
    refine pb_bipush (pc := 12) (v := 8) d_Mod_putSymbol_12 (by decide) ?_
    refine pb_callV (pc := 14) (I := i_Mod_putSymbol) (qb := 0) (ci := 10) (nA := 2) (rest := []) (wr := []) d_Mod_putSymbol_14 (g_Mod_putCode hl G h m_rels m_openRels m_closeRels m_openRel m_closeRel m_comment m_ends m_order m_tape m_count m_nameSize m_names m_size m_data m_looked m_file m_directory m_out m_row m_made m_length m_pressed m_mark m_idSize m_ids m_goalSize m_goals m_value m_faults m_reached v_thrown v_taped v_lookedSize v_fileSize v_directorySize v_outSize v_rowSize v_bitAt v_bitEnd v_why v_madeSize v_firstCount v_secondCount v_heldBits v_heldCount v_pressedSize v_at v_bad v_markSize v_relationCount v_valueSize v_faultCount a_pressed i43 8 S (by first | (with_reducible assumption) | omega (splitDisjunctions := false) | assumption | omega | decide) (by first | (with_reducible assumption) | omega (splitDisjunctions := false) | assumption | omega | decide) (by first | (with_reducible assumption) | omega (splitDisjunctions := false) | assumption | omega | decide) (by first | (with_reducible assumption) | omega (splitDisjunctions := false) | assumption | omega | decide) (by first | (with_reducible assumption) | omega (splitDisjunctions := false) | assumption | omega | decide) (by first | (with_reducible assumption) | omega (splitDisjunctions := false) | assumption | omega | decide) (by first | (with_reducible assumption) | omega (splitDisjunctions := false) | assumption | omega | decide) (by first | (with_reducible assumption) | omega (splitDisjunctions := false) | assumption | omega | decide) F_a_pressed) rfl rfl [0, 1] [] (by decide) rfl rfl rfl (by decide) (by decide) k_1396 rfl k_128 k_1393 k_1395 k_64 ⟨rfl, hy_Mod_putCode⟩ (by decide) rfl rfl (Nat.le_of_ble_eq_true rfl) (by decide) (fun v9 u45 ch44 => ?_)
    obtain ⟨hb_46, hc_47, ps_48, g_49⟩ := u45
    obtain ⟨ech44, ch44⟩ := ch44
    have ech44 : v9 = none := ech44
    subst ech44
    obtain ⟨fh50, fh51, fh52, fh53, fh54, fh55⟩ : (0 ≤ hc_47.toInt) ∧ (hc_47.toInt < 8) ∧ (0 ≤ ps_48.toInt) ∧ (8 * ps_48.toInt + hc_47.toInt = (8 * v_pressedSize.toInt + v_heldCount.toInt) + (8 : Int32).toInt) ∧ (pM_ g_49 hb_46.toInt hc_47.toInt ps_48.toInt (bc_ i43.toInt (8 : Int32).toInt.toNat S)) ∧ (sb_Fit g_49) := ch44
    have cdF := fh54
    rw [show (8 : Int32).toInt.toNat = 8 by decide] at cdF
    have kMF : pM_ _ _ _ _ (sb_ S v.toInt) := pM_c cdF (sb_0 (by omega) (by omega))
    refine pb_eq (pc' := 17) (lo' := [(0, .ref h), (1, .int v)]) (rest' := []) (ws' := [(h, .inr (10, [.ref m_rels, .ref m_openRels, .ref m_closeRels, .ref m_openRel, .ref m_closeRel, .ref m_comment, .ref m_ends, .ref m_order, .int v_thrown, .int v_taped, .ref m_tape, .ref m_count, .ref m_nameSize, .ref m_names, .ref m_size, .ref m_data, .int v_lookedSize, .ref m_looked, .int v_fileSize, .ref m_file, .int v_directorySize, .ref m_directory, .int v_outSize, .ref m_out, .int v_rowSize, .ref m_row, .int v_bitAt, .int v_bitEnd, .int v_why, .int v_madeSize, .ref m_made, .ref m_length, .int v_firstCount, .int v_secondCount, .int hb_46, .int hc_47, .int ps_48, .ref m_pressed, .int v_at, .int v_bad, .int v_markSize, .ref m_mark, .int v_relationCount, .ref m_idSize, .ref m_ids, .ref m_goalSize, .ref m_goals, .int v_valueSize, .ref m_value, .int v_faultCount, .ref m_faults, .ref m_reached])), (m_pressed, .inl (G.2.1, 5000, .inl g_49))]) ?_
    refine pb_goto (pc := 17) (tgt := 72) d_Mod_putSymbol_17 (by decide) ?_
    exact pb_vret (pc := 72) hQ d_Mod_putSymbol_72 rfl (hb_46, hc_47, ps_48, g_49) ⟨rfl, (by (try dsimp only); first | done | (with_reducible assumption) | omega (splitDisjunctions := false) | assumption | omega | decide), (by (try dsimp only); first | done | (with_reducible assumption) | omega (splitDisjunctions := false) | assumption | omega | decide), (by (try dsimp only); first | done | (with_reducible assumption) | omega (splitDisjunctions := false) | assumption | omega | decide), (by (try dsimp only); first | done | (with_reducible assumption) | omega (splitDisjunctions := false) | assumption | omega | decide), (by (try dsimp only); first | done | (with_reducible assumption) | omega (splitDisjunctions := false) | assumption | omega | decide), (by (try dsimp only); first | done | (with_reducible assumption) | omega (splitDisjunctions := false) | assumption | omega | decide), (by (try dsimp only); first | done | (with_reducible assumption) | omega (splitDisjunctions := false) | assumption | omega | decide), kMF, fh55⟩ [0, 1] (by decide) rfl rfl (by decide) (by decide)
/-! ROWS OF NUMBERS -/
theorem omg_a589c189f3 {x0 : Int} {x1 : Int} (a0 : (¬ (x0 < (8 : Int)))) (a1 : (¬ ((28 : Int) ≤ x0))) (a2 : (x1 = (x0 / (4 : Int)))) : (((-(2147483648 : Int)) ≤ (x1 - (1 : Int))) ∧ ((x1 - (1 : Int)) < (2147483648 : Int))) := by omega
theorem omg_eee3b67504 {x0 : Int} {x1 : Int} {x2 : Nat} {x3 : Int} {x4 : Int} (a0 : ((3 : Int) ≤ x0)) (a1 : ((0 : Int) ≤ x1)) (a2 : ((Int.toNat x1) < (x2 + (1 : Nat)))) (a3 : ((x1 = (0 : Int)) → (x3 = (3 : Int)))) (a4 : (¬ (x3 ≤ x0))) (a5 : (x4 = (x1 + (-(1 : Int))))) : ((Int.toNat x4) < x2) := by omega
theorem omg_0c09067951 {x0 : Int} {x1 : Int} {x2 : Int} {x3 : Int} {x4 : Int} {x5 : Int} {x6 : Int} {x7 : Int} {x8 : Int} {x9 : Int} {x10 : Int} (a0 : (x0 = (5 : Int))) (a1 : ((((8 : Int) * x1) + x2) = ((((8 : Int) * x3) + x4) + x0))) (a2 : (x5 = (x6 / (2 : Int)))) (a3 : (x7 = (x5 - (1 : Int)))) (a4 : ((((8 : Int) * x8) + x9) = ((((8 : Int) * x1) + x2) + x7))) (a5 : (x10 = ((5 : Int) + ((x6 / (2 : Int)) - (1 : Int))))) : ((((8 : Int) * x8) + x9) = ((((8 : Int) * x3) + x4) + x10)) := by omega
theorem omg_939555c140 {x0 : Int} {x1 : Nat} {x2 : Int} (a0 : ((Int.toNat ((258 : Int) - x0)) < (x1 + (1 : Nat)))) (a1 : (¬ ((258 : Int) ≤ x0))) (a2 : (x2 = (x0 + (1 : Int)))) : ((Int.toNat ((258 : Int) - x2)) < x1) := by omega
theorem d_Mod_leastLength_0 : decode prog_12_method_24_code 0 = .ok (.iload_n 0, 1) := by decide +kernel
theorem d_Mod_leastLength_1 : decode prog_12_method_24_code 1 = .ok (.bipush 8, 2) := by decide +kernel
theorem d_Mod_leastLength_3 : decode prog_12_method_24_code 3 = .ok (.if_icmp .ge 9, 3) := by decide +kernel
theorem d_Mod_leastLength_12 : decode prog_12_method_24_code 12 = .ok (.iload_n 0, 1) := by decide +kernel
theorem d_Mod_leastLength_13 : decode prog_12_method_24_code 13 = .ok (.bipush 28, 2) := by decide +kernel
theorem d_Mod_leastLength_15 : decode prog_12_method_24_code 15 = .ok (.if_icmp .ne 9, 3) := by decide +kernel
theorem d_Mod_leastLength_24 : decode prog_12_method_24_code 24 = .ok (.iconst 3, 1) := by decide +kernel
theorem d_Mod_leastLength_25 : decode prog_12_method_24_code 25 = .ok (.iconst 4, 1) := by decide +kernel
theorem d_Mod_leastLength_26 : decode prog_12_method_24_code 26 = .ok (.iload_n 0, 1) := by decide +kernel
theorem d_Mod_leastLength_27 : decode prog_12_method_24_code 27 = .ok (.iconst 4, 1) := by decide +kernel
theorem d_Mod_leastLength_28 : decode prog_12_method_24_code 28 = .ok (.irem, 1) := by decide +kernel
theorem d_Mod_leastLength_29 : decode prog_12_method_24_code 29 = .ok (.iadd, 1) := by decide +kernel
theorem d_Mod_leastLength_30 : decode prog_12_method_24_code 30 = .ok (.iload_n 0, 1) := by decide +kernel
theorem d_Mod_leastLength_31 : decode prog_12_method_24_code 31 = .ok (.iconst 4, 1) := by decide +kernel
theorem d_Mod_leastLength_32 : decode prog_12_method_24_code 32 = .ok (.idiv, 1) := by decide +kernel
theorem d_Mod_leastLength_33 : decode prog_12_method_24_code 33 = .ok (.iconst 1, 1) := by decide +kernel
theorem d_Mod_leastLength_34 : decode prog_12_method_24_code 34 = .ok (.isub, 1) := by decide +kernel
theorem d_Mod_leastLength_35 : decode prog_12_method_24_code 35 = .ok (.ishl, 1) := by decide +kernel
theorem d_Mod_leastLength_36 : decode prog_12_method_24_code 36 = .ok (.iadd, 1) := by decide +kernel
theorem d_Mod_leastLength_37 : decode prog_12_method_24_code 37 = .ok (.ireturn, 1) := by decide +kernel
theorem d_Mod_leastLength_18 : decode prog_12_method_24_code 18 = .ok (.sipush 258, 3) := by decide +kernel
theorem d_Mod_leastLength_21 : decode prog_12_method_24_code 21 = .ok (.goto 16, 3) := by decide +kernel
theorem d_Mod_leastLength_6 : decode prog_12_method_24_code 6 = .ok (.iconst 3, 1) := by decide +kernel
theorem d_Mod_leastLength_7 : decode prog_12_method_24_code 7 = .ok (.iload_n 0, 1) := by decide +kernel
theorem d_Mod_leastLength_8 : decode prog_12_method_24_code 8 = .ok (.iadd, 1) := by decide +kernel
theorem d_Mod_leastLength_9 : decode prog_12_method_24_code 9 = .ok (.goto 28, 3) := by decide +kernel
abbrev y_Mod_leastLength : MethodName := ⟨"PackageBookModel", "leastLength", "(I)I"⟩
abbrev i_Mod_leastLength : pb_I := (y_Mod_leastLength, prog_12_method_24_code, 1, (some Jvm.ClassFile.FieldType.int), [], { frames := 0, cells := 0, slots := 0, locals := 0 })
set_option maxRecDepth 100000 in
set_option maxHeartbeats 4000000 in
theorem g_Mod_leastLength {l : Launch} (hl : l.stackTraces = false) (G : pb_G) (k : Int32) (h0 : 0 ≤ k.toInt) (h1 : k.toInt ≤ 28) : Cn l G i_Mod_leastLength [.int k] [] (S := Int32) (fun rv_ u => rv_ = some (.int u) ∧ (k.toInt = 0 → u.toInt = 3) ∧ (u.toInt = ll_f k.toInt)) (fun u => []) := by
  refine Cn.of hl (by decide +kernel) rfl (Nat.le_of_ble_eq_true rfl) (fun M hQ => ?_)
  refine pb_eq (pc' := 0) (lo' := [(0, .int k)]) (rest' := []) (ws' := []) ?_
  have zl0 : (0 : Int32).toInt = 0 := by decide
  have zl1 : (1 : Int32).toInt = 1 := by decide
  have zl3 : (3 : Int32).toInt = 3 := by decide
  have zl4 : (4 : Int32).toInt = 4 := by decide
  have zl258 : (258 : Int32).toInt = 258 := by decide
  refine pb_iload_n (pc := 0) d_Mod_leastLength_0 0 rfl rfl ?_
  refine pb_bipush (pc := 1) (v := 8) d_Mod_leastLength_1 (by decide) ?_
  refine pb_icmp_ge (pc := 3) (tgt := 12) d_Mod_leastLength_3 (by decide) (fun w1 => ?_) (fun w1 => ?_)
  · have tw1 : 8 ≤ k.toInt := (ti_le (by decide) rfl).mp w1
    refine pb_iload_n (pc := 12) d_Mod_leastLength_12 0 rfl rfl ?_
    refine pb_bipush (pc := 13) (v := 28) d_Mod_leastLength_13 (by decide) ?_
    refine pb_icmp_ne (pc := 15) (tgt := 24) d_Mod_leastLength_15 (by decide) (fun w2 => ?_) (fun w2 => ?_)
    · have tw2 : ¬ k.toInt = 28 := fun z9 => w2 ((ti_eq rfl (by decide)).mpr z9)
      refine pb_iconst (pc := 24) (v := 3) d_Mod_leastLength_24 (by decide) ?_
      refine pb_iconst (pc := 25) (v := 4) d_Mod_leastLength_25 (by decide) ?_
      refine pb_iload_n (pc := 26) d_Mod_leastLength_26 0 rfl rfl ?_
      refine pb_iconst (pc := 27) (v := 4) d_Mod_leastLength_27 (by decide) ?_
      refine pb_irem (pc := 28) d_Mod_leastLength_28 (by decide) ?_
      refine pb_topi (fun i3 ei3 => ?_)
      try have ti3 : i3.toInt = k.toInt % 4 := ti_rem 4 ei3 rfl (by decide) (by omega) (by decide)
      refine pb_iadd (pc := 29) d_Mod_leastLength_29 ?_
      refine pb_topi (fun i4 ei4 => ?_)
      try have ti4 : i4.toInt = 4 + i3.toInt := t2_add ei4 (by decide) rfl (by omega)
      refine pb_iload_n (pc := 30) d_Mod_leastLength_30 0 rfl rfl ?_
      refine pb_iconst (pc := 31) (v := 4) d_Mod_leastLength_31 (by decide) ?_
      refine pb_idiv (pc := 32) d_Mod_leastLength_32 (by decide) ?_
      refine pb_topi (fun i5 ei5 => ?_)
      try have ti5 : i5.toInt = k.toInt / 4 := ti_div 4 ei5 rfl (by decide) (by omega) (by decide)
      refine pb_iconst (pc := 33) (v := 1) d_Mod_leastLength_33 (by decide) ?_
      refine pb_isub (pc := 34) d_Mod_leastLength_34 ?_
      refine pb_topi (fun i6 ei6 => ?_)
      try have ti6 : i6.toInt = i5.toInt - 1 := t2_sub ei6 rfl (by decide) (by omega)
      refine pb_ishl (pc := 35) d_Mod_leastLength_35 ?_
      refine pb_topi (fun i7 ei7 => ?_)
      have ti7 := ti_slv ei7 (by omega) (by omega) (by omega) (by omega)
      refine pb_iadd (pc := 36) d_Mod_leastLength_36 ?_
      refine pb_topi (fun i8 ei8 => ?_)
      try have ti8 : i8.toInt = 3 + i7.toInt := t2_add ei8 (by decide) rfl (by (first | exact omg_e9639d82c6 ti3 ti4 ti7 | omega))
      exact pb_iret (pc := 37) hQ d_Mod_leastLength_37 rfl rfl (i8) ⟨rfl, (by (try dsimp only); first | done | (with_reducible assumption) | omega (splitDisjunctions := false) | assumption | omega | decide), (show i8.toInt = ll_f k.toInt from (by unfold ll_f; (repeat' split) <;> omega))⟩ [] (by decide) rfl rfl (by decide) (by decide)
    · have tw2 : k.toInt = 28 := (ti_eq rfl (by decide)).mp w2
      refine pb_sipush (pc := 18) (v := 258) d_Mod_leastLength_18 (by decide) ?_
      refine pb_goto (pc := 21) (tgt := 37) d_Mod_leastLength_21 (by decide) ?_
      exact pb_iret (pc := 37) hQ d_Mod_leastLength_37 rfl rfl (258) ⟨rfl, (by (try dsimp only); first | done | (with_reducible assumption) | omega (splitDisjunctions := false) | assumption | omega | decide), (show (258 : Int32).toInt = ll_f k.toInt from (by unfold ll_f; (repeat' split) <;> omega))⟩ [] (by decide) rfl rfl (by decide) (by decide)
  · have tw1 : ¬ 8 ≤ k.toInt := fun z9 => w1 ((ti_le (by decide) rfl).mpr z9)
    refine pb_iconst (pc := 6) (v := 3) d_Mod_leastLength_6 (by decide) ?_
    refine pb_iload_n (pc := 7) d_Mod_leastLength_7 0 rfl rfl ?_
    refine pb_iadd (pc := 8) d_Mod_leastLength_8 ?_
    refine pb_topi (fun i9 ei9 => ?_)
    try have ti9 : i9.toInt = 3 + k.toInt := t2_add ei9 (by decide) rfl (by omega)
    refine pb_goto (pc := 9) (tgt := 37) d_Mod_leastLength_9 (by decide) ?_
    exact pb_iret (pc := 37) hQ d_Mod_leastLength_37 rfl rfl (i9) ⟨rfl, (by (try dsimp only); first | done | (with_reducible assumption) | omega (splitDisjunctions := false) | assumption | omega | decide), (show i9.toInt = ll_f k.toInt from (by unfold ll_f; (repeat' split) <;> omega))⟩ [] (by decide) rfl rfl (by decide) (by decide)

theorem d_Mod_leastDistance_0 : decode prog_12_method_25_code 0 = .ok (.iload_n 0, 1) := by decide +kernel
theorem d_Mod_leastDistance_1 : decode prog_12_method_25_code 1 = .ok (.iconst 4, 1) := by decide +kernel
theorem d_Mod_leastDistance_2 : decode prog_12_method_25_code 2 = .ok (.if_icmp .ge 9, 3) := by decide +kernel
theorem d_Mod_leastDistance_11 : decode prog_12_method_25_code 11 = .ok (.iconst 1, 1) := by decide +kernel
theorem d_Mod_leastDistance_12 : decode prog_12_method_25_code 12 = .ok (.iconst 2, 1) := by decide +kernel
theorem d_Mod_leastDistance_13 : decode prog_12_method_25_code 13 = .ok (.iload_n 0, 1) := by decide +kernel
theorem d_Mod_leastDistance_14 : decode prog_12_method_25_code 14 = .ok (.iconst 2, 1) := by decide +kernel
theorem d_Mod_leastDistance_15 : decode prog_12_method_25_code 15 = .ok (.irem, 1) := by decide +kernel
theorem d_Mod_leastDistance_16 : decode prog_12_method_25_code 16 = .ok (.iadd, 1) := by decide +kernel
theorem d_Mod_leastDistance_17 : decode prog_12_method_25_code 17 = .ok (.iload_n 0, 1) := by decide +kernel
theorem d_Mod_leastDistance_18 : decode prog_12_method_25_code 18 = .ok (.iconst 2, 1) := by decide +kernel
theorem d_Mod_leastDistance_19 : decode prog_12_method_25_code 19 = .ok (.idiv, 1) := by decide +kernel
theorem d_Mod_leastDistance_20 : decode prog_12_method_25_code 20 = .ok (.iconst 1, 1) := by decide +kernel
theorem d_Mod_leastDistance_21 : decode prog_12_method_25_code 21 = .ok (.isub, 1) := by decide +kernel
theorem d_Mod_leastDistance_22 : decode prog_12_method_25_code 22 = .ok (.ishl, 1) := by decide +kernel
theorem d_Mod_leastDistance_23 : decode prog_12_method_25_code 23 = .ok (.iadd, 1) := by decide +kernel
theorem d_Mod_leastDistance_24 : decode prog_12_method_25_code 24 = .ok (.ireturn, 1) := by decide +kernel
theorem d_Mod_leastDistance_5 : decode prog_12_method_25_code 5 = .ok (.iconst 1, 1) := by decide +kernel
theorem d_Mod_leastDistance_6 : decode prog_12_method_25_code 6 = .ok (.iload_n 0, 1) := by decide +kernel
theorem d_Mod_leastDistance_7 : decode prog_12_method_25_code 7 = .ok (.iadd, 1) := by decide +kernel
theorem d_Mod_leastDistance_8 : decode prog_12_method_25_code 8 = .ok (.goto 16, 3) := by decide +kernel
abbrev y_Mod_leastDistance : MethodName := ⟨"PackageBookModel", "leastDistance", "(I)I"⟩
abbrev i_Mod_leastDistance : pb_I := (y_Mod_leastDistance, prog_12_method_25_code, 1, (some Jvm.ClassFile.FieldType.int), [], { frames := 0, cells := 0, slots := 0, locals := 0 })
set_option maxRecDepth 100000 in
set_option maxHeartbeats 4000000 in
theorem g_Mod_leastDistance {l : Launch} (hl : l.stackTraces = false) (G : pb_G) (d : Int32) (h0 : 0 ≤ d.toInt) (h1 : d.toInt ≤ 29) : Cn l G i_Mod_leastDistance [.int d] [] (S := Int32) (fun rv_ u => rv_ = some (.int u) ∧ (1 ≤ u.toInt) ∧ (d.toInt = 0 → u.toInt = 1) ∧ (24 ≤ d.toInt → 4097 ≤ u.toInt) ∧ (u.toInt ≤ 65536) ∧ (u.toInt = ld_f d.toInt)) (fun u => []) := by
  refine Cn.of hl (by decide +kernel) rfl (Nat.le_of_ble_eq_true rfl) (fun M hQ => ?_)
  refine pb_eq (pc' := 0) (lo' := [(0, .int d)]) (rest' := []) (ws' := []) ?_
  have zl0 : (0 : Int32).toInt = 0 := by decide
  have zl1 : (1 : Int32).toInt = 1 := by decide
  have zl2 : (2 : Int32).toInt = 2 := by decide
  refine pb_iload_n (pc := 0) d_Mod_leastDistance_0 0 rfl rfl ?_
  refine pb_iconst (pc := 1) (v := 4) d_Mod_leastDistance_1 (by decide) ?_
  refine pb_icmp_ge (pc := 2) (tgt := 11) d_Mod_leastDistance_2 (by decide) (fun w1 => ?_) (fun w1 => ?_)
  · have tw1 : 4 ≤ d.toInt := (ti_le (by decide) rfl).mp w1
    refine pb_iconst (pc := 11) (v := 1) d_Mod_leastDistance_11 (by decide) ?_
    refine pb_iconst (pc := 12) (v := 2) d_Mod_leastDistance_12 (by decide) ?_
    refine pb_iload_n (pc := 13) d_Mod_leastDistance_13 0 rfl rfl ?_
    refine pb_iconst (pc := 14) (v := 2) d_Mod_leastDistance_14 (by decide) ?_
    refine pb_irem (pc := 15) d_Mod_leastDistance_15 (by decide) ?_
    refine pb_topi (fun i2 ei2 => ?_)
    try have ti2 : i2.toInt = d.toInt % 2 := ti_rem 2 ei2 rfl (by decide) (by omega) (by decide)
    refine pb_iadd (pc := 16) d_Mod_leastDistance_16 ?_
    refine pb_topi (fun i3 ei3 => ?_)
    try have ti3 : i3.toInt = 2 + i2.toInt := t2_add ei3 (by decide) rfl (by omega)
    refine pb_iload_n (pc := 17) d_Mod_leastDistance_17 0 rfl rfl ?_
    refine pb_iconst (pc := 18) (v := 2) d_Mod_leastDistance_18 (by decide) ?_
    refine pb_idiv (pc := 19) d_Mod_leastDistance_19 (by decide) ?_
    refine pb_topi (fun i4 ei4 => ?_)
    try have ti4 : i4.toInt = d.toInt / 2 := ti_div 2 ei4 rfl (by decide) (by omega) (by decide)
    refine pb_iconst (pc := 20) (v := 1) d_Mod_leastDistance_20 (by decide) ?_
    refine pb_isub (pc := 21) d_Mod_leastDistance_21 ?_
    refine pb_topi (fun i5 ei5 => ?_)
    try have ti5 : i5.toInt = i4.toInt - 1 := t2_sub ei5 rfl (by decide) (by omega)
    refine pb_ishl (pc := 22) d_Mod_leastDistance_22 ?_
    refine pb_topi (fun i6 ei6 => ?_)
    have eS := ei6
    refine pb_iadd (pc := 23) d_Mod_leastDistance_23 ?_
    refine pb_topi (fun i7 ei7 => ?_)
    try have ti7 : i7.toInt = 1 + i6.toInt := t2_add ei7 (by decide) rfl (by omega)
    have eA := ei7
    exact pb_iret (pc := 24) hQ d_Mod_leastDistance_24 rfl rfl (i7) ⟨rfl, (show 1 ≤ i7.toInt from (by first | omega | exact (md_pos (by omega) h1 (by simp only [ei2, ei3, ei4, ei5, ei6, ei7])).1)), (by (try dsimp only); first | done | (with_reducible assumption) | omega (splitDisjunctions := false) | assumption | omega | decide), (show 24 ≤ d.toInt → 4097 ≤ i7.toInt from (by first | omega | exact (md_pos (by omega) h1 (by simp only [ei2, ei3, ei4, ei5, ei6, ei7])).2.1)), (show i7.toInt ≤ 65536 from (by first | omega | exact (md_pos (by omega) h1 (by simp only [ei2, ei3, ei4, ei5, ei6, ei7])).2.2)), (show i7.toInt = ld_f d.toInt from (by first | (have t9 := ti_slv eS (by omega) (by omega) (by omega) (by omega); have t8 := ti_add (a := 1) eA (by decide) rfl (by (first | exact omg_ef7619423d ti2 ti3 t9 | omega)) (by (first | exact omg_68c0e5a607 ti2 ti3 t9 | omega)); unfold ld_f; (repeat' split) <;> omega) | (unfold ld_f; (repeat' split) <;> omega)))⟩ [] (by decide) rfl rfl (by decide) (by decide)
  · have tw1 : ¬ 4 ≤ d.toInt := fun z9 => w1 ((ti_le (by decide) rfl).mpr z9)
    refine pb_iconst (pc := 5) (v := 1) d_Mod_leastDistance_5 (by decide) ?_
    refine pb_iload_n (pc := 6) d_Mod_leastDistance_6 0 rfl rfl ?_
    refine pb_iadd (pc := 7) d_Mod_leastDistance_7 ?_
    refine pb_topi (fun i8 ei8 => ?_)
    try have ti8 : i8.toInt = 1 + d.toInt := t2_add ei8 (by decide) rfl (by omega)
    refine pb_goto (pc := 8) (tgt := 24) d_Mod_leastDistance_8 (by decide) ?_
    have eA := ei8
    exact pb_iret (pc := 24) hQ d_Mod_leastDistance_24 rfl rfl (i8) ⟨rfl, (show 1 ≤ i8.toInt from (by first | omega | exact (md_pos (by omega) h1 (by simp only [ei8])).1)), (by (try dsimp only); first | done | (with_reducible assumption) | omega (splitDisjunctions := false) | assumption | omega | decide), (show 24 ≤ d.toInt → 4097 ≤ i8.toInt from (by first | omega | exact (md_pos (by omega) h1 (by simp only [ei8])).2.1)), (show i8.toInt ≤ 65536 from (by first | omega | exact (md_pos (by omega) h1 (by simp only [ei8])).2.2)), (show i8.toInt = ld_f d.toInt from (by first | (have t9 := ti_slv eS (by omega) (by omega) (by omega) (by omega); have t8 := ti_add (a := 1) eA (by decide) rfl (by omega) (by omega); unfold ld_f; (repeat' split) <;> omega) | (unfold ld_f; (repeat' split) <;> omega)))⟩ [] (by decide) rfl rfl (by decide) (by decide)

theorem d_Mod_putLength_0 : decode prog_12_method_26_code 0 = .ok (.bipush 28, 2) := by decide +kernel
theorem d_Mod_putLength_2 : decode prog_12_method_26_code 2 = .ok (.istore_n 2, 1) := by decide +kernel
theorem d_Mod_putLength_3 : decode prog_12_method_26_code 3 = .ok (.iload_n 2, 1) := by decide +kernel
theorem d_Mod_putLength_4 : decode prog_12_method_26_code 4 = .ok (.invokestatic 169, 3) := by decide +kernel
theorem k_1401 : (Jvm.Cond.methodLink "PackageBookModel" (169 : Nat) ({ cls := "PackageBookModel", name := "leastLength", desc := "(I)I" } : Jvm.MethodName)) ∈ uW := uW_c5 84 rfl (by decide +kernel)
theorem k_1403 : (Jvm.Cond.code ({ cls := "PackageBookModel", name := "leastLength", desc := "(I)I" } : Jvm.MethodName) prog_12_method_24_code (1 : Nat) (Option.some Jvm.ClassFile.FieldType.int)) ∈ uW := uW_c5 86 rfl (by decide +kernel)
theorem k_1402 : (Jvm.Cond.static ({ cls := "PackageBookModel", name := "leastLength", desc := "(I)I" } : Jvm.MethodName)) ∈ uW := uW_c5 85 rfl (by decide +kernel)
theorem hy_Mod_leastLength : (y_Mod_leastLength).cls ≠ "java/lang/invoke/MethodHandle" ∧ (y_Mod_leastLength).cls ≠ "java/lang/invoke/VarHandle" ∧ (parseMethodDescriptor (y_Mod_leastLength).desc).map (fun d => d.parameters.length) = some 1 := by decide +kernel
theorem d_Mod_putLength_7 : decode prog_12_method_26_code 7 = .ok (.iload_n 1, 1) := by decide +kernel
theorem d_Mod_putLength_8 : decode prog_12_method_26_code 8 = .ok (.if_icmp .le 9, 3) := by decide +kernel
theorem d_Mod_putLength_17 : decode prog_12_method_26_code 17 = .ok (.aload_n 0, 1) := by decide +kernel
theorem d_Mod_putLength_18 : decode prog_12_method_26_code 18 = .ok (.sipush 257, 3) := by decide +kernel
theorem d_Mod_putLength_21 : decode prog_12_method_26_code 21 = .ok (.iload_n 2, 1) := by decide +kernel
theorem d_Mod_putLength_22 : decode prog_12_method_26_code 22 = .ok (.iadd, 1) := by decide +kernel
theorem d_Mod_putLength_23 : decode prog_12_method_26_code 23 = .ok (.invokevirtual 172, 3) := by decide +kernel
theorem k_1389 : (Jvm.Cond.methodLink "PackageBookModel" (172 : Nat) ({ cls := "PackageBookModel", name := "putSymbol", desc := "(I)V" } : Jvm.MethodName)) ∈ uW := uW_c5 72 rfl (by decide +kernel)
theorem k_1392 : (Jvm.Cond.code ({ cls := "PackageBookModel", name := "putSymbol", desc := "(I)V" } : Jvm.MethodName) prog_12_method_23_code (2 : Nat) (Option.none : Option Jvm.ClassFile.FieldType)) ∈ uW := uW_c5 75 rfl (by decide +kernel)
theorem k_1391 : (Jvm.Cond.instanceMethod ({ cls := "PackageBookModel", name := "putSymbol", desc := "(I)V" } : Jvm.MethodName)) ∈ uW := uW_c5 74 rfl (by decide +kernel)
theorem k_63 : Cond.selects "PackageBookModel" ⟨"PackageBookModel", "putSymbol", "(I)V"⟩ ⟨"PackageBookModel", "putSymbol", "(I)V"⟩ ∈ uW := uW_of 63 (by decide +kernel) (by decide +kernel)
theorem hy_Mod_putSymbol : (y_Mod_putSymbol).cls ≠ "java/lang/invoke/MethodHandle" ∧ (y_Mod_putSymbol).cls ≠ "java/lang/invoke/VarHandle" ∧ (parseMethodDescriptor (y_Mod_putSymbol).desc).map (fun d => d.parameters.length) = some 1 := by decide +kernel
theorem d_Mod_putLength_26 : decode prog_12_method_26_code 26 = .ok (.iload_n 2, 1) := by decide +kernel
theorem d_Mod_putLength_27 : decode prog_12_method_26_code 27 = .ok (.bipush 8, 2) := by decide +kernel
theorem d_Mod_putLength_29 : decode prog_12_method_26_code 29 = .ok (.if_icmp .lt 24, 3) := by decide +kernel
theorem d_Mod_putLength_53 : decode prog_12_method_26_code 53 = .ok (.return_, 1) := by decide +kernel
theorem d_Mod_putLength_32 : decode prog_12_method_26_code 32 = .ok (.iload_n 2, 1) := by decide +kernel
theorem d_Mod_putLength_33 : decode prog_12_method_26_code 33 = .ok (.bipush 28, 2) := by decide +kernel
theorem d_Mod_putLength_35 : decode prog_12_method_26_code 35 = .ok (.if_icmp .ge 18, 3) := by decide +kernel
theorem d_Mod_putLength_38 : decode prog_12_method_26_code 38 = .ok (.aload_n 0, 1) := by decide +kernel
theorem d_Mod_putLength_39 : decode prog_12_method_26_code 39 = .ok (.iload_n 1, 1) := by decide +kernel
theorem d_Mod_putLength_40 : decode prog_12_method_26_code 40 = .ok (.iload_n 2, 1) := by decide +kernel
theorem d_Mod_putLength_41 : decode prog_12_method_26_code 41 = .ok (.invokestatic 169, 3) := by decide +kernel
theorem d_Mod_putLength_44 : decode prog_12_method_26_code 44 = .ok (.isub, 1) := by decide +kernel
theorem d_Mod_putLength_45 : decode prog_12_method_26_code 45 = .ok (.iload_n 2, 1) := by decide +kernel
theorem d_Mod_putLength_46 : decode prog_12_method_26_code 46 = .ok (.iconst 4, 1) := by decide +kernel
theorem d_Mod_putLength_47 : decode prog_12_method_26_code 47 = .ok (.idiv, 1) := by decide +kernel
theorem d_Mod_putLength_48 : decode prog_12_method_26_code 48 = .ok (.iconst 1, 1) := by decide +kernel
theorem d_Mod_putLength_49 : decode prog_12_method_26_code 49 = .ok (.isub, 1) := by decide +kernel
theorem d_Mod_putLength_50 : decode prog_12_method_26_code 50 = .ok (.invokevirtual 175, 3) := by decide +kernel
theorem k_1378 : (Jvm.Cond.methodLink "PackageBookModel" (175 : Nat) ({ cls := "PackageBookModel", name := "putNumber", desc := "(II)V" } : Jvm.MethodName)) ∈ uW := uW_c5 61 rfl (by decide +kernel)
theorem k_1381 : (Jvm.Cond.code ({ cls := "PackageBookModel", name := "putNumber", desc := "(II)V" } : Jvm.MethodName) prog_12_method_21_code (4 : Nat) (Option.none : Option Jvm.ClassFile.FieldType)) ∈ uW := uW_c5 64 rfl (by decide +kernel)
theorem k_1380 : (Jvm.Cond.instanceMethod ({ cls := "PackageBookModel", name := "putNumber", desc := "(II)V" } : Jvm.MethodName)) ∈ uW := uW_c5 63 rfl (by decide +kernel)
theorem k_61 : Cond.selects "PackageBookModel" ⟨"PackageBookModel", "putNumber", "(II)V"⟩ ⟨"PackageBookModel", "putNumber", "(II)V"⟩ ∈ uW := uW_of 61 (by decide +kernel) (by decide +kernel)
theorem hy_Mod_putNumber : (y_Mod_putNumber).cls ≠ "java/lang/invoke/MethodHandle" ∧ (y_Mod_putNumber).cls ≠ "java/lang/invoke/VarHandle" ∧ (parseMethodDescriptor (y_Mod_putNumber).desc).map (fun d => d.parameters.length) = some 2 := by decide +kernel
theorem d_Mod_putLength_11 : decode prog_12_method_26_code 11 = .ok (.iinc 2 (-1), 3) := by decide +kernel
theorem d_Mod_putLength_14 : decode prog_12_method_26_code 14 = .ok (.goto (-11), 3) := by decide +kernel
abbrev y_Mod_putLength : MethodName := ⟨"PackageBookModel", "putLength", "(I)V"⟩
abbrev i_Mod_putLength : pb_I := (y_Mod_putLength, prog_12_method_26_code, 3, (Option.none : Option Jvm.ClassFile.FieldType), [], { frames := 3, cells := 0, slots := 0, locals := 65 })
set_option maxRecDepth 100000 in
set_option maxHeartbeats 4000000 in
theorem g_Mod_putLength {l : Launch} (hl : l.stackTraces = false) (G : pb_G) (h : Nat) (m_rels : Nat) (m_openRels : Nat) (m_closeRels : Nat) (m_openRel : Nat) (m_closeRel : Nat) (m_comment : Nat) (m_ends : Nat) (m_order : Nat) (m_tape : Nat) (m_count : Nat) (m_nameSize : Nat) (m_names : Nat) (m_size : Nat) (m_data : Nat) (m_looked : Nat) (m_file : Nat) (m_directory : Nat) (m_out : Nat) (m_row : Nat) (m_made : Nat) (m_length : Nat) (m_pressed : Nat) (m_mark : Nat) (m_idSize : Nat) (m_ids : Nat) (m_goalSize : Nat) (m_goals : Nat) (m_value : Nat) (m_faults : Nat) (m_reached : Nat) (v_thrown : Int32) (v_taped : Int32) (v_lookedSize : Int32) (v_fileSize : Int32) (v_directorySize : Int32) (v_outSize : Int32) (v_rowSize : Int32) (v_bitAt : Int32) (v_bitEnd : Int32) (v_why : Int32) (v_madeSize : Int32) (v_firstCount : Int32) (v_secondCount : Int32) (v_heldBits : Int32) (v_heldCount : Int32) (v_pressedSize : Int32) (v_at : Int32) (v_bad : Int32) (v_markSize : Int32) (v_relationCount : Int32) (v_valueSize : Int32) (v_faultCount : Int32) (a_pressed : Nat → Int32) (n : Int32) (S : Int × (Int → Int)) (b0 : 0 ≤ v_heldCount.toInt) (b1 : v_heldCount.toInt < 8) (b2 : 0 ≤ v_pressedSize.toInt) (n0 : 3 ≤ n.toInt) (n1 : n.toInt ≤ 258) (b3 : (8 * v_pressedSize.toInt + v_heldCount.toInt) + 14 ≤ 40000) (hM : pM_ a_pressed v_heldBits.toInt v_heldCount.toInt v_pressedSize.toInt S) (F_a_pressed : sb_Fit a_pressed) : Cn l G i_Mod_putLength [.ref h, .int n] [(h, .inr (10, [.ref m_rels, .ref m_openRels, .ref m_closeRels, .ref m_openRel, .ref m_closeRel, .ref m_comment, .ref m_ends, .ref m_order, .int v_thrown, .int v_taped, .ref m_tape, .ref m_count, .ref m_nameSize, .ref m_names, .ref m_size, .ref m_data, .int v_lookedSize, .ref m_looked, .int v_fileSize, .ref m_file, .int v_directorySize, .ref m_directory, .int v_outSize, .ref m_out, .int v_rowSize, .ref m_row, .int v_bitAt, .int v_bitEnd, .int v_why, .int v_madeSize, .ref m_made, .ref m_length, .int v_firstCount, .int v_secondCount, .int v_heldBits, .int v_heldCount, .int v_pressedSize, .ref m_pressed, .int v_at, .int v_bad, .int v_markSize, .ref m_mark, .int v_relationCount, .ref m_idSize, .ref m_ids, .ref m_goalSize, .ref m_goals, .int v_valueSize, .ref m_value, .int v_faultCount, .ref m_faults, .ref m_reached])), (m_pressed, .inl (G.2.1, 5000, .inl a_pressed))] (S := Int32 × Int32 × Int32 × (Nat → Int32)) (fun rv_ u => rv_ = none ∧ (0 ≤ u.2.1.toInt) ∧ (u.2.1.toInt < 8) ∧ (0 ≤ u.2.2.1.toInt) ∧ (8 * u.2.2.1.toInt + u.2.1.toInt = (8 * v_pressedSize.toInt + v_heldCount.toInt) + le_c n.toInt) ∧ (pM_ u.2.2.2 u.1.toInt u.2.1.toInt u.2.2.1.toInt (lo_ S n.toInt)) ∧ (sb_Fit u.2.2.2)) (fun u => [(h, .inr (10, [.ref m_rels, .ref m_openRels, .ref m_closeRels, .ref m_openRel, .ref m_closeRel, .ref m_comment, .ref m_ends, .ref m_order, .int v_thrown, .int v_taped, .ref m_tape, .ref m_count, .ref m_nameSize, .ref m_names, .ref m_size, .ref m_data, .int v_lookedSize, .ref m_looked, .int v_fileSize, .ref m_file, .int v_directorySize, .ref m_directory, .int v_outSize, .ref m_out, .int v_rowSize, .ref m_row, .int v_bitAt, .int v_bitEnd, .int v_why, .int v_madeSize, .ref m_made, .ref m_length, .int v_firstCount, .int v_secondCount, .int u.1, .int u.2.1, .int u.2.2.1, .ref m_pressed, .int v_at, .int v_bad, .int v_markSize, .ref m_mark, .int v_relationCount, .ref m_idSize, .ref m_ids, .ref m_goalSize, .ref m_goals, .int v_valueSize, .ref m_value, .int v_faultCount, .ref m_faults, .ref m_reached])), (m_pressed, .inl (G.2.1, 5000, .inl u.2.2.2))]) := by
  refine Cn.of hl (by decide +kernel) rfl (Nat.le_of_ble_eq_true rfl) (fun M hQ => ?_)
  refine pb_eq (pc' := 0) (lo' := [(0, .ref h), (1, .int n)]) (rest' := []) (ws' := [(h, .inr (10, [.ref m_rels, .ref m_openRels, .ref m_closeRels, .ref m_openRel, .ref m_closeRel, .ref m_comment, .ref m_ends, .ref m_order, .int v_thrown, .int v_taped, .ref m_tape, .ref m_count, .ref m_nameSize, .ref m_names, .ref m_size, .ref m_data, .int v_lookedSize, .ref m_looked, .int v_fileSize, .ref m_file, .int v_directorySize, .ref m_directory, .int v_outSize, .ref m_out, .int v_rowSize, .ref m_row, .int v_bitAt, .int v_bitEnd, .int v_why, .int v_madeSize, .ref m_made, .ref m_length, .int v_firstCount, .int v_secondCount, .int v_heldBits, .int v_heldCount, .int v_pressedSize, .ref m_pressed, .int v_at, .int v_bad, .int v_markSize, .ref m_mark, .int v_relationCount, .ref m_idSize, .ref m_ids, .ref m_goalSize, .ref m_goals, .int v_valueSize, .ref m_value, .int v_faultCount, .ref m_faults, .ref m_reached])), (m_pressed, .inl (G.2.1, 5000, .inl a_pressed))]) ?_
  have zl0 : (0 : Int32).toInt = 0 := by decide
  have zl1 : (1 : Int32).toInt = 1 := by decide
  have zl28 : (28 : Int32).toInt = 28 := by decide
  have zl257 : (257 : Int32).toInt = 257 := by decide
  refine pb_bipush (pc := 0) (v := 28) d_Mod_putLength_0 (by decide) ?_
  refine pb_istore_n (pc := 2) (lo' := [(2, .int 28), (0, .ref h), (1, .int n)]) d_Mod_putLength_2 rfl (by decide) rfl ?_
  have hL3_1 : ∀ (N9 : Nat) (k : Int32), (0 ≤ k.toInt) → (k.toInt ≤ 28) → (k.toInt = 28 ∨ n.toInt < ll_f (k.toInt + 1)) → (k.toInt.toNat) < N9 → pb_P l G M i_Mod_putLength 3 [(2, .int k), (0, .ref h), (1, .int n)] [] [(h, .inr (10, [.ref m_rels, .ref m_openRels, .ref m_closeRels, .ref m_openRel, .ref m_closeRel, .ref m_comment, .ref m_ends, .ref m_order, .int v_thrown, .int v_taped, .ref m_tape, .ref m_count, .ref m_nameSize, .ref m_names, .ref m_size, .ref m_data, .int v_lookedSize, .ref m_looked, .int v_fileSize, .ref m_file, .int v_directorySize, .ref m_directory, .int v_outSize, .ref m_out, .int v_rowSize, .ref m_row, .int v_bitAt, .int v_bitEnd, .int v_why, .int v_madeSize, .ref m_made, .ref m_length, .int v_firstCount, .int v_secondCount, .int v_heldBits, .int v_heldCount, .int v_pressedSize, .ref m_pressed, .int v_at, .int v_bad, .int v_markSize, .ref m_mark, .int v_relationCount, .ref m_idSize, .ref m_ids, .ref m_goalSize, .ref m_goals, .int v_valueSize, .ref m_value, .int v_faultCount, .ref m_faults, .ref m_reached])), (m_pressed, .inl (G.2.1, 5000, .inl a_pressed))] 0 0 := by
    intro N9
    induction N9 with
    | zero => intro k k0 k1 k2 hm9; exact absurd hm9 (Nat.not_lt_zero _)
    | succ N9 ih3 =>
      intro k k0 k1 k2 hm9
      refine pb_iload_n (pc := 3) d_Mod_putLength_3 0 rfl rfl ?_
      refine pb_callS (pc := 4) (I := i_Mod_putLength) (nA := 1) (rest := []) (wr := [(h, .inr (10, [.ref m_rels, .ref m_openRels, .ref m_closeRels, .ref m_openRel, .ref m_closeRel, .ref m_comment, .ref m_ends, .ref m_order, .int v_thrown, .int v_taped, .ref m_tape, .ref m_count, .ref m_nameSize, .ref m_names, .ref m_size, .ref m_data, .int v_lookedSize, .ref m_looked, .int v_fileSize, .ref m_file, .int v_directorySize, .ref m_directory, .int v_outSize, .ref m_out, .int v_rowSize, .ref m_row, .int v_bitAt, .int v_bitEnd, .int v_why, .int v_madeSize, .ref m_made, .ref m_length, .int v_firstCount, .int v_secondCount, .int v_heldBits, .int v_heldCount, .int v_pressedSize, .ref m_pressed, .int v_at, .int v_bad, .int v_markSize, .ref m_mark, .int v_relationCount, .ref m_idSize, .ref m_ids, .ref m_goalSize, .ref m_goals, .int v_valueSize, .ref m_value, .int v_faultCount, .ref m_faults, .ref m_reached])), (m_pressed, .inl (G.2.1, 5000, .inl a_pressed))]) d_Mod_putLength_4 (g_Mod_leastLength hl G k (by first | (with_reducible assumption) | omega (splitDisjunctions := false) | assumption | omega | decide) (by first | (with_reducible assumption) | omega (splitDisjunctions := false) | assumption | omega | decide)) [] [0, 1] (by decide) rfl rfl rfl (by decide) (by decide) k_1403 rfl k_128 k_1401 k_1402 hy_Mod_leastLength (by decide) rfl rfl (Nat.le_of_ble_eq_true rfl) (by decide) (fun v9 u3 ch2 => ?_)
      obtain ⟨r_4, rfl⟩ : ∃ z9, z9 = u3 := ⟨_, rfl⟩
      obtain ⟨ech2, ch2⟩ := ch2
      have ech2 : v9 = some (.int r_4) := ech2
      subst ech2
      obtain ⟨fh5, fh6⟩ : (k.toInt = 0 → r_4.toInt = 3) ∧ (r_4.toInt = ll_f k.toInt) := ch2
      have llF := fh6
      have ll0 : k.toInt = 0 → r_4.toInt = 3 := fun q9 => by rw [llF, q9]; rfl
      refine pb_eq (pc' := 7) (lo' := [(2, .int k), (0, .ref h), (1, .int n)]) (rest' := [.int r_4]) (ws' := [(h, .inr (10, [.ref m_rels, .ref m_openRels, .ref m_closeRels, .ref m_openRel, .ref m_closeRel, .ref m_comment, .ref m_ends, .ref m_order, .int v_thrown, .int v_taped, .ref m_tape, .ref m_count, .ref m_nameSize, .ref m_names, .ref m_size, .ref m_data, .int v_lookedSize, .ref m_looked, .int v_fileSize, .ref m_file, .int v_directorySize, .ref m_directory, .int v_outSize, .ref m_out, .int v_rowSize, .ref m_row, .int v_bitAt, .int v_bitEnd, .int v_why, .int v_madeSize, .ref m_made, .ref m_length, .int v_firstCount, .int v_secondCount, .int v_heldBits, .int v_heldCount, .int v_pressedSize, .ref m_pressed, .int v_at, .int v_bad, .int v_markSize, .ref m_mark, .int v_relationCount, .ref m_idSize, .ref m_ids, .ref m_goalSize, .ref m_goals, .int v_valueSize, .ref m_value, .int v_faultCount, .ref m_faults, .ref m_reached])), (m_pressed, .inl (G.2.1, 5000, .inl a_pressed))]) ?_
      refine pb_iload_n (pc := 7) d_Mod_putLength_7 2 rfl rfl ?_
      refine pb_icmp_le (pc := 8) (tgt := 17) d_Mod_putLength_8 (by decide) (fun w7 => ?_) (fun w7 => ?_)
      · have tw7 : r_4.toInt ≤ n.toInt := (ti_le rfl rfl).mp w7
        have qL : ll_f k.toInt ≤ n.toInt := by omega
        refine pb_aload_n (pc := 17) d_Mod_putLength_17 1 rfl rfl ?_
        refine pb_sipush (pc := 18) (v := 257) d_Mod_putLength_18 (by decide) ?_
        refine pb_iload_n (pc := 21) d_Mod_putLength_21 0 rfl rfl ?_
        refine pb_iadd (pc := 22) d_Mod_putLength_22 ?_
        refine pb_topi (fun i8 ei8 => ?_)
        try have ti8 : i8.toInt = 257 + k.toInt := t2_add ei8 (by decide) rfl (by omega)
        refine pb_callV (pc := 23) (I := i_Mod_putLength) (qb := 0) (ci := 10) (nA := 1) (rest := []) (wr := []) d_Mod_putLength_23 (g_Mod_putSymbol hl G h m_rels m_openRels m_closeRels m_openRel m_closeRel m_comment m_ends m_order m_tape m_count m_nameSize m_names m_size m_data m_looked m_file m_directory m_out m_row m_made m_length m_pressed m_mark m_idSize m_ids m_goalSize m_goals m_value m_faults m_reached v_thrown v_taped v_lookedSize v_fileSize v_directorySize v_outSize v_rowSize v_bitAt v_bitEnd v_why v_madeSize v_firstCount v_secondCount v_heldBits v_heldCount v_pressedSize v_at v_bad v_markSize v_relationCount v_valueSize v_faultCount a_pressed i8 S (by first | (with_reducible assumption) | omega (splitDisjunctions := false) | assumption | (clear fh5 ll0 hm9; first | omega (splitDisjunctions := false) | omega) | omega | decide) (by first | (with_reducible assumption) | omega (splitDisjunctions := false) | assumption | (clear fh5 ll0 hm9; first | omega (splitDisjunctions := false) | omega) | omega | decide) (by first | (with_reducible assumption) | omega (splitDisjunctions := false) | assumption | (clear fh5 ll0 hm9; first | omega (splitDisjunctions := false) | omega) | omega | decide) (by first | (with_reducible assumption) | omega (splitDisjunctions := false) | assumption | (clear fh5 ll0 hm9; first | omega (splitDisjunctions := false) | omega) | omega | decide) (by first | (with_reducible assumption) | omega (splitDisjunctions := false) | assumption | (clear fh5 ll0 hm9; first | omega (splitDisjunctions := false) | omega) | omega | decide) (by first | (with_reducible assumption) | omega (splitDisjunctions := false) | assumption | (clear fh5 ll0 hm9; first | omega (splitDisjunctions := false) | omega) | omega | decide) (by first | (with_reducible assumption) | omega (splitDisjunctions := false) | assumption | (clear fh5 ll0 hm9; first | omega (splitDisjunctions := false) | omega) | omega | decide) F_a_pressed) rfl rfl [0, 1] [] (by decide) rfl rfl rfl (by decide) (by decide) k_1392 rfl k_128 k_1389 k_1391 k_63 ⟨rfl, hy_Mod_putSymbol⟩ (by decide) rfl rfl (Nat.le_of_ble_eq_true rfl) (by decide) (fun v9 u10 ch9 => ?_)
        obtain ⟨hb_11, hc_12, ps_13, g_14⟩ := u10
        obtain ⟨ech9, ch9⟩ := ch9
        have ech9 : v9 = none := ech9
        subst ech9
        obtain ⟨fh15, fh16, fh17, fh18, fh19, fh20, fh21, fh22, fh23⟩ : (0 ≤ hc_12.toInt) ∧ (hc_12.toInt < 8) ∧ (0 ≤ ps_13.toInt) ∧ (i8.toInt < 144 → 8 * ps_13.toInt + hc_12.toInt = (8 * v_pressedSize.toInt + v_heldCount.toInt) + 8) ∧ (144 ≤ i8.toInt → i8.toInt < 256 → 8 * ps_13.toInt + hc_12.toInt = (8 * v_pressedSize.toInt + v_heldCount.toInt) + 9) ∧ (256 ≤ i8.toInt → i8.toInt < 280 → 8 * ps_13.toInt + hc_12.toInt = (8 * v_pressedSize.toInt + v_heldCount.toInt) + 7) ∧ (280 ≤ i8.toInt → 8 * ps_13.toInt + hc_12.toInt = (8 * v_pressedSize.toInt + v_heldCount.toInt) + 8) ∧ (pM_ g_14 hb_11.toInt hc_12.toInt ps_13.toInt (sb_ S i8.toInt)) ∧ (sb_Fit g_14) := ch9
        have syF := fh22
        obtain ⟨R, eR, rF⟩ : ∃ R : Int × (Int → Int), R = sb_ S i8.toInt ∧ pM_ _ _ _ _ R := ⟨_, rfl, syF⟩
        have syB7 := fun (q9 : k.toInt < 23) => fh20 (by omega) (by omega)
        have syB8 := fun (q9 : 23 ≤ k.toInt) => fh21 (by omega)
        refine pb_eq (pc' := 26) (lo' := [(2, .int k), (0, .ref h), (1, .int n)]) (rest' := []) (ws' := [(h, .inr (10, [.ref m_rels, .ref m_openRels, .ref m_closeRels, .ref m_openRel, .ref m_closeRel, .ref m_comment, .ref m_ends, .ref m_order, .int v_thrown, .int v_taped, .ref m_tape, .ref m_count, .ref m_nameSize, .ref m_names, .ref m_size, .ref m_data, .int v_lookedSize, .ref m_looked, .int v_fileSize, .ref m_file, .int v_directorySize, .ref m_directory, .int v_outSize, .ref m_out, .int v_rowSize, .ref m_row, .int v_bitAt, .int v_bitEnd, .int v_why, .int v_madeSize, .ref m_made, .ref m_length, .int v_firstCount, .int v_secondCount, .int hb_11, .int hc_12, .int ps_13, .ref m_pressed, .int v_at, .int v_bad, .int v_markSize, .ref m_mark, .int v_relationCount, .ref m_idSize, .ref m_ids, .ref m_goalSize, .ref m_goals, .int v_valueSize, .ref m_value, .int v_faultCount, .ref m_faults, .ref m_reached])), (m_pressed, .inl (G.2.1, 5000, .inl g_14))]) ?_
        refine pb_iload_n (pc := 26) d_Mod_putLength_26 0 rfl rfl ?_
        refine pb_bipush (pc := 27) (v := 8) d_Mod_putLength_27 (by decide) ?_
        refine pb_icmp_lt (pc := 29) (tgt := 53) d_Mod_putLength_29 (by decide) (fun w24 => ?_) (fun w24 => ?_)
        · have tw24 : k.toInt < 8 := (ti_lt rfl (by decide)).mp w24
          exact pb_vret (pc := 53) hQ d_Mod_putLength_53 rfl (hb_11, hc_12, ps_13, g_14) ⟨rfl, (by (try dsimp only); first | done | (with_reducible assumption) | omega (splitDisjunctions := false) | assumption | (clear fh5 ll0 fh18 fh19 fh20 fh21 hm9; first | omega (splitDisjunctions := false) | omega) | omega | decide), (by (try dsimp only); first | done | (with_reducible assumption) | omega (splitDisjunctions := false) | assumption | (clear fh5 ll0 fh18 fh19 fh20 fh21 hm9; first | omega (splitDisjunctions := false) | omega) | omega | decide), (by (try dsimp only); first | done | (with_reducible assumption) | omega (splitDisjunctions := false) | assumption | (clear fh5 ll0 fh18 fh19 fh20 fh21 hm9; first | omega (splitDisjunctions := false) | omega) | omega | decide), (show 8 * ps_13.toInt + hc_12.toInt = (8 * v_pressedSize.toInt + v_heldCount.toInt) + le_c n.toInt from (by first | (have q8 := le_K (m := k.toInt / 4 - 1) (by omega) (by omega) qL k2 n1 rfl; (by_cases q7 : k.toInt < 23); (have q6 := syB7 q7; have q5 := q8.1 q7; have q4 := nmB; omega); (have q6 := syB8 (by omega); have q5 := q8.2 (by omega); have q4 := nmB; omega)) | (rcases ll_Q k0 k1 qL k2 n1 with q9 | q9 | q9 | q9 | q9 | q9 | q9; (have q6 := syB7 (by omega); rw [le_k0 q9.1 q9.2]; omega); omega; omega; omega; omega; omega; (have q6 := syB8 (by omega); rw [q9.2]; show _ = _ + (8 : Int); omega)))), (show pM_ g_14 hb_11.toInt hc_12.toInt ps_13.toInt (lo_ S n.toInt) from (by first | exact pM_c nmF (by rw [eR]; exact lo_K (k := k.toInt) (by omega) (by omega) qL k2 n1 (by omega) (by omega) (by omega)) | (rcases ll_Q k0 k1 qL k2 n1 with q9 | q9 | q9 | q9 | q9 | q9 | q9; exact pM_c syF (lo_k0 q9.1 q9.2 k0 (by omega)); omega; omega; omega; omega; omega; exact pM_c syF (lo_258 q9.2 (by omega))))), fh23⟩ [0, 1] (by decide) rfl rfl (by decide) (by decide)
        · have tw24 : ¬ k.toInt < 8 := fun z9 => w24 ((ti_lt rfl (by decide)).mpr z9)
          refine pb_iload_n (pc := 32) d_Mod_putLength_32 0 rfl rfl ?_
          refine pb_bipush (pc := 33) (v := 28) d_Mod_putLength_33 (by decide) ?_
          refine pb_icmp_ge (pc := 35) (tgt := 53) d_Mod_putLength_35 (by decide) (fun w25 => ?_) (fun w25 => ?_)
          · have tw25 : 28 ≤ k.toInt := (ti_le (by decide) rfl).mp w25
            exact pb_vret (pc := 53) hQ d_Mod_putLength_53 rfl (hb_11, hc_12, ps_13, g_14) ⟨rfl, (by (try dsimp only); first | done | (with_reducible assumption) | omega (splitDisjunctions := false) | assumption | (clear fh5 ll0 fh18 fh19 fh20 fh21 hm9; first | omega (splitDisjunctions := false) | omega) | omega | decide), (by (try dsimp only); first | done | (with_reducible assumption) | omega (splitDisjunctions := false) | assumption | (clear fh5 ll0 fh18 fh19 fh20 fh21 hm9; first | omega (splitDisjunctions := false) | omega) | omega | decide), (by (try dsimp only); first | done | (with_reducible assumption) | omega (splitDisjunctions := false) | assumption | (clear fh5 ll0 fh18 fh19 fh20 fh21 hm9; first | omega (splitDisjunctions := false) | omega) | omega | decide), (show 8 * ps_13.toInt + hc_12.toInt = (8 * v_pressedSize.toInt + v_heldCount.toInt) + le_c n.toInt from (by first | (have q8 := le_K (m := k.toInt / 4 - 1) (by omega) (by omega) qL k2 n1 rfl; (by_cases q7 : k.toInt < 23); (have q6 := syB7 q7; have q5 := q8.1 q7; have q4 := nmB; omega); (have q6 := syB8 (by omega); have q5 := q8.2 (by omega); have q4 := nmB; omega)) | (rcases ll_Q k0 k1 qL k2 n1 with q9 | q9 | q9 | q9 | q9 | q9 | q9; (have q6 := syB7 (by omega); rw [le_k0 q9.1 q9.2]; omega); omega; omega; omega; omega; omega; (have q6 := syB8 (by omega); rw [q9.2]; show _ = _ + (8 : Int); omega)))), (show pM_ g_14 hb_11.toInt hc_12.toInt ps_13.toInt (lo_ S n.toInt) from (by first | exact pM_c nmF (by rw [eR]; exact lo_K (k := k.toInt) (by omega) (by omega) qL k2 n1 (by omega) (by omega) (by omega)) | (rcases ll_Q k0 k1 qL k2 n1 with q9 | q9 | q9 | q9 | q9 | q9 | q9; exact pM_c syF (lo_k0 q9.1 q9.2 k0 (by omega)); omega; omega; omega; omega; omega; exact pM_c syF (lo_258 q9.2 (by omega))))), fh23⟩ [0, 1] (by decide) rfl rfl (by decide) (by decide)
          · have tw25 : ¬ 28 ≤ k.toInt := fun z9 => w25 ((ti_le (by decide) rfl).mpr z9)
            refine pb_aload_n (pc := 38) d_Mod_putLength_38 1 rfl rfl ?_
            refine pb_iload_n (pc := 39) d_Mod_putLength_39 2 rfl rfl ?_
            refine pb_iload_n (pc := 40) d_Mod_putLength_40 0 rfl rfl ?_
            refine pb_callS (pc := 41) (I := i_Mod_putLength) (nA := 1) (rest := [.int n, .ref h]) (wr := [(h, .inr (10, [.ref m_rels, .ref m_openRels, .ref m_closeRels, .ref m_openRel, .ref m_closeRel, .ref m_comment, .ref m_ends, .ref m_order, .int v_thrown, .int v_taped, .ref m_tape, .ref m_count, .ref m_nameSize, .ref m_names, .ref m_size, .ref m_data, .int v_lookedSize, .ref m_looked, .int v_fileSize, .ref m_file, .int v_directorySize, .ref m_directory, .int v_outSize, .ref m_out, .int v_rowSize, .ref m_row, .int v_bitAt, .int v_bitEnd, .int v_why, .int v_madeSize, .ref m_made, .ref m_length, .int v_firstCount, .int v_secondCount, .int hb_11, .int hc_12, .int ps_13, .ref m_pressed, .int v_at, .int v_bad, .int v_markSize, .ref m_mark, .int v_relationCount, .ref m_idSize, .ref m_ids, .ref m_goalSize, .ref m_goals, .int v_valueSize, .ref m_value, .int v_faultCount, .ref m_faults, .ref m_reached])), (m_pressed, .inl (G.2.1, 5000, .inl g_14))]) d_Mod_putLength_41 (g_Mod_leastLength hl G k (by first | (with_reducible assumption) | omega (splitDisjunctions := false) | assumption | (clear fh5 ll0 fh18 fh19 fh20 fh21 hm9; first | omega (splitDisjunctions := false) | omega) | omega | decide) (by first | (with_reducible assumption) | omega (splitDisjunctions := false) | assumption | (clear fh5 ll0 fh18 fh19 fh20 fh21 hm9; first | omega (splitDisjunctions := false) | omega) | omega | decide)) [] [0, 1] (by decide) rfl rfl rfl (by decide) (by decide) k_1403 rfl k_128 k_1401 k_1402 hy_Mod_leastLength (by decide) rfl rfl (Nat.le_of_ble_eq_true rfl) (by decide) (fun v9 u27 ch26 => ?_)
            obtain ⟨r_28, rfl⟩ : ∃ z9, z9 = u27 := ⟨_, rfl⟩
            obtain ⟨ech26, ch26⟩ := ch26
            have ech26 : v9 = some (.int r_28) := ech26
            subst ech26
            obtain ⟨fh29, fh30⟩ : (k.toInt = 0 → r_28.toInt = 3) ∧ (r_28.toInt = ll_f k.toInt) := ch26
            have llG := fh30
            have llR := ll_rng (k := k.toInt) (by omega)
            refine pb_eq (pc' := 44) (lo' := [(2, .int k), (0, .ref h), (1, .int n)]) (rest' := [.int r_28, .int n, .ref h]) (ws' := [(h, .inr (10, [.ref m_rels, .ref m_openRels, .ref m_closeRels, .ref m_openRel, .ref m_closeRel, .ref m_comment, .ref m_ends, .ref m_order, .int v_thrown, .int v_taped, .ref m_tape, .ref m_count, .ref m_nameSize, .ref m_names, .ref m_size, .ref m_data, .int v_lookedSize, .ref m_looked, .int v_fileSize, .ref m_file, .int v_directorySize, .ref m_directory, .int v_outSize, .ref m_out, .int v_rowSize, .ref m_row, .int v_bitAt, .int v_bitEnd, .int v_why, .int v_madeSize, .ref m_made, .ref m_length, .int v_firstCount, .int v_secondCount, .int hb_11, .int hc_12, .int ps_13, .ref m_pressed, .int v_at, .int v_bad, .int v_markSize, .ref m_mark, .int v_relationCount, .ref m_idSize, .ref m_ids, .ref m_goalSize, .ref m_goals, .int v_valueSize, .ref m_value, .int v_faultCount, .ref m_faults, .ref m_reached])), (m_pressed, .inl (G.2.1, 5000, .inl g_14))]) ?_
            refine pb_isub (pc := 44) d_Mod_putLength_44 ?_
            refine pb_topi (fun i31 ei31 => ?_)
            try have ti31 : i31.toInt = n.toInt - r_28.toInt := t2_sub ei31 rfl rfl (by omega)
            refine pb_iload_n (pc := 45) d_Mod_putLength_45 0 rfl rfl ?_
            refine pb_iconst (pc := 46) (v := 4) d_Mod_putLength_46 (by decide) ?_
            refine pb_idiv (pc := 47) d_Mod_putLength_47 (by decide) ?_
            refine pb_topi (fun i32 ei32 => ?_)
            try have ti32 : i32.toInt = k.toInt / 4 := ti_div 4 ei32 rfl (by decide) (by omega) (by decide)
            refine pb_iconst (pc := 48) (v := 1) d_Mod_putLength_48 (by decide) ?_
            refine pb_isub (pc := 49) d_Mod_putLength_49 ?_
            refine pb_topi (fun i33 ei33 => ?_)
            try have ti33 : i33.toInt = i32.toInt - 1 := t2_sub ei33 rfl (by decide) (by (first | exact omg_a589c189f3 tw24 tw25 ti32 | omega))
            refine pb_callV (pc := 50) (I := i_Mod_putLength) (qb := 0) (ci := 10) (nA := 2) (rest := []) (wr := []) d_Mod_putLength_50 (g_Mod_putNumber hl G h m_rels m_openRels m_closeRels m_openRel m_closeRel m_comment m_ends m_order m_tape m_count m_nameSize m_names m_size m_data m_looked m_file m_directory m_out m_row m_made m_length m_pressed m_mark m_idSize m_ids m_goalSize m_goals m_value m_faults m_reached v_thrown v_taped v_lookedSize v_fileSize v_directorySize v_outSize v_rowSize v_bitAt v_bitEnd v_why v_madeSize v_firstCount v_secondCount hb_11 hc_12 ps_13 v_at v_bad v_markSize v_relationCount v_valueSize v_faultCount g_14 i31 i33 R (by first | (with_reducible assumption) | omega (splitDisjunctions := false) | assumption | (clear fh5 ll0 fh18 fh19 fh20 fh21 fh29 hm9; first | omega (splitDisjunctions := false) | omega) | omega | decide) (by first | (with_reducible assumption) | omega (splitDisjunctions := false) | assumption | (clear fh5 ll0 fh18 fh19 fh20 fh21 fh29 hm9; first | omega (splitDisjunctions := false) | omega) | omega | decide) (by first | (with_reducible assumption) | omega (splitDisjunctions := false) | assumption | (clear fh5 ll0 fh18 fh19 fh20 fh21 fh29 hm9; first | omega (splitDisjunctions := false) | omega) | omega | decide) (by first | (with_reducible assumption) | omega (splitDisjunctions := false) | assumption | (clear fh5 ll0 fh18 fh19 fh20 fh21 fh29 hm9; first | omega (splitDisjunctions := false) | omega) | omega | decide) (by first | (with_reducible assumption) | omega (splitDisjunctions := false) | assumption | (clear fh5 ll0 fh18 fh19 fh20 fh21 fh29 hm9; first | omega (splitDisjunctions := false) | omega) | omega | decide) rF (by first | (with_reducible assumption) | omega (splitDisjunctions := false) | assumption | (clear fh5 ll0 fh18 fh19 fh20 fh21 fh29 hm9; first | omega (splitDisjunctions := false) | omega) | omega | decide) (by first | (with_reducible assumption) | omega (splitDisjunctions := false) | assumption | (clear fh5 ll0 fh18 fh19 fh20 fh21 fh29 hm9; first | omega (splitDisjunctions := false) | omega) | omega | decide) fh23) rfl rfl [0, 1] [] (by decide) rfl rfl rfl (by decide) (by decide) k_1381 rfl k_128 k_1378 k_1380 k_61 ⟨rfl, hy_Mod_putNumber⟩ (by decide) rfl rfl (Nat.le_of_ble_eq_true rfl) (by decide) (fun v9 u35 ch34 => ?_)
            obtain ⟨hb_36, hc_37, ps_38, g_39⟩ := u35
            obtain ⟨ech34, ch34⟩ := ch34
            have ech34 : v9 = none := ech34
            subst ech34
            obtain ⟨fh40, fh41, fh42, fh43, fh44, fh45⟩ : (0 ≤ hc_37.toInt) ∧ (hc_37.toInt < 8) ∧ (0 ≤ ps_38.toInt) ∧ (8 * ps_38.toInt + hc_37.toInt = (8 * ps_13.toInt + hc_12.toInt) + i33.toInt) ∧ (pM_ g_39 hb_36.toInt hc_37.toInt ps_38.toInt (bn_ R i31.toInt i33.toInt.toNat)) ∧ (sb_Fit g_39) := ch34
            have nmF := fh44
            have nmB := fh43
            refine pb_eq (pc' := 53) (lo' := [(2, .int k), (0, .ref h), (1, .int n)]) (rest' := []) (ws' := [(h, .inr (10, [.ref m_rels, .ref m_openRels, .ref m_closeRels, .ref m_openRel, .ref m_closeRel, .ref m_comment, .ref m_ends, .ref m_order, .int v_thrown, .int v_taped, .ref m_tape, .ref m_count, .ref m_nameSize, .ref m_names, .ref m_size, .ref m_data, .int v_lookedSize, .ref m_looked, .int v_fileSize, .ref m_file, .int v_directorySize, .ref m_directory, .int v_outSize, .ref m_out, .int v_rowSize, .ref m_row, .int v_bitAt, .int v_bitEnd, .int v_why, .int v_madeSize, .ref m_made, .ref m_length, .int v_firstCount, .int v_secondCount, .int hb_36, .int hc_37, .int ps_38, .ref m_pressed, .int v_at, .int v_bad, .int v_markSize, .ref m_mark, .int v_relationCount, .ref m_idSize, .ref m_ids, .ref m_goalSize, .ref m_goals, .int v_valueSize, .ref m_value, .int v_faultCount, .ref m_faults, .ref m_reached])), (m_pressed, .inl (G.2.1, 5000, .inl g_39))]) ?_
            exact pb_vret (pc := 53) hQ d_Mod_putLength_53 rfl (hb_36, hc_37, ps_38, g_39) ⟨rfl, (by (try dsimp only); first | done | (with_reducible assumption) | omega (splitDisjunctions := false) | assumption | (clear fh5 ll0 fh18 fh19 fh20 fh21 fh29 hm9; first | omega (splitDisjunctions := false) | omega) | omega | decide), (by (try dsimp only); first | done | (with_reducible assumption) | omega (splitDisjunctions := false) | assumption | (clear fh5 ll0 fh18 fh19 fh20 fh21 fh29 hm9; first | omega (splitDisjunctions := false) | omega) | omega | decide), (by (try dsimp only); first | done | (with_reducible assumption) | omega (splitDisjunctions := false) | assumption | (clear fh5 ll0 fh18 fh19 fh20 fh21 fh29 hm9; first | omega (splitDisjunctions := false) | omega) | omega | decide), (show 8 * ps_38.toInt + hc_37.toInt = (8 * v_pressedSize.toInt + v_heldCount.toInt) + le_c n.toInt from (by first | (have q8 := le_K (m := k.toInt / 4 - 1) (by omega) (by omega) qL k2 n1 rfl; (by_cases q7 : k.toInt < 23); (have q6 := syB7 q7; have q5 := q8.1 q7; have q4 := nmB; omega); (have q6 := syB8 (by omega); have q5 := q8.2 (by omega); have q4 := nmB; omega)) | (rcases ll_Q k0 k1 qL k2 n1 with q9 | q9 | q9 | q9 | q9 | q9 | q9; (have q6 := syB7 (by omega); rw [le_k0 q9.1 q9.2]; omega); omega; omega; omega; omega; omega; (have q6 := syB8 (by omega); rw [q9.2]; show _ = _ + (8 : Int); omega)))), (show pM_ g_39 hb_36.toInt hc_37.toInt ps_38.toInt (lo_ S n.toInt) from (by first | exact pM_c nmF (by rw [eR]; exact lo_K (k := k.toInt) (by omega) (by omega) qL k2 n1 (by omega) (by omega) (by omega)) | (rcases ll_Q k0 k1 qL k2 n1 with q9 | q9 | q9 | q9 | q9 | q9 | q9; exact pM_c syF (lo_k0 q9.1 q9.2 k0 (by omega)); omega; omega; omega; omega; omega; exact pM_c syF (lo_258 q9.2 (by omega))))), fh45⟩ [0, 1] (by decide) rfl rfl (by decide) (by decide)
      · have tw7 : ¬ r_4.toInt ≤ n.toInt := fun z9 => w7 ((ti_le rfl rfl).mpr z9)
        refine pb_iincN (pc := 11) (c := (-1)) d_Mod_putLength_11 0 rfl (by decide) (by decide) (fun i46 ei46 => ?_)
        have ti46 : i46.toInt = k.toInt + (-1) := t2_add ei46 rfl (by decide) (by first | omega | (have r90 := ti_rng k; have r91 := ti_rng i46; have r92 := ti_rng n; omega))
        refine pb_eq (pc' := 14) (lo' := [(2, .int i46), (0, .ref h), (1, .int n)]) (rest' := []) (ws' := [(h, .inr (10, [.ref m_rels, .ref m_openRels, .ref m_closeRels, .ref m_openRel, .ref m_closeRel, .ref m_comment, .ref m_ends, .ref m_order, .int v_thrown, .int v_taped, .ref m_tape, .ref m_count, .ref m_nameSize, .ref m_names, .ref m_size, .ref m_data, .int v_lookedSize, .ref m_looked, .int v_fileSize, .ref m_file, .int v_directorySize, .ref m_directory, .int v_outSize, .ref m_out, .int v_rowSize, .ref m_row, .int v_bitAt, .int v_bitEnd, .int v_why, .int v_madeSize, .ref m_made, .ref m_length, .int v_firstCount, .int v_secondCount, .int v_heldBits, .int v_heldCount, .int v_pressedSize, .ref m_pressed, .int v_at, .int v_bad, .int v_markSize, .ref m_mark, .int v_relationCount, .ref m_idSize, .ref m_ids, .ref m_goalSize, .ref m_goals, .int v_valueSize, .ref m_value, .int v_faultCount, .ref m_faults, .ref m_reached])), (m_pressed, .inl (G.2.1, 5000, .inl a_pressed))]) ?_
        refine pb_goto (pc := 14) (tgt := 3) d_Mod_putLength_14 (by decide) ?_
        exact ih3 i46 (by first | (with_reducible assumption) | omega (splitDisjunctions := false) | assumption | (clear fh5 ll0 hm9; first | omega (splitDisjunctions := false) | omega) | omega | decide) (by first | (with_reducible assumption) | omega (splitDisjunctions := false) | assumption | (clear fh5 ll0 hm9; first | omega (splitDisjunctions := false) | omega) | omega | decide) (Or.inr (by rw [show i46.toInt + 1 = k.toInt by omega]; omega)) (by first | (clear fh5 ll0; omega) | (first | exact omg_eee3b67504 n0 k0 hm9 fh5 tw7 ti46 | omega))
  exact hL3_1 _ 28 (by first | (with_reducible assumption) | omega (splitDisjunctions := false) | assumption | omega | decide) (by first | (with_reducible assumption) | omega (splitDisjunctions := false) | assumption | omega | decide) (Or.inl zl28) (Nat.lt_succ_self _)

theorem d_Mod_putDistance_0 : decode prog_12_method_27_code 0 = .ok (.bipush 29, 2) := by decide +kernel
theorem d_Mod_putDistance_2 : decode prog_12_method_27_code 2 = .ok (.istore_n 2, 1) := by decide +kernel
theorem d_Mod_putDistance_3 : decode prog_12_method_27_code 3 = .ok (.iload_n 2, 1) := by decide +kernel
theorem d_Mod_putDistance_4 : decode prog_12_method_27_code 4 = .ok (.invokestatic 178, 3) := by decide +kernel
theorem k_1408 : (Jvm.Cond.methodLink "PackageBookModel" (178 : Nat) ({ cls := "PackageBookModel", name := "leastDistance", desc := "(I)I" } : Jvm.MethodName)) ∈ uW := uW_c5 91 rfl (by decide +kernel)
theorem k_1410 : (Jvm.Cond.code ({ cls := "PackageBookModel", name := "leastDistance", desc := "(I)I" } : Jvm.MethodName) prog_12_method_25_code (1 : Nat) (Option.some Jvm.ClassFile.FieldType.int)) ∈ uW := uW_c5 93 rfl (by decide +kernel)
theorem k_1409 : (Jvm.Cond.static ({ cls := "PackageBookModel", name := "leastDistance", desc := "(I)I" } : Jvm.MethodName)) ∈ uW := uW_c5 92 rfl (by decide +kernel)
theorem hy_Mod_leastDistance : (y_Mod_leastDistance).cls ≠ "java/lang/invoke/MethodHandle" ∧ (y_Mod_leastDistance).cls ≠ "java/lang/invoke/VarHandle" ∧ (parseMethodDescriptor (y_Mod_leastDistance).desc).map (fun d => d.parameters.length) = some 1 := by decide +kernel
theorem d_Mod_putDistance_7 : decode prog_12_method_27_code 7 = .ok (.iload_n 1, 1) := by decide +kernel
theorem d_Mod_putDistance_8 : decode prog_12_method_27_code 8 = .ok (.if_icmp .le 9, 3) := by decide +kernel
theorem d_Mod_putDistance_17 : decode prog_12_method_27_code 17 = .ok (.aload_n 0, 1) := by decide +kernel
theorem d_Mod_putDistance_18 : decode prog_12_method_27_code 18 = .ok (.iload_n 2, 1) := by decide +kernel
theorem d_Mod_putDistance_19 : decode prog_12_method_27_code 19 = .ok (.iconst 5, 1) := by decide +kernel
theorem d_Mod_putDistance_20 : decode prog_12_method_27_code 20 = .ok (.invokevirtual 166, 3) := by decide +kernel
theorem d_Mod_putDistance_23 : decode prog_12_method_27_code 23 = .ok (.iload_n 2, 1) := by decide +kernel
theorem d_Mod_putDistance_24 : decode prog_12_method_27_code 24 = .ok (.iconst 4, 1) := by decide +kernel
theorem d_Mod_putDistance_25 : decode prog_12_method_27_code 25 = .ok (.if_icmp .lt 18, 3) := by decide +kernel
theorem d_Mod_putDistance_43 : decode prog_12_method_27_code 43 = .ok (.return_, 1) := by decide +kernel
theorem d_Mod_putDistance_28 : decode prog_12_method_27_code 28 = .ok (.aload_n 0, 1) := by decide +kernel
theorem d_Mod_putDistance_29 : decode prog_12_method_27_code 29 = .ok (.iload_n 1, 1) := by decide +kernel
theorem d_Mod_putDistance_30 : decode prog_12_method_27_code 30 = .ok (.iload_n 2, 1) := by decide +kernel
theorem d_Mod_putDistance_31 : decode prog_12_method_27_code 31 = .ok (.invokestatic 178, 3) := by decide +kernel
theorem d_Mod_putDistance_34 : decode prog_12_method_27_code 34 = .ok (.isub, 1) := by decide +kernel
theorem d_Mod_putDistance_35 : decode prog_12_method_27_code 35 = .ok (.iload_n 2, 1) := by decide +kernel
theorem d_Mod_putDistance_36 : decode prog_12_method_27_code 36 = .ok (.iconst 2, 1) := by decide +kernel
theorem d_Mod_putDistance_37 : decode prog_12_method_27_code 37 = .ok (.idiv, 1) := by decide +kernel
theorem d_Mod_putDistance_38 : decode prog_12_method_27_code 38 = .ok (.iconst 1, 1) := by decide +kernel
theorem d_Mod_putDistance_39 : decode prog_12_method_27_code 39 = .ok (.isub, 1) := by decide +kernel
theorem d_Mod_putDistance_40 : decode prog_12_method_27_code 40 = .ok (.invokevirtual 175, 3) := by decide +kernel
theorem d_Mod_putDistance_11 : decode prog_12_method_27_code 11 = .ok (.iinc 2 (-1), 3) := by decide +kernel
theorem d_Mod_putDistance_14 : decode prog_12_method_27_code 14 = .ok (.goto (-11), 3) := by decide +kernel
abbrev y_Mod_putDistance : MethodName := ⟨"PackageBookModel", "putDistance", "(I)V"⟩
abbrev i_Mod_putDistance : pb_I := (y_Mod_putDistance, prog_12_method_27_code, 3, (Option.none : Option Jvm.ClassFile.FieldType), [], { frames := 2, cells := 0, slots := 0, locals := 44 })
set_option maxRecDepth 100000 in
set_option maxHeartbeats 4000000 in
theorem g_Mod_putDistance {l : Launch} (hl : l.stackTraces = false) (G : pb_G) (h : Nat) (m_rels : Nat) (m_openRels : Nat) (m_closeRels : Nat) (m_openRel : Nat) (m_closeRel : Nat) (m_comment : Nat) (m_ends : Nat) (m_order : Nat) (m_tape : Nat) (m_count : Nat) (m_nameSize : Nat) (m_names : Nat) (m_size : Nat) (m_data : Nat) (m_looked : Nat) (m_file : Nat) (m_directory : Nat) (m_out : Nat) (m_row : Nat) (m_made : Nat) (m_length : Nat) (m_pressed : Nat) (m_mark : Nat) (m_idSize : Nat) (m_ids : Nat) (m_goalSize : Nat) (m_goals : Nat) (m_value : Nat) (m_faults : Nat) (m_reached : Nat) (v_thrown : Int32) (v_taped : Int32) (v_lookedSize : Int32) (v_fileSize : Int32) (v_directorySize : Int32) (v_outSize : Int32) (v_rowSize : Int32) (v_bitAt : Int32) (v_bitEnd : Int32) (v_why : Int32) (v_madeSize : Int32) (v_firstCount : Int32) (v_secondCount : Int32) (v_heldBits : Int32) (v_heldCount : Int32) (v_pressedSize : Int32) (v_at : Int32) (v_bad : Int32) (v_markSize : Int32) (v_relationCount : Int32) (v_valueSize : Int32) (v_faultCount : Int32) (a_pressed : Nat → Int32) (n : Int32) (S : Int × (Int → Int)) (b0 : 0 ≤ v_heldCount.toInt) (b1 : v_heldCount.toInt < 8) (b2 : 0 ≤ v_pressedSize.toInt) (n0 : 1 ≤ n.toInt) (n1 : n.toInt ≤ 4000) (b3 : (8 * v_pressedSize.toInt + v_heldCount.toInt) + 15 ≤ 40000) (hM : pM_ a_pressed v_heldBits.toInt v_heldCount.toInt v_pressedSize.toInt S) (F_a_pressed : sb_Fit a_pressed) : Cn l G i_Mod_putDistance [.ref h, .int n] [(h, .inr (10, [.ref m_rels, .ref m_openRels, .ref m_closeRels, .ref m_openRel, .ref m_closeRel, .ref m_comment, .ref m_ends, .ref m_order, .int v_thrown, .int v_taped, .ref m_tape, .ref m_count, .ref m_nameSize, .ref m_names, .ref m_size, .ref m_data, .int v_lookedSize, .ref m_looked, .int v_fileSize, .ref m_file, .int v_directorySize, .ref m_directory, .int v_outSize, .ref m_out, .int v_rowSize, .ref m_row, .int v_bitAt, .int v_bitEnd, .int v_why, .int v_madeSize, .ref m_made, .ref m_length, .int v_firstCount, .int v_secondCount, .int v_heldBits, .int v_heldCount, .int v_pressedSize, .ref m_pressed, .int v_at, .int v_bad, .int v_markSize, .ref m_mark, .int v_relationCount, .ref m_idSize, .ref m_ids, .ref m_goalSize, .ref m_goals, .int v_valueSize, .ref m_value, .int v_faultCount, .ref m_faults, .ref m_reached])), (m_pressed, .inl (G.2.1, 5000, .inl a_pressed))] (S := Int32 × Int32 × Int32 × (Nat → Int32)) (fun rv_ u => rv_ = none ∧ (0 ≤ u.2.1.toInt) ∧ (u.2.1.toInt < 8) ∧ (0 ≤ u.2.2.1.toInt) ∧ (8 * u.2.2.1.toInt + u.2.1.toInt = (8 * v_pressedSize.toInt + v_heldCount.toInt) + di_c n.toInt) ∧ (pM_ u.2.2.2 u.1.toInt u.2.1.toInt u.2.2.1.toInt (do_ S n.toInt)) ∧ (sb_Fit u.2.2.2)) (fun u => [(h, .inr (10, [.ref m_rels, .ref m_openRels, .ref m_closeRels, .ref m_openRel, .ref m_closeRel, .ref m_comment, .ref m_ends, .ref m_order, .int v_thrown, .int v_taped, .ref m_tape, .ref m_count, .ref m_nameSize, .ref m_names, .ref m_size, .ref m_data, .int v_lookedSize, .ref m_looked, .int v_fileSize, .ref m_file, .int v_directorySize, .ref m_directory, .int v_outSize, .ref m_out, .int v_rowSize, .ref m_row, .int v_bitAt, .int v_bitEnd, .int v_why, .int v_madeSize, .ref m_made, .ref m_length, .int v_firstCount, .int v_secondCount, .int u.1, .int u.2.1, .int u.2.2.1, .ref m_pressed, .int v_at, .int v_bad, .int v_markSize, .ref m_mark, .int v_relationCount, .ref m_idSize, .ref m_ids, .ref m_goalSize, .ref m_goals, .int v_valueSize, .ref m_value, .int v_faultCount, .ref m_faults, .ref m_reached])), (m_pressed, .inl (G.2.1, 5000, .inl u.2.2.2))]) := by
  refine Cn.of hl (by decide +kernel) rfl (Nat.le_of_ble_eq_true rfl) (fun M hQ => ?_)
  refine pb_eq (pc' := 0) (lo' := [(0, .ref h), (1, .int n)]) (rest' := []) (ws' := [(h, .inr (10, [.ref m_rels, .ref m_openRels, .ref m_closeRels, .ref m_openRel, .ref m_closeRel, .ref m_comment, .ref m_ends, .ref m_order, .int v_thrown, .int v_taped, .ref m_tape, .ref m_count, .ref m_nameSize, .ref m_names, .ref m_size, .ref m_data, .int v_lookedSize, .ref m_looked, .int v_fileSize, .ref m_file, .int v_directorySize, .ref m_directory, .int v_outSize, .ref m_out, .int v_rowSize, .ref m_row, .int v_bitAt, .int v_bitEnd, .int v_why, .int v_madeSize, .ref m_made, .ref m_length, .int v_firstCount, .int v_secondCount, .int v_heldBits, .int v_heldCount, .int v_pressedSize, .ref m_pressed, .int v_at, .int v_bad, .int v_markSize, .ref m_mark, .int v_relationCount, .ref m_idSize, .ref m_ids, .ref m_goalSize, .ref m_goals, .int v_valueSize, .ref m_value, .int v_faultCount, .ref m_faults, .ref m_reached])), (m_pressed, .inl (G.2.1, 5000, .inl a_pressed))]) ?_
  have zl0 : (0 : Int32).toInt = 0 := by decide
  have zl1 : (1 : Int32).toInt = 1 := by decide
  have zl5 : (5 : Int32).toInt = 5 := by decide
  have zl29 : (29 : Int32).toInt = 29 := by decide
  refine pb_bipush (pc := 0) (v := 29) d_Mod_putDistance_0 (by decide) ?_
  refine pb_istore_n (pc := 2) (lo' := [(2, .int 29), (0, .ref h), (1, .int n)]) d_Mod_putDistance_2 rfl (by decide) rfl ?_
  have hL3_1 : ∀ (N9 : Nat) (k : Int32), (0 ≤ k.toInt) → (k.toInt ≤ 29) → (k.toInt = 29 ∨ n.toInt < ld_f (k.toInt + 1)) → (k.toInt.toNat) < N9 → pb_P l G M i_Mod_putDistance 3 [(2, .int k), (0, .ref h), (1, .int n)] [] [(h, .inr (10, [.ref m_rels, .ref m_openRels, .ref m_closeRels, .ref m_openRel, .ref m_closeRel, .ref m_comment, .ref m_ends, .ref m_order, .int v_thrown, .int v_taped, .ref m_tape, .ref m_count, .ref m_nameSize, .ref m_names, .ref m_size, .ref m_data, .int v_lookedSize, .ref m_looked, .int v_fileSize, .ref m_file, .int v_directorySize, .ref m_directory, .int v_outSize, .ref m_out, .int v_rowSize, .ref m_row, .int v_bitAt, .int v_bitEnd, .int v_why, .int v_madeSize, .ref m_made, .ref m_length, .int v_firstCount, .int v_secondCount, .int v_heldBits, .int v_heldCount, .int v_pressedSize, .ref m_pressed, .int v_at, .int v_bad, .int v_markSize, .ref m_mark, .int v_relationCount, .ref m_idSize, .ref m_ids, .ref m_goalSize, .ref m_goals, .int v_valueSize, .ref m_value, .int v_faultCount, .ref m_faults, .ref m_reached])), (m_pressed, .inl (G.2.1, 5000, .inl a_pressed))] 0 0 := by
    intro N9
    induction N9 with
    | zero => intro k k0 k1 k2 hm9; exact absurd hm9 (Nat.not_lt_zero _)
    | succ N9 ih3 =>
      intro k k0 k1 k2 hm9
      refine pb_iload_n (pc := 3) d_Mod_putDistance_3 0 rfl rfl ?_
      refine pb_callS (pc := 4) (I := i_Mod_putDistance) (nA := 1) (rest := []) (wr := [(h, .inr (10, [.ref m_rels, .ref m_openRels, .ref m_closeRels, .ref m_openRel, .ref m_closeRel, .ref m_comment, .ref m_ends, .ref m_order, .int v_thrown, .int v_taped, .ref m_tape, .ref m_count, .ref m_nameSize, .ref m_names, .ref m_size, .ref m_data, .int v_lookedSize, .ref m_looked, .int v_fileSize, .ref m_file, .int v_directorySize, .ref m_directory, .int v_outSize, .ref m_out, .int v_rowSize, .ref m_row, .int v_bitAt, .int v_bitEnd, .int v_why, .int v_madeSize, .ref m_made, .ref m_length, .int v_firstCount, .int v_secondCount, .int v_heldBits, .int v_heldCount, .int v_pressedSize, .ref m_pressed, .int v_at, .int v_bad, .int v_markSize, .ref m_mark, .int v_relationCount, .ref m_idSize, .ref m_ids, .ref m_goalSize, .ref m_goals, .int v_valueSize, .ref m_value, .int v_faultCount, .ref m_faults, .ref m_reached])), (m_pressed, .inl (G.2.1, 5000, .inl a_pressed))]) d_Mod_putDistance_4 (g_Mod_leastDistance hl G k (by first | (with_reducible assumption) | omega (splitDisjunctions := false) | assumption | omega | decide) (by first | (with_reducible assumption) | omega (splitDisjunctions := false) | assumption | omega | decide)) [] [0, 1] (by decide) rfl rfl rfl (by decide) (by decide) k_1410 rfl k_128 k_1408 k_1409 hy_Mod_leastDistance (by decide) rfl rfl (Nat.le_of_ble_eq_true rfl) (by decide) (fun v9 u3 ch2 => ?_)
      obtain ⟨r_4, rfl⟩ : ∃ z9, z9 = u3 := ⟨_, rfl⟩
      obtain ⟨ech2, ch2⟩ := ch2
      have ech2 : v9 = some (.int r_4) := ech2
      subst ech2
      obtain ⟨fh5, fh6, fh7, fh8, fh9⟩ : (1 ≤ r_4.toInt) ∧ (k.toInt = 0 → r_4.toInt = 1) ∧ (24 ≤ k.toInt → 4097 ≤ r_4.toInt) ∧ (r_4.toInt ≤ 65536) ∧ (r_4.toInt = ld_f k.toInt) := ch2
      have ldF := fh9
      refine pb_eq (pc' := 7) (lo' := [(2, .int k), (0, .ref h), (1, .int n)]) (rest' := [.int r_4]) (ws' := [(h, .inr (10, [.ref m_rels, .ref m_openRels, .ref m_closeRels, .ref m_openRel, .ref m_closeRel, .ref m_comment, .ref m_ends, .ref m_order, .int v_thrown, .int v_taped, .ref m_tape, .ref m_count, .ref m_nameSize, .ref m_names, .ref m_size, .ref m_data, .int v_lookedSize, .ref m_looked, .int v_fileSize, .ref m_file, .int v_directorySize, .ref m_directory, .int v_outSize, .ref m_out, .int v_rowSize, .ref m_row, .int v_bitAt, .int v_bitEnd, .int v_why, .int v_madeSize, .ref m_made, .ref m_length, .int v_firstCount, .int v_secondCount, .int v_heldBits, .int v_heldCount, .int v_pressedSize, .ref m_pressed, .int v_at, .int v_bad, .int v_markSize, .ref m_mark, .int v_relationCount, .ref m_idSize, .ref m_ids, .ref m_goalSize, .ref m_goals, .int v_valueSize, .ref m_value, .int v_faultCount, .ref m_faults, .ref m_reached])), (m_pressed, .inl (G.2.1, 5000, .inl a_pressed))]) ?_
      refine pb_iload_n (pc := 7) d_Mod_putDistance_7 2 rfl rfl ?_
      refine pb_icmp_le (pc := 8) (tgt := 17) d_Mod_putDistance_8 (by decide) (fun w10 => ?_) (fun w10 => ?_)
      · have tw10 : r_4.toInt ≤ n.toInt := (ti_le rfl rfl).mp w10
        have qL : ld_f k.toInt ≤ n.toInt := by omega
        refine pb_aload_n (pc := 17) d_Mod_putDistance_17 1 rfl rfl ?_
        refine pb_iload_n (pc := 18) d_Mod_putDistance_18 0 rfl rfl ?_
        refine pb_iconst (pc := 19) (v := 5) d_Mod_putDistance_19 (by decide) ?_
        refine pb_callV (pc := 20) (I := i_Mod_putDistance) (qb := 0) (ci := 10) (nA := 2) (rest := []) (wr := []) d_Mod_putDistance_20 (g_Mod_putCode hl G h m_rels m_openRels m_closeRels m_openRel m_closeRel m_comment m_ends m_order m_tape m_count m_nameSize m_names m_size m_data m_looked m_file m_directory m_out m_row m_made m_length m_pressed m_mark m_idSize m_ids m_goalSize m_goals m_value m_faults m_reached v_thrown v_taped v_lookedSize v_fileSize v_directorySize v_outSize v_rowSize v_bitAt v_bitEnd v_why v_madeSize v_firstCount v_secondCount v_heldBits v_heldCount v_pressedSize v_at v_bad v_markSize v_relationCount v_valueSize v_faultCount a_pressed k 5 S (by first | (with_reducible assumption) | omega (splitDisjunctions := false) | assumption | (clear fh6 fh7 hm9; first | omega (splitDisjunctions := false) | omega) | omega | decide) (by first | (with_reducible assumption) | omega (splitDisjunctions := false) | assumption | (clear fh6 fh7 hm9; first | omega (splitDisjunctions := false) | omega) | omega | decide) (by first | (with_reducible assumption) | omega (splitDisjunctions := false) | assumption | (clear fh6 fh7 hm9; first | omega (splitDisjunctions := false) | omega) | omega | decide) (by first | (with_reducible assumption) | omega (splitDisjunctions := false) | assumption | (clear fh6 fh7 hm9; first | omega (splitDisjunctions := false) | omega) | omega | decide) (by first | (with_reducible assumption) | omega (splitDisjunctions := false) | assumption | (clear fh6 fh7 hm9; first | omega (splitDisjunctions := false) | omega) | omega | decide) (by first | (with_reducible assumption) | omega (splitDisjunctions := false) | assumption | (clear fh6 fh7 hm9; first | omega (splitDisjunctions := false) | omega) | omega | decide) (by first | (with_reducible assumption) | omega (splitDisjunctions := false) | assumption | (clear fh6 fh7 hm9; first | omega (splitDisjunctions := false) | omega) | omega | decide) (by first | (with_reducible assumption) | omega (splitDisjunctions := false) | assumption | (clear fh6 fh7 hm9; first | omega (splitDisjunctions := false) | omega) | omega | decide) F_a_pressed) rfl rfl [0, 1] [] (by decide) rfl rfl rfl (by decide) (by decide) k_1396 rfl k_128 k_1393 k_1395 k_64 ⟨rfl, hy_Mod_putCode⟩ (by decide) rfl rfl (Nat.le_of_ble_eq_true rfl) (by decide) (fun v9 u12 ch11 => ?_)
        obtain ⟨hb_13, hc_14, ps_15, g_16⟩ := u12
        obtain ⟨ech11, ch11⟩ := ch11
        have ech11 : v9 = none := ech11
        subst ech11
        obtain ⟨fh17, fh18, fh19, fh20, fh21, fh22⟩ : (0 ≤ hc_14.toInt) ∧ (hc_14.toInt < 8) ∧ (0 ≤ ps_15.toInt) ∧ (8 * ps_15.toInt + hc_14.toInt = (8 * v_pressedSize.toInt + v_heldCount.toInt) + (5 : Int32).toInt) ∧ (pM_ g_16 hb_13.toInt hc_14.toInt ps_15.toInt (bc_ k.toInt (5 : Int32).toInt.toNat S)) ∧ (sb_Fit g_16) := ch11
        have cdB := fh20
        have cdF := fh21
        rw [show (5 : Int32).toInt.toNat = 5 by decide] at cdF
        obtain ⟨R, eR, rF⟩ : ∃ R : Int × (Int → Int), R = bc_ k.toInt 5 S ∧ pM_ _ _ _ _ R := ⟨_, rfl, cdF⟩
        refine pb_eq (pc' := 23) (lo' := [(2, .int k), (0, .ref h), (1, .int n)]) (rest' := []) (ws' := [(h, .inr (10, [.ref m_rels, .ref m_openRels, .ref m_closeRels, .ref m_openRel, .ref m_closeRel, .ref m_comment, .ref m_ends, .ref m_order, .int v_thrown, .int v_taped, .ref m_tape, .ref m_count, .ref m_nameSize, .ref m_names, .ref m_size, .ref m_data, .int v_lookedSize, .ref m_looked, .int v_fileSize, .ref m_file, .int v_directorySize, .ref m_directory, .int v_outSize, .ref m_out, .int v_rowSize, .ref m_row, .int v_bitAt, .int v_bitEnd, .int v_why, .int v_madeSize, .ref m_made, .ref m_length, .int v_firstCount, .int v_secondCount, .int hb_13, .int hc_14, .int ps_15, .ref m_pressed, .int v_at, .int v_bad, .int v_markSize, .ref m_mark, .int v_relationCount, .ref m_idSize, .ref m_ids, .ref m_goalSize, .ref m_goals, .int v_valueSize, .ref m_value, .int v_faultCount, .ref m_faults, .ref m_reached])), (m_pressed, .inl (G.2.1, 5000, .inl g_16))]) ?_
        refine pb_iload_n (pc := 23) d_Mod_putDistance_23 0 rfl rfl ?_
        refine pb_iconst (pc := 24) (v := 4) d_Mod_putDistance_24 (by decide) ?_
        refine pb_icmp_lt (pc := 25) (tgt := 43) d_Mod_putDistance_25 (by decide) (fun w23 => ?_) (fun w23 => ?_)
        · have tw23 : k.toInt < 4 := (ti_lt rfl (by decide)).mp w23
          exact pb_vret (pc := 43) hQ d_Mod_putDistance_43 rfl (hb_13, hc_14, ps_15, g_16) ⟨rfl, (by (try dsimp only); first | done | (with_reducible assumption) | omega (splitDisjunctions := false) | assumption | (clear fh6 fh7 hm9; first | omega (splitDisjunctions := false) | omega) | omega | decide), (by (try dsimp only); first | done | (with_reducible assumption) | omega (splitDisjunctions := false) | assumption | (clear fh6 fh7 hm9; first | omega (splitDisjunctions := false) | omega) | omega | decide), (by (try dsimp only); first | done | (with_reducible assumption) | omega (splitDisjunctions := false) | assumption | (clear fh6 fh7 hm9; first | omega (splitDisjunctions := false) | omega) | omega | decide), (show 8 * ps_15.toInt + hc_14.toInt = (8 * v_pressedSize.toInt + v_heldCount.toInt) + di_c n.toInt from (by first | (have q8 := (do_K (S := S) (d := k.toInt) (v := n.toInt - ld_f k.toInt) (s := k.toInt) (m := k.toInt / 2 - 1) (by omega) k1 qL k2 n1 rfl rfl rfl).2; have q4 := nmB; omega) | (rcases ld_Q k0 k1 qL k2 n1 with q9 | q9 | q9 | q9 | q9 | q9 | q9 | q9 | q9 | q9 | q9; (rw [di_k0 q9.1 q9.2]; omega); omega; omega; omega; omega; omega; omega; omega; omega; omega; omega))), (show pM_ g_16 hb_13.toInt hc_14.toInt ps_15.toInt (do_ S n.toInt) from (by first | exact pM_c nmF (by rw [eR]; exact (do_K (d := k.toInt) (by omega) k1 qL k2 n1 (by omega) (by omega) (by omega)).1) | (rcases ld_Q k0 k1 qL k2 n1 with q9 | q9 | q9 | q9 | q9 | q9 | q9 | q9 | q9 | q9 | q9; exact pM_c cdF (do_k0 q9.1 q9.2 k0 (by omega)); omega; omega; omega; omega; omega; omega; omega; omega; omega; omega))), fh22⟩ [0, 1] (by decide) rfl rfl (by decide) (by decide)
        · have tw23 : ¬ k.toInt < 4 := fun z9 => w23 ((ti_lt rfl (by decide)).mpr z9)
          refine pb_aload_n (pc := 28) d_Mod_putDistance_28 1 rfl rfl ?_
          refine pb_iload_n (pc := 29) d_Mod_putDistance_29 2 rfl rfl ?_
          refine pb_iload_n (pc := 30) d_Mod_putDistance_30 0 rfl rfl ?_
          refine pb_callS (pc := 31) (I := i_Mod_putDistance) (nA := 1) (rest := [.int n, .ref h]) (wr := [(h, .inr (10, [.ref m_rels, .ref m_openRels, .ref m_closeRels, .ref m_openRel, .ref m_closeRel, .ref m_comment, .ref m_ends, .ref m_order, .int v_thrown, .int v_taped, .ref m_tape, .ref m_count, .ref m_nameSize, .ref m_names, .ref m_size, .ref m_data, .int v_lookedSize, .ref m_looked, .int v_fileSize, .ref m_file, .int v_directorySize, .ref m_directory, .int v_outSize, .ref m_out, .int v_rowSize, .ref m_row, .int v_bitAt, .int v_bitEnd, .int v_why, .int v_madeSize, .ref m_made, .ref m_length, .int v_firstCount, .int v_secondCount, .int hb_13, .int hc_14, .int ps_15, .ref m_pressed, .int v_at, .int v_bad, .int v_markSize, .ref m_mark, .int v_relationCount, .ref m_idSize, .ref m_ids, .ref m_goalSize, .ref m_goals, .int v_valueSize, .ref m_value, .int v_faultCount, .ref m_faults, .ref m_reached])), (m_pressed, .inl (G.2.1, 5000, .inl g_16))]) d_Mod_putDistance_31 (g_Mod_leastDistance hl G k (by first | (with_reducible assumption) | omega (splitDisjunctions := false) | assumption | (clear fh6 fh7 hm9; first | omega (splitDisjunctions := false) | omega) | omega | decide) (by first | (with_reducible assumption) | omega (splitDisjunctions := false) | assumption | (clear fh6 fh7 hm9; first | omega (splitDisjunctions := false) | omega) | omega | decide)) [] [0, 1] (by decide) rfl rfl rfl (by decide) (by decide) k_1410 rfl k_128 k_1408 k_1409 hy_Mod_leastDistance (by decide) rfl rfl (Nat.le_of_ble_eq_true rfl) (by decide) (fun v9 u25 ch24 => ?_)
          obtain ⟨r_26, rfl⟩ : ∃ z9, z9 = u25 := ⟨_, rfl⟩
          obtain ⟨ech24, ch24⟩ := ch24
          have ech24 : v9 = some (.int r_26) := ech24
          subst ech24
          obtain ⟨fh27, fh28, fh29, fh30, fh31⟩ : (1 ≤ r_26.toInt) ∧ (k.toInt = 0 → r_26.toInt = 1) ∧ (24 ≤ k.toInt → 4097 ≤ r_26.toInt) ∧ (r_26.toInt ≤ 65536) ∧ (r_26.toInt = ld_f k.toInt) := ch24
          have ldG := fh31
          refine pb_eq (pc' := 34) (lo' := [(2, .int k), (0, .ref h), (1, .int n)]) (rest' := [.int r_26, .int n, .ref h]) (ws' := [(h, .inr (10, [.ref m_rels, .ref m_openRels, .ref m_closeRels, .ref m_openRel, .ref m_closeRel, .ref m_comment, .ref m_ends, .ref m_order, .int v_thrown, .int v_taped, .ref m_tape, .ref m_count, .ref m_nameSize, .ref m_names, .ref m_size, .ref m_data, .int v_lookedSize, .ref m_looked, .int v_fileSize, .ref m_file, .int v_directorySize, .ref m_directory, .int v_outSize, .ref m_out, .int v_rowSize, .ref m_row, .int v_bitAt, .int v_bitEnd, .int v_why, .int v_madeSize, .ref m_made, .ref m_length, .int v_firstCount, .int v_secondCount, .int hb_13, .int hc_14, .int ps_15, .ref m_pressed, .int v_at, .int v_bad, .int v_markSize, .ref m_mark, .int v_relationCount, .ref m_idSize, .ref m_ids, .ref m_goalSize, .ref m_goals, .int v_valueSize, .ref m_value, .int v_faultCount, .ref m_faults, .ref m_reached])), (m_pressed, .inl (G.2.1, 5000, .inl g_16))]) ?_
          refine pb_isub (pc := 34) d_Mod_putDistance_34 ?_
          refine pb_topi (fun i32 ei32 => ?_)
          try have ti32 : i32.toInt = n.toInt - r_26.toInt := t2_sub ei32 rfl rfl (by omega)
          refine pb_iload_n (pc := 35) d_Mod_putDistance_35 0 rfl rfl ?_
          refine pb_iconst (pc := 36) (v := 2) d_Mod_putDistance_36 (by decide) ?_
          refine pb_idiv (pc := 37) d_Mod_putDistance_37 (by decide) ?_
          refine pb_topi (fun i33 ei33 => ?_)
          try have ti33 : i33.toInt = k.toInt / 2 := ti_div 2 ei33 rfl (by decide) (by omega) (by decide)
          refine pb_iconst (pc := 38) (v := 1) d_Mod_putDistance_38 (by decide) ?_
          refine pb_isub (pc := 39) d_Mod_putDistance_39 ?_
          refine pb_topi (fun i34 ei34 => ?_)
          try have ti34 : i34.toInt = i33.toInt - 1 := t2_sub ei34 rfl (by decide) (by omega)
          refine pb_callV (pc := 40) (I := i_Mod_putDistance) (qb := 0) (ci := 10) (nA := 2) (rest := []) (wr := []) d_Mod_putDistance_40 (g_Mod_putNumber hl G h m_rels m_openRels m_closeRels m_openRel m_closeRel m_comment m_ends m_order m_tape m_count m_nameSize m_names m_size m_data m_looked m_file m_directory m_out m_row m_made m_length m_pressed m_mark m_idSize m_ids m_goalSize m_goals m_value m_faults m_reached v_thrown v_taped v_lookedSize v_fileSize v_directorySize v_outSize v_rowSize v_bitAt v_bitEnd v_why v_madeSize v_firstCount v_secondCount hb_13 hc_14 ps_15 v_at v_bad v_markSize v_relationCount v_valueSize v_faultCount g_16 i32 i34 R (by first | (with_reducible assumption) | omega (splitDisjunctions := false) | assumption | (clear fh6 fh7 fh28 fh29 hm9; first | omega (splitDisjunctions := false) | omega) | omega | decide) (by first | (with_reducible assumption) | omega (splitDisjunctions := false) | assumption | (clear fh6 fh7 fh28 fh29 hm9; first | omega (splitDisjunctions := false) | omega) | omega | decide) (by first | (with_reducible assumption) | omega (splitDisjunctions := false) | assumption | (clear fh6 fh7 fh28 fh29 hm9; first | omega (splitDisjunctions := false) | omega) | omega | decide) (by first | (with_reducible assumption) | omega (splitDisjunctions := false) | assumption | (clear fh6 fh7 fh28 fh29 hm9; first | omega (splitDisjunctions := false) | omega) | omega | decide) (by first | (with_reducible assumption) | omega (splitDisjunctions := false) | assumption | (clear fh6 fh7 fh28 fh29 hm9; first | omega (splitDisjunctions := false) | omega) | omega | decide) rF (by first | (with_reducible assumption) | omega (splitDisjunctions := false) | assumption | (clear fh6 fh7 fh28 fh29 hm9; first | omega (splitDisjunctions := false) | omega) | omega | decide) (by first | (with_reducible assumption) | omega (splitDisjunctions := false) | assumption | (clear fh6 fh7 fh28 fh29 hm9; first | omega (splitDisjunctions := false) | omega) | omega | decide) fh22) rfl rfl [0, 1] [] (by decide) rfl rfl rfl (by decide) (by decide) k_1381 rfl k_128 k_1378 k_1380 k_61 ⟨rfl, hy_Mod_putNumber⟩ (by decide) rfl rfl (Nat.le_of_ble_eq_true rfl) (by decide) (fun v9 u36 ch35 => ?_)
          obtain ⟨hb_37, hc_38, ps_39, g_40⟩ := u36
          obtain ⟨ech35, ch35⟩ := ch35
          have ech35 : v9 = none := ech35
          subst ech35
          obtain ⟨fh41, fh42, fh43, fh44, fh45, fh46⟩ : (0 ≤ hc_38.toInt) ∧ (hc_38.toInt < 8) ∧ (0 ≤ ps_39.toInt) ∧ (8 * ps_39.toInt + hc_38.toInt = (8 * ps_15.toInt + hc_14.toInt) + i34.toInt) ∧ (pM_ g_40 hb_37.toInt hc_38.toInt ps_39.toInt (bn_ R i32.toInt i34.toInt.toNat)) ∧ (sb_Fit g_40) := ch35
          have nmF := fh45
          have nmB := fh44
          refine pb_eq (pc' := 43) (lo' := [(2, .int k), (0, .ref h), (1, .int n)]) (rest' := []) (ws' := [(h, .inr (10, [.ref m_rels, .ref m_openRels, .ref m_closeRels, .ref m_openRel, .ref m_closeRel, .ref m_comment, .ref m_ends, .ref m_order, .int v_thrown, .int v_taped, .ref m_tape, .ref m_count, .ref m_nameSize, .ref m_names, .ref m_size, .ref m_data, .int v_lookedSize, .ref m_looked, .int v_fileSize, .ref m_file, .int v_directorySize, .ref m_directory, .int v_outSize, .ref m_out, .int v_rowSize, .ref m_row, .int v_bitAt, .int v_bitEnd, .int v_why, .int v_madeSize, .ref m_made, .ref m_length, .int v_firstCount, .int v_secondCount, .int hb_37, .int hc_38, .int ps_39, .ref m_pressed, .int v_at, .int v_bad, .int v_markSize, .ref m_mark, .int v_relationCount, .ref m_idSize, .ref m_ids, .ref m_goalSize, .ref m_goals, .int v_valueSize, .ref m_value, .int v_faultCount, .ref m_faults, .ref m_reached])), (m_pressed, .inl (G.2.1, 5000, .inl g_40))]) ?_
          exact pb_vret (pc := 43) hQ d_Mod_putDistance_43 rfl (hb_37, hc_38, ps_39, g_40) ⟨rfl, (by (try dsimp only); first | done | (with_reducible assumption) | omega (splitDisjunctions := false) | assumption | (clear fh6 fh7 fh28 fh29 hm9; first | omega (splitDisjunctions := false) | omega) | omega | decide), (by (try dsimp only); first | done | (with_reducible assumption) | omega (splitDisjunctions := false) | assumption | (clear fh6 fh7 fh28 fh29 hm9; first | omega (splitDisjunctions := false) | omega) | omega | decide), (by (try dsimp only); first | done | (with_reducible assumption) | omega (splitDisjunctions := false) | assumption | (clear fh6 fh7 fh28 fh29 hm9; first | omega (splitDisjunctions := false) | omega) | omega | decide), (show 8 * ps_39.toInt + hc_38.toInt = (8 * v_pressedSize.toInt + v_heldCount.toInt) + di_c n.toInt from (by first | (have q8 := (do_K (S := S) (d := k.toInt) (v := n.toInt - ld_f k.toInt) (s := k.toInt) (m := k.toInt / 2 - 1) (by omega) k1 qL k2 n1 rfl rfl rfl).2; have q4 := nmB; (first | exact omg_0c09067951 zl5 fh20 ti33 ti34 fh44 q8 | omega)) | (rcases ld_Q k0 k1 qL k2 n1 with q9 | q9 | q9 | q9 | q9 | q9 | q9 | q9 | q9 | q9 | q9; (rw [di_k0 q9.1 q9.2]; omega); omega; omega; omega; omega; omega; omega; omega; omega; omega; omega))), (show pM_ g_40 hb_37.toInt hc_38.toInt ps_39.toInt (do_ S n.toInt) from (by first | exact pM_c nmF (by rw [eR]; exact (do_K (d := k.toInt) (by omega) k1 qL k2 n1 (by omega) (by omega) (by omega)).1) | (rcases ld_Q k0 k1 qL k2 n1 with q9 | q9 | q9 | q9 | q9 | q9 | q9 | q9 | q9 | q9 | q9; exact pM_c cdF (do_k0 q9.1 q9.2 k0 (by omega)); omega; omega; omega; omega; omega; omega; omega; omega; omega; omega))), fh46⟩ [0, 1] (by decide) rfl rfl (by decide) (by decide)
      · have tw10 : ¬ r_4.toInt ≤ n.toInt := fun z9 => w10 ((ti_le rfl rfl).mpr z9)
        refine pb_iincN (pc := 11) (c := (-1)) d_Mod_putDistance_11 0 rfl (by decide) (by decide) (fun i47 ei47 => ?_)
        have ti47 : i47.toInt = k.toInt + (-1) := t2_add ei47 rfl (by decide) (by first | omega | (have r90 := ti_rng k; have r91 := ti_rng i47; have r92 := ti_rng n; omega))
        refine pb_eq (pc' := 14) (lo' := [(2, .int i47), (0, .ref h), (1, .int n)]) (rest' := []) (ws' := [(h, .inr (10, [.ref m_rels, .ref m_openRels, .ref m_closeRels, .ref m_openRel, .ref m_closeRel, .ref m_comment, .ref m_ends, .ref m_order, .int v_thrown, .int v_taped, .ref m_tape, .ref m_count, .ref m_nameSize, .ref m_names, .ref m_size, .ref m_data, .int v_lookedSize, .ref m_looked, .int v_fileSize, .ref m_file, .int v_directorySize, .ref m_directory, .int v_outSize, .ref m_out, .int v_rowSize, .ref m_row, .int v_bitAt, .int v_bitEnd, .int v_why, .int v_madeSize, .ref m_made, .ref m_length, .int v_firstCount, .int v_secondCount, .int v_heldBits, .int v_heldCount, .int v_pressedSize, .ref m_pressed, .int v_at, .int v_bad, .int v_markSize, .ref m_mark, .int v_relationCount, .ref m_idSize, .ref m_ids, .ref m_goalSize, .ref m_goals, .int v_valueSize, .ref m_value, .int v_faultCount, .ref m_faults, .ref m_reached])), (m_pressed, .inl (G.2.1, 5000, .inl a_pressed))]) ?_
        refine pb_goto (pc := 14) (tgt := 3) d_Mod_putDistance_14 (by decide) ?_
        exact ih3 i47 (by first | (with_reducible assumption) | omega (splitDisjunctions := false) | assumption | (clear fh6 fh7 hm9; first | omega (splitDisjunctions := false) | omega) | omega | decide) (by first | (with_reducible assumption) | omega (splitDisjunctions := false) | assumption | (clear fh6 fh7 hm9; first | omega (splitDisjunctions := false) | omega) | omega | decide) (Or.inr (by rw [show i47.toInt + 1 = k.toInt by omega]; omega)) (by first | (clear fh6 fh7; omega) | omega)
  exact hL3_1 _ 29 (by first | (with_reducible assumption) | omega (splitDisjunctions := false) | assumption | omega | decide) (by first | (with_reducible assumption) | omega (splitDisjunctions := false) | assumption | omega | decide) (Or.inl zl29) (Nat.lt_succ_self _)

theorem d_Mod_same_0 : decode prog_12_method_28_code 0 = .ok (.iconst 0, 1) := by decide +kernel
theorem d_Mod_same_1 : decode prog_12_method_28_code 1 = .ok (.istore 4, 2) := by decide +kernel
theorem d_Mod_same_3 : decode prog_12_method_28_code 3 = .ok (.iload 4, 2) := by decide +kernel
theorem d_Mod_same_5 : decode prog_12_method_28_code 5 = .ok (.sipush 258, 3) := by decide +kernel
theorem d_Mod_same_8 : decode prog_12_method_28_code 8 = .ok (.if_icmp .ge 32, 3) := by decide +kernel
theorem d_Mod_same_40 : decode prog_12_method_28_code 40 = .ok (.iload 4, 2) := by decide +kernel
theorem d_Mod_same_42 : decode prog_12_method_28_code 42 = .ok (.ireturn, 1) := by decide +kernel
theorem d_Mod_same_11 : decode prog_12_method_28_code 11 = .ok (.iload_n 2, 1) := by decide +kernel
theorem d_Mod_same_12 : decode prog_12_method_28_code 12 = .ok (.iload 4, 2) := by decide +kernel
theorem d_Mod_same_14 : decode prog_12_method_28_code 14 = .ok (.iadd, 1) := by decide +kernel
theorem d_Mod_same_15 : decode prog_12_method_28_code 15 = .ok (.iload_n 3, 1) := by decide +kernel
theorem d_Mod_same_16 : decode prog_12_method_28_code 16 = .ok (.if_icmp .ge 24, 3) := by decide +kernel
theorem d_Mod_same_19 : decode prog_12_method_28_code 19 = .ok (.aload_n 0, 1) := by decide +kernel
theorem d_Mod_same_20 : decode prog_12_method_28_code 20 = .ok (.iload_n 1, 1) := by decide +kernel
theorem d_Mod_same_21 : decode prog_12_method_28_code 21 = .ok (.iload 4, 2) := by decide +kernel
theorem d_Mod_same_23 : decode prog_12_method_28_code 23 = .ok (.iadd, 1) := by decide +kernel
theorem d_Mod_same_24 : decode prog_12_method_28_code 24 = .ok (.baload, 1) := by decide +kernel
theorem d_Mod_same_25 : decode prog_12_method_28_code 25 = .ok (.aload_n 0, 1) := by decide +kernel
theorem d_Mod_same_26 : decode prog_12_method_28_code 26 = .ok (.iload_n 2, 1) := by decide +kernel
theorem d_Mod_same_27 : decode prog_12_method_28_code 27 = .ok (.iload 4, 2) := by decide +kernel
theorem d_Mod_same_29 : decode prog_12_method_28_code 29 = .ok (.iadd, 1) := by decide +kernel
theorem d_Mod_same_30 : decode prog_12_method_28_code 30 = .ok (.baload, 1) := by decide +kernel
theorem d_Mod_same_31 : decode prog_12_method_28_code 31 = .ok (.if_icmp .ne 9, 3) := by decide +kernel
theorem d_Mod_same_34 : decode prog_12_method_28_code 34 = .ok (.iinc 4 1, 3) := by decide +kernel
theorem d_Mod_same_37 : decode prog_12_method_28_code 37 = .ok (.goto (-34), 3) := by decide +kernel
abbrev y_Mod_same : MethodName := ⟨"PackageBookModel", "same", "([BIII)I"⟩
abbrev i_Mod_same : pb_I := (y_Mod_same, prog_12_method_28_code, 5, (some Jvm.ClassFile.FieldType.int), [], { frames := 0, cells := 0, slots := 0, locals := 0 })
set_option maxRecDepth 100000 in
set_option maxHeartbeats 4000000 in
theorem g_Mod_same {l : Launch} (hl : l.stackTraces = false) (G : pb_G) (a : Nat) (Na : Nat) (f : Nat → Int32) (x : Int32) (y : Int32) (e : Int32) (h0 : 0 ≤ x.toInt) (h1 : x.toInt ≤ y.toInt) (h2 : e.toInt ≤ Na) (h3 : Na ≤ 1000000) (h4 : y.toInt ≤ 1000000) (F_f : sb_Fit f) : Cn l G i_Mod_same [.ref a, .int x, .int y, .int e] [(a, .inl (G.2.1, Na, .inl f))] (S := Int32) (fun rv_ u => rv_ = some (.int u) ∧ (0 ≤ u.toInt) ∧ (u.toInt ≤ 258) ∧ (y.toInt ≤ e.toInt → y.toInt + u.toInt ≤ e.toInt) ∧ (∀ j : Int, 0 ≤ j → j < u.toInt → gr f (x.toInt + j) = gr f (y.toInt + j)) ∧ (u.toInt < 258 → y.toInt + u.toInt < e.toInt → ¬ gr f (x.toInt + u.toInt) = gr f (y.toInt + u.toInt))) (fun u => [(a, .inl (G.2.1, Na, .inl f))]) := by
  refine Cn.of hl (by decide +kernel) rfl (Nat.le_of_ble_eq_true rfl) (fun M hQ => ?_)
  refine pb_eq (pc' := 0) (lo' := [(0, .ref a), (1, .int x), (2, .int y), (3, .int e)]) (rest' := []) (ws' := [(a, .inl (G.2.1, Na, .inl f))]) ?_
  have zl0 : (0 : Int32).toInt = 0 := by decide
  have zl1 : (1 : Int32).toInt = 1 := by decide
  refine pb_iconst (pc := 0) (v := 0) d_Mod_same_0 (by decide) ?_
  refine pb_istore (pc := 1) (lo' := [(4, .int 0), (0, .ref a), (1, .int x), (2, .int y), (3, .int e)]) d_Mod_same_1 (by decide) rfl ?_
  have hL3_1 : ∀ (N9 : Nat) (k : Int32), (0 ≤ k.toInt) → (k.toInt ≤ 258) → (y.toInt ≤ e.toInt → y.toInt + k.toInt ≤ e.toInt) → (∀ j : Int, 0 ≤ j → j < k.toInt → gr f (x.toInt + j) = gr f (y.toInt + j)) → ((258 - k.toInt).toNat) < N9 → pb_P l G M i_Mod_same 3 [(4, .int k), (0, .ref a), (1, .int x), (2, .int y), (3, .int e)] [] [(a, .inl (G.2.1, Na, .inl f))] 0 0 := by
    intro N9
    induction N9 with
    | zero => intro k k0 k1 k2 hg hm9; exact absurd hm9 (Nat.not_lt_zero _)
    | succ N9 ih3 =>
      intro k k0 k1 k2 hg hm9
      refine pb_iload (pc := 3) d_Mod_same_3 0 rfl ?_
      refine pb_sipush (pc := 5) (v := 258) d_Mod_same_5 (by decide) ?_
      refine pb_icmp_ge (pc := 8) (tgt := 40) d_Mod_same_8 (by decide) (fun w2 => ?_) (fun w2 => ?_)
      · have tw2 : 258 ≤ k.toInt := (ti_le (by decide) rfl).mp w2
        refine pb_iload (pc := 40) d_Mod_same_40 0 rfl ?_
        exact pb_iret (pc := 42) hQ d_Mod_same_42 rfl rfl (k) ⟨rfl, (by (try dsimp only); first | done | (with_reducible assumption) | omega (splitDisjunctions := false) | assumption | (clear k2 hm9; first | omega (splitDisjunctions := false) | omega) | omega | decide), (by (try dsimp only); first | done | (with_reducible assumption) | omega (splitDisjunctions := false) | assumption | (clear k2 hm9; first | omega (splitDisjunctions := false) | omega) | omega | decide), (by (try dsimp only); first | done | (with_reducible assumption) | omega (splitDisjunctions := false) | assumption | exact fun q90 => (by have y90 := k2 q90; clear k2 hm9; first | omega (splitDisjunctions := false) | omega) | omega | decide), hg, (show k.toInt < 258 → y.toInt + k.toInt < e.toInt → ¬ gr f (x.toInt + k.toInt) = gr f (y.toInt + k.toInt) from (by first | exact fun q9 q8 => absurd q9 (by omega) | exact fun q9 q8 => absurd q8 (by omega) | exact fun _ _ => nb_ne (by assumption) (by assumption) (by assumption)))⟩ [0] (by decide) rfl rfl (by decide) (by decide)
      · have tw2 : ¬ 258 ≤ k.toInt := fun z9 => w2 ((ti_le (by decide) rfl).mpr z9)
        refine pb_iload_n (pc := 11) d_Mod_same_11 3 rfl rfl ?_
        refine pb_iload (pc := 12) d_Mod_same_12 0 rfl ?_
        refine pb_iadd (pc := 14) d_Mod_same_14 ?_
        refine pb_topi (fun i3 ei3 => ?_)
        try have ti3 : i3.toInt = y.toInt + k.toInt := t2_add ei3 rfl rfl (by omega)
        refine pb_iload_n (pc := 15) d_Mod_same_15 4 rfl rfl ?_
        refine pb_icmp_ge (pc := 16) (tgt := 40) d_Mod_same_16 (by decide) (fun w4 => ?_) (fun w4 => ?_)
        · have tw4 : e.toInt ≤ i3.toInt := (ti_le rfl rfl).mp w4
          refine pb_iload (pc := 40) d_Mod_same_40 0 rfl ?_
          exact pb_iret (pc := 42) hQ d_Mod_same_42 rfl rfl (k) ⟨rfl, (by (try dsimp only); first | done | (with_reducible assumption) | omega (splitDisjunctions := false) | assumption | (clear k2 hm9; first | omega (splitDisjunctions := false) | omega) | omega | decide), (by (try dsimp only); first | done | (with_reducible assumption) | omega (splitDisjunctions := false) | assumption | (clear k2 hm9; first | omega (splitDisjunctions := false) | omega) | omega | decide), (by (try dsimp only); first | done | (with_reducible assumption) | omega (splitDisjunctions := false) | assumption | exact fun q90 => (by have y90 := k2 q90; clear k2 hm9; first | omega (splitDisjunctions := false) | omega) | omega | decide), hg, (show k.toInt < 258 → y.toInt + k.toInt < e.toInt → ¬ gr f (x.toInt + k.toInt) = gr f (y.toInt + k.toInt) from (by first | exact fun q9 q8 => absurd q9 (by omega) | exact fun q9 q8 => absurd q8 (by omega) | exact fun _ _ => nb_ne (by assumption) (by assumption) (by assumption)))⟩ [0] (by decide) rfl rfl (by decide) (by decide)
        · have tw4 : ¬ e.toInt ≤ i3.toInt := fun z9 => w4 ((ti_le rfl rfl).mpr z9)
          refine pb_aload_n (pc := 19) d_Mod_same_19 1 rfl rfl ?_
          refine pb_iload_n (pc := 20) d_Mod_same_20 2 rfl rfl ?_
          refine pb_iload (pc := 21) d_Mod_same_21 0 rfl ?_
          refine pb_iadd (pc := 23) d_Mod_same_23 ?_
          refine pb_topi (fun i5 ei5 => ?_)
          try have ti5 : i5.toInt = x.toInt + k.toInt := t2_add ei5 rfl rfl (by omega)
          refine pb_bald (pc := 24) d_Mod_same_24 0 rfl (vp_in_iff.mpr (by omega)) ?_
          refine pb_topi (fun i6 ei6 => ?_)
          have xi6 : i6 = gr f (x.toInt + k.toInt) := gr_ld ei6 (by omega)
          have yi6 : i6.toInt = gx f (x.toInt + k.toInt) := congrArg Int32.toInt xi6
          have ti6 : -128 ≤ i6.toInt ∧ i6.toInt ≤ 127 := ti_fit (F_f _) ei6
          refine pb_aload_n (pc := 25) d_Mod_same_25 1 rfl rfl ?_
          refine pb_iload_n (pc := 26) d_Mod_same_26 3 rfl rfl ?_
          refine pb_iload (pc := 27) d_Mod_same_27 0 rfl ?_
          refine pb_iadd (pc := 29) d_Mod_same_29 ?_
          refine pb_topi (fun i7 ei7 => ?_)
          try have ti7 : i7.toInt = y.toInt + k.toInt := t2_add ei7 rfl rfl (by omega)
          refine pb_bald (pc := 30) d_Mod_same_30 0 rfl (vp_in_iff.mpr (by omega)) ?_
          refine pb_topi (fun i8 ei8 => ?_)
          have xi8 : i8 = gr f (y.toInt + k.toInt) := gr_ld ei8 (by omega)
          have yi8 : i8.toInt = gx f (y.toInt + k.toInt) := congrArg Int32.toInt xi8
          have ti8 : -128 ≤ i8.toInt ∧ i8.toInt ≤ 127 := ti_fit (F_f _) ei8
          refine pb_icmp_ne (pc := 31) (tgt := 40) d_Mod_same_31 (by decide) (fun w9 => ?_) (fun w9 => ?_)
          · have tw9 : ¬ i6.toInt = i8.toInt := fun z9 => w9 ((ti_eq rfl rfl).mpr z9)
            refine pb_iload (pc := 40) d_Mod_same_40 0 rfl ?_
            exact pb_iret (pc := 42) hQ d_Mod_same_42 rfl rfl (k) ⟨rfl, (by (try dsimp only); first | done | (with_reducible assumption) | omega (splitDisjunctions := false) | assumption | (clear k2 hm9; first | omega (splitDisjunctions := false) | omega) | omega | decide), (by (try dsimp only); first | done | (with_reducible assumption) | omega (splitDisjunctions := false) | assumption | (clear k2 hm9; first | omega (splitDisjunctions := false) | omega) | omega | decide), (by (try dsimp only); first | done | (with_reducible assumption) | omega (splitDisjunctions := false) | assumption | exact fun q90 => (by have y90 := k2 q90; clear k2 hm9; first | omega (splitDisjunctions := false) | omega) | omega | decide), hg, (show k.toInt < 258 → y.toInt + k.toInt < e.toInt → ¬ gr f (x.toInt + k.toInt) = gr f (y.toInt + k.toInt) from (by first | exact fun q9 q8 => absurd q9 (by omega) | exact fun q9 q8 => absurd q8 (by omega) | exact fun _ _ => nb_ne (by assumption) (by assumption) (by assumption)))⟩ [0] (by decide) rfl rfl (by decide) (by decide)
          · have tw9 : i6.toInt = i8.toInt := (ti_eq rfl rfl).mp w9
            refine pb_iincN (pc := 34) (c := 1) d_Mod_same_34 0 rfl (by decide) (by decide) (fun i10 ei10 => ?_)
            have ti10 : i10.toInt = k.toInt + 1 := t2_add ei10 rfl (by decide) (by first | omega | (have r90 := ti_rng k; have r91 := ti_rng i10; have r92 := ti_rng x; have r93 := ti_rng y; have r94 := ti_rng e; omega))
            refine pb_eq (pc' := 37) (lo' := [(4, .int i10), (0, .ref a), (1, .int x), (2, .int y), (3, .int e)]) (rest' := []) (ws' := [(a, .inl (G.2.1, Na, .inl f))]) ?_
            refine pb_goto (pc := 37) (tgt := 3) d_Mod_same_37 (by decide) ?_
            exact ih3 i10 (by first | (with_reducible assumption) | omega (splitDisjunctions := false) | assumption | (clear k2 hm9; first | omega (splitDisjunctions := false) | omega) | omega | decide) (by first | (with_reducible assumption) | omega (splitDisjunctions := false) | assumption | (clear k2 hm9; first | omega (splitDisjunctions := false) | omega) | omega | decide) (by first | (with_reducible assumption) | omega (splitDisjunctions := false) | assumption | exact fun q90 => (by have y90 := k2 q90; clear k2 hm9; first | omega (splitDisjunctions := false) | omega) | omega | decide) (nb_st hg (by omega) (nb_eq (by assumption) (by assumption) (by assumption))) (by first | (clear k2; (first | exact omg_939555c140 hm9 tw2 ti10 | omega)) | omega)
  exact hL3_1 _ 0 (by first | (with_reducible assumption) | omega (splitDisjunctions := false) | assumption | omega | decide) (by first | (with_reducible assumption) | omega (splitDisjunctions := false) | assumption | omega | decide) (by first | (with_reducible assumption) | omega (splitDisjunctions := false) | assumption | omega | decide) (fun j h0 h1 => absurd h1 (by omega)) (Nat.lt_succ_self _)
