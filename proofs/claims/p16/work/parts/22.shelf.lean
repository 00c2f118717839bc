/-! ROWS OF NUMBERS -/
theorem omg_6fb9ff308a {x0 : Int} {x1 : Int} {x2 : Int} (a0 : (((0 : Int) ≤ x0) ∧ ((x0 ≤ x1) ∧ (x1 ≤ (12000 : Int))))) (a1 : ((0 : Int) ≤ x2)) : ((0 : Int) ≤ (x0 + x2)) := by omega
theorem omg_57b74d8c39 {x0 : Int} {x1 : Int} {x2 : Int} {x3 : Int} {x4 : Int} {x5 : Int} (a0 : ((((0 : Int) ≤ x0) ∧ ((x0 < x1) ∧ (x2 = (x3 - x4)))) ∨ ((¬ (((0 : Int) ≤ x0) ∧ (x0 < x1))) ∧ (x2 = (0 : Int))))) (a1 : ((x5 = (0 : Int)) ∨ (x5 = (1 : Int)))) (a2 : ((x5 = (1 : Int)) ↔ (((0 : Int) ≤ x0) ∧ (x0 < x1)))) (a3 : (¬ (x5 = (0 : Int)))) : ((((0 : Int) ≤ x0) ∧ ((x0 < x1) ∧ (x2 = (x3 - x4)))) ∨ ((¬ (((0 : Int) ≤ x0) ∧ (x0 < x1))) ∧ ((x1 < (16 : Int)) ∧ (x2 = (0 : Int))))) := by omega
theorem omg_c6455b3fbc {x0 : Int} {x1 : Int} {x2 : Int} {x3 : Int} (a0 : ((x0 = (0 : Int)) ∨ (x0 = (1 : Int)))) (a1 : ((x0 = (1 : Int)) ↔ (((0 : Int) ≤ x1) ∧ (x1 < x2)))) (a2 : (¬ (x0 = (0 : Int)))) (a3 : (x3 = (x1 + (1 : Int)))) : ((0 : Int) ≤ x3) := by omega
theorem omg_9d89c724d8 {x0 : Int} {x1 : Int} {x2 : Int} (a0 : ((x0 = (0 : Int)) ∨ (x0 = (1 : Int)))) (a1 : ((x0 = (1 : Int)) ↔ (((0 : Int) ≤ x1) ∧ (x1 < x2)))) (a2 : (¬ (x0 = (0 : Int)))) : ((0 : Int) ≤ x1) := by omega
theorem omg_c3eaa5cc60 {x0 : Int} {x1 : Int} {x2 : Int} (a0 : (x0 ≤ (16 : Int))) (a1 : ((x1 = (0 : Int)) ∨ (x1 = (1 : Int)))) (a2 : ((x1 = (1 : Int)) ↔ (((0 : Int) ≤ x2) ∧ (x2 < x0)))) (a3 : (¬ (x1 = (0 : Int)))) : ((x2 + (1 : Int)) < (2147483648 : Int)) := by omega
theorem omg_eb461fd73e {x0 : Int} {x1 : Int} {x2 : Int} (a0 : ((x0 = (0 : Int)) ∨ (x0 = (1 : Int)))) (a1 : ((x0 = (1 : Int)) ↔ (((0 : Int) ≤ x1) ∧ (x1 < x2)))) (a2 : (¬ (x0 = (0 : Int)))) : ((-(2147483648 : Int)) ≤ (x1 + (1 : Int))) := by omega
theorem omg_1733369d63 {x0 : Int} {x1 : Int} {x2 : Int} (a0 : ((x0 = (0 : Int)) ∨ (x0 = (1 : Int)))) (a1 : ((x0 = (1 : Int)) ↔ (((0 : Int) ≤ x1) ∧ (x1 < x2)))) (a2 : (¬ (x0 = (0 : Int)))) : ((-(2147483648 : Int)) ≤ ((24 : Int) * x1)) := by omega
theorem omg_1f76eecec8 {x0 : Int} {x1 : Int} {x2 : Int} {x3 : Int} (a0 : ((x0 = (0 : Int)) ∨ (x0 = (1 : Int)))) (a1 : ((x0 = (1 : Int)) ↔ (((0 : Int) ≤ x1) ∧ (x1 < x2)))) (a2 : (¬ (x0 = (0 : Int)))) (a3 : (x3 = ((24 : Int) * x1))) : ((0 : Int) ≤ x3) := by omega
theorem omg_795fcaefb4 {x0 : Int} {x1 : Int} {x2 : Int} {x3 : Int} (a0 : ((x0 = (0 : Int)) ∨ (x0 = (1 : Int)))) (a1 : ((x0 = (1 : Int)) ↔ (((0 : Int) ≤ x1) ∧ (x1 < x2)))) (a2 : (¬ (x0 = (0 : Int)))) (a3 : (x3 = ((24 : Int) * x1))) (a4 : (x3 < (0 : Int))) : False := by omega
theorem omg_ee2626293c {x0 : Int} {x1 : Int} {x2 : Int} {x3 : Int} {x4 : Int} (a0 : ((x0 = (0 : Int)) ∨ (x0 = (1 : Int)))) (a1 : ((x0 = (1 : Int)) ↔ (((0 : Int) ≤ x1) ∧ (x1 < x2)))) (a2 : (¬ (x0 = (0 : Int)))) (a3 : (x3 = (x1 + (1 : Int)))) (a4 : (x4 = ((24 : Int) * x3))) (a5 : (x4 < (0 : Int))) : False := by omega
theorem omg_156978aadd {x0 : Int} {x1 : Int} {x2 : Int} {x3 : Int} {x4 : Int} (a0 : ((x0 = (0 : Int)) ∨ (x0 = (1 : Int)))) (a1 : ((x0 = (1 : Int)) ↔ (((0 : Int) ≤ x1) ∧ (x1 < x2)))) (a2 : (¬ (x0 = (0 : Int)))) (a3 : (x3 = (x2 - x1))) (a4 : (x4 = (x3 - (1 : Int)))) : ((0 : Int) ≤ x4) := by omega
theorem omg_812ad2ddda {x0 : Int} {x1 : Int} {x2 : Int} (a0 : ((x0 = (0 : Int)) ∨ (x0 = (1 : Int)))) (a1 : ((x0 = (1 : Int)) ↔ (((0 : Int) ≤ x1) ∧ (x1 < x2)))) (a2 : (¬ (x0 = (0 : Int)))) (a3 : (x1 < (0 : Int))) : False := by omega
theorem omg_106bf30324 {x0 : Int} (a0 : (x0 ≤ (16 : Int))) : ((x0 - (1 : Int)) < (2147483648 : Int)) := by omega
theorem omg_b6ad559467 {x0 : Int} {x1 : Int} (a0 : (x0 ≤ x1)) (a1 : (x1 ≤ x0)) : (x0 = x1) := by omega
theorem omg_1d7fe3f2c7 {x0 : Int} {x1 : Int} {x2 : Int} {x3 : Prop} {x4 : Int} {x5 : Int} {x6 : Int} {x7 : Int} (a0 : ((0 : Int) ≤ x0)) (a1 : (x0 < x1)) (a2 : (x2 = (x1 - (1 : Int)))) (a3 : (x3 ∧ (x4 = (x5 - (x6 - x7))))) : ((((0 : Int) ≤ x0) ∧ ((x0 < x1) ∧ ((x2 = (x1 - (1 : Int))) ∧ (x4 = (x5 - (x6 - x7)))))) ∨ ((¬ (((0 : Int) ≤ x0) ∧ (x0 < x1))) ∧ ((x2 = x1) ∧ (x4 = x5)))) := by omega
theorem omg_142681d790 {x0 : Int} {x1 : Int} (a0 : (x0 ≤ (16 : Int))) (a1 : (¬ (x0 ≤ x1))) : ((x1 + (1 : Int)) < (2147483648 : Int)) := by omega
theorem omg_b020050bbc {x0 : Int} {x1 : Int} (a0 : ((0 : Int) ≤ x0)) (a1 : (x0 ≤ x1)) : ((-(2147483648 : Int)) ≤ (x1 + (1 : Int))) := by omega
theorem omg_ad66320eb1 {x0 : Int} {x1 : Int} {x2 : Int} (a0 : ((0 : Int) ≤ x0)) (a1 : (x0 ≤ x1)) (a2 : (x2 = (x1 + (1 : Int)))) : ((0 : Int) ≤ x2) := by omega
theorem omg_7e37fbe9bf {x0 : Int} {x1 : Int} (a0 : ((0 : Int) ≤ x0)) (a1 : (x0 ≤ x1)) : ((0 : Int) ≤ (x1 + (1 : Int))) := by omega
theorem omg_9c7fc39e0c {x0 : Int} {x1 : Int} (a0 : ((0 : Int) ≤ x0)) (a1 : (x0 ≤ x1)) : ((0 : Int) ≤ x1) := by omega
theorem omg_1d77bbf042 {x0 : Int} {x1 : Int} {x2 : Int} (a0 : (¬ (x0 ≤ x1))) (a1 : (x2 = (x1 + (1 : Int)))) : (x2 ≤ x0) := by omega
theorem omg_fa94e12e03 {x0 : Int} {x1 : Int} {x2 : Int} (a0 : (x0 ≤ x1)) (a1 : (x2 = (x1 + (1 : Int)))) : (x0 ≤ x2) := by omega
theorem omg_4b47cd916a {x0 : Int} {x1 : Int} {x2 : Int} (a0 : (x0 = (x1 + (1 : Int)))) (a1 : (x2 = ((24 : Int) * x0))) : (x2 = ((24 : Int) * (x1 + (1 : Int)))) := by omega
theorem omg_58e5b0c77c {x0 : Int} {x1 : Int} {x2 : Int} (a0 : ((x0 = (0 : Int)) ∨ (x0 = (1 : Int)))) (a1 : ((x0 = (1 : Int)) ↔ (((0 : Int) ≤ x1) ∧ (x1 < x2)))) (a2 : (¬ (x0 = (0 : Int)))) : (x1 < x2) := by omega
theorem omg_5e255a2854 {x0 : Int} {x1 : Int} {x2 : Int} (a0 : ((0 : Int) ≤ x0)) (a1 : ((0 : Int) ≤ x1)) (a2 : (x2 = (x0 + x1))) : ((0 : Int) ≤ x2) := by omega
theorem omg_244340d88c {x0 : Int} {x1 : Int} {x2 : Int} {x3 : Int} (a0 : (((0 : Int) ≤ x0) ∧ ((x0 ≤ x1) ∧ (x1 ≤ (12000 : Int))))) (a1 : (x2 = x1)) (a2 : (x3 = x0)) : ((x2 - x3) < (2147483648 : Int)) := by omega
theorem omg_5c0f478f21 {x0 : Int} {x1 : Int} {x2 : Int} {x3 : Int} (a0 : (((0 : Int) ≤ x0) ∧ ((x0 ≤ x1) ∧ (x1 ≤ (12000 : Int))))) (a1 : (x2 = x1)) (a2 : (x3 = x0)) : ((-(2147483648 : Int)) ≤ (x2 - x3)) := by omega
theorem omg_768ad140d7 {x0 : Int} {x1 : Int} {x2 : Int} {x3 : Int} {x4 : Int} (a0 : ((0 : Int) ≤ x0)) (a1 : (((0 : Int) ≤ x1) ∧ ((x1 ≤ x2) ∧ (x2 ≤ (12000 : Int))))) (a2 : (x3 = x1)) (a3 : (x4 = (x3 + x0))) : ((0 : Int) ≤ x4) := by omega
theorem omg_485bfdfdc3 {x0 : Int} {x1 : Int} {x2 : Int} {x3 : Int} {x4 : Int} (a0 : (((0 : Int) ≤ x0) ∧ ((x0 ≤ x1) ∧ (x1 ≤ (12000 : Int))))) (a1 : (x2 = x1)) (a2 : (x3 = x0)) (a3 : (x4 = (x2 - x3))) : ((0 : Int) ≤ x4) := by omega
theorem omg_5675e8d289 {x0 : Int} {x1 : Int} {x2 : Int} {x3 : Int} {x4 : Int} (a0 : (((0 : Int) ≤ x0) ∧ ((x0 ≤ x1) ∧ (x1 ≤ (12000 : Int))))) (a1 : (x2 = x1)) (a2 : (x3 = x0)) (a3 : (x4 = (x2 - x3))) (a4 : (x4 < (0 : Int))) : False := by omega
theorem omg_fca262f941 {x0 : Int} {x1 : Int} {x2 : Int} {x3 : Int} {x4 : Int} (a0 : ((0 : Int) ≤ x0)) (a1 : (((0 : Int) ≤ x1) ∧ ((x1 ≤ x2) ∧ (x2 ≤ (12000 : Int))))) (a2 : (x3 = x1)) (a3 : (x4 = (x3 + x0))) (a4 : (x4 < (0 : Int))) : False := by omega
theorem omg_e224d9fe03 {x0 : Int} {x1 : Int} {x2 : Int} (a0 : ((0 : Int) ≤ x0)) (a1 : (x1 = (x0 + (1 : Int)))) (a2 : (x2 = ((24 : Int) * x1))) : ((0 : Int) ≤ x2) := by omega
theorem omg_2afa6fbb1b {x0 : Int} {x1 : Int} (a0 : ((0 : Int) ≤ x0)) (a1 : (x1 = ((24 : Int) * x0))) : ((0 : Int) ≤ x1) := by omega
theorem omg_e38ef96cb2 {x0 : Int} {x1 : Int} {x2 : Int} (a0 : ((0 : Int) ≤ x0)) (a1 : (x1 = (x0 + (1 : Int)))) (a2 : (x2 = ((24 : Int) * x1))) (a3 : (x2 < (0 : Int))) : False := by omega
theorem omg_5f89e63376 {x0 : Int} {x1 : Int} (a0 : ((0 : Int) ≤ x0)) (a1 : (x1 = ((24 : Int) * x0))) (a2 : (x1 < (0 : Int))) : False := by omega
theorem omg_e56b94b6f8 {x0 : Int} {x1 : Int} (a0 : (x0 < (16 : Int))) (a1 : (x1 ≤ x0)) : (((24 : Int) * x1) < (2147483648 : Int)) := by omega
theorem omg_6b198f536d {x0 : Int} {x1 : Int} (a0 : (x0 < (16 : Int))) (a1 : (x1 ≤ x0)) : (x1 < (((17 : Nat) : Nat) : Int)) := by omega
theorem omg_7933d60fc2 {x0 : Int} {x1 : Int} (a0 : (x0 < (16 : Int))) (a1 : (x1 ≤ x0)) : (x1 < (((16 : Nat) : Nat) : Int)) := by omega
theorem omg_de2f5d104e {x0 : Int} {x1 : Int} (a0 : (x0 < (16 : Int))) (a1 : (x1 ≤ x0)) : ((x1 + (1 : Int)) < (2147483648 : Int)) := by omega
theorem omg_f843fe99cd {x0 : Int} {x1 : Int} {x2 : Int} {x3 : Int} {x4 : Int} (a0 : ((x0 + x1) ≤ (12000 : Int))) (a1 : (x2 = x3)) (a2 : (((0 : Int) ≤ x3) ∧ ((x3 ≤ x0) ∧ (x0 ≤ (12000 : Int))))) (a3 : (x4 = x2)) : ((x4 + x1) < (2147483648 : Int)) := by omega
theorem omg_ca8afbb782 {x0 : Int} {x1 : Int} {x2 : Int} {x3 : Int} {x4 : Int} (a0 : ((0 : Int) ≤ x0)) (a1 : (x1 = x2)) (a2 : (((0 : Int) ≤ x2) ∧ ((x2 ≤ x3) ∧ (x3 ≤ (12000 : Int))))) (a3 : (x4 = x1)) : ((-(2147483648 : Int)) ≤ (x4 + x0)) := by omega
theorem omg_2df8418a30 {x0 : Int} {x1 : Int} {x2 : Int} (a0 : ((0 : Int) ≤ x0)) (a1 : (¬ (x1 < x0))) (a2 : (x2 = (x1 + (1 : Int)))) : ((0 : Int) ≤ x2) := by omega
theorem omg_24f9f54383 {x0 : Int} {x1 : Int} {x2 : Int} (a0 : (x0 < (16 : Int))) (a1 : (x1 ≤ x0)) (a2 : (x2 = (x1 + (1 : Int)))) : (x2 < (((17 : Nat) : Nat) : Int)) := by omega
theorem omg_b64e49890a {x0 : Int} {x1 : Int} (a0 : (x0 < (16 : Int))) (a1 : (x1 ≤ x0)) : ((x1 + (-(1 : Int))) < (2147483648 : Int)) := by omega
theorem omg_5b3ad91220 {x0 : Int} {x1 : Int} {x2 : Nat} {x3 : Int} (a0 : ((Int.toNat ((x0 - x1) + (1 : Int))) < (x2 + (1 : Nat)))) (a1 : (¬ (x0 < x1))) (a2 : (x3 = (x0 + (-(1 : Int))))) : ((Int.toNat ((x3 - x1) + (1 : Int))) < x2) := by omega
theorem omg_1f9ce21a20 {x0 : Int} {x1 : Int} {x2 : Int} {x3 : Int} {x4 : Int} (a0 : (x0 = x1)) (a1 : (x2 = x0)) (a2 : (x3 = (x2 + x4))) : (x3 = (x1 + x4)) := by omega
theorem omg_4e569a15d1 {x0 : Int} {x1 : Int} (a0 : (x0 = (x1 + (-(1 : Int))))) : (x0 = (x1 - (1 : Int))) := by omega
theorem omg_ff2a826de4 {x0 : Int} {x1 : Int} (a0 : ((0 : Int) ≤ x0)) (a1 : (¬ (x1 < x0))) : ((0 : Int) ≤ x1) := by omega
theorem omg_1b7add1533 {x0 : Int} {x1 : Int} {x2 : Int} (a0 : (x0 ≤ x1)) (a1 : (x2 = (x0 + (-(1 : Int))))) : (x2 ≤ x1) := by omega
theorem omg_dafa83a2be {x0 : Int} (a0 : ((0 : Int) ≤ x0)) : ((0 : Int) ≤ x0) := by omega
theorem omg_087e784acd {x0 : Int} {x1 : Int} (a0 : (((0 : Int) ≤ x0) ∧ ((x0 ≤ x1) ∧ (x1 ≤ (12000 : Int))))) : (x0 ≤ x1) := by omega
theorem omg_668e77e914 {x0 : Int} {x1 : Int} {x2 : Int} {x3 : Int} {x4 : Int} (a0 : (x0 = x1)) (a1 : (x2 = x3)) (a2 : (x4 = (x0 - x2))) : (x4 = (x1 - x3)) := by omega
/-- what holds of a shelf: its count, the sizes of the names, the begins -/
def sh_I (c : Int) (z g : Nat → Int32) : Prop := 0 ≤ c ∧ c ≤ 16 ∧ gx g 0 = 0 ∧ gx g c ≤ 12000 ∧ ∀ k : Int, 0 ≤ k → k < c → gx g k ≤ gx g (k + 1) ∧ gx g (k + 1) ≤ gx g k + 4000 ∧ 1 ≤ gx z k ∧ gx z k ≤ 24
theorem sh_nil {z g : Nat → Int32} (h : gx g 0 = 0) : sh_I 0 z g := ⟨by omega, by omega, h, by omega, fun k h1 h2 => absurd h2 (by omega)⟩
theorem sh_mono {c : Int} {z g : Nat → Int32} (h : sh_I c z g) : ∀ (n : Nat) (k : Int), 0 ≤ k → k + n ≤ c → gx g k ≤ gx g (k + n)
  | 0, k, _, _ => by rw [show k + ((0 : Nat) : Int) = k by omega]; exact Int.le_refl _
  | n + 1, k, h0, h1 => by
    have a := sh_mono h n k h0 (by omega)
    have b := h.2.2.2.2 (k + n) (by omega) (by omega)
    rw [show k + ((n + 1 : Nat) : Int) = k + n + 1 by omega]
    omega
theorem sh_le {c : Int} {z g : Nat → Int32} (h : sh_I c z g) {j k : Int} (h0 : 0 ≤ j) (h1 : j ≤ k) (h2 : k ≤ c) : gx g j ≤ gx g k := by
  have a := sh_mono h (k - j).toNat j h0 (by omega)
  rwa [show j + ((k - j).toNat : Int) = k by omega] at a
theorem sh_rng {c : Int} {z g : Nat → Int32} (h : sh_I c z g) {k : Int} (h0 : 0 ≤ k) (h1 : k ≤ c) : 0 ≤ gx g k ∧ gx g k ≤ gx g c ∧ gx g c ≤ 12000 := by
  have a := sh_le h (Int.le_refl 0) h0 h1
  have b := sh_le h h0 h1 (Int.le_refl c)
  have d := h.2.2.1
  exact ⟨by omega, b, h.2.2.2.1⟩
/-- a part is taken out -/
theorem sh_out {c i : Int} {z g z' g' : Nat → Int32} (h : sh_I c z g) (hi : 0 ≤ i) (hc : i < c) (hz : ∀ j, 0 ≤ j → gx z' j = if i ≤ j ∧ j < c - 1 then gx z (j + 1) else gx z j)
    (hg : ∀ j, 0 ≤ j → gx g' j = if i ≤ j ∧ j < c then gx g (j + 1) - (gx g (i + 1) - gx g i) else gx g j) : sh_I (c - 1) z' g' ∧ gx g' (c - 1) = gx g c - (gx g (i + 1) - gx g i) := by
  obtain ⟨h1, h2, h3, h4, h5⟩ := h
  have hi5 := h5 i hi hc
  have e1 : gx g' (c - 1) = gx g c - (gx g (i + 1) - gx g i) := by
    rw [hg (c - 1) (by omega), if_pos (by omega), show c - 1 + 1 = c by omega]
  refine ⟨⟨by omega, by omega, ?_, by omega, ?_⟩, e1⟩
  · rw [hg 0 (by omega)]
    split
    · have : i = 0 := by omega
      subst this
      rw [show (0 : Int) + 1 = 1 by omega] at *
      omega
    · exact h3
  · intro k k0 k1
    have a := hg k k0
    have b := hg (k + 1) (by omega)
    have d := hz k k0
    have f1 := h5 k k0 (by omega)
    have f2 := h5 (k + 1) (by omega) (by omega)
    by_cases g1 : i ≤ k
    · rw [if_pos (by omega)] at a b d
      rw [a, b, d]
      omega
    · rw [if_neg (by omega)] at a d
      by_cases g2 : k + 1 = i
      · rw [if_pos (by omega)] at b
        rw [a, b, d]
        subst g2
        omega
      · rw [if_neg (by omega)] at b
        rw [a, b, d]
        omega
/-- a part is brought in -/
theorem sh_in {c i n s : Int} {z g z' g' : Nat → Int32} (h : sh_I c z g) (hi : 0 ≤ i) (hc : i ≤ c) (h16 : c < 16) (hn : 1 ≤ n ∧ n ≤ 24) (hs : 0 ≤ s ∧ s ≤ 4000) (hr : gx g c + s ≤ 12000)
    (hz : ∀ j, 0 ≤ j → gx z' j = if j = i then n else if i < j ∧ j ≤ c then gx z (j - 1) else gx z j)
    (hg : ∀ j, 0 ≤ j → gx g' j = if i < j ∧ j ≤ c + 1 then gx g (j - 1) + s else gx g j) : sh_I (c + 1) z' g' ∧ gx g' (c + 1) = gx g c + s := by
  obtain ⟨h1, h2, h3, h4, h5⟩ := h
  have e1 : gx g' (c + 1) = gx g c + s := by
    rw [hg (c + 1) (by omega), if_pos (by omega), show c + 1 - 1 = c by omega]
  refine ⟨⟨by omega, by omega, ?_, by omega, ?_⟩, e1⟩
  · rw [hg 0 (by omega), if_neg (by omega)]
    exact h3
  · intro k k0 k1
    have a := hg k k0
    have b := hg (k + 1) (by omega)
    have d := hz k k0
    rw [show k + 1 - 1 = k by omega] at b
    by_cases g1 : k < i
    · have f1 := h5 k k0 (by omega)
      rw [if_neg (by omega)] at a b
      rw [if_neg (by omega), if_neg (by omega)] at d
      rw [a, b, d]
      exact f1
    · by_cases g2 : k = i
      · rw [if_neg (by omega)] at a
        rw [if_pos (by omega)] at b
        rw [if_pos g2] at d
        rw [a, b, d]
        omega
      · have f1 := h5 (k - 1) (by omega) (by omega)
        rw [show k - 1 + 1 = k by omega] at f1
        rw [if_pos (by omega)] at a b
        rw [if_neg g2, if_pos (by omega)] at d
        rw [a, b, d]
        omega
theorem sh_zout {z : Nat → Int32} {sp dp n : Int32} {i c : Int} (h1 : sp.toInt = i + 1) (h2 : dp.toInt = i) (h3 : n.toInt = c - i - 1) (hi : 0 ≤ i) (hc : i < c) : ∀ j, 0 ≤ j → gx (va_cpy z z sp.toNatClampNeg dp.toNatClampNeg n.toNatClampNeg) j = if i ≤ j ∧ j < c - 1 then gx z (j + 1) else gx z j := fun j hj => by
  rw [gx_cpy h1 h2 h3 j (by omega) hi (by omega) hj]
  by_cases w : i ≤ j ∧ j < c - 1
  · rw [if_pos (by omega), if_pos w, show i + 1 + (j - i) = j + 1 by omega]
  · rw [if_neg (by omega), if_neg w]
theorem sh_gstep {i k2 go : Int} {g gg : Nat → Int32} {k v : Int32} (h : ∀ j, 0 ≤ j → gx gg j = if i ≤ j ∧ j < k.toInt then gx g (j + 1) - go else gx g j) (h0 : 0 ≤ k.toInt) (h1 : i ≤ k.toInt) (h2 : k2 = k.toInt + 1) (hv : v.toInt = gx g (k.toInt + 1) - go) : ∀ j, 0 ≤ j → gx (upd gg k.toNatClampNeg v) j = if i ≤ j ∧ j < k2 then gx g (j + 1) - go else gx g j := fun j hj => by
  rw [gx_upd rfl j h0 hj]
  by_cases w : j = k.toInt
  · rw [if_pos w, if_pos (by omega), hv, w]
  · rw [if_neg w, h j hj]
    by_cases w2 : i ≤ j ∧ j < k.toInt
    · rw [if_pos w2, if_pos (by omega)]
    · rw [if_neg w2, if_neg (by omega)]
theorem sh_zin {z : Nat → Int32} {sp dp n : Int32} {i c : Int} (h1 : sp.toInt = i) (h2 : dp.toInt = i + 1) (h3 : n.toInt = c - i) (hi : 0 ≤ i) (hc : i ≤ c) : ∀ j, 0 ≤ j → gx (va_cpy z z sp.toNatClampNeg dp.toNatClampNeg n.toNatClampNeg) j = if i < j ∧ j ≤ c then gx z (j - 1) else gx z j := fun j hj => by
  rw [gx_cpy h1 h2 h3 j hi (by omega) (by omega) hj]
  by_cases w : i < j ∧ j ≤ c
  · rw [if_pos (by omega), if_pos w, show i + (j - (i + 1)) = j - 1 by omega]
  · rw [if_neg (by omega), if_neg w]
theorem sh_istep {c k1 k2 s : Int} {g gg : Nat → Int32} {ix v : Int32} (h : ∀ j, 0 ≤ j → gx gg j = if k1 + 1 < j ∧ j ≤ c + 1 then gx g (j - 1) + s else gx g j) (h0 : 0 ≤ k1) (hx : ix.toInt = k1 + 1) (hc : k1 ≤ c) (h2 : k2 = k1 - 1) (hv : v.toInt = gx g k1 + s) : ∀ j, 0 ≤ j → gx (upd gg ix.toNatClampNeg v) j = if k2 + 1 < j ∧ j ≤ c + 1 then gx g (j - 1) + s else gx g j := fun j hj => by
  rw [gx_upd hx j (by omega) hj]
  by_cases w : j = k1 + 1
  · rw [if_pos w, if_pos (by omega), hv, w, show k1 + 1 - 1 = k1 by omega]
  · rw [if_neg w, h j hj]
    by_cases w2 : k1 + 1 < j ∧ j ≤ c + 1
    · rw [if_pos w2, if_pos (by omega)]
    · rw [if_neg w2, if_neg (by omega)]
theorem sh_zlast {c i n : Int} {z zz : Nat → Int32} {ix v : Int32} (h : ∀ j, 0 ≤ j → gx zz j = if i < j ∧ j ≤ c then gx z (j - 1) else gx z j) (hx : ix.toInt = i) (h0 : 0 ≤ i) (hv : v.toInt = n) : ∀ j, 0 ≤ j → gx (upd zz ix.toNatClampNeg v) j = if j = i then n else if i < j ∧ j ≤ c then gx z (j - 1) else gx z j := fun j hj => by
  rw [gx_upd hx j h0 hj]
  by_cases w : j = i
  · rw [if_pos w, if_pos w, hv]
  · rw [if_neg w, if_neg w, h j hj]

/-! THE PARTS: what is on a shelf, whichever way it is kept: (how many, sizes of names, names, sizes, bytes) -/
abbrev VW_ := Int × (Int → Int) × (Int → Int → Int) × (Int → Int) × (Int → Int → Int32)
def vC (V : VW_) : Int := V.1
def vZ (V : VW_) (i : Int) : Int := V.2.1 i
def vN (V : VW_) (i k : Int) : Int := V.2.2.1 i k
def vS (V : VW_) (i : Int) : Int := V.2.2.2.1 i
def vD (V : VW_) (i k : Int) : Int32 := V.2.2.2.2 i k
/-- part i has this name -/
def nE_ (V : VW_) (i m : Int) (a : Int → Int) : Prop := vZ V i = m ∧ ∀ k : Int, 0 ≤ k → k < m → vN V i k = a k
/-- a name stands before another -/
def lx_ (a : Int → Int) (m : Int) (b : Int → Int) (n : Int) : Prop := ∃ k : Int, 0 ≤ k ∧ (∀ j : Int, 0 ≤ j → j < k → a j = b j) ∧ ((k < m ∧ k < n ∧ a k < b k) ∨ (k = m ∧ m < n))
theorem lx_asym {a b : Int → Int} {m n : Int} (h : lx_ a m b n) (h2 : lx_ b n a m) : False := by
  obtain ⟨k, k0, k1, k2⟩ := h
  obtain ⟨j, j0, j1, j2⟩ := h2
  rcases Int.lt_trichotomy k j with c | c | c
  · have e := j1 k k0 c
    omega
  · subst c
    omega
  · have e := k1 j j0 c
    omega
theorem lx_ne {a b : Int → Int} {m n : Int} (h : lx_ a m b n) (e : m = n) (e2 : ∀ k : Int, 0 ≤ k → k < m → a k = b k) : False := by
  obtain ⟨k, k0, k1, k2⟩ := h
  rcases k2 with ⟨q1, q2, q3⟩ | ⟨q1, q2⟩
  · have e3 := e2 k k0 q1
    omega
  · omega
theorem fd_ (a b : Int → Int) : ∀ t : Nat, (∀ j : Int, 0 ≤ j → j < t → a j = b j) ∨ ∃ k : Int, 0 ≤ k ∧ k < t ∧ (∀ j : Int, 0 ≤ j → j < k → a j = b j) ∧ ¬ a k = b k
  | 0 => Or.inl (fun j h0 h1 => absurd h1 (by omega))
  | t + 1 => by
    rcases fd_ a b t with h | ⟨k, h0, h1, h2, h3⟩
    · by_cases c : a (t : Int) = b (t : Int)
      · refine Or.inl (fun j h0 h1 => ?_)
        by_cases e : j = t
        · rw [e, c]
        · exact h j h0 (by omega)
      · exact Or.inr ⟨(t : Int), by omega, by omega, h, c⟩
    · exact Or.inr ⟨k, h0, by omega, h2, h3⟩
theorem lx_tri (a b : Int → Int) {m n : Int} (hm : 0 ≤ m) (hn : 0 ≤ n) : (m = n ∧ ∀ k : Int, 0 ≤ k → k < m → a k = b k) ∨ lx_ a m b n ∨ lx_ b n a m := by
  rcases fd_ a b (if m < n then m else n).toNat with h | ⟨k, h0, h1, h2, h3⟩
  · rcases Int.lt_trichotomy m n with c | c | c
    · rw [if_pos c] at h
      exact Or.inr (Or.inl ⟨m, hm, fun j j0 j1 => h j j0 (by omega), Or.inr ⟨rfl, c⟩⟩)
    · rw [if_neg (by omega)] at h
      exact Or.inl ⟨c, fun j j0 j1 => h j j0 (by omega)⟩
    · rw [if_neg (by omega)] at h
      exact Or.inr (Or.inr ⟨n, hn, fun j j0 j1 => (h j j0 (by omega)).symm, Or.inr ⟨rfl, c⟩⟩)
  · have h4 : k < m ∧ k < n := by
      split at h1 <;> omega
    rcases Int.lt_trichotomy (a k) (b k) with c | c | c
    · exact Or.inr (Or.inl ⟨k, h0, h2, Or.inl ⟨h4.1, h4.2, c⟩⟩)
    · exact absurd c h3
    · exact Or.inr (Or.inr ⟨k, h0, fun j j0 j1 => (h2 j j0 j1).symm, Or.inl ⟨h4.2, h4.1, c⟩⟩)
theorem lx_trans {a b c : Int → Int} {m n o : Int} (h : lx_ a m b n) (h2 : lx_ b n c o) : lx_ a m c o := by
  obtain ⟨k, k0, k1, k2⟩ := h
  obtain ⟨j, j0, j1, j2⟩ := h2
  rcases Int.lt_trichotomy k j with q | q | q
  · have e := j1 k k0 q
    exact ⟨k, k0, fun i i0 i1 => (k1 i i0 i1).trans (j1 i i0 (by omega)), by omega⟩
  · subst q
    exact ⟨k, k0, fun i i0 i1 => (k1 i i0 i1).trans (j1 i i0 i1), by omega⟩
  · have e := k1 j j0 q
    exact ⟨j, j0, fun i i0 i1 => (k1 i i0 (by omega)).trans (j1 i i0 i1), by omega⟩
/-- names in their order; the place of a name -/
def srt_ (V : VW_) : Prop := ∀ i j : Int, 0 ≤ i → i < j → j < vC V → lx_ (vN V i) (vZ V i) (vN V j) (vZ V j)
def isP_ (V : VW_) (m : Int) (a : Int → Int) (r : Int) : Prop := 0 ≤ r ∧ r ≤ vC V ∧ (∀ i : Int, 0 ≤ i → i < r → lx_ (vN V i) (vZ V i) a m) ∧ ∀ i : Int, r ≤ i → i < vC V → lx_ a m (vN V i) (vZ V i)
theorem isP_u {V : VW_} {m r s : Int} {a : Int → Int} (h : isP_ V m a r) (k : isP_ V m a s) : r = s := by
  obtain ⟨h0, h1, h2, h3⟩ := h
  obtain ⟨k0, k1, k2, k3⟩ := k
  rcases Int.lt_trichotomy r s with c | c | c
  · exact (lx_asym (k2 r h0 c) (h3 r (by omega) (by omega))).elim
  · exact c
  · exact (lx_asym (h2 s k0 c) (k3 s (by omega) (by omega))).elim
theorem isP_C {V : VW_} {m r : Int} {a : Int → Int} (hs : srt_ V) (hz : ∀ i : Int, 0 ≤ i → i < vC V → 0 ≤ vZ V i) (hm : 0 ≤ m) (hn : ∀ i : Int, 0 ≤ i → i < vC V → ¬ nE_ V i m a) (h0 : 0 ≤ r) (h1 : r ≤ vC V) (hl : ∀ i : Int, 0 ≤ i → i < r → lx_ (vN V i) (vZ V i) a m) (hr : r < vC V → ¬ lx_ (vN V r) (vZ V r) a m) : isP_ V m a r := by
  refine ⟨h0, h1, hl, fun i i0 i1 => ?_⟩
  have g : lx_ a m (vN V r) (vZ V r) := by
    rcases lx_tri (vN V r) a (hz r h0 (by omega)) hm with q | q | q
    · exact absurd ⟨q.1, fun k k0 k1 => q.2 k k0 (by omega)⟩ (hn r h0 (by omega))
    · exact absurd q (hr (by omega))
    · exact q
  by_cases c : i = r
  · rw [c]
    exact g
  · exact lx_trans g (hs r i h0 (by omega) i1)
theorem isP_M {V : VW_} {m r : Int} {a : Int → Int} (hs : srt_ V) (hz : ∀ i : Int, 0 ≤ i → i < vC V → 0 ≤ vZ V i) (hm : 0 ≤ m) (hn : ∀ i : Int, 0 ≤ i → i < vC V → ¬ nE_ V i m a) (h0 : 0 ≤ r) (h1 : r ≤ vC V) (hg : ∀ i : Int, r ≤ i → i < vC V → lx_ a m (vN V i) (vZ V i)) (hr : 0 < r → ¬ lx_ a m (vN V (r - 1)) (vZ V (r - 1))) : isP_ V m a r := by
  refine ⟨h0, h1, fun i i0 i1 => ?_, hg⟩
  have g : lx_ (vN V (r - 1)) (vZ V (r - 1)) a m := by
    rcases lx_tri (vN V (r - 1)) a (hz (r - 1) (by omega) (by omega)) hm with q | q | q
    · exact absurd ⟨q.1, fun k k0 k1 => q.2 k k0 (by omega)⟩ (hn (r - 1) (by omega) (by omega))
    · exact q
    · exact absurd q (hr (by omega))
  by_cases c : i = r - 1
  · rw [c]
    exact g
  · exact lx_trans (hs i (r - 1) i0 (by omega) (by omega)) g
/-- which part has a name, or none -/
def isF_ (V : VW_) (m : Int) (a : Int → Int) (r : Int) : Prop := (0 ≤ r ∧ r < vC V ∧ nE_ V r m a) ∨ (r = -1 ∧ ∀ i : Int, 0 ≤ i → i < vC V → ¬ nE_ V i m a)
theorem nE_u {V : VW_} {m i j : Int} {a : Int → Int} (hs : srt_ V) (i0 : 0 ≤ i) (i1 : i < vC V) (j0 : 0 ≤ j) (j1 : j < vC V) (h : nE_ V i m a) (k : nE_ V j m a) : i = j := by
  have same : ∀ x y : Int, nE_ V x m a → nE_ V y m a → lx_ (vN V x) (vZ V x) (vN V y) (vZ V y) → False := fun x y hx hy hl =>
    lx_ne hl (hx.1.trans hy.1.symm) (fun q q0 q1 => by have := hx.1; rw [hx.2 q q0 (by omega), hy.2 q q0 (by omega)])
  rcases Int.lt_trichotomy i j with c | c | c
  · exact (same i j h k (hs i j i0 c j1)).elim
  · exact c
  · exact (same j i k h (hs j i j0 c i1)).elim
theorem isF_u {V : VW_} {m r s : Int} {a : Int → Int} (hs : srt_ V) (h : isF_ V m a r) (k : isF_ V m a s) : r = s := by
  rcases h with ⟨h0, h1, h2⟩ | ⟨h0, h1⟩
  · rcases k with ⟨k0, k1, k2⟩ | ⟨k0, k1⟩
    · exact nE_u hs h0 h1 k0 k1 h2 k2
    · exact absurd h2 (k1 r h0 (by omega))
  · rcases k with ⟨k0, k1, k2⟩ | ⟨k0, k1⟩
    · exact absurd k2 (h1 s k0 (by omega))
    · omega
/-- a part more, a part less, another one in its place -/
def vi_ {α : Type} (i : Int) (x : α) (f : Int → α) : Int → α := fun j => if j < i then f j else if j = i then x else f (j - 1)
def vo_ {α : Type} (i : Int) (f : Int → α) : Int → α := fun j => if j < i then f j else f (j + 1)
def vs_ {α : Type} (i : Int) (x : α) (f : Int → α) : Int → α := fun j => if j = i then x else f j
theorem vi_lo {α : Type} {i j : Int} {x : α} {f : Int → α} (h : j < i) : vi_ i x f j = f j := if_pos h
theorem vi_at {α : Type} {i j : Int} {x : α} {f : Int → α} (h : j = i) : vi_ i x f j = x := by
  unfold vi_
  rw [if_neg (by omega), if_pos h]
theorem vi_hi {α : Type} {i j : Int} {x : α} {f : Int → α} (h : i < j) : vi_ i x f j = f (j - 1) := by
  unfold vi_
  rw [if_neg (by omega), if_neg (by omega)]
theorem vo_lo {α : Type} {i j : Int} {f : Int → α} (h : j < i) : vo_ i f j = f j := if_pos h
theorem vo_hi {α : Type} {i j : Int} {f : Int → α} (h : i ≤ j) : vo_ i f j = f (j + 1) := if_neg (by omega)
theorem vi_vo {α : Type} (i : Int) (x : α) (f : Int → α) : vi_ i x (vo_ i f) = vs_ i x f := by
  funext j
  unfold vs_
  rcases Int.lt_trichotomy j i with c | c | c
  · rw [vi_lo c, vo_lo c, if_neg (by omega)]
  · rw [vi_at c, if_pos c]
  · rw [vi_hi c, vo_hi (by omega), if_neg (by omega), show j - 1 + 1 = j by omega]
def vin_ (V : VW_) (r m : Int) (a : Int → Int) (n : Int) (d : Int → Int32) : VW_ := (V.1 + 1, vi_ r m V.2.1, vi_ r a V.2.2.1, vi_ r n V.2.2.2.1, vi_ r d V.2.2.2.2)
def vou_ (V : VW_) (i : Int) : VW_ := (V.1 - 1, vo_ i V.2.1, vo_ i V.2.2.1, vo_ i V.2.2.2.1, vo_ i V.2.2.2.2)
def vse_ (V : VW_) (i m : Int) (a : Int → Int) (n : Int) (d : Int → Int32) : VW_ := (V.1, vs_ i m V.2.1, vs_ i a V.2.2.1, vs_ i n V.2.2.2.1, vs_ i d V.2.2.2.2)
theorem vin_vou (V : VW_) (i m : Int) (a : Int → Int) (n : Int) (d : Int → Int32) : vin_ (vou_ V i) i m a n d = vse_ V i m a n d := by
  unfold vin_ vou_ vse_
  show (V.1 - 1 + 1, vi_ i m (vo_ i V.2.1), vi_ i a (vo_ i V.2.2.1), vi_ i n (vo_ i V.2.2.2.1), vi_ i d (vo_ i V.2.2.2.2)) = _
  rw [vi_vo, vi_vo, vi_vo, vi_vo, show V.1 - 1 + 1 = V.1 by omega]
theorem srt_in {V : VW_} {r m n : Int} {a : Int → Int} {d : Int → Int32} (hs : srt_ V) (hp : isP_ V m a r) : srt_ (vin_ V r m a n d) := by
  obtain ⟨p0, p1, p2, p3⟩ := hp
  intro i j i0 ij jc
  have jc' : j < V.1 + 1 := jc
  show lx_ (vi_ r a V.2.2.1 i) (vi_ r m V.2.1 i) (vi_ r a V.2.2.1 j) (vi_ r m V.2.1 j)
  rcases Int.lt_trichotomy i r with c | c | c
  · rw [vi_lo c, vi_lo c]
    rcases Int.lt_trichotomy j r with e | e | e
    · rw [vi_lo e, vi_lo e]
      exact hs i j i0 ij (by show j < V.1; have : r ≤ V.1 := p1; omega)
    · rw [vi_at e, vi_at e]
      exact p2 i i0 c
    · rw [vi_hi e, vi_hi e]
      exact hs i (j - 1) i0 (by omega) (by show j - 1 < V.1; omega)
  · rw [vi_at c, vi_at c, vi_hi (show r < j by omega), vi_hi (show r < j by omega)]
    exact p3 (j - 1) (by omega) (by show j - 1 < V.1; omega)
  · rw [vi_hi c, vi_hi c, vi_hi (show r < j by omega), vi_hi (show r < j by omega)]
    exact hs (i - 1) (j - 1) (by omega) (by omega) (by show j - 1 < V.1; omega)
theorem srt_ou {V : VW_} {q : Int} (hs : srt_ V) (q0 : 0 ≤ q) : srt_ (vou_ V q) := by
  intro i j i0 ij jc
  have jc' : j < V.1 - 1 := jc
  show lx_ (vo_ q V.2.2.1 i) (vo_ q V.2.1 i) (vo_ q V.2.2.1 j) (vo_ q V.2.1 j)
  by_cases c : i < q
  · rw [vo_lo c, vo_lo c]
    by_cases e : j < q
    · rw [vo_lo e, vo_lo e]
      exact hs i j i0 ij (by show j < V.1; omega)
    · rw [vo_hi (by omega), vo_hi (by omega)]
      exact hs i (j + 1) i0 (by omega) (by show j + 1 < V.1; omega)
  · rw [vo_hi (show q ≤ i by omega), vo_hi (show q ≤ i by omega), vo_hi (show q ≤ j by omega), vo_hi (show q ≤ j by omega)]
    exact hs (i + 1) (j + 1) (by omega) (by omega) (by show j + 1 < V.1; omega)
/-- a part that goes out and comes again under its name comes to its place -/
theorem isP_re {V : VW_} {m q : Int} {a : Int → Int} (hs : srt_ V) (q0 : 0 ≤ q) (q1 : q < vC V) (h : nE_ V q m a) : isP_ (vou_ V q) m a q := by
  have tr : ∀ {x y : Int → Int} {k l : Int}, lx_ x k y l → ∀ {y2 : Int → Int} {l2 : Int}, l = l2 → (∀ j : Int, 0 ≤ j → j < l → y j = y2 j) → lx_ x k y2 l2 := fun {x y k l} hx {y2 l2} e e2 => by
    subst e
    obtain ⟨t, t0, t1, t2⟩ := hx
    rcases t2 with ⟨u1, u2, u3⟩ | ⟨u1, u2⟩
    · exact ⟨t, t0, fun j j0 j1 => (t1 j j0 j1).trans (e2 j j0 (by omega)), Or.inl ⟨u1, u2, by rw [← e2 t t0 u2]; exact u3⟩⟩
    · exact ⟨t, t0, fun j j0 j1 => (t1 j j0 j1).trans (e2 j j0 (by omega)), Or.inr ⟨u1, u2⟩⟩
  have tl : ∀ {x y : Int → Int} {k l : Int}, lx_ x k y l → ∀ {x2 : Int → Int} {k2 : Int}, k = k2 → (∀ j : Int, 0 ≤ j → j < k → x j = x2 j) → lx_ x2 k2 y l := fun {x y k l} hx {x2 k2} e e2 => by
    subst e
    obtain ⟨t, t0, t1, t2⟩ := hx
    rcases t2 with ⟨u1, u2, u3⟩ | ⟨u1, u2⟩
    · exact ⟨t, t0, fun j j0 j1 => (e2 j j0 (by omega)).symm.trans (t1 j j0 j1), Or.inl ⟨u1, u2, by rw [← e2 t t0 u1]; exact u3⟩⟩
    · exact ⟨t, t0, fun j j0 j1 => (e2 j j0 (by omega)).symm.trans (t1 j j0 j1), Or.inr ⟨u1, u2⟩⟩
  have e0 := h.1
  refine ⟨q0, by show q ≤ V.1 - 1; have : q < V.1 := q1; omega, fun i i0 i1 => ?_, fun i i0 i1 => ?_⟩
  · show lx_ (vo_ q V.2.2.1 i) (vo_ q V.2.1 i) a m
    rw [vo_lo i1, vo_lo i1]
    exact tr (hs i q i0 i1 q1) e0 (fun j j0 j1 => h.2 j j0 (by omega))
  · have i1' : i < V.1 - 1 := i1
    show lx_ a m (vo_ q V.2.2.1 i) (vo_ q V.2.1 i)
    rw [vo_hi i0, vo_hi i0]
    exact tl (hs q (i + 1) q0 (by omega) (by show i + 1 < V.1; omega)) e0 (fun j j0 j1 => h.2 j j0 (by omega))
/-- all bytes -/
def sv_ (f : Int → Int) : Nat → Int
  | 0 => 0
  | n + 1 => sv_ f n + f (n : Int)
def vT (V : VW_) : Int := sv_ V.2.2.2.1 V.1.toNat
theorem sv_s {f : Int → Int} {k m : Int} (h : 0 ≤ k) (hm : m = k + 1) : sv_ f m.toNat = sv_ f k.toNat + f k := by
  subst hm
  rw [show (k + 1).toNat = k.toNat + 1 by omega, sv_, show ((k.toNat : Nat) : Int) = k by omega]
/-- as the class keeps them -/
def rC_ (c : Int) (fn fz fb fg : Nat → Int32) (V : VW_) : Prop := c = vC V ∧ ∀ i : Int, 0 ≤ i → i < c → gx fz i = vZ V i ∧ gx fg (i + 1) - gx fg i = vS V i ∧ (∀ k : Int, 0 ≤ k → k < vZ V i → gx fn (24 * i + k) = vN V i k) ∧ ∀ k : Int, 0 ≤ k → k < vS V i → gr fb (gx fg i + k) = vD V i k
/-- as the reference keeps them, from b on -/
def rM_ (b c : Int) (z n s d : Nat → Int32) (V : VW_) : Prop := c = vC V ∧ ∀ i : Int, 0 ≤ i → i < c → gx z (b + i) = vZ V i ∧ gx s (b + i) = vS V i ∧ (∀ k : Int, 0 ≤ k → k < vZ V i → gx n (24 * (b + i) + k) = vN V i k) ∧ ∀ k : Int, 0 ≤ k → k < vS V i → gr d (4000 * (b + i) + k) = vD V i k
theorem rC_T {c : Int} {fn fz fb fg : Nat → Int32} {V : VW_} (h : rC_ c fn fz fb fg V) (h0 : gx fg 0 = 0) : ∀ n : Nat, (n : Int) ≤ c → gx fg (n : Int) = sv_ V.2.2.2.1 n
  | 0, _ => h0
  | n + 1, hn => by
    have ih := rC_T h h0 n (by omega)
    have e := (h.2 (n : Int) (by omega) (by omega)).2.1
    have e2 : vS V (n : Int) = V.2.2.2.1 (n : Int) := rfl
    rw [sv_, ← ih, ← e2, ← e, show ((n + 1 : Nat) : Int) = (n : Int) + 1 by omega]
    omega
theorem rC_all {c : Int} {fn fz fb fg : Nat → Int32} {V : VW_} (h : rC_ c fn fz fb fg V) (I : sh_I c fz fg) : gx fg c = vT V := by
  have e := rC_T h I.2.2.1 c.toNat (by have := I.1; omega)
  have e1 : c = V.1 := h.1
  unfold vT
  rw [← e1, ← e]
  congr 1
  have := I.1
  omega
theorem rC_nil {fn fz fb fg : Nat → Int32} {V : VW_} (h : vC V = 0) : rC_ 0 fn fz fb fg V := ⟨h.symm, fun i h0 h1 => absurd h1 (by omega)⟩
/-- a part goes out of the class's shelf -/
theorem rC_out {c i : Int} {fn fz fb fg fn' fz' fb' fg' : Nat → Int32} {V : VW_} (h : rC_ c fn fz fb fg V) (I : sh_I c fz fg) (i0 : 0 ≤ i) (i1 : i < c) (hz : ∀ j, 0 ≤ j → gx fz' j = if i ≤ j ∧ j < c - 1 then gx fz (j + 1) else gx fz j) (hg : ∀ j, 0 ≤ j → gx fg' j = if i ≤ j ∧ j < c then gx fg (j + 1) - (gx fg (i + 1) - gx fg i) else gx fg j) (hn : ∀ j : Int, 0 ≤ j → gx fn' j = if 24 * i ≤ j ∧ j < 24 * (c - 1) then gx fn (j + 24) else gx fn j) (hb : ∀ j : Int, 0 ≤ j → gr fb' j = if gx fg i ≤ j ∧ j < gx fg c - (gx fg (i + 1) - gx fg i) then gr fb (j + (gx fg (i + 1) - gx fg i)) else gr fb j) : rC_ (c - 1) fn' fz' fb' fg' (vou_ V i) := by
  obtain ⟨e, h⟩ := h
  have e' : c = V.1 := e
  refine ⟨by show c - 1 = V.1 - 1; omega, fun j j0 j1 => ?_⟩
  have ri := sh_rng I (k := i) i0 (by omega)
  have mi := I.2.2.2.2 i i0 i1
  by_cases w : j < i
  · obtain ⟨a1, a2, a3, a4⟩ := h j j0 (by omega)
    have rj := sh_rng I (k := j) j0 (by omega)
    have lj := sh_le I (j := j + 1) (k := i) (by omega) (by omega) (by omega)
    have gj : gx fg' j = gx fg j := by rw [hg j j0, if_neg (by omega)]
    have gj1 : gx fg' (j + 1) = gx fg (j + 1) := by
      rw [hg (j + 1) (by omega)]
      split
      · rw [show j + 1 = i by omega]
        omega
      · rfl
    have q1 : vZ (vou_ V i) j = vZ V j := by show vo_ i V.2.1 j = V.2.1 j; exact vo_lo w
    have q2 : vS (vou_ V i) j = vS V j := by show vo_ i V.2.2.2.1 j = V.2.2.2.1 j; exact vo_lo w
    have q3 : vN (vou_ V i) j = vN V j := by show vo_ i V.2.2.1 j = V.2.2.1 j; exact vo_lo w
    have q4 : vD (vou_ V i) j = vD V j := by show vo_ i V.2.2.2.2 j = V.2.2.2.2 j; exact vo_lo w
    have mj := I.2.2.2.2 j j0 (by omega)
    rw [q1, q2, q3, q4, gj, gj1]
    refine ⟨by rw [hz j j0, if_neg (by omega)]; exact a1, a2, fun k k0 k1 => ?_, fun k k0 k1 => ?_⟩
    · rw [hn _ (by omega), if_neg (by omega)]
      exact a3 k k0 k1
    · rw [hb _ (by (exact omg_6fb9ff308a rj k0)), if_neg (by omega)]
      exact a4 k k0 k1
  · obtain ⟨a1, a2, a3, a4⟩ := h (j + 1) (by omega) (by omega)
    have rj := sh_rng I (k := j + 1) (by omega) (by omega)
    have lj := sh_le I (j := i + 1) (k := j + 1) (by omega) (by omega) (by omega)
    have lk := sh_le I (j := j + 1 + 1) (k := c) (by omega) (by omega) (by omega)
    have gj : gx fg' j = gx fg (j + 1) - (gx fg (i + 1) - gx fg i) := by rw [hg j j0, if_pos (by omega)]
    have gj1 : gx fg' (j + 1) = gx fg (j + 1 + 1) - (gx fg (i + 1) - gx fg i) := by rw [hg (j + 1) (by omega), if_pos (by omega)]
    have q1 : vZ (vou_ V i) j = vZ V (j + 1) := by show vo_ i V.2.1 j = V.2.1 (j + 1); exact vo_hi (by omega)
    have q2 : vS (vou_ V i) j = vS V (j + 1) := by show vo_ i V.2.2.2.1 j = V.2.2.2.1 (j + 1); exact vo_hi (by omega)
    have q3 : vN (vou_ V i) j = vN V (j + 1) := by show vo_ i V.2.2.1 j = V.2.2.1 (j + 1); exact vo_hi (by omega)
    have q4 : vD (vou_ V i) j = vD V (j + 1) := by show vo_ i V.2.2.2.2 j = V.2.2.2.2 (j + 1); exact vo_hi (by omega)
    have mj := I.2.2.2.2 (j + 1) (by omega) (by omega)
    rw [q1, q2, q3, q4, gj, gj1]
    refine ⟨by rw [hz j j0, if_pos (by omega)]; exact a1, by omega, fun k k0 k1 => ?_, fun k k0 k1 => ?_⟩
    · rw [hn _ (by omega), if_pos (by omega), show 24 * j + k + 24 = 24 * (j + 1) + k by omega]
      exact a3 k k0 k1
    · rw [hb _ (by omega), if_pos (by omega), show gx fg (j + 1) - (gx fg (i + 1) - gx fg i) + k + (gx fg (i + 1) - gx fg i) = gx fg (j + 1) + k by omega]
      exact a4 k k0 k1
/-- a part comes to the class's shelf -/
theorem rC_in {c i m s : Int} {fn fz fb fg fn' fz' fb' fg' : Nat → Int32} {V : VW_} {a : Int → Int} {d : Int → Int32} (h : rC_ c fn fz fb fg V) (I : sh_I c fz fg) (i0 : 0 ≤ i) (i1 : i ≤ c) (hm : 0 ≤ m ∧ m ≤ 24) (hs : 0 ≤ s) (hz : ∀ j, 0 ≤ j → gx fz' j = if j = i then m else if i < j ∧ j ≤ c then gx fz (j - 1) else gx fz j) (hg : ∀ j, 0 ≤ j → gx fg' j = if i < j ∧ j ≤ c + 1 then gx fg (j - 1) + s else gx fg j) (hn : ∀ j : Int, 0 ≤ j → gx fn' j = if 24 * i ≤ j ∧ j < 24 * i + m then a (j - 24 * i) else if 24 * (i + 1) ≤ j ∧ j < 24 * (c + 1) then gx fn (j - 24) else gx fn j) (hb : ∀ j : Int, 0 ≤ j → gr fb' j = if gx fg i ≤ j ∧ j < gx fg i + s then d (j - gx fg i) else if gx fg i + s ≤ j ∧ j < gx fg c + s then gr fb (j - s) else gr fb j) : rC_ (c + 1) fn' fz' fb' fg' (vin_ V i m a s d) := by
  obtain ⟨e, h⟩ := h
  have e' : c = V.1 := e
  refine ⟨by show c + 1 = V.1 + 1; omega, fun j j0 j1 => ?_⟩
  have ri := sh_rng I (k := i) i0 i1
  rcases Int.lt_trichotomy j i with w | w | w
  · obtain ⟨a1, a2, a3, a4⟩ := h j j0 (by omega)
    have rj := sh_rng I (k := j) j0 (by omega)
    have lj := sh_le I (j := j + 1) (k := i) (by omega) (by omega) (by omega)
    have gj : gx fg' j = gx fg j := by rw [hg j j0, if_neg (by omega)]
    have gj1 : gx fg' (j + 1) = gx fg (j + 1) := by rw [hg (j + 1) (by omega), if_neg (by omega)]
    have q1 : vZ (vin_ V i m a s d) j = vZ V j := by show vi_ i m V.2.1 j = V.2.1 j; exact vi_lo w
    have q2 : vS (vin_ V i m a s d) j = vS V j := by show vi_ i s V.2.2.2.1 j = V.2.2.2.1 j; exact vi_lo w
    have q3 : vN (vin_ V i m a s d) j = vN V j := by show vi_ i a V.2.2.1 j = V.2.2.1 j; exact vi_lo w
    have q4 : vD (vin_ V i m a s d) j = vD V j := by show vi_ i d V.2.2.2.2 j = V.2.2.2.2 j; exact vi_lo w
    have mj := I.2.2.2.2 j j0 (by omega)
    rw [q1, q2, q3, q4, gj, gj1]
    refine ⟨by rw [hz j j0, if_neg (by omega), if_neg (by omega)]; exact a1, a2, fun k k0 k1 => ?_, fun k k0 k1 => ?_⟩
    · rw [hn _ (by omega), if_neg (by omega), if_neg (by omega)]
      exact a3 k k0 k1
    · rw [hb _ (by (exact omg_6fb9ff308a rj k0)), if_neg (by omega), if_neg (by omega)]
      exact a4 k k0 k1
  · subst w
    have gj : gx fg' j = gx fg j := by rw [hg j j0, if_neg (by omega)]
    have gj1 : gx fg' (j + 1) = gx fg j + s := by rw [hg (j + 1) (by omega), if_pos (by omega), show j + 1 - 1 = j by omega]
    have q1 : vZ (vin_ V j m a s d) j = m := by show vi_ j m V.2.1 j = m; exact vi_at rfl
    have q2 : vS (vin_ V j m a s d) j = s := by show vi_ j s V.2.2.2.1 j = s; exact vi_at rfl
    have q3 : vN (vin_ V j m a s d) j = a := by show vi_ j a V.2.2.1 j = a; exact vi_at rfl
    have q4 : vD (vin_ V j m a s d) j = d := by show vi_ j d V.2.2.2.2 j = d; exact vi_at rfl
    rw [q1, q2, q3, q4, gj, gj1]
    refine ⟨by rw [hz j j0, if_pos rfl], by omega, fun k k0 k1 => ?_, fun k k0 k1 => ?_⟩
    · rw [hn _ (by omega), if_pos (by omega), show 24 * j + k - 24 * j = k by omega]
    · rw [hb _ (by omega), if_pos (by omega), show gx fg j + k - gx fg j = k by omega]
  · obtain ⟨a1, a2, a3, a4⟩ := h (j - 1) (by omega) (by omega)
    have rj := sh_rng I (k := j - 1) (by omega) (by omega)
    have lj := sh_le I (j := i) (k := j - 1) (by omega) (by omega) (by omega)
    have lk := sh_le I (j := j - 1 + 1) (k := c) (by omega) (by omega) (by omega)
    have gj : gx fg' j = gx fg (j - 1) + s := by rw [hg j j0, if_pos (by omega)]
    have gj1 : gx fg' (j + 1) = gx fg (j - 1 + 1) + s := by rw [hg (j + 1) (by omega), if_pos (by omega), show j + 1 - 1 = j - 1 + 1 by omega]
    have q1 : vZ (vin_ V i m a s d) j = vZ V (j - 1) := by show vi_ i m V.2.1 j = V.2.1 (j - 1); exact vi_hi w
    have q2 : vS (vin_ V i m a s d) j = vS V (j - 1) := by show vi_ i s V.2.2.2.1 j = V.2.2.2.1 (j - 1); exact vi_hi w
    have q3 : vN (vin_ V i m a s d) j = vN V (j - 1) := by show vi_ i a V.2.2.1 j = V.2.2.1 (j - 1); exact vi_hi w
    have q4 : vD (vin_ V i m a s d) j = vD V (j - 1) := by show vi_ i d V.2.2.2.2 j = V.2.2.2.2 (j - 1); exact vi_hi w
    have mj := I.2.2.2.2 (j - 1) (by omega) (by omega)
    rw [q1, q2, q3, q4, gj, gj1]
    refine ⟨by rw [hz j j0, if_neg (by omega), if_pos (by omega)]; exact a1, by omega, fun k k0 k1 => ?_, fun k k0 k1 => ?_⟩
    · rw [hn _ (by omega), if_neg (by omega), if_pos (by omega), show 24 * j + k - 24 = 24 * (j - 1) + k by omega]
      exact a3 k k0 k1
    · rw [hb _ (by omega), if_neg (by omega), if_pos (by omega), show gx fg (j - 1) + s + k - s = gx fg (j - 1) + k by omega]
      exact a4 k k0 k1
/-- names alone -/
def rN_ (c : Int) (fn fz : Nat → Int32) (V : VW_) : Prop := c = vC V ∧ ∀ i : Int, 0 ≤ i → i < c → gx fz i = vZ V i ∧ ∀ k : Int, 0 ≤ k → k < vZ V i → gx fn (24 * i + k) = vN V i k
theorem rC_N {c : Int} {fn fz fb fg : Nat → Int32} {V : VW_} (h : rC_ c fn fz fb fg V) : rN_ c fn fz V := ⟨h.1, fun i h0 h1 => ⟨(h.2 i h0 h1).1, (h.2 i h0 h1).2.2.1⟩⟩
theorem nf_z {c i m : Int} {fn fz : Nat → Int32} {V : VW_} {a : Int → Int} (R : rN_ c fn fz V) (i0 : 0 ≤ i) (i1 : i < c) (h : ¬ gx fz i = m) : ¬ nE_ V i m a := fun q => h ((R.2 i i0 i1).1.trans q.1)
theorem nf_d {c i m X : Int} {fn fz : Nat → Int32} {V : VW_} {a : Int → Int} (R : rN_ c fn fz V) (i0 : 0 ≤ i) (i1 : i < c) (h : ¬ ∀ k : Int, 0 ≤ k → k < m → gx fn (X + k) = a k) (hX : X = 24 * i) : ¬ nE_ V i m a := fun q => h (fun k k0 k1 => by
  have z := q.1
  rw [hX, (R.2 i i0 i1).2 k k0 (by omega)]
  exact q.2 k k0 k1)
theorem nf_y {c i m X : Int} {fn fz : Nat → Int32} {V : VW_} {a : Int → Int} (R : rN_ c fn fz V) (i0 : 0 ≤ i) (i1 : i < c) (hz : gx fz i = m) (h : ∀ k : Int, 0 ≤ k → k < m → gx fn (X + k) = a k) (hX : X = 24 * i) : nE_ V i m a := by
  have e := (R.2 i i0 i1).1
  refine ⟨by omega, fun k k0 k1 => ?_⟩
  rw [← (R.2 i i0 i1).2 k k0 (by omega), ← hX]
  exact h k k0 k1
theorem lx_lo {a b : Int → Int} {m n k : Int} (k0 : 0 ≤ k) (hp : ∀ j : Int, 0 ≤ j → j < k → a j = b j) (h1 : k < m) (h2 : k < n) (h : a k < b k) : lx_ a m b n := ⟨k, k0, hp, Or.inl ⟨h1, h2, h⟩⟩
theorem lx_hi {a b : Int → Int} {m n k : Int} (k0 : 0 ≤ k) (hp : ∀ j : Int, 0 ≤ j → j < k → a j = b j) (h1 : k < m) (h2 : k < n) (h : b k < a k) : ¬ lx_ a m b n := fun q => lx_asym q ⟨k, k0, fun j j0 j1 => (hp j j0 j1).symm, Or.inl ⟨h2, h1, h⟩⟩
theorem lx_e1 {a b : Int → Int} {m n k : Int} (k0 : 0 ≤ k) (hp : ∀ j : Int, 0 ≤ j → j < k → a j = b j) (he : k = m ∨ k = n) (h1 : k ≤ m) (h2 : k ≤ n) (h : m < n) : lx_ a m b n := ⟨k, k0, hp, Or.inr ⟨by omega, h⟩⟩
theorem lx_e0 {a b : Int → Int} {m n k : Int} (k0 : 0 ≤ k) (hp : ∀ j : Int, 0 ≤ j → j < k → a j = b j) (he : k = m ∨ k = n) (h1 : k ≤ m) (h2 : k ≤ n) (h : ¬ m < n) : ¬ lx_ a m b n := fun q => by
  by_cases c : m = n
  · exact lx_ne q c (fun j j0 j1 => hp j j0 (by omega))
  · exact lx_asym q ⟨k, k0, fun j j0 j1 => (hp j j0 j1).symm, Or.inr ⟨by omega, by omega⟩⟩
/-- the class's copies -/
theorem rn_out {fn : Nat → Int32} {sp dp n : Int32} {i c : Int} (h1 : sp.toInt = 24 * (i + 1)) (h2 : dp.toInt = 24 * i) (h3 : n.toInt = 24 * (c - i - 1)) (i0 : 0 ≤ i) (i1 : i < c) : ∀ j : Int, 0 ≤ j → gx (va_cpy fn fn sp.toNatClampNeg dp.toNatClampNeg n.toNatClampNeg) j = if 24 * i ≤ j ∧ j < 24 * (c - 1) then gx fn (j + 24) else gx fn j := fun j hj => by
  rw [gx_cpy h1 h2 h3 j (by omega) (by omega) (by omega) hj]
  by_cases w : 24 * i ≤ j ∧ j < 24 * (c - 1)
  · rw [if_pos (by omega), if_pos w, show 24 * (i + 1) + (j - 24 * i) = j + 24 by omega]
  · rw [if_neg (by omega), if_neg w]
theorem rb_out {fb : Nat → Int32} {sp dp n : Int32} {g0 g1 gc : Int} (h1 : sp.toInt = g1) (h2 : dp.toInt = g0) (h3 : n.toInt = gc - g1) (p0 : 0 ≤ g0) (p1 : g0 ≤ g1) (p2 : g1 ≤ gc) : ∀ j : Int, 0 ≤ j → gr (va_cpy fb fb sp.toNatClampNeg dp.toNatClampNeg n.toNatClampNeg) j = if g0 ≤ j ∧ j < gc - (g1 - g0) then gr fb (j + (g1 - g0)) else gr fb j := fun j hj => by
  rw [gr_cpy h1 h2 h3 j (by omega) (by omega) (by omega) hj]
  by_cases w : g0 ≤ j ∧ j < gc - (g1 - g0)
  · rw [if_pos (by omega), if_pos w, show g1 + (j - g0) = j + (g1 - g0) by omega]
  · rw [if_neg (by omega), if_neg w]
theorem rn_in {fn : Nat → Int32} {sp dp n : Int32} {i c : Int} (h1 : sp.toInt = 24 * i) (h2 : dp.toInt = 24 * (i + 1)) (h3 : n.toInt = 24 * (c - i)) (i0 : 0 ≤ i) (i1 : i ≤ c) : ∀ j : Int, 0 ≤ j → gx (va_cpy fn fn sp.toNatClampNeg dp.toNatClampNeg n.toNatClampNeg) j = if 24 * (i + 1) ≤ j ∧ j < 24 * (c + 1) then gx fn (j - 24) else gx fn j := fun j hj => by
  rw [gx_cpy h1 h2 h3 j (by omega) (by omega) (by omega) hj]
  by_cases w : 24 * (i + 1) ≤ j ∧ j < 24 * (c + 1)
  · rw [if_pos (by omega), if_pos w, show 24 * i + (j - 24 * (i + 1)) = j - 24 by omega]
  · rw [if_neg (by omega), if_neg w]
theorem rb_in {fb : Nat → Int32} {sp dp n : Int32} {g0 gc s : Int} (h1 : sp.toInt = g0) (h2 : dp.toInt = g0 + s) (h3 : n.toInt = gc - g0) (p0 : 0 ≤ g0) (p1 : g0 ≤ gc) (p2 : 0 ≤ s) : ∀ j : Int, 0 ≤ j → gr (va_cpy fb fb sp.toNatClampNeg dp.toNatClampNeg n.toNatClampNeg) j = if g0 + s ≤ j ∧ j < gc + s then gr fb (j - s) else gr fb j := fun j hj => by
  rw [gr_cpy h1 h2 h3 j (by omega) (by omega) (by omega) hj]
  by_cases w : g0 + s ≤ j ∧ j < gc + s
  · rw [if_pos (by omega), if_pos w, show g0 + (j - (g0 + s)) = j - s by omega]
  · rw [if_neg (by omega), if_neg w]
theorem rn_put {f fn fn3 : Nat → Int32} {sp dp n : Int32} {x i m c : Int} (h : ∀ j : Int, 0 ≤ j → gx fn3 j = if 24 * (i + 1) ≤ j ∧ j < 24 * (c + 1) then gx fn (j - 24) else gx fn j) (h1 : sp.toInt = x) (h2 : dp.toInt = 24 * i) (h3 : n.toInt = m) (x0 : 0 ≤ x) (i0 : 0 ≤ i) (m0 : 0 ≤ m) : ∀ j : Int, 0 ≤ j → gx (va_cpy f fn3 sp.toNatClampNeg dp.toNatClampNeg n.toNatClampNeg) j = if 24 * i ≤ j ∧ j < 24 * i + m then (fun k => gx f (x + k)) (j - 24 * i) else if 24 * (i + 1) ≤ j ∧ j < 24 * (c + 1) then gx fn (j - 24) else gx fn j := fun j hj => by
  rw [gx_cpy h1 h2 h3 j x0 (by omega) m0 hj, h j hj]
theorem rb_put {f fb fb3 : Nat → Int32} {sp dp n : Int32} {y g0 gc s : Int} (h : ∀ j : Int, 0 ≤ j → gr fb3 j = if g0 + s ≤ j ∧ j < gc + s then gr fb (j - s) else gr fb j) (h1 : sp.toInt = y) (h2 : dp.toInt = g0) (h3 : n.toInt = s) (y0 : 0 ≤ y) (p0 : 0 ≤ g0) (s0 : 0 ≤ s) : ∀ j : Int, 0 ≤ j → gr (va_cpy f fb3 sp.toNatClampNeg dp.toNatClampNeg n.toNatClampNeg) j = if g0 ≤ j ∧ j < g0 + s then (fun k => gr f (y + k)) (j - g0) else if g0 + s ≤ j ∧ j < gc + s then gr fb (j - s) else gr fb j := fun j hj => by
  rw [gr_cpy h1 h2 h3 j y0 p0 s0 hj, h j hj]
theorem lx_r {a b b2 : Int → Int} {m n n2 : Int} (h : lx_ a m b n) (e : n = n2) (e2 : ∀ j : Int, 0 ≤ j → j < n → b j = b2 j) : lx_ a m b2 n2 := by
  subst e
  obtain ⟨t, t0, t1, t2⟩ := h
  rcases t2 with ⟨u1, u2, u3⟩ | ⟨u1, u2⟩
  · exact ⟨t, t0, fun j j0 j1 => (t1 j j0 j1).trans (e2 j j0 (by omega)), Or.inl ⟨u1, u2, by rw [← e2 t t0 u2]; exact u3⟩⟩
  · exact ⟨t, t0, fun j j0 j1 => (t1 j j0 j1).trans (e2 j j0 (by omega)), Or.inr ⟨u1, u2⟩⟩
theorem lx_l {a a2 b : Int → Int} {m m2 n : Int} (h : lx_ a m b n) (e : m = m2) (e2 : ∀ j : Int, 0 ≤ j → j < m → a j = a2 j) : lx_ a2 m2 b n := by
  subst e
  obtain ⟨t, t0, t1, t2⟩ := h
  rcases t2 with ⟨u1, u2, u3⟩ | ⟨u1, u2⟩
  · exact ⟨t, t0, fun j j0 j1 => (e2 j j0 (by omega)).symm.trans (t1 j j0 j1), Or.inl ⟨u1, u2, by rw [← e2 t t0 u1]; exact u3⟩⟩
  · exact ⟨t, t0, fun j j0 j1 => (e2 j j0 (by omega)).symm.trans (t1 j j0 j1), Or.inr ⟨u1, u2⟩⟩
theorem lg5_st {P : Int → Prop} {i i2 c : Int} (h : ∀ j : Int, i ≤ j → j < c → P j) (e : i2 = i - 1) (h3 : P (i - 1)) : ∀ j : Int, i2 ≤ j → j < c → P j := fun j h0 h1 => by
  by_cases q : j = i - 1
  · rw [q]
    exact h3
  · exact h j (by omega) h1
/-- a name is told by its bytes alone -/
theorem nE_cg {V : VW_} {i m : Int} {a b : Int → Int} (h : nE_ V i m a) (e : ∀ k : Int, 0 ≤ k → k < m → a k = b k) : nE_ V i m b := ⟨h.1, fun k k0 k1 => (h.2 k k0 k1).trans (e k k0 k1)⟩
theorem isP_cg {V : VW_} {m r : Int} {a b : Int → Int} (h : isP_ V m a r) (e : ∀ k : Int, 0 ≤ k → k < m → a k = b k) : isP_ V m b r := ⟨h.1, h.2.1, fun i i0 i1 => lx_r (h.2.2.1 i i0 i1) rfl e, fun i i0 i1 => lx_l (h.2.2.2 i i0 i1) rfl e⟩
/-- what adding a part makes of the parts; whether there is room -/
def AD_ (V : VW_) (a : Int → Int) (m s : Int) (d : Int → Int32) (W : VW_) : Prop := (∃ q : Int, 0 ≤ q ∧ q < vC V ∧ nE_ V q m a ∧ W = vse_ V q m a s d) ∨ ((∀ i : Int, 0 ≤ i → i < vC V → ¬ nE_ V i m a) ∧ ∃ r : Int, isP_ V m a r ∧ W = vin_ V r m a s d)
theorem AD_u {V W W2 : VW_} {a : Int → Int} {m s : Int} {d : Int → Int32} (hs : srt_ V) (h : AD_ V a m s d W) (k : AD_ V a m s d W2) : W = W2 := by
  rcases h with ⟨q, q0, q1, q2, q3⟩ | ⟨n, r, r0, r1⟩
  · rcases k with ⟨p, p0, p1, p2, p3⟩ | ⟨n, r, r0, r1⟩
    · have e := nE_u hs q0 q1 p0 p1 q2 p2
      subst e
      exact q3.trans p3.symm
    · exact absurd q2 (n q q0 q1)
  · rcases k with ⟨p, p0, p1, p2, p3⟩ | ⟨n', r', r0', r1'⟩
    · exact absurd p2 (n p p0 p1)
    · have e := isP_u r0 r0'
      subst e
      exact r1.trans r1'.symm
def RM_ (V : VW_) (a : Int → Int) (m s : Int) : Prop := s ≤ 4000 ∧ (∀ q : Int, 0 ≤ q → q < vC V → nE_ V q m a → vT V - vS V q + s ≤ 12000) ∧ ((∀ q : Int, 0 ≤ q → q < vC V → ¬ nE_ V q m a) → vT V + s ≤ 12000 ∧ vC V < 16)
theorem srt_AD {V W : VW_} {a : Int → Int} {m s : Int} {d : Int → Int32} (hs : srt_ V) (h : AD_ V a m s d W) : srt_ W := by
  rcases h with ⟨q, q0, q1, q2, q3⟩ | ⟨n, r, r0, r1⟩
  · rw [q3, ← vin_vou]
    exact srt_in (srt_ou hs q0) (isP_re hs q0 q1 q2)
  · rw [r1]
    exact srt_in hs r0
/-- the class's way: out, and in again -/
theorem AD_C {V : VW_} {a : Int → Int} {m s o r : Int} {d : Int → Int32} (hs : srt_ V) (hz : ∀ i : Int, 0 ≤ i → i < vC V → 0 ≤ vZ V i) (hm : 0 ≤ m) (hF : isF_ V m a o) (W : VW_) (hW : 0 ≤ o ∧ W = vou_ V o ∨ o = -1 ∧ W = V) (h0 : 0 ≤ r) (h1 : r ≤ vC W) (hl : ∀ i : Int, 0 ≤ i → i < r → lx_ (vN W i) (vZ W i) a m) (hr : r < vC W → ¬ lx_ (vN W r) (vZ W r) a m) : AD_ V a m s d (vin_ W r m a s d) := by
  rcases hF with ⟨o0, o1, o2⟩ | ⟨o0, o1⟩
  · have eW : W = vou_ V o := by
      rcases hW with q | q
      · exact q.2
      · omega
    subst eW
    have hno : ∀ i : Int, 0 ≤ i → i < vC (vou_ V o) → ¬ nE_ (vou_ V o) i m a := fun i i0 i1 q => by
      have i1' : i < V.1 - 1 := i1
      have o1' : o < V.1 := o1
      by_cases c : i < o
      · have e1 : vZ (vou_ V o) i = vZ V i := vo_lo (α := Int) c
        have e2 : vN (vou_ V o) i = vN V i := vo_lo (α := Int → Int) c
        have q' : nE_ V i m a := ⟨e1 ▸ q.1, fun k k0 k1 => by rw [← e2]; exact q.2 k k0 k1⟩
        have := nE_u hs i0 (show i < V.1 by omega) o0 o1 q' o2
        omega
      · have e1 : vZ (vou_ V o) i = vZ V (i + 1) := vo_hi (α := Int) (by omega)
        have e2 : vN (vou_ V o) i = vN V (i + 1) := vo_hi (α := Int → Int) (by omega)
        have q' : nE_ V (i + 1) m a := ⟨e1 ▸ q.1, fun k k0 k1 => by rw [← e2]; exact q.2 k k0 k1⟩
        have := nE_u hs (show 0 ≤ i + 1 by omega) (show i + 1 < V.1 by omega) o0 o1 q' o2
        omega
    have hz2 : ∀ i : Int, 0 ≤ i → i < vC (vou_ V o) → 0 ≤ vZ (vou_ V o) i := fun i i0 i1 => by
      have i1' : i < V.1 - 1 := i1
      by_cases c : i < o
      · rw [show vZ (vou_ V o) i = vZ V i from vo_lo (α := Int) c]
        exact hz i i0 (by show i < V.1; omega)
      · rw [show vZ (vou_ V o) i = vZ V (i + 1) from vo_hi (α := Int) (by omega)]
        exact hz (i + 1) (by omega) (by show i + 1 < V.1; omega)
    have p := isP_C (srt_ou hs o0) hz2 hm hno h0 h1 hl hr
    have e := isP_u p (isP_re hs o0 o1 o2)
    subst e
    exact Or.inl ⟨r, o0, o1, o2, vin_vou V r m a s d⟩
  · have eW : W = V := by
      rcases hW with q | q
      · omega
      · exact q.2
    subst eW
    exact Or.inr ⟨o1, r, isP_C hs hz hm o1 h0 h1 hl hr, rfl⟩
theorem vin_cC {c r m s : Int} {fn fz fb fg : Nat → Int32} {V : VW_} {a a' : Int → Int} {dd : Int → Int32} (h : rC_ c fn fz fb fg (vin_ V r m a s dd)) (e : ∀ k : Int, 0 ≤ k → k < m → a k = a' k) : rC_ c fn fz fb fg (vin_ V r m a' s dd) := by
  refine ⟨h.1, fun i i0 i1 => ?_⟩
  obtain ⟨h1, h2, h3, h4⟩ := h.2 i i0 i1
  refine ⟨h1, h2, fun k k0 k1 => ?_, h4⟩
  rw [h3 k k0 k1]
  show vi_ r a V.2.2.1 i k = vi_ r a' V.2.2.1 i k
  have k1' : k < vi_ r m V.2.1 i := k1
  rcases Int.lt_trichotomy i r with w | w | w
  · rw [vi_lo w, vi_lo w]
  · rw [vi_at w] at k1'
    rw [vi_at w, vi_at w]
    exact e k k0 k1'
  · rw [vi_hi w, vi_hi w]
theorem rC_hz {c : Int} {fn fz fb fg : Nat → Int32} {V : VW_} (R : rC_ c fn fz fb fg V) (I : sh_I c fz fg) : ∀ i : Int, 0 ≤ i → i < vC V → 0 ≤ vZ V i := fun i i0 i1 => by
  have e : c = vC V := R.1
  have x := (R.2 i i0 (by omega)).1
  have y := I.2.2.2.2 i i0 (by omega)
  omega
/-- the class's room -/
theorem RM_C {c i m ls : Int} {fn fz fb fg : Nat → Int32} {V : VW_} {a : Int → Int} (R : rC_ c fn fz fb fg V) (I : sh_I c fz fg) (hs : srt_ V) (hF : isF_ V ls a i) : RM_ V a ls m ↔ (m ≤ 4000 ∧ ((0 ≤ i ∧ i < c ∧ gx fg c - (gx fg (i + 1) - gx fg i) + m ≤ 12000) ∨ (¬ (0 ≤ i ∧ i < c) ∧ c < 16 ∧ gx fg c + m ≤ 12000))) := by
  have e : c = vC V := R.1
  have et := rC_all R I
  rcases hF with ⟨f0, f1, f2⟩ | ⟨f0, f1⟩
  · have x := (R.2 i f0 (by omega)).2.1
    constructor
    · intro q
      have y := q.2.1 i f0 f1 f2
      exact ⟨q.1, Or.inl ⟨f0, by omega, by omega⟩⟩
    · rintro ⟨q1, q2⟩
      refine ⟨q1, fun p p0 p1 p2 => ?_, fun hn => absurd f2 (hn i f0 f1)⟩
      have ep := nE_u hs p0 p1 f0 f1 p2 f2
      subst ep
      omega
  · constructor
    · intro q
      have y := q.2.2 f1
      exact ⟨q.1, Or.inr ⟨by omega, by omega, by omega⟩⟩
    · rintro ⟨q1, q2⟩
      exact ⟨q1, fun p p0 p1 p2 => absurd p2 (f1 p p0 p1), fun _ => by omega⟩
theorem isF_cg {V : VW_} {m r : Int} {a b : Int → Int} (h : isF_ V m a r) (e : ∀ k : Int, 0 ≤ k → k < m → a k = b k) : isF_ V m b r := by
  rcases h with ⟨h0, h1, h2⟩ | ⟨h0, h1⟩
  · exact Or.inl ⟨h0, h1, nE_cg h2 e⟩
  · exact Or.inr ⟨h0, fun i i0 i1 q => h1 i i0 i1 (nE_cg q (fun k k0 k1 => (e k k0 k1).symm))⟩
theorem isF_big {V : VW_} {m : Int} {a : Int → Int} (hz : ∀ i : Int, 0 ≤ i → i < vC V → vZ V i ≤ 24) (h : 24 < m) : isF_ V m a (-1) := Or.inr ⟨rfl, fun i i0 i1 q => by have := hz i i0 i1; have := q.1; omega⟩
theorem ti_255 {x z : Int32} (e : z = x &&& 255) : z.toInt = x.toInt % 256 := by
  subst e
  rw [pk_and _ 8 (by decide), nI_toInt (by omega)]
  have h : x.toInt = x.toBitVec.toInt := rfl
  rw [h, BitVec.toInt_eq_toNat_bmod]
  have hx := x.toBitVec.isLt
  generalize x.toBitVec.toNat = n at *
  rw [Int.bmod_def]
  split <;> omega
def bo_ (V : VW_) (i k : Int) : Int := if k < vZ V i then vN V i k % 256 else (vD V i (k - vZ V i)).toInt % 256
theorem bo_n {V : VW_} {i k v r : Int} (h : k < vZ V i) (hv : v = vN V i k) (hr : r = v % 256) : r = bo_ V i k := by
  unfold bo_
  rw [if_pos h, hr, hv]
theorem bo_d {V : VW_} {i k r : Int} {x y : Int32} (h : ¬ k < vZ V i) (e : x = y) (hv : y = vD V i (k - vZ V i)) (hr : r = x.toInt % 256) : r = bo_ V i k := by
  unfold bo_
  rw [if_neg h, hr, e, hv]
/-- names looked at by themselves -/
def cN_ (c : Int) (fn fz : Nat → Int32) : VW_ := (c, gx fz, fun i k => gx fn (24 * i + k), fun _ => 0, fun _ _ => 0)
theorem cN_R {c : Int} {fn fz : Nat → Int32} : rN_ c fn fz (cN_ c fn fz) := ⟨rfl, fun _ _ _ => ⟨rfl, fun _ _ _ => rfl⟩⟩

theorem d_Shelf_clear_0 : decode prog_10_method_2_code 0 = .ok (.aload_n 0, 1) := by decide +kernel
theorem d_Shelf_clear_1 : decode prog_10_method_2_code 1 = .ok (.iconst 0, 1) := by decide +kernel
theorem d_Shelf_clear_2 : decode prog_10_method_2_code 2 = .ok (.putfield 25, 3) := by decide +kernel
theorem k_403 : (Jvm.Cond.fieldLink "PackageBook$Shelf" (25 : Nat) "PackageBook$Shelf" "count" "I") ∈ uW := uW_c1 46 rfl (by decide +kernel)
theorem d_Shelf_clear_5 : decode prog_10_method_2_code 5 = .ok (.aload_n 0, 1) := by decide +kernel
theorem d_Shelf_clear_6 : decode prog_10_method_2_code 6 = .ok (.getfield 22, 3) := by decide +kernel
theorem d_Shelf_clear_9 : decode prog_10_method_2_code 9 = .ok (.iconst 0, 1) := by decide +kernel
theorem d_Shelf_clear_10 : decode prog_10_method_2_code 10 = .ok (.iconst 0, 1) := by decide +kernel
theorem d_Shelf_clear_11 : decode prog_10_method_2_code 11 = .ok (.iastore, 1) := by decide +kernel
theorem d_Shelf_clear_12 : decode prog_10_method_2_code 12 = .ok (.return_, 1) := by decide +kernel
abbrev y_Shelf_clear : MethodName := ⟨"PackageBook$Shelf", "clear", "()V"⟩
abbrev i_Shelf_clear : pb_I := (y_Shelf_clear, prog_10_method_2_code, 1, (Option.none : Option Jvm.ClassFile.FieldType), [], { frames := 0, cells := 0, slots := 0, locals := 0 })
set_option maxRecDepth 100000 in
set_option maxHeartbeats 4000000 in
theorem g_Shelf_clear {l : Launch} (hl : l.stackTraces = false) (G : pb_G) (h : Nat) (sn : Nat) (sz : Nat) (sb : Nat) (sg : Nat) (c : Int32) (sfg : Nat → Int32) : Cn l G i_Shelf_clear [.ref h] [(h, .inr (3, [.ref sn, .ref sz, .ref sb, .ref sg, .int c])), (sg, .inl (G.2.2.1, 17, .inl sfg))] (S := (Nat → Int32)) (fun rv_ u => rv_ = none ∧ (∀ z : Nat → Int32, sh_I 0 z u)) (fun u => [(h, .inr (3, [.ref sn, .ref sz, .ref sb, .ref sg, .int 0])), (sg, .inl (G.2.2.1, 17, .inl u))]) := by
  refine Cn.of hl (by decide +kernel) rfl (Nat.le_of_ble_eq_true rfl) (fun M hQ => ?_)
  refine pb_eq (pc' := 0) (lo' := [(0, .ref h)]) (rest' := []) (ws' := [(h, .inr (3, [.ref sn, .ref sz, .ref sb, .ref sg, .int c])), (sg, .inl (G.2.2.1, 17, .inl sfg))]) ?_
  have zl0 : (0 : Int32).toInt = 0 := by decide
  have zl1 : (1 : Int32).toInt = 1 := by decide
  refine pb_aload_n (pc := 0) d_Shelf_clear_0 0 rfl rfl ?_
  refine pb_iconst (pc := 1) (v := 0) d_Shelf_clear_1 (by decide) ?_
  refine pb_put (pc := 2) (ty := .int) (ws' := [(h, .inr (3, [.ref sn, .ref sz, .ref sb, .ref sg, .int 0])), (sg, .inl (G.2.2.1, 17, .inl sfg))]) d_Shelf_clear_2 0 4 t_Shelf t_Shelf_ok n_Shelf rfl rfl (by decide) in_Shelf k_403 rfl (by decide +kernel) rfl rfl (Nat.le_of_ble_eq_true rfl) rfl ?_
  refine pb_aload_n (pc := 5) d_Shelf_clear_5 0 rfl rfl ?_
  refine pb_get (pc := 6) d_Shelf_clear_6 0 3 rfl rfl (by decide) in_Shelf k_399 rfl ?_
  refine pb_iconst (pc := 9) (v := 0) d_Shelf_clear_9 (by decide) ?_
  refine pb_iconst (pc := 10) (v := 0) d_Shelf_clear_10 (by decide) ?_
  refine pb_iast (pc := 11) (ws' := [(h, .inr (3, [.ref sn, .ref sz, .ref sb, .ref sg, .int 0])), (sg, .inl (G.2.2.1, 17, .inl (upd sfg ((0 : Int32).toNatClampNeg) 0)))]) d_Shelf_clear_11 1 rfl (by unfold vp_in; decide) rfl ?_
  exact pb_vret (pc := 12) hQ d_Shelf_clear_12 rfl ((upd sfg ((0 : Int32).toNatClampNeg) 0)) ⟨rfl, (show ∀ z : Nat → Int32, sh_I 0 z (upd sfg ((0 : Int32).toNatClampNeg) 0) from (fun z => sh_nil (by show gx (upd _ _ _) 0 = 0; rw [gx_upd zl0 0 (by omega) (by omega), if_pos rfl]; exact zl0)))⟩ [0, 1] (by decide) rfl rfl (by decide) (by decide)

theorem d_Shelf_has_0 : decode prog_10_method_3_code 0 = .ok (.iload_n 1, 1) := by decide +kernel
theorem d_Shelf_has_1 : decode prog_10_method_3_code 1 = .ok (.ifCond .lt 15, 3) := by decide +kernel
theorem d_Shelf_has_16 : decode prog_10_method_3_code 16 = .ok (.iconst 0, 1) := by decide +kernel
theorem d_Shelf_has_17 : decode prog_10_method_3_code 17 = .ok (.ireturn, 1) := by decide +kernel
theorem d_Shelf_has_4 : decode prog_10_method_3_code 4 = .ok (.iload_n 1, 1) := by decide +kernel
theorem d_Shelf_has_5 : decode prog_10_method_3_code 5 = .ok (.aload_n 0, 1) := by decide +kernel
theorem d_Shelf_has_6 : decode prog_10_method_3_code 6 = .ok (.getfield 25, 3) := by decide +kernel
theorem d_Shelf_has_9 : decode prog_10_method_3_code 9 = .ok (.if_icmp .ge 7, 3) := by decide +kernel
theorem d_Shelf_has_12 : decode prog_10_method_3_code 12 = .ok (.iconst 1, 1) := by decide +kernel
theorem d_Shelf_has_13 : decode prog_10_method_3_code 13 = .ok (.goto 4, 3) := by decide +kernel
abbrev y_Shelf_has : MethodName := ⟨"PackageBook$Shelf", "has", "(I)Z"⟩
abbrev i_Shelf_has : pb_I := (y_Shelf_has, prog_10_method_3_code, 2, (some Jvm.ClassFile.FieldType.boolean), [], { frames := 0, cells := 0, slots := 0, locals := 0 })
set_option maxRecDepth 100000 in
set_option maxHeartbeats 4000000 in
theorem g_Shelf_has {l : Launch} (hl : l.stackTraces = false) (G : pb_G) (h : Nat) (sn : Nat) (sz : Nat) (sb : Nat) (sg : Nat) (c : Int32) (i : Int32) : Cn l G i_Shelf_has [.ref h, .int i] [(h, .inr (3, [.ref sn, .ref sz, .ref sb, .ref sg, .int c]))] (S := Int32) (fun rv_ u => rv_ = some (.int u) ∧ (u.toInt = 0 ∨ u.toInt = 1) ∧ (u.toInt = 1 ↔ 0 ≤ i.toInt ∧ i.toInt < c.toInt)) (fun u => [(h, .inr (3, [.ref sn, .ref sz, .ref sb, .ref sg, .int c]))]) := by
  refine Cn.of hl (by decide +kernel) rfl (Nat.le_of_ble_eq_true rfl) (fun M hQ => ?_)
  refine pb_eq (pc' := 0) (lo' := [(0, .ref h), (1, .int i)]) (rest' := []) (ws' := [(h, .inr (3, [.ref sn, .ref sz, .ref sb, .ref sg, .int c]))]) ?_
  have zl0 : (0 : Int32).toInt = 0 := by decide
  have zl1 : (1 : Int32).toInt = 1 := by decide
  refine pb_iload_n (pc := 0) d_Shelf_has_0 1 rfl rfl ?_
  refine pb_if_lt (pc := 1) (tgt := 16) d_Shelf_has_1 (by decide) (fun w1 => ?_) (fun w1 => ?_)
  · have tw1 : i.toInt < 0 := (ti_lt rfl (by decide)).mp w1
    refine pb_iconst (pc := 16) (v := 0) d_Shelf_has_16 (by decide) ?_
    exact pb_iret (pc := 17) hQ d_Shelf_has_17 rfl rfl (0) ⟨rfl, (by (try dsimp only); first | done | (with_reducible assumption) | omega (splitDisjunctions := false) | assumption | omega | decide), (by (try dsimp only); first | done | (with_reducible assumption) | omega (splitDisjunctions := false) | assumption | omega | decide)⟩ [0] (by decide) rfl rfl (by decide) (by decide)
  · have tw1 : ¬ i.toInt < 0 := fun z9 => w1 ((ti_lt rfl (by decide)).mpr z9)
    refine pb_iload_n (pc := 4) d_Shelf_has_4 1 rfl rfl ?_
    refine pb_aload_n (pc := 5) d_Shelf_has_5 0 rfl rfl ?_
    refine pb_get (pc := 6) d_Shelf_has_6 0 4 rfl rfl (by decide) in_Shelf k_403 rfl ?_
    refine pb_icmp_ge (pc := 9) (tgt := 16) d_Shelf_has_9 (by decide) (fun w2 => ?_) (fun w2 => ?_)
    · have tw2 : c.toInt ≤ i.toInt := (ti_le rfl rfl).mp w2
      refine pb_iconst (pc := 16) (v := 0) d_Shelf_has_16 (by decide) ?_
      exact pb_iret (pc := 17) hQ d_Shelf_has_17 rfl rfl (0) ⟨rfl, (by (try dsimp only); first | done | (with_reducible assumption) | omega (splitDisjunctions := false) | assumption | omega | decide), (by (try dsimp only); first | done | (with_reducible assumption) | omega (splitDisjunctions := false) | assumption | omega | decide)⟩ [0] (by decide) rfl rfl (by decide) (by decide)
    · have tw2 : ¬ c.toInt ≤ i.toInt := fun z9 => w2 ((ti_le rfl rfl).mpr z9)
      refine pb_iconst (pc := 12) (v := 1) d_Shelf_has_12 (by decide) ?_
      refine pb_goto (pc := 13) (tgt := 17) d_Shelf_has_13 (by decide) ?_
      exact pb_iret (pc := 17) hQ d_Shelf_has_17 rfl rfl (1) ⟨rfl, (by (try dsimp only); first | done | (with_reducible assumption) | omega (splitDisjunctions := false) | assumption | omega | decide), (by (try dsimp only); first | done | (with_reducible assumption) | omega (splitDisjunctions := false) | assumption | omega | decide)⟩ [0] (by decide) rfl rfl (by decide) (by decide)

theorem d_Shelf_sizeOf_0 : decode prog_10_method_4_code 0 = .ok (.aload_n 0, 1) := by decide +kernel
theorem d_Shelf_sizeOf_1 : decode prog_10_method_4_code 1 = .ok (.getfield 22, 3) := by decide +kernel
theorem d_Shelf_sizeOf_4 : decode prog_10_method_4_code 4 = .ok (.iload_n 1, 1) := by decide +kernel
theorem d_Shelf_sizeOf_5 : decode prog_10_method_4_code 5 = .ok (.iconst 1, 1) := by decide +kernel
theorem d_Shelf_sizeOf_6 : decode prog_10_method_4_code 6 = .ok (.iadd, 1) := by decide +kernel
theorem d_Shelf_sizeOf_7 : decode prog_10_method_4_code 7 = .ok (.iaload, 1) := by decide +kernel
theorem d_Shelf_sizeOf_8 : decode prog_10_method_4_code 8 = .ok (.aload_n 0, 1) := by decide +kernel
theorem d_Shelf_sizeOf_9 : decode prog_10_method_4_code 9 = .ok (.getfield 22, 3) := by decide +kernel
theorem d_Shelf_sizeOf_12 : decode prog_10_method_4_code 12 = .ok (.iload_n 1, 1) := by decide +kernel
theorem d_Shelf_sizeOf_13 : decode prog_10_method_4_code 13 = .ok (.iaload, 1) := by decide +kernel
theorem d_Shelf_sizeOf_14 : decode prog_10_method_4_code 14 = .ok (.isub, 1) := by decide +kernel
theorem d_Shelf_sizeOf_15 : decode prog_10_method_4_code 15 = .ok (.ireturn, 1) := by decide +kernel
abbrev y_Shelf_sizeOf : MethodName := ⟨"PackageBook$Shelf", "sizeOf", "(I)I"⟩
abbrev i_Shelf_sizeOf : pb_I := (y_Shelf_sizeOf, prog_10_method_4_code, 2, (some Jvm.ClassFile.FieldType.int), [], { frames := 0, cells := 0, slots := 0, locals := 0 })
set_option maxRecDepth 100000 in
set_option maxHeartbeats 4000000 in
theorem g_Shelf_sizeOf {l : Launch} (hl : l.stackTraces = false) (G : pb_G) (h : Nat) (sn : Nat) (sz : Nat) (sb : Nat) (sg : Nat) (c : Int32) (sfz : Nat → Int32) (sfg : Nat → Int32) (i : Int32) (I : sh_I c.toInt sfz sfg) (h0 : 0 ≤ i.toInt) (h1 : i.toInt < c.toInt) : Cn l G i_Shelf_sizeOf [.ref h, .int i] [(h, .inr (3, [.ref sn, .ref sz, .ref sb, .ref sg, .int c])), (sg, .inl (G.2.2.1, 17, .inl sfg))] (S := Int32) (fun rv_ u => rv_ = some (.int u) ∧ (u.toInt = gx sfg (i.toInt + 1) - gx sfg i.toInt) ∧ (0 ≤ u.toInt) ∧ (u.toInt ≤ 4000)) (fun u => [(h, .inr (3, [.ref sn, .ref sz, .ref sb, .ref sg, .int c])), (sg, .inl (G.2.2.1, 17, .inl sfg))]) := by
  refine Cn.of hl (by decide +kernel) rfl (Nat.le_of_ble_eq_true rfl) (fun M hQ => ?_)
  refine pb_eq (pc' := 0) (lo' := [(0, .ref h), (1, .int i)]) (rest' := []) (ws' := [(h, .inr (3, [.ref sn, .ref sz, .ref sb, .ref sg, .int c])), (sg, .inl (G.2.2.1, 17, .inl sfg))]) ?_
  have zl0 : (0 : Int32).toInt = 0 := by decide
  have zl1 : (1 : Int32).toInt = 1 := by decide
  have q9 := I.2.1
  have q8 := I.2.2.2.2 i.toInt (by omega) (by omega)
  have q7 := sh_rng I (k := i.toInt) (by omega) (by omega)
  have q6 := I.2.2.2.1
  refine pb_aload_n (pc := 0) d_Shelf_sizeOf_0 0 rfl rfl ?_
  refine pb_get (pc := 1) d_Shelf_sizeOf_1 0 3 rfl rfl (by decide) in_Shelf k_399 rfl ?_
  refine pb_iload_n (pc := 4) d_Shelf_sizeOf_4 1 rfl rfl ?_
  refine pb_iconst (pc := 5) (v := 1) d_Shelf_sizeOf_5 (by decide) ?_
  refine pb_iadd (pc := 6) d_Shelf_sizeOf_6 ?_
  refine pb_topi (fun i1 ei1 => ?_)
  try have ti1 : i1.toInt = i.toInt + 1 := ti_add ei1 rfl (by decide) (by omega) (by omega)
  refine pb_iald (pc := 7) d_Shelf_sizeOf_7 1 rfl (vp_in_iff.mpr (by constructor <;> omega)) ?_
  refine pb_topi (fun i2 ei2 => ?_)
  have ti2 : i2.toInt = gx sfg (i.toInt + 1) := gx_ld ei2 (by omega)
  refine pb_aload_n (pc := 8) d_Shelf_sizeOf_8 0 rfl rfl ?_
  refine pb_get (pc := 9) d_Shelf_sizeOf_9 0 3 rfl rfl (by decide) in_Shelf k_399 rfl ?_
  refine pb_iload_n (pc := 12) d_Shelf_sizeOf_12 1 rfl rfl ?_
  refine pb_iald (pc := 13) d_Shelf_sizeOf_13 1 rfl (vp_in_iff.mpr (by constructor <;> omega)) ?_
  refine pb_topi (fun i3 ei3 => ?_)
  have ti3 : i3.toInt = gx sfg (i.toInt) := gx_ld ei3 rfl
  refine pb_isub (pc := 14) d_Shelf_sizeOf_14 ?_
  refine pb_topi (fun i4 ei4 => ?_)
  try have ti4 : i4.toInt = i2.toInt - i3.toInt := ti_sub ei4 rfl rfl (by omega) (by omega)
  exact pb_iret (pc := 15) hQ d_Shelf_sizeOf_15 rfl rfl (i4) ⟨rfl, (by (try dsimp only); first | done | (with_reducible assumption) | omega (splitDisjunctions := false) | assumption | omega | decide), (by (try dsimp only); first | done | (with_reducible assumption) | omega (splitDisjunctions := false) | assumption | omega | decide), (by (try dsimp only); first | done | (with_reducible assumption) | omega (splitDisjunctions := false) | assumption | omega | decide)⟩ [0, 1] (by decide) rfl rfl (by decide) (by decide)

theorem d_Shelf_inAll_0 : decode prog_10_method_5_code 0 = .ok (.aload_n 0, 1) := by decide +kernel
theorem d_Shelf_inAll_1 : decode prog_10_method_5_code 1 = .ok (.getfield 22, 3) := by decide +kernel
theorem d_Shelf_inAll_4 : decode prog_10_method_5_code 4 = .ok (.aload_n 0, 1) := by decide +kernel
theorem d_Shelf_inAll_5 : decode prog_10_method_5_code 5 = .ok (.getfield 25, 3) := by decide +kernel
theorem d_Shelf_inAll_8 : decode prog_10_method_5_code 8 = .ok (.iaload, 1) := by decide +kernel
theorem d_Shelf_inAll_9 : decode prog_10_method_5_code 9 = .ok (.ireturn, 1) := by decide +kernel
abbrev y_Shelf_inAll : MethodName := ⟨"PackageBook$Shelf", "inAll", "()I"⟩
abbrev i_Shelf_inAll : pb_I := (y_Shelf_inAll, prog_10_method_5_code, 1, (some Jvm.ClassFile.FieldType.int), [], { frames := 0, cells := 0, slots := 0, locals := 0 })
set_option maxRecDepth 100000 in
set_option maxHeartbeats 4000000 in
theorem g_Shelf_inAll {l : Launch} (hl : l.stackTraces = false) (G : pb_G) (h : Nat) (sn : Nat) (sz : Nat) (sb : Nat) (sg : Nat) (c : Int32) (sfz : Nat → Int32) (sfg : Nat → Int32) (I : sh_I c.toInt sfz sfg) : Cn l G i_Shelf_inAll [.ref h] [(h, .inr (3, [.ref sn, .ref sz, .ref sb, .ref sg, .int c])), (sg, .inl (G.2.2.1, 17, .inl sfg))] (S := Int32) (fun rv_ u => rv_ = some (.int u) ∧ (u.toInt = gx sfg c.toInt) ∧ (0 ≤ u.toInt) ∧ (u.toInt ≤ 12000)) (fun u => [(h, .inr (3, [.ref sn, .ref sz, .ref sb, .ref sg, .int c])), (sg, .inl (G.2.2.1, 17, .inl sfg))]) := by
  refine Cn.of hl (by decide +kernel) rfl (Nat.le_of_ble_eq_true rfl) (fun M hQ => ?_)
  refine pb_eq (pc' := 0) (lo' := [(0, .ref h)]) (rest' := []) (ws' := [(h, .inr (3, [.ref sn, .ref sz, .ref sb, .ref sg, .int c])), (sg, .inl (G.2.2.1, 17, .inl sfg))]) ?_
  have zl0 : (0 : Int32).toInt = 0 := by decide
  have zl1 : (1 : Int32).toInt = 1 := by decide
  have q9 := I.1
  have q8 := I.2.1
  have q7 := sh_rng I (k := c.toInt) (by omega) (by omega)
  have q6 := I.2.2.2.1
  refine pb_aload_n (pc := 0) d_Shelf_inAll_0 0 rfl rfl ?_
  refine pb_get (pc := 1) d_Shelf_inAll_1 0 3 rfl rfl (by decide) in_Shelf k_399 rfl ?_
  refine pb_aload_n (pc := 4) d_Shelf_inAll_4 0 rfl rfl ?_
  refine pb_get (pc := 5) d_Shelf_inAll_5 0 4 rfl rfl (by decide) in_Shelf k_403 rfl ?_
  refine pb_iald (pc := 8) d_Shelf_inAll_8 1 rfl (vp_in_iff.mpr (by constructor <;> omega)) ?_
  refine pb_topi (fun i1 ei1 => ?_)
  have ti1 : i1.toInt = gx sfg (c.toInt) := gx_ld ei1 rfl
  exact pb_iret (pc := 9) hQ d_Shelf_inAll_9 rfl rfl (i1) ⟨rfl, (by (try dsimp only); first | done | (with_reducible assumption) | omega (splitDisjunctions := false) | assumption | omega | decide), (by (try dsimp only); first | done | (with_reducible assumption) | omega (splitDisjunctions := false) | assumption | omega | decide), (by (try dsimp only); first | done | (with_reducible assumption) | omega (splitDisjunctions := false) | assumption | omega | decide)⟩ [0, 1] (by decide) rfl rfl (by decide) (by decide)

theorem d_Shelf_find_0 : decode prog_10_method_6_code 0 = .ok (.iconst 0, 1) := by decide +kernel
theorem d_Shelf_find_1 : decode prog_10_method_6_code 1 = .ok (.istore 4, 2) := by decide +kernel
theorem d_Shelf_find_3 : decode prog_10_method_6_code 3 = .ok (.iload 4, 2) := by decide +kernel
theorem d_Shelf_find_5 : decode prog_10_method_6_code 5 = .ok (.aload_n 0, 1) := by decide +kernel
theorem d_Shelf_find_6 : decode prog_10_method_6_code 6 = .ok (.getfield 25, 3) := by decide +kernel
theorem d_Shelf_find_9 : decode prog_10_method_6_code 9 = .ok (.if_icmp .ge 41, 3) := by decide +kernel
theorem d_Shelf_find_50 : decode prog_10_method_6_code 50 = .ok (.iconst (-1), 1) := by decide +kernel
theorem d_Shelf_find_51 : decode prog_10_method_6_code 51 = .ok (.ireturn, 1) := by decide +kernel
theorem d_Shelf_find_12 : decode prog_10_method_6_code 12 = .ok (.aload_n 0, 1) := by decide +kernel
theorem d_Shelf_find_13 : decode prog_10_method_6_code 13 = .ok (.getfield 15, 3) := by decide +kernel
theorem d_Shelf_find_16 : decode prog_10_method_6_code 16 = .ok (.iload 4, 2) := by decide +kernel
theorem d_Shelf_find_18 : decode prog_10_method_6_code 18 = .ok (.iaload, 1) := by decide +kernel
theorem d_Shelf_find_19 : decode prog_10_method_6_code 19 = .ok (.iload_n 3, 1) := by decide +kernel
theorem d_Shelf_find_20 : decode prog_10_method_6_code 20 = .ok (.if_icmp .ne 24, 3) := by decide +kernel
theorem d_Shelf_find_44 : decode prog_10_method_6_code 44 = .ok (.iinc 4 1, 3) := by decide +kernel
theorem d_Shelf_find_47 : decode prog_10_method_6_code 47 = .ok (.goto (-44), 3) := by decide +kernel
theorem d_Shelf_find_23 : decode prog_10_method_6_code 23 = .ok (.aload_n 0, 1) := by decide +kernel
theorem d_Shelf_find_24 : decode prog_10_method_6_code 24 = .ok (.getfield 9, 3) := by decide +kernel
theorem d_Shelf_find_27 : decode prog_10_method_6_code 27 = .ok (.bipush 24, 2) := by decide +kernel
theorem d_Shelf_find_29 : decode prog_10_method_6_code 29 = .ok (.iload 4, 2) := by decide +kernel
theorem d_Shelf_find_31 : decode prog_10_method_6_code 31 = .ok (.imul, 1) := by decide +kernel
theorem d_Shelf_find_32 : decode prog_10_method_6_code 32 = .ok (.aload_n 1, 1) := by decide +kernel
theorem d_Shelf_find_33 : decode prog_10_method_6_code 33 = .ok (.iload_n 2, 1) := by decide +kernel
theorem d_Shelf_find_34 : decode prog_10_method_6_code 34 = .ok (.iload_n 3, 1) := by decide +kernel
theorem d_Shelf_find_35 : decode prog_10_method_6_code 35 = .ok (.invokestatic 29, 3) := by decide +kernel
theorem k_463 : (Jvm.Cond.methodLinkNest "PackageBook$Shelf" (29 : Nat) ({ cls := "PackageBook", name := "isSame", desc := "([BI[BII)Z" } : Jvm.MethodName) "PackageBook") ∈ uN := uN_c1 106 rfl (by decide +kernel)
theorem k_465 : (Jvm.Cond.code ({ cls := "PackageBook", name := "isSame", desc := "([BI[BII)Z" } : Jvm.MethodName) prog_1_method_28_code (6 : Nat) (Option.some Jvm.ClassFile.FieldType.boolean)) ∈ uW := uW_c1 108 rfl (by decide +kernel)
theorem k_464 : (Jvm.Cond.static ({ cls := "PackageBook", name := "isSame", desc := "([BI[BII)Z" } : Jvm.MethodName)) ∈ uW := uW_c1 107 rfl (by decide +kernel)
theorem hy_Book_isSame : (y_Book_isSame).cls ≠ "java/lang/invoke/MethodHandle" ∧ (y_Book_isSame).cls ≠ "java/lang/invoke/VarHandle" ∧ (parseMethodDescriptor (y_Book_isSame).desc).map (fun d => d.parameters.length) = some 5 := by decide +kernel
theorem d_Shelf_find_38 : decode prog_10_method_6_code 38 = .ok (.ifCond .eq 6, 3) := by decide +kernel
theorem d_Shelf_find_41 : decode prog_10_method_6_code 41 = .ok (.iload 4, 2) := by decide +kernel
theorem d_Shelf_find_43 : decode prog_10_method_6_code 43 = .ok (.ireturn, 1) := by decide +kernel
abbrev y_Shelf_find : MethodName := ⟨"PackageBook$Shelf", "find", "([BII)I"⟩
abbrev i_Shelf_find : pb_I := (y_Shelf_find, prog_10_method_6_code, 5, (some Jvm.ClassFile.FieldType.int), [], { frames := 1, cells := 0, slots := 0, locals := 25 })
set_option maxRecDepth 100000 in
set_option maxHeartbeats 4000000 in
theorem g_Shelf_find {l : Launch} (hl : l.stackTraces = false) (G : pb_G) (h : Nat) (sn : Nat) (sz : Nat) (sb : Nat) (sg : Nat) (c : Int32) (sfn : Nat → Int32) (sfz : Nat → Int32) (b : Nat) (N : Nat) (f : Nat → Int32) (sfg : Nat → Int32) (x : Int32) (n : Int32) (V : VW_) (R : rN_ c.toInt sfn sfz V) (I : sh_I c.toInt sfz sfg) (h0 : 0 ≤ x.toInt) (h1 : x.toInt + n.toInt ≤ N) (h2 : N ≤ 1000000) (F_sfn : sb_Fit sfn) (F_f : sb_Fit f) : Cn l G i_Shelf_find [.ref h, .ref b, .int x, .int n] [(h, .inr (3, [.ref sn, .ref sz, .ref sb, .ref sg, .int c])), (sn, .inl (G.2.1, 384, .inl sfn)), (sz, .inl (G.2.2.1, 16, .inl sfz)), (b, .inl (G.2.1, N, .inl f))] (S := Int32) (fun rv_ u => rv_ = some (.int u) ∧ (-1 ≤ u.toInt) ∧ (u.toInt < c.toInt) ∧ (isF_ V n.toInt (fun k => gx f (x.toInt + k)) u.toInt)) (fun u => [(h, .inr (3, [.ref sn, .ref sz, .ref sb, .ref sg, .int c])), (sn, .inl (G.2.1, 384, .inl sfn)), (sz, .inl (G.2.2.1, 16, .inl sfz)), (b, .inl (G.2.1, N, .inl f))]) := by
  refine Cn.of hl (by decide +kernel) rfl (Nat.le_of_ble_eq_true rfl) (fun M hQ => ?_)
  refine pb_eq (pc' := 0) (lo' := [(0, .ref h), (1, .ref b), (2, .int x), (3, .int n)]) (rest' := []) (ws' := [(h, .inr (3, [.ref sn, .ref sz, .ref sb, .ref sg, .int c])), (sn, .inl (G.2.1, 384, .inl sfn)), (sz, .inl (G.2.2.1, 16, .inl sfz)), (b, .inl (G.2.1, N, .inl f))]) ?_
  have zm1 : ((-1) : Int32).toInt = (-1) := by decide
  have zl0 : (0 : Int32).toInt = 0 := by decide
  have zl1 : (1 : Int32).toInt = 1 := by decide
  have zl24 : (24 : Int32).toInt = 24 := by decide
  have p1 := I.1
  have p2 := I.2.1
  have RC := R.1
  refine pb_iconst (pc := 0) (v := 0) d_Shelf_find_0 (by decide) ?_
  refine pb_istore (pc := 1) (lo' := [(4, .int 0), (0, .ref h), (1, .ref b), (2, .int x), (3, .int n)]) d_Shelf_find_1 (by decide) rfl ?_
  have hL3_1 : ∀ (N9 : Nat) (i : Int32), (0 ≤ i.toInt) → (i.toInt ≤ c.toInt) → (∀ j : Int, 0 ≤ j → j < i.toInt → ¬ nE_ V j n.toInt (fun k => gx f (x.toInt + k))) → ((c.toInt - i.toInt).toNat) < N9 → pb_P l G M i_Shelf_find 3 [(4, .int i), (0, .ref h), (1, .ref b), (2, .int x), (3, .int n)] [] [(h, .inr (3, [.ref sn, .ref sz, .ref sb, .ref sg, .int c])), (sn, .inl (G.2.1, 384, .inl sfn)), (sz, .inl (G.2.2.1, 16, .inl sfz)), (b, .inl (G.2.1, N, .inl f))] 0 0 := by
    intro N9
    induction N9 with
    | zero => intro i hi hi2 hno hm9; exact absurd hm9 (Nat.not_lt_zero _)
    | succ N9 ih3 =>
      intro i hi hi2 hno hm9
      refine pb_iload (pc := 3) d_Shelf_find_3 0 rfl ?_
      refine pb_aload_n (pc := 5) d_Shelf_find_5 1 rfl rfl ?_
      refine pb_get (pc := 6) d_Shelf_find_6 0 4 rfl rfl (by decide) in_Shelf k_403 rfl ?_
      refine pb_icmp_ge (pc := 9) (tgt := 50) d_Shelf_find_9 (by decide) (fun w2 => ?_) (fun w2 => ?_)
      · have tw2 : c.toInt ≤ i.toInt := (ti_le rfl rfl).mp w2
        refine pb_iconst (pc := 50) (v := (-1)) d_Shelf_find_50 (by decide) ?_
        exact pb_iret (pc := 51) hQ d_Shelf_find_51 rfl rfl ((-1)) ⟨rfl, (by (try dsimp only); first | done | (with_reducible assumption) | omega (splitDisjunctions := false) | assumption | omega | decide), (by (try dsimp only); first | done | (with_reducible assumption) | omega (splitDisjunctions := false) | assumption | omega | decide), (show isF_ V n.toInt (fun k => gx f (x.toInt + k)) ((-1) : Int32).toInt from (Or.inr ⟨by omega, fun j h0 h1 => hno j h0 (by omega)⟩))⟩ [0, 1, 2, 3] (by decide) rfl rfl (by decide) (by decide)
      · have tw2 : ¬ c.toInt ≤ i.toInt := fun z9 => w2 ((ti_le rfl rfl).mpr z9)
        refine pb_aload_n (pc := 12) d_Shelf_find_12 1 rfl rfl ?_
        refine pb_get (pc := 13) d_Shelf_find_13 0 1 rfl rfl (by decide) in_Shelf k_392 rfl ?_
        refine pb_iload (pc := 16) d_Shelf_find_16 0 rfl ?_
        have p5 := I.2.2.2.2 i.toInt (by omega) (by omega)
        refine pb_iald (pc := 18) d_Shelf_find_18 2 rfl (vp_in_iff.mpr (by constructor <;> omega)) ?_
        refine pb_topi (fun i3 ei3 => ?_)
        have ti3 : i3.toInt = gx sfz (i.toInt) := gx_ld ei3 rfl
        refine pb_iload_n (pc := 19) d_Shelf_find_19 4 rfl rfl ?_
        refine pb_icmp_ne (pc := 20) (tgt := 44) d_Shelf_find_20 (by decide) (fun w4 => ?_) (fun w4 => ?_)
        · have tw4 : ¬ i3.toInt = n.toInt := fun z9 => w4 ((ti_eq rfl rfl).mpr z9)
          refine pb_iincN (pc := 44) (c := 1) d_Shelf_find_44 0 rfl (by decide) (by decide) (fun i5 ei5 => ?_)
          have ti5 : i5.toInt = i.toInt + 1 := ti_add ei5 rfl (by decide) (by omega) (by omega)
          refine pb_eq (pc' := 47) (lo' := [(4, .int i5), (0, .ref h), (1, .ref b), (2, .int x), (3, .int n)]) (rest' := []) (ws' := [(h, .inr (3, [.ref sn, .ref sz, .ref sb, .ref sg, .int c])), (sn, .inl (G.2.1, 384, .inl sfn)), (sz, .inl (G.2.2.1, 16, .inl sfz)), (b, .inl (G.2.1, N, .inl f))]) ?_
          refine pb_goto (pc := 47) (tgt := 3) d_Shelf_find_47 (by decide) ?_
          exact ih3 i5 (by first | (with_reducible assumption) | omega (splitDisjunctions := false) | assumption | omega | decide) (by first | (with_reducible assumption) | omega (splitDisjunctions := false) | assumption | omega | decide) (by first | exact ll_st hno (by omega) (nf_z R hi (by omega) (by omega)) | exact ll_st hno (by omega) (nf_d R hi (by omega) (sD (by omega)) (by omega))) (by (exact omg_7c8a06b1f5 hm9 tw2 ti5))
        · have tw4 : i3.toInt = n.toInt := (ti_eq rfl rfl).mp w4
          refine pb_aload_n (pc := 23) d_Shelf_find_23 1 rfl rfl ?_
          refine pb_get (pc := 24) d_Shelf_find_24 0 0 rfl rfl (by decide) in_Shelf k_389 rfl ?_
          refine pb_bipush (pc := 27) (v := 24) d_Shelf_find_27 (by decide) ?_
          refine pb_iload (pc := 29) d_Shelf_find_29 0 rfl ?_
          refine pb_imul (pc := 31) d_Shelf_find_31 ?_
          refine pb_topi (fun i6 ei6 => ?_)
          try have ti6 : i6.toInt = 24 * i.toInt := ti_mul ei6 (by decide) rfl (by omega) (by omega)
          refine pb_aload_n (pc := 32) d_Shelf_find_32 2 rfl rfl ?_
          refine pb_iload_n (pc := 33) d_Shelf_find_33 3 rfl rfl ?_
          refine pb_iload_n (pc := 34) d_Shelf_find_34 4 rfl rfl ?_
          refine pb_callSN (pc := 35) (I := i_Shelf_find) (nA := 5) (rest := []) (wr := [(h, .inr (3, [.ref sn, .ref sz, .ref sb, .ref sg, .int c])), (sz, .inl (G.2.2.1, 16, .inl sfz))]) d_Shelf_find_35 (g_isSame hl G sn b 384 N sfn f i6 x n (by first | (with_reducible assumption) | omega (splitDisjunctions := false) | assumption | omega | decide) (by first | (with_reducible assumption) | omega (splitDisjunctions := false) | assumption | omega | decide) (by first | (with_reducible assumption) | omega (splitDisjunctions := false) | assumption | omega | decide) (by first | (with_reducible assumption) | omega (splitDisjunctions := false) | assumption | omega | decide) (by first | (with_reducible assumption) | omega (splitDisjunctions := false) | assumption | omega | decide) (by first | (with_reducible assumption) | omega (splitDisjunctions := false) | assumption | omega | decide) F_sfn F_f) [1, 3] [0, 2] (by decide) rfl rfl rfl (by decide) (by decide) k_465 rfl k_118 k_463 k_464 hy_Book_isSame (by decide) rfl rfl (Nat.le_of_ble_eq_true rfl) (by decide) (fun v9 u8 ch7 => ?_)
          obtain ⟨r_9, rfl⟩ : ∃ z9, z9 = u8 := ⟨_, rfl⟩
          obtain ⟨ech7, ch7⟩ := ch7
          have ech7 : v9 = some (.int r_9) := ech7
          subst ech7
          obtain ⟨fh10, fh11, fh12⟩ : (r_9.toInt = 0 ∨ r_9.toInt = 1) ∧ (r_9.toInt = 1 → ∀ j : Int, 0 ≤ j → j < n.toInt → gx sfn (i6.toInt + j) = gx f (x.toInt + j)) ∧ (r_9.toInt = 0 → ¬ (∀ j : Int, 0 ≤ j → j < n.toInt → gx sfn (i6.toInt + j) = gx f (x.toInt + j))) := ch7
          have sS := fh11
          have sD := fh12
          refine pb_eq (pc' := 38) (lo' := [(4, .int i), (0, .ref h), (1, .ref b), (2, .int x), (3, .int n)]) (rest' := [.int r_9]) (ws' := [(h, .inr (3, [.ref sn, .ref sz, .ref sb, .ref sg, .int c])), (sz, .inl (G.2.2.1, 16, .inl sfz)), (sn, .inl (G.2.1, 384, .inl sfn)), (b, .inl (G.2.1, N, .inl f))]) ?_
          refine pb_if_eq (pc := 38) (tgt := 44) d_Shelf_find_38 (by decide) (fun w13 => ?_) (fun w13 => ?_)
          · have tw13 : r_9.toInt = 0 := (ti_eq rfl (by decide)).mp w13
            refine pb_iincN (pc := 44) (c := 1) d_Shelf_find_44 0 rfl (by decide) (by decide) (fun i14 ei14 => ?_)
            have ti14 : i14.toInt = i.toInt + 1 := ti_add ei14 rfl (by decide) (by omega) (by omega)
            refine pb_eq (pc' := 47) (lo' := [(4, .int i14), (0, .ref h), (1, .ref b), (2, .int x), (3, .int n)]) (rest' := []) (ws' := [(h, .inr (3, [.ref sn, .ref sz, .ref sb, .ref sg, .int c])), (sz, .inl (G.2.2.1, 16, .inl sfz)), (sn, .inl (G.2.1, 384, .inl sfn)), (b, .inl (G.2.1, N, .inl f))]) ?_
            refine pb_goto (pc := 47) (tgt := 3) d_Shelf_find_47 (by decide) ?_
            refine pb_re (ws' := [(h, .inr (3, [.ref sn, .ref sz, .ref sb, .ref sg, .int c])), (sn, .inl (G.2.1, 384, .inl sfn)), (sz, .inl (G.2.2.1, 16, .inl sfz)), (b, .inl (G.2.1, N, .inl f))]) (lo' := [(4, .int i14), (0, .ref h), (1, .ref b), (2, .int x), (3, .int n)]) [0, 2, 1, 3] [0, 1, 2, 3, 4] (by decide) rfl rfl rfl ?_
            exact ih3 i14 (by first | (with_reducible assumption) | omega (splitDisjunctions := false) | assumption | omega | decide) (by first | (with_reducible assumption) | omega (splitDisjunctions := false) | assumption | omega | decide) (by first | exact ll_st hno (by omega) (nf_z R hi (by omega) (by omega)) | exact ll_st hno (by omega) (nf_d R hi (by omega) (sD (by omega)) (by omega))) (by (exact omg_7c8a06b1f5 hm9 tw2 ti14))
          · have tw13 : ¬ r_9.toInt = 0 := fun z9 => w13 ((ti_eq rfl (by decide)).mpr z9)
            refine pb_iload (pc := 41) d_Shelf_find_41 0 rfl ?_
            exact pb_iret (pc := 43) hQ d_Shelf_find_43 rfl rfl (i) ⟨rfl, (by (try dsimp only); first | done | (with_reducible assumption) | omega (splitDisjunctions := false) | assumption | omega | decide), (by (try dsimp only); first | done | (with_reducible assumption) | omega (splitDisjunctions := false) | assumption | omega | decide), (show isF_ V n.toInt (fun k => gx f (x.toInt + k)) i.toInt from (Or.inl ⟨by omega, by omega, nf_y R hi (by omega) (by omega) (sS (by (exact omg_d9c3f42b32 fh10 tw13))) (by omega)⟩))⟩ [0, 2, 1, 3] (by decide) rfl rfl (by decide) (by decide)
  exact hL3_1 _ 0 (by first | (with_reducible assumption) | omega (splitDisjunctions := false) | assumption | omega | decide) (by first | (with_reducible assumption) | omega (splitDisjunctions := false) | assumption | omega | decide) (fun j h0 h1 => absurd h1 (by omega)) (Nat.lt_succ_self _)

set_option maxRecDepth 100000 in
set_option maxHeartbeats 4000000 in
theorem g_Shelf_find1 {l : Launch} (hl : l.stackTraces = false) (G : pb_G) (h : Nat) (sn : Nat) (sz : Nat) (sb : Nat) (sg : Nat) (c : Int32) (sfn : Nat → Int32) (sfz : Nat → Int32) (sfg : Nat → Int32) (x : Int32) (n : Int32) (V : VW_) (R : rN_ c.toInt sfn sfz V) (I : sh_I c.toInt sfz sfg) (h0 : 0 ≤ x.toInt) (h1 : x.toInt + n.toInt ≤ 384) (F_sfn : sb_Fit sfn) : Cn l G i_Shelf_find [.ref h, .ref sn, .int x, .int n] [(h, .inr (3, [.ref sn, .ref sz, .ref sb, .ref sg, .int c])), (sn, .inl (G.2.1, 384, .inl sfn)), (sz, .inl (G.2.2.1, 16, .inl sfz))] (S := Int32) (fun rv_ u => rv_ = some (.int u) ∧ (-1 ≤ u.toInt) ∧ (u.toInt < c.toInt) ∧ (isF_ V n.toInt (fun k => gx sfn (x.toInt + k)) u.toInt)) (fun u => [(h, .inr (3, [.ref sn, .ref sz, .ref sb, .ref sg, .int c])), (sn, .inl (G.2.1, 384, .inl sfn)), (sz, .inl (G.2.2.1, 16, .inl sfz))]) := by
  refine Cn.of hl (by decide +kernel) rfl (Nat.le_of_ble_eq_true rfl) (fun M hQ => ?_)
  refine pb_eq (pc' := 0) (lo' := [(0, .ref h), (1, .ref sn), (2, .int x), (3, .int n)]) (rest' := []) (ws' := [(h, .inr (3, [.ref sn, .ref sz, .ref sb, .ref sg, .int c])), (sn, .inl (G.2.1, 384, .inl sfn)), (sz, .inl (G.2.2.1, 16, .inl sfz))]) ?_
  have zm1 : ((-1) : Int32).toInt = (-1) := by decide
  have zl0 : (0 : Int32).toInt = 0 := by decide
  have zl1 : (1 : Int32).toInt = 1 := by decide
  have zl24 : (24 : Int32).toInt = 24 := by decide
  have p1 := I.1
  have p2 := I.2.1
  have RC := R.1
  refine pb_iconst (pc := 0) (v := 0) d_Shelf_find_0 (by decide) ?_
  refine pb_istore (pc := 1) (lo' := [(4, .int 0), (0, .ref h), (1, .ref sn), (2, .int x), (3, .int n)]) d_Shelf_find_1 (by decide) rfl ?_
  have hL3_1 : ∀ (N9 : Nat) (i : Int32), (0 ≤ i.toInt) → (i.toInt ≤ c.toInt) → (∀ j : Int, 0 ≤ j → j < i.toInt → ¬ nE_ V j n.toInt (fun k => gx sfn (x.toInt + k))) → ((c.toInt - i.toInt).toNat) < N9 → pb_P l G M i_Shelf_find 3 [(4, .int i), (0, .ref h), (1, .ref sn), (2, .int x), (3, .int n)] [] [(h, .inr (3, [.ref sn, .ref sz, .ref sb, .ref sg, .int c])), (sn, .inl (G.2.1, 384, .inl sfn)), (sz, .inl (G.2.2.1, 16, .inl sfz))] 0 0 := by
    intro N9
    induction N9 with
    | zero => intro i hi hi2 hno hm9; exact absurd hm9 (Nat.not_lt_zero _)
    | succ N9 ih3 =>
      intro i hi hi2 hno hm9
      refine pb_iload (pc := 3) d_Shelf_find_3 0 rfl ?_
      refine pb_aload_n (pc := 5) d_Shelf_find_5 1 rfl rfl ?_
      refine pb_get (pc := 6) d_Shelf_find_6 0 4 rfl rfl (by decide) in_Shelf k_403 rfl ?_
      refine pb_icmp_ge (pc := 9) (tgt := 50) d_Shelf_find_9 (by decide) (fun w2 => ?_) (fun w2 => ?_)
      · have tw2 : c.toInt ≤ i.toInt := (ti_le rfl rfl).mp w2
        refine pb_iconst (pc := 50) (v := (-1)) d_Shelf_find_50 (by decide) ?_
        exact pb_iret (pc := 51) hQ d_Shelf_find_51 rfl rfl ((-1)) ⟨rfl, (by (try dsimp only); first | done | (with_reducible assumption) | omega (splitDisjunctions := false) | assumption | omega | decide), (by (try dsimp only); first | done | (with_reducible assumption) | omega (splitDisjunctions := false) | assumption | omega | decide), (show isF_ V n.toInt (fun k => gx sfn (x.toInt + k)) ((-1) : Int32).toInt from (Or.inr ⟨by omega, fun j h0 h1 => hno j h0 (by omega)⟩))⟩ [0, 1, 2] (by decide) rfl rfl (by decide) (by decide)
      · have tw2 : ¬ c.toInt ≤ i.toInt := fun z9 => w2 ((ti_le rfl rfl).mpr z9)
        refine pb_aload_n (pc := 12) d_Shelf_find_12 1 rfl rfl ?_
        refine pb_get (pc := 13) d_Shelf_find_13 0 1 rfl rfl (by decide) in_Shelf k_392 rfl ?_
        refine pb_iload (pc := 16) d_Shelf_find_16 0 rfl ?_
        have p5 := I.2.2.2.2 i.toInt (by omega) (by omega)
        refine pb_iald (pc := 18) d_Shelf_find_18 2 rfl (vp_in_iff.mpr (by constructor <;> omega)) ?_
        refine pb_topi (fun i3 ei3 => ?_)
        have ti3 : i3.toInt = gx sfz (i.toInt) := gx_ld ei3 rfl
        refine pb_iload_n (pc := 19) d_Shelf_find_19 4 rfl rfl ?_
        refine pb_icmp_ne (pc := 20) (tgt := 44) d_Shelf_find_20 (by decide) (fun w4 => ?_) (fun w4 => ?_)
        · have tw4 : ¬ i3.toInt = n.toInt := fun z9 => w4 ((ti_eq rfl rfl).mpr z9)
          refine pb_iincN (pc := 44) (c := 1) d_Shelf_find_44 0 rfl (by decide) (by decide) (fun i5 ei5 => ?_)
          have ti5 : i5.toInt = i.toInt + 1 := ti_add ei5 rfl (by decide) (by omega) (by omega)
          refine pb_eq (pc' := 47) (lo' := [(4, .int i5), (0, .ref h), (1, .ref sn), (2, .int x), (3, .int n)]) (rest' := []) (ws' := [(h, .inr (3, [.ref sn, .ref sz, .ref sb, .ref sg, .int c])), (sn, .inl (G.2.1, 384, .inl sfn)), (sz, .inl (G.2.2.1, 16, .inl sfz))]) ?_
          refine pb_goto (pc := 47) (tgt := 3) d_Shelf_find_47 (by decide) ?_
          exact ih3 i5 (by first | (with_reducible assumption) | omega (splitDisjunctions := false) | assumption | omega | decide) (by first | (with_reducible assumption) | omega (splitDisjunctions := false) | assumption | omega | decide) (by first | exact ll_st hno (by omega) (nf_z R hi (by omega) (by omega)) | exact ll_st hno (by omega) (nf_d R hi (by omega) (sD (by omega)) (by omega))) (by (exact omg_7c8a06b1f5 hm9 tw2 ti5))
        · have tw4 : i3.toInt = n.toInt := (ti_eq rfl rfl).mp w4
          refine pb_aload_n (pc := 23) d_Shelf_find_23 1 rfl rfl ?_
          refine pb_get (pc := 24) d_Shelf_find_24 0 0 rfl rfl (by decide) in_Shelf k_389 rfl ?_
          refine pb_bipush (pc := 27) (v := 24) d_Shelf_find_27 (by decide) ?_
          refine pb_iload (pc := 29) d_Shelf_find_29 0 rfl ?_
          refine pb_imul (pc := 31) d_Shelf_find_31 ?_
          refine pb_topi (fun i6 ei6 => ?_)
          try have ti6 : i6.toInt = 24 * i.toInt := ti_mul ei6 (by decide) rfl (by omega) (by omega)
          refine pb_aload_n (pc := 32) d_Shelf_find_32 2 rfl rfl ?_
          refine pb_iload_n (pc := 33) d_Shelf_find_33 3 rfl rfl ?_
          refine pb_iload_n (pc := 34) d_Shelf_find_34 4 rfl rfl ?_
          refine pb_callSN (pc := 35) (I := i_Shelf_find) (nA := 5) (rest := []) (wr := [(h, .inr (3, [.ref sn, .ref sz, .ref sb, .ref sg, .int c])), (sz, .inl (G.2.2.1, 16, .inl sfz))]) d_Shelf_find_35 (g_isSame1 hl G sn 384 sfn i6 x n (by first | (with_reducible assumption) | omega (splitDisjunctions := false) | assumption | omega | decide) (by first | (with_reducible assumption) | omega (splitDisjunctions := false) | assumption | omega | decide) (by first | (with_reducible assumption) | omega (splitDisjunctions := false) | assumption | omega | decide) (by first | (with_reducible assumption) | omega (splitDisjunctions := false) | assumption | omega | decide) (by first | (with_reducible assumption) | omega (splitDisjunctions := false) | assumption | omega | decide) (by first | (with_reducible assumption) | omega (splitDisjunctions := false) | assumption | omega | decide) F_sfn) [1] [0, 2] (by decide) rfl rfl rfl (by decide) (by decide) k_465 rfl k_118 k_463 k_464 hy_Book_isSame (by decide) rfl rfl (Nat.le_of_ble_eq_true rfl) (by decide) (fun v9 u8 ch7 => ?_)
          obtain ⟨r_9, rfl⟩ : ∃ z9, z9 = u8 := ⟨_, rfl⟩
          obtain ⟨ech7, ch7⟩ := ch7
          have ech7 : v9 = some (.int r_9) := ech7
          subst ech7
          obtain ⟨fh10, fh11, fh12⟩ : (r_9.toInt = 0 ∨ r_9.toInt = 1) ∧ (r_9.toInt = 1 → ∀ j : Int, 0 ≤ j → j < n.toInt → gx sfn (i6.toInt + j) = gx sfn (x.toInt + j)) ∧ (r_9.toInt = 0 → ¬ (∀ j : Int, 0 ≤ j → j < n.toInt → gx sfn (i6.toInt + j) = gx sfn (x.toInt + j))) := ch7
          have sS := fh11
          have sD := fh12
          refine pb_eq (pc' := 38) (lo' := [(4, .int i), (0, .ref h), (1, .ref sn), (2, .int x), (3, .int n)]) (rest' := [.int r_9]) (ws' := [(h, .inr (3, [.ref sn, .ref sz, .ref sb, .ref sg, .int c])), (sz, .inl (G.2.2.1, 16, .inl sfz)), (sn, .inl (G.2.1, 384, .inl sfn))]) ?_
          refine pb_if_eq (pc := 38) (tgt := 44) d_Shelf_find_38 (by decide) (fun w13 => ?_) (fun w13 => ?_)
          · have tw13 : r_9.toInt = 0 := (ti_eq rfl (by decide)).mp w13
            refine pb_iincN (pc := 44) (c := 1) d_Shelf_find_44 0 rfl (by decide) (by decide) (fun i14 ei14 => ?_)
            have ti14 : i14.toInt = i.toInt + 1 := ti_add ei14 rfl (by decide) (by omega) (by omega)
            refine pb_eq (pc' := 47) (lo' := [(4, .int i14), (0, .ref h), (1, .ref sn), (2, .int x), (3, .int n)]) (rest' := []) (ws' := [(h, .inr (3, [.ref sn, .ref sz, .ref sb, .ref sg, .int c])), (sz, .inl (G.2.2.1, 16, .inl sfz)), (sn, .inl (G.2.1, 384, .inl sfn))]) ?_
            refine pb_goto (pc := 47) (tgt := 3) d_Shelf_find_47 (by decide) ?_
            refine pb_re (ws' := [(h, .inr (3, [.ref sn, .ref sz, .ref sb, .ref sg, .int c])), (sn, .inl (G.2.1, 384, .inl sfn)), (sz, .inl (G.2.2.1, 16, .inl sfz))]) (lo' := [(4, .int i14), (0, .ref h), (1, .ref sn), (2, .int x), (3, .int n)]) [0, 2, 1] [0, 1, 2, 3, 4] (by decide) rfl rfl rfl ?_
            exact ih3 i14 (by first | (with_reducible assumption) | omega (splitDisjunctions := false) | assumption | omega | decide) (by first | (with_reducible assumption) | omega (splitDisjunctions := false) | assumption | omega | decide) (by first | exact ll_st hno (by omega) (nf_z R hi (by omega) (by omega)) | exact ll_st hno (by omega) (nf_d R hi (by omega) (sD (by omega)) (by omega))) (by (exact omg_7c8a06b1f5 hm9 tw2 ti14))
          · have tw13 : ¬ r_9.toInt = 0 := fun z9 => w13 ((ti_eq rfl (by decide)).mpr z9)
            refine pb_iload (pc := 41) d_Shelf_find_41 0 rfl ?_
            exact pb_iret (pc := 43) hQ d_Shelf_find_43 rfl rfl (i) ⟨rfl, (by (try dsimp only); first | done | (with_reducible assumption) | omega (splitDisjunctions := false) | assumption | omega | decide), (by (try dsimp only); first | done | (with_reducible assumption) | omega (splitDisjunctions := false) | assumption | omega | decide), (show isF_ V n.toInt (fun k => gx sfn (x.toInt + k)) i.toInt from (Or.inl ⟨by omega, by omega, nf_y R hi (by omega) (by omega) (sS (by (exact omg_d9c3f42b32 fh10 tw13))) (by omega)⟩))⟩ [0, 2, 1] (by decide) rfl rfl (by decide) (by decide)
  exact hL3_1 _ 0 (by first | (with_reducible assumption) | omega (splitDisjunctions := false) | assumption | omega | decide) (by first | (with_reducible assumption) | omega (splitDisjunctions := false) | assumption | omega | decide) (fun j h0 h1 => absurd h1 (by omega)) (Nat.lt_succ_self _)

theorem d_Shelf_hasRoom_35 : decode prog_10_method_7_code 35 = .ok (.iload_n 2, 1) := by decide +kernel
theorem d_Shelf_hasRoom_36 : decode prog_10_method_7_code 36 = .ok (.sipush 4000, 3) := by decide +kernel
theorem d_Shelf_hasRoom_39 : decode prog_10_method_7_code 39 = .ok (.if_icmp .gt 21, 3) := by decide +kernel
theorem d_Shelf_hasRoom_60 : decode prog_10_method_7_code 60 = .ok (.iconst 0, 1) := by decide +kernel
theorem d_Shelf_hasRoom_61 : decode prog_10_method_7_code 61 = .ok (.ireturn, 1) := by decide +kernel
theorem d_Shelf_hasRoom_42 : decode prog_10_method_7_code 42 = .ok (.aload_n 0, 1) := by decide +kernel
theorem d_Shelf_hasRoom_43 : decode prog_10_method_7_code 43 = .ok (.invokevirtual 41, 3) := by decide +kernel
theorem k_478 : (Jvm.Cond.methodLink "PackageBook$Shelf" (41 : Nat) ({ cls := "PackageBook$Shelf", name := "inAll", desc := "()I" } : Jvm.MethodName)) ∈ uW := uW_c1 121 rfl (by decide +kernel)
theorem k_127 : (Jvm.Cond.initialized "PackageBook$Shelf") ∈ uW := uW_c0 10 rfl (by decide +kernel)
theorem k_481 : (Jvm.Cond.code ({ cls := "PackageBook$Shelf", name := "inAll", desc := "()I" } : Jvm.MethodName) prog_10_method_5_code (1 : Nat) (Option.some Jvm.ClassFile.FieldType.int)) ∈ uW := uW_c1 124 rfl (by decide +kernel)
theorem k_479 : (Jvm.Cond.instanceMethod ({ cls := "PackageBook$Shelf", name := "inAll", desc := "()I" } : Jvm.MethodName)) ∈ uW := uW_c1 122 rfl (by decide +kernel)
theorem k_480 : (Jvm.Cond.selects "PackageBook$Shelf" ({ cls := "PackageBook$Shelf", name := "inAll", desc := "()I" } : Jvm.MethodName) ({ cls := "PackageBook$Shelf", name := "inAll", desc := "()I" } : Jvm.MethodName)) ∈ uW := uW_c1 123 rfl (by decide +kernel)
theorem hy_Shelf_inAll : (y_Shelf_inAll).cls ≠ "java/lang/invoke/MethodHandle" ∧ (y_Shelf_inAll).cls ≠ "java/lang/invoke/VarHandle" ∧ (parseMethodDescriptor (y_Shelf_inAll).desc).map (fun d => d.parameters.length) = some 0 := by decide +kernel
theorem d_Shelf_hasRoom_46 : decode prog_10_method_7_code 46 = .ok (.iload_n 3, 1) := by decide +kernel
theorem d_Shelf_hasRoom_47 : decode prog_10_method_7_code 47 = .ok (.isub, 1) := by decide +kernel
theorem d_Shelf_hasRoom_48 : decode prog_10_method_7_code 48 = .ok (.iload_n 2, 1) := by decide +kernel
theorem d_Shelf_hasRoom_49 : decode prog_10_method_7_code 49 = .ok (.iadd, 1) := by decide +kernel
theorem d_Shelf_hasRoom_50 : decode prog_10_method_7_code 50 = .ok (.sipush 12000, 3) := by decide +kernel
theorem d_Shelf_hasRoom_53 : decode prog_10_method_7_code 53 = .ok (.if_icmp .gt 7, 3) := by decide +kernel
theorem d_Shelf_hasRoom_56 : decode prog_10_method_7_code 56 = .ok (.iconst 1, 1) := by decide +kernel
theorem d_Shelf_hasRoom_57 : decode prog_10_method_7_code 57 = .ok (.goto 4, 3) := by decide +kernel
theorem d_Shelf_hasRoom_18 : decode prog_10_method_7_code 18 = .ok (.aload_n 0, 1) := by decide +kernel
theorem d_Shelf_hasRoom_19 : decode prog_10_method_7_code 19 = .ok (.iload_n 1, 1) := by decide +kernel
theorem d_Shelf_hasRoom_20 : decode prog_10_method_7_code 20 = .ok (.invokevirtual 33, 3) := by decide +kernel
theorem k_470 : (Jvm.Cond.methodLink "PackageBook$Shelf" (33 : Nat) ({ cls := "PackageBook$Shelf", name := "has", desc := "(I)Z" } : Jvm.MethodName)) ∈ uW := uW_c1 113 rfl (by decide +kernel)
theorem k_473 : (Jvm.Cond.code ({ cls := "PackageBook$Shelf", name := "has", desc := "(I)Z" } : Jvm.MethodName) prog_10_method_3_code (2 : Nat) (Option.some Jvm.ClassFile.FieldType.boolean)) ∈ uW := uW_c1 116 rfl (by decide +kernel)
theorem k_471 : (Jvm.Cond.instanceMethod ({ cls := "PackageBook$Shelf", name := "has", desc := "(I)Z" } : Jvm.MethodName)) ∈ uW := uW_c1 114 rfl (by decide +kernel)
theorem k_472 : (Jvm.Cond.selects "PackageBook$Shelf" ({ cls := "PackageBook$Shelf", name := "has", desc := "(I)Z" } : Jvm.MethodName) ({ cls := "PackageBook$Shelf", name := "has", desc := "(I)Z" } : Jvm.MethodName)) ∈ uW := uW_c1 115 rfl (by decide +kernel)
theorem hy_Shelf_has : (y_Shelf_has).cls ≠ "java/lang/invoke/MethodHandle" ∧ (y_Shelf_has).cls ≠ "java/lang/invoke/VarHandle" ∧ (parseMethodDescriptor (y_Shelf_has).desc).map (fun d => d.parameters.length) = some 1 := by decide +kernel
theorem d_Shelf_hasRoom_23 : decode prog_10_method_7_code 23 = .ok (.ifCond .ne 12, 3) := by decide +kernel
theorem d_Shelf_hasRoom_26 : decode prog_10_method_7_code 26 = .ok (.aload_n 0, 1) := by decide +kernel
theorem d_Shelf_hasRoom_27 : decode prog_10_method_7_code 27 = .ok (.getfield 25, 3) := by decide +kernel
theorem d_Shelf_hasRoom_30 : decode prog_10_method_7_code 30 = .ok (.bipush 16, 2) := by decide +kernel
theorem d_Shelf_hasRoom_32 : decode prog_10_method_7_code 32 = .ok (.if_icmp .ge 28, 3) := by decide +kernel
theorem d_Shelf_hasRoom_0 : decode prog_10_method_7_code 0 = .ok (.aload_n 0, 1) := by decide +kernel
theorem d_Shelf_hasRoom_1 : decode prog_10_method_7_code 1 = .ok (.iload_n 1, 1) := by decide +kernel
theorem d_Shelf_hasRoom_2 : decode prog_10_method_7_code 2 = .ok (.invokevirtual 33, 3) := by decide +kernel
theorem d_Shelf_hasRoom_5 : decode prog_10_method_7_code 5 = .ok (.ifCond .eq 11, 3) := by decide +kernel
theorem d_Shelf_hasRoom_16 : decode prog_10_method_7_code 16 = .ok (.iconst 0, 1) := by decide +kernel
theorem d_Shelf_hasRoom_17 : decode prog_10_method_7_code 17 = .ok (.istore_n 3, 1) := by decide +kernel
theorem d_Shelf_hasRoom_8 : decode prog_10_method_7_code 8 = .ok (.aload_n 0, 1) := by decide +kernel
theorem d_Shelf_hasRoom_9 : decode prog_10_method_7_code 9 = .ok (.iload_n 1, 1) := by decide +kernel
theorem d_Shelf_hasRoom_10 : decode prog_10_method_7_code 10 = .ok (.invokevirtual 37, 3) := by decide +kernel
theorem k_474 : (Jvm.Cond.methodLink "PackageBook$Shelf" (37 : Nat) ({ cls := "PackageBook$Shelf", name := "sizeOf", desc := "(I)I" } : Jvm.MethodName)) ∈ uW := uW_c1 117 rfl (by decide +kernel)
theorem k_477 : (Jvm.Cond.code ({ cls := "PackageBook$Shelf", name := "sizeOf", desc := "(I)I" } : Jvm.MethodName) prog_10_method_4_code (2 : Nat) (Option.some Jvm.ClassFile.FieldType.int)) ∈ uW := uW_c1 120 rfl (by decide +kernel)
theorem k_475 : (Jvm.Cond.instanceMethod ({ cls := "PackageBook$Shelf", name := "sizeOf", desc := "(I)I" } : Jvm.MethodName)) ∈ uW := uW_c1 118 rfl (by decide +kernel)
theorem k_476 : (Jvm.Cond.selects "PackageBook$Shelf" ({ cls := "PackageBook$Shelf", name := "sizeOf", desc := "(I)I" } : Jvm.MethodName) ({ cls := "PackageBook$Shelf", name := "sizeOf", desc := "(I)I" } : Jvm.MethodName)) ∈ uW := uW_c1 119 rfl (by decide +kernel)
theorem hy_Shelf_sizeOf : (y_Shelf_sizeOf).cls ≠ "java/lang/invoke/MethodHandle" ∧ (y_Shelf_sizeOf).cls ≠ "java/lang/invoke/VarHandle" ∧ (parseMethodDescriptor (y_Shelf_sizeOf).desc).map (fun d => d.parameters.length) = some 1 := by decide +kernel
theorem d_Shelf_hasRoom_13 : decode prog_10_method_7_code 13 = .ok (.goto 4, 3) := by decide +kernel
abbrev y_Shelf_hasRoom : MethodName := ⟨"PackageBook$Shelf", "hasRoom", "(II)Z"⟩
abbrev i_Shelf_hasRoom : pb_I := (y_Shelf_hasRoom, prog_10_method_7_code, 4, (some Jvm.ClassFile.FieldType.boolean), [], { frames := 1, cells := 0, slots := 0, locals := 21 })
set_option maxRecDepth 100000 in
set_option maxHeartbeats 4000000 in
theorem g_Shelf_hasRoom {l : Launch} (hl : l.stackTraces = false) (G : pb_G) (h : Nat) (sn : Nat) (sz : Nat) (sb : Nat) (sg : Nat) (c : Int32) (sfz : Nat → Int32) (sfg : Nat → Int32) (i : Int32) (n : Int32) (I : sh_I c.toInt sfz sfg) (h0 : 0 ≤ n.toInt) : Cn l G i_Shelf_hasRoom [.ref h, .int i, .int n] [(h, .inr (3, [.ref sn, .ref sz, .ref sb, .ref sg, .int c])), (sg, .inl (G.2.2.1, 17, .inl sfg))] (S := Int32) (fun rv_ u => rv_ = some (.int u) ∧ (u.toInt = 0 ∨ u.toInt = 1) ∧ (u.toInt = 1 → n.toInt ≤ 4000 ∧ ((0 ≤ i.toInt ∧ i.toInt < c.toInt ∧ gx sfg c.toInt - (gx sfg (i.toInt + 1) - gx sfg i.toInt) + n.toInt ≤ 12000) ∨ (¬ (0 ≤ i.toInt ∧ i.toInt < c.toInt) ∧ c.toInt < 16 ∧ gx sfg c.toInt + n.toInt ≤ 12000))) ∧ (u.toInt = 0 → ¬ (n.toInt ≤ 4000 ∧ ((0 ≤ i.toInt ∧ i.toInt < c.toInt ∧ gx sfg c.toInt - (gx sfg (i.toInt + 1) - gx sfg i.toInt) + n.toInt ≤ 12000) ∨ (¬ (0 ≤ i.toInt ∧ i.toInt < c.toInt) ∧ c.toInt < 16 ∧ gx sfg c.toInt + n.toInt ≤ 12000))))) (fun u => [(h, .inr (3, [.ref sn, .ref sz, .ref sb, .ref sg, .int c])), (sg, .inl (G.2.2.1, 17, .inl sfg))]) := by
  refine Cn.of hl (by decide +kernel) rfl (Nat.le_of_ble_eq_true rfl) (fun M hQ => ?_)
  refine pb_eq (pc' := 0) (lo' := [(0, .ref h), (1, .int i), (2, .int n)]) (rest' := []) (ws' := [(h, .inr (3, [.ref sn, .ref sz, .ref sb, .ref sg, .int c])), (sg, .inl (G.2.2.1, 17, .inl sfg))]) ?_
  have zl0 : (0 : Int32).toInt = 0 := by decide
  have zl1 : (1 : Int32).toInt = 1 := by decide
  have zl16 : (16 : Int32).toInt = 16 := by decide
  have zl4000 : (4000 : Int32).toInt = 4000 := by decide
  have zl12000 : (12000 : Int32).toInt = 12000 := by decide
  have hJ35_1 : ∀ (go : Int32), ((0 ≤ i.toInt ∧ i.toInt < c.toInt ∧ go.toInt = gx sfg (i.toInt + 1) - gx sfg i.toInt) ∨ (¬ (0 ≤ i.toInt ∧ i.toInt < c.toInt) ∧ c.toInt < 16 ∧ go.toInt = 0)) → (0 ≤ go.toInt) → (go.toInt ≤ 4000) → pb_P l G M i_Shelf_hasRoom 35 [(3, .int go), (0, .ref h), (1, .int i), (2, .int n)] [] [(h, .inr (3, [.ref sn, .ref sz, .ref sb, .ref sg, .int c])), (sg, .inl (G.2.2.1, 17, .inl sfg))] 0 0 := by
    intro go hg hg1 hg2
    refine pb_iload_n (pc := 35) d_Shelf_hasRoom_35 3 rfl rfl ?_
    refine pb_sipush (pc := 36) (v := 4000) d_Shelf_hasRoom_36 (by decide) ?_
    refine pb_icmp_gt (pc := 39) (tgt := 60) d_Shelf_hasRoom_39 (by decide) (fun w2 => ?_) (fun w2 => ?_)
    · have tw2 : 4000 < n.toInt := (ti_lt (by decide) rfl).mp w2
      refine pb_iconst (pc := 60) (v := 0) d_Shelf_hasRoom_60 (by decide) ?_
      exact pb_iret (pc := 61) hQ d_Shelf_hasRoom_61 rfl rfl (0) ⟨rfl, (by (try dsimp only); first | done | (with_reducible assumption) | omega (splitDisjunctions := false) | assumption | omega | decide), (by (try dsimp only); first | done | (with_reducible assumption) | omega (splitDisjunctions := false) | assumption | omega | decide), (by (try dsimp only); first | done | (with_reducible assumption) | omega (splitDisjunctions := false) | assumption | omega | decide)⟩ [0, 1] (by decide) rfl rfl (by decide) (by decide)
    · have tw2 : ¬ 4000 < n.toInt := fun z9 => w2 ((ti_lt (by decide) rfl).mpr z9)
      refine pb_aload_n (pc := 42) d_Shelf_hasRoom_42 1 rfl rfl ?_
      refine pb_callV (pc := 43) (I := i_Shelf_hasRoom) (qb := 0) (ci := 3) (nA := 0) (rest := []) (wr := []) d_Shelf_hasRoom_43 (g_Shelf_inAll hl G h sn sz sb sg c sfz sfg (by first | (with_reducible assumption) | omega (splitDisjunctions := false) | assumption | omega | decide)) rfl rfl [0, 1] [] (by decide) rfl rfl rfl (by decide) (by decide) k_481 rfl k_127 k_478 k_479 k_480 ⟨rfl, hy_Shelf_inAll⟩ (by decide) rfl rfl (Nat.le_of_ble_eq_true rfl) (by decide) (fun v9 u4 ch3 => ?_)
      obtain ⟨r_5, rfl⟩ : ∃ z9, z9 = u4 := ⟨_, rfl⟩
      obtain ⟨ech3, ch3⟩ := ch3
      have ech3 : v9 = some (.int r_5) := ech3
      subst ech3
      obtain ⟨fh6, fh7, fh8⟩ : (r_5.toInt = gx sfg c.toInt) ∧ (0 ≤ r_5.toInt) ∧ (r_5.toInt ≤ 12000) := ch3
      refine pb_eq (pc' := 46) (lo' := [(3, .int go), (0, .ref h), (1, .int i), (2, .int n)]) (rest' := [.int r_5]) (ws' := [(h, .inr (3, [.ref sn, .ref sz, .ref sb, .ref sg, .int c])), (sg, .inl (G.2.2.1, 17, .inl sfg))]) ?_
      refine pb_iload_n (pc := 46) d_Shelf_hasRoom_46 0 rfl rfl ?_
      refine pb_isub (pc := 47) d_Shelf_hasRoom_47 ?_
      refine pb_topi (fun i9 ei9 => ?_)
      try have ti9 : i9.toInt = r_5.toInt - go.toInt := ti_sub ei9 rfl rfl (by omega) (by omega)
      refine pb_iload_n (pc := 48) d_Shelf_hasRoom_48 3 rfl rfl ?_
      refine pb_iadd (pc := 49) d_Shelf_hasRoom_49 ?_
      refine pb_topi (fun i10 ei10 => ?_)
      try have ti10 : i10.toInt = i9.toInt + n.toInt := ti_add ei10 rfl rfl (by omega) (by omega)
      refine pb_sipush (pc := 50) (v := 12000) d_Shelf_hasRoom_50 (by decide) ?_
      refine pb_icmp_gt (pc := 53) (tgt := 60) d_Shelf_hasRoom_53 (by decide) (fun w11 => ?_) (fun w11 => ?_)
      · have tw11 : 12000 < i10.toInt := (ti_lt (by decide) rfl).mp w11
        refine pb_iconst (pc := 60) (v := 0) d_Shelf_hasRoom_60 (by decide) ?_
        exact pb_iret (pc := 61) hQ d_Shelf_hasRoom_61 rfl rfl (0) ⟨rfl, (by (try dsimp only); first | done | (with_reducible assumption) | omega (splitDisjunctions := false) | assumption | omega | decide), (by (try dsimp only); first | done | (with_reducible assumption) | omega (splitDisjunctions := false) | assumption | omega | decide), (by (try dsimp only); first | done | (with_reducible assumption) | omega (splitDisjunctions := false) | assumption | omega | decide)⟩ [0, 1] (by decide) rfl rfl (by decide) (by decide)
      · have tw11 : ¬ 12000 < i10.toInt := fun z9 => w11 ((ti_lt (by decide) rfl).mpr z9)
        refine pb_iconst (pc := 56) (v := 1) d_Shelf_hasRoom_56 (by decide) ?_
        refine pb_goto (pc := 57) (tgt := 61) d_Shelf_hasRoom_57 (by decide) ?_
        exact pb_iret (pc := 61) hQ d_Shelf_hasRoom_61 rfl rfl (1) ⟨rfl, (by (try dsimp only); first | done | (with_reducible assumption) | omega (splitDisjunctions := false) | assumption | omega | decide), (by (try dsimp only); first | done | (with_reducible assumption) | omega (splitDisjunctions := false) | assumption | omega | decide), (by (try dsimp only); first | done | (with_reducible assumption) | omega (splitDisjunctions := false) | assumption | omega | decide)⟩ [0, 1] (by decide) rfl rfl (by decide) (by decide)
  have hJ18_12 : ∀ (go : Int32), ((0 ≤ i.toInt ∧ i.toInt < c.toInt ∧ go.toInt = gx sfg (i.toInt + 1) - gx sfg i.toInt) ∨ (¬ (0 ≤ i.toInt ∧ i.toInt < c.toInt) ∧ go.toInt = 0)) → (0 ≤ go.toInt) → (go.toInt ≤ 4000) → pb_P l G M i_Shelf_hasRoom 18 [(3, .int go), (0, .ref h), (1, .int i), (2, .int n)] [] [(h, .inr (3, [.ref sn, .ref sz, .ref sb, .ref sg, .int c])), (sg, .inl (G.2.2.1, 17, .inl sfg))] 0 0 := by
    intro go hg hg1 hg2
    refine pb_aload_n (pc := 18) d_Shelf_hasRoom_18 1 rfl rfl ?_
    refine pb_iload_n (pc := 19) d_Shelf_hasRoom_19 2 rfl rfl ?_
    refine pb_callV (pc := 20) (I := i_Shelf_hasRoom) (qb := 0) (ci := 3) (nA := 1) (rest := []) (wr := [(sg, .inl (G.2.2.1, 17, .inl sfg))]) d_Shelf_hasRoom_20 (g_Shelf_has hl G h sn sz sb sg c i) rfl rfl [0] [1] (by decide) rfl rfl rfl (by decide) (by decide) k_473 rfl k_127 k_470 k_471 k_472 ⟨rfl, hy_Shelf_has⟩ (by decide) rfl rfl (Nat.le_of_ble_eq_true rfl) (by decide) (fun v9 u14 ch13 => ?_)
    obtain ⟨r_15, rfl⟩ : ∃ z9, z9 = u14 := ⟨_, rfl⟩
    obtain ⟨ech13, ch13⟩ := ch13
    have ech13 : v9 = some (.int r_15) := ech13
    subst ech13
    obtain ⟨fh16, fh17⟩ : (r_15.toInt = 0 ∨ r_15.toInt = 1) ∧ (r_15.toInt = 1 ↔ 0 ≤ i.toInt ∧ i.toInt < c.toInt) := ch13
    refine pb_eq (pc' := 23) (lo' := [(3, .int go), (0, .ref h), (1, .int i), (2, .int n)]) (rest' := [.int r_15]) (ws' := [(sg, .inl (G.2.2.1, 17, .inl sfg)), (h, .inr (3, [.ref sn, .ref sz, .ref sb, .ref sg, .int c]))]) ?_
    refine pb_if_ne (pc := 23) (tgt := 35) d_Shelf_hasRoom_23 (by decide) (fun w18 => ?_) (fun w18 => ?_)
    · have tw18 : ¬ r_15.toInt = 0 := fun z9 => w18 ((ti_eq rfl (by decide)).mpr z9)
      refine pb_re (ws' := [(h, .inr (3, [.ref sn, .ref sz, .ref sb, .ref sg, .int c])), (sg, .inl (G.2.2.1, 17, .inl sfg))]) (lo' := [(3, .int go), (0, .ref h), (1, .int i), (2, .int n)]) [1, 0] [0, 1, 2, 3] (by decide) rfl rfl rfl ?_
      exact hJ35_1 go (by first | (with_reducible assumption) | omega (splitDisjunctions := false) | assumption | (exact omg_57b74d8c39 hg fh16 fh17 tw18) | decide) (by first | (with_reducible assumption) | omega (splitDisjunctions := false) | assumption | omega | decide) (by first | (with_reducible assumption) | omega (splitDisjunctions := false) | assumption | omega | decide)
    · have tw18 : r_15.toInt = 0 := (ti_eq rfl (by decide)).mp w18
      refine pb_aload_n (pc := 26) d_Shelf_hasRoom_26 1 rfl rfl ?_
      refine pb_get (pc := 27) d_Shelf_hasRoom_27 1 4 rfl rfl (by decide) in_Shelf k_403 rfl ?_
      refine pb_bipush (pc := 30) (v := 16) d_Shelf_hasRoom_30 (by decide) ?_
      refine pb_icmp_ge (pc := 32) (tgt := 60) d_Shelf_hasRoom_32 (by decide) (fun w19 => ?_) (fun w19 => ?_)
      · have tw19 : 16 ≤ c.toInt := (ti_le (by decide) rfl).mp w19
        refine pb_iconst (pc := 60) (v := 0) d_Shelf_hasRoom_60 (by decide) ?_
        exact pb_iret (pc := 61) hQ d_Shelf_hasRoom_61 rfl rfl (0) ⟨rfl, (by (try dsimp only); first | done | (with_reducible assumption) | omega (splitDisjunctions := false) | assumption | omega | decide), (by (try dsimp only); first | done | (with_reducible assumption) | omega (splitDisjunctions := false) | assumption | omega | decide), (by (try dsimp only); first | done | (with_reducible assumption) | omega (splitDisjunctions := false) | assumption | omega | decide)⟩ [1, 0] (by decide) rfl rfl (by decide) (by decide)
      · have tw19 : ¬ 16 ≤ c.toInt := fun z9 => w19 ((ti_le (by decide) rfl).mpr z9)
        refine pb_re (ws' := [(h, .inr (3, [.ref sn, .ref sz, .ref sb, .ref sg, .int c])), (sg, .inl (G.2.2.1, 17, .inl sfg))]) (lo' := [(3, .int go), (0, .ref h), (1, .int i), (2, .int n)]) [1, 0] [0, 1, 2, 3] (by decide) rfl rfl rfl ?_
        exact hJ35_1 go (by first | (with_reducible assumption) | omega (splitDisjunctions := false) | assumption | omega | decide) (by first | (with_reducible assumption) | omega (splitDisjunctions := false) | assumption | omega | decide) (by first | (with_reducible assumption) | omega (splitDisjunctions := false) | assumption | omega | decide)
  refine pb_aload_n (pc := 0) d_Shelf_hasRoom_0 0 rfl rfl ?_
  refine pb_iload_n (pc := 1) d_Shelf_hasRoom_1 1 rfl rfl ?_
  refine pb_callV (pc := 2) (I := i_Shelf_hasRoom) (qb := 0) (ci := 3) (nA := 1) (rest := []) (wr := [(sg, .inl (G.2.2.1, 17, .inl sfg))]) d_Shelf_hasRoom_2 (g_Shelf_has hl G h sn sz sb sg c i) rfl rfl [0] [1] (by decide) rfl rfl rfl (by decide) (by decide) k_473 rfl k_127 k_470 k_471 k_472 ⟨rfl, hy_Shelf_has⟩ (by decide) rfl rfl (Nat.le_of_ble_eq_true rfl) (by decide) (fun v9 u21 ch20 => ?_)
  obtain ⟨r_22, rfl⟩ : ∃ z9, z9 = u21 := ⟨_, rfl⟩
  obtain ⟨ech20, ch20⟩ := ch20
  have ech20 : v9 = some (.int r_22) := ech20
  subst ech20
  obtain ⟨fh23, fh24⟩ : (r_22.toInt = 0 ∨ r_22.toInt = 1) ∧ (r_22.toInt = 1 ↔ 0 ≤ i.toInt ∧ i.toInt < c.toInt) := ch20
  refine pb_eq (pc' := 5) (lo' := [(0, .ref h), (1, .int i), (2, .int n)]) (rest' := [.int r_22]) (ws' := [(sg, .inl (G.2.2.1, 17, .inl sfg)), (h, .inr (3, [.ref sn, .ref sz, .ref sb, .ref sg, .int c]))]) ?_
  refine pb_if_eq (pc := 5) (tgt := 16) d_Shelf_hasRoom_5 (by decide) (fun w25 => ?_) (fun w25 => ?_)
  · have tw25 : r_22.toInt = 0 := (ti_eq rfl (by decide)).mp w25
    refine pb_iconst (pc := 16) (v := 0) d_Shelf_hasRoom_16 (by decide) ?_
    refine pb_istore_n (pc := 17) (lo' := [(3, .int 0), (0, .ref h), (1, .int i), (2, .int n)]) d_Shelf_hasRoom_17 rfl (by decide) rfl ?_
    refine pb_re (ws' := [(h, .inr (3, [.ref sn, .ref sz, .ref sb, .ref sg, .int c])), (sg, .inl (G.2.2.1, 17, .inl sfg))]) (lo' := [(3, .int 0), (0, .ref h), (1, .int i), (2, .int n)]) [1, 0] [0, 1, 2, 3] (by decide) rfl rfl rfl ?_
    exact hJ18_12 0 (by first | (with_reducible assumption) | omega (splitDisjunctions := false) | assumption | omega | decide) (by first | (with_reducible assumption) | omega (splitDisjunctions := false) | assumption | omega | decide) (by first | (with_reducible assumption) | omega (splitDisjunctions := false) | assumption | omega | decide)
  · have tw25 : ¬ r_22.toInt = 0 := fun z9 => w25 ((ti_eq rfl (by decide)).mpr z9)
    refine pb_aload_n (pc := 8) d_Shelf_hasRoom_8 0 rfl rfl ?_
    refine pb_iload_n (pc := 9) d_Shelf_hasRoom_9 1 rfl rfl ?_
    refine pb_callV (pc := 10) (I := i_Shelf_hasRoom) (qb := 1) (ci := 3) (nA := 1) (rest := []) (wr := []) d_Shelf_hasRoom_10 (g_Shelf_sizeOf hl G h sn sz sb sg c sfz sfg i (by first | (with_reducible assumption) | omega (splitDisjunctions := false) | assumption | omega | decide) (by first | (with_reducible assumption) | omega (splitDisjunctions := false) | assumption | omega | decide) (by first | (with_reducible assumption) | omega (splitDisjunctions := false) | assumption | omega | decide)) rfl rfl [1, 0] [] (by decide) rfl rfl rfl (by decide) (by decide) k_477 rfl k_127 k_474 k_475 k_476 ⟨rfl, hy_Shelf_sizeOf⟩ (by decide) rfl rfl (Nat.le_of_ble_eq_true rfl) (by decide) (fun v9 u27 ch26 => ?_)
    obtain ⟨r_28, rfl⟩ : ∃ z9, z9 = u27 := ⟨_, rfl⟩
    obtain ⟨ech26, ch26⟩ := ch26
    have ech26 : v9 = some (.int r_28) := ech26
    subst ech26
    obtain ⟨fh29, fh30, fh31⟩ : (r_28.toInt = gx sfg (i.toInt + 1) - gx sfg i.toInt) ∧ (0 ≤ r_28.toInt) ∧ (r_28.toInt ≤ 4000) := ch26
    refine pb_eq (pc' := 13) (lo' := [(0, .ref h), (1, .int i), (2, .int n)]) (rest' := [.int r_28]) (ws' := [(h, .inr (3, [.ref sn, .ref sz, .ref sb, .ref sg, .int c])), (sg, .inl (G.2.2.1, 17, .inl sfg))]) ?_
    refine pb_goto (pc := 13) (tgt := 17) d_Shelf_hasRoom_13 (by decide) ?_
    refine pb_istore_n (pc := 17) (lo' := [(3, .int r_28), (0, .ref h), (1, .int i), (2, .int n)]) d_Shelf_hasRoom_17 rfl (by decide) rfl ?_
    exact hJ18_12 r_28 (by first | (with_reducible assumption) | omega (splitDisjunctions := false) | assumption | omega | decide) (by first | (with_reducible assumption) | omega (splitDisjunctions := false) | assumption | omega | decide) (by first | (with_reducible assumption) | omega (splitDisjunctions := false) | assumption | omega | decide)

theorem d_Shelf_takeOut_0 : decode prog_10_method_8_code 0 = .ok (.aload_n 0, 1) := by decide +kernel
theorem d_Shelf_takeOut_1 : decode prog_10_method_8_code 1 = .ok (.iload_n 1, 1) := by decide +kernel
theorem d_Shelf_takeOut_2 : decode prog_10_method_8_code 2 = .ok (.invokevirtual 33, 3) := by decide +kernel
theorem d_Shelf_takeOut_5 : decode prog_10_method_8_code 5 = .ok (.ifCond .ne 4, 3) := by decide +kernel
theorem d_Shelf_takeOut_9 : decode prog_10_method_8_code 9 = .ok (.aload_n 0, 1) := by decide +kernel
theorem d_Shelf_takeOut_10 : decode prog_10_method_8_code 10 = .ok (.iload_n 1, 1) := by decide +kernel
theorem d_Shelf_takeOut_11 : decode prog_10_method_8_code 11 = .ok (.invokevirtual 37, 3) := by decide +kernel
theorem d_Shelf_takeOut_14 : decode prog_10_method_8_code 14 = .ok (.istore_n 2, 1) := by decide +kernel
theorem d_Shelf_takeOut_15 : decode prog_10_method_8_code 15 = .ok (.aload_n 0, 1) := by decide +kernel
theorem d_Shelf_takeOut_16 : decode prog_10_method_8_code 16 = .ok (.getfield 25, 3) := by decide +kernel
theorem d_Shelf_takeOut_19 : decode prog_10_method_8_code 19 = .ok (.iload_n 1, 1) := by decide +kernel
theorem d_Shelf_takeOut_20 : decode prog_10_method_8_code 20 = .ok (.isub, 1) := by decide +kernel
theorem d_Shelf_takeOut_21 : decode prog_10_method_8_code 21 = .ok (.iconst 1, 1) := by decide +kernel
theorem d_Shelf_takeOut_22 : decode prog_10_method_8_code 22 = .ok (.isub, 1) := by decide +kernel
theorem d_Shelf_takeOut_23 : decode prog_10_method_8_code 23 = .ok (.istore_n 3, 1) := by decide +kernel
theorem d_Shelf_takeOut_24 : decode prog_10_method_8_code 24 = .ok (.aload_n 0, 1) := by decide +kernel
theorem d_Shelf_takeOut_25 : decode prog_10_method_8_code 25 = .ok (.getfield 19, 3) := by decide +kernel
theorem d_Shelf_takeOut_28 : decode prog_10_method_8_code 28 = .ok (.aload_n 0, 1) := by decide +kernel
theorem d_Shelf_takeOut_29 : decode prog_10_method_8_code 29 = .ok (.getfield 22, 3) := by decide +kernel
theorem d_Shelf_takeOut_32 : decode prog_10_method_8_code 32 = .ok (.iload_n 1, 1) := by decide +kernel
theorem d_Shelf_takeOut_33 : decode prog_10_method_8_code 33 = .ok (.iconst 1, 1) := by decide +kernel
theorem d_Shelf_takeOut_34 : decode prog_10_method_8_code 34 = .ok (.iadd, 1) := by decide +kernel
theorem d_Shelf_takeOut_35 : decode prog_10_method_8_code 35 = .ok (.iaload, 1) := by decide +kernel
theorem d_Shelf_takeOut_36 : decode prog_10_method_8_code 36 = .ok (.aload_n 0, 1) := by decide +kernel
theorem d_Shelf_takeOut_37 : decode prog_10_method_8_code 37 = .ok (.getfield 19, 3) := by decide +kernel
theorem d_Shelf_takeOut_40 : decode prog_10_method_8_code 40 = .ok (.aload_n 0, 1) := by decide +kernel
theorem d_Shelf_takeOut_41 : decode prog_10_method_8_code 41 = .ok (.getfield 22, 3) := by decide +kernel
theorem d_Shelf_takeOut_44 : decode prog_10_method_8_code 44 = .ok (.iload_n 1, 1) := by decide +kernel
theorem d_Shelf_takeOut_45 : decode prog_10_method_8_code 45 = .ok (.iaload, 1) := by decide +kernel
theorem d_Shelf_takeOut_46 : decode prog_10_method_8_code 46 = .ok (.aload_n 0, 1) := by decide +kernel
theorem d_Shelf_takeOut_47 : decode prog_10_method_8_code 47 = .ok (.invokevirtual 41, 3) := by decide +kernel
theorem d_Shelf_takeOut_50 : decode prog_10_method_8_code 50 = .ok (.aload_n 0, 1) := by decide +kernel
theorem d_Shelf_takeOut_51 : decode prog_10_method_8_code 51 = .ok (.getfield 22, 3) := by decide +kernel
theorem d_Shelf_takeOut_54 : decode prog_10_method_8_code 54 = .ok (.iload_n 1, 1) := by decide +kernel
theorem d_Shelf_takeOut_55 : decode prog_10_method_8_code 55 = .ok (.iconst 1, 1) := by decide +kernel
theorem d_Shelf_takeOut_56 : decode prog_10_method_8_code 56 = .ok (.iadd, 1) := by decide +kernel
theorem d_Shelf_takeOut_57 : decode prog_10_method_8_code 57 = .ok (.iaload, 1) := by decide +kernel
theorem d_Shelf_takeOut_58 : decode prog_10_method_8_code 58 = .ok (.isub, 1) := by decide +kernel
theorem d_Shelf_takeOut_59 : decode prog_10_method_8_code 59 = .ok (.invokestatic 45, 3) := by decide +kernel
theorem k_482 : (Jvm.Cond.methodLink "PackageBook$Shelf" (45 : Nat) ({ cls := "java/lang/System", name := "arraycopy", desc := "(Ljava/lang/Object;ILjava/lang/Object;II)V" } : Jvm.MethodName)) ∈ uW := uW_c1 125 rfl (by decide +kernel)
theorem d_Shelf_takeOut_62 : decode prog_10_method_8_code 62 = .ok (.aload_n 0, 1) := by decide +kernel
theorem d_Shelf_takeOut_63 : decode prog_10_method_8_code 63 = .ok (.getfield 9, 3) := by decide +kernel
theorem d_Shelf_takeOut_66 : decode prog_10_method_8_code 66 = .ok (.bipush 24, 2) := by decide +kernel
theorem d_Shelf_takeOut_68 : decode prog_10_method_8_code 68 = .ok (.iload_n 1, 1) := by decide +kernel
theorem d_Shelf_takeOut_69 : decode prog_10_method_8_code 69 = .ok (.iconst 1, 1) := by decide +kernel
theorem d_Shelf_takeOut_70 : decode prog_10_method_8_code 70 = .ok (.iadd, 1) := by decide +kernel
theorem d_Shelf_takeOut_71 : decode prog_10_method_8_code 71 = .ok (.imul, 1) := by decide +kernel
theorem d_Shelf_takeOut_72 : decode prog_10_method_8_code 72 = .ok (.aload_n 0, 1) := by decide +kernel
theorem d_Shelf_takeOut_73 : decode prog_10_method_8_code 73 = .ok (.getfield 9, 3) := by decide +kernel
theorem d_Shelf_takeOut_76 : decode prog_10_method_8_code 76 = .ok (.bipush 24, 2) := by decide +kernel
theorem d_Shelf_takeOut_78 : decode prog_10_method_8_code 78 = .ok (.iload_n 1, 1) := by decide +kernel
theorem d_Shelf_takeOut_79 : decode prog_10_method_8_code 79 = .ok (.imul, 1) := by decide +kernel
theorem d_Shelf_takeOut_80 : decode prog_10_method_8_code 80 = .ok (.bipush 24, 2) := by decide +kernel
theorem d_Shelf_takeOut_82 : decode prog_10_method_8_code 82 = .ok (.iload_n 3, 1) := by decide +kernel
theorem d_Shelf_takeOut_83 : decode prog_10_method_8_code 83 = .ok (.imul, 1) := by decide +kernel
theorem d_Shelf_takeOut_84 : decode prog_10_method_8_code 84 = .ok (.invokestatic 45, 3) := by decide +kernel
theorem d_Shelf_takeOut_87 : decode prog_10_method_8_code 87 = .ok (.aload_n 0, 1) := by decide +kernel
theorem d_Shelf_takeOut_88 : decode prog_10_method_8_code 88 = .ok (.getfield 15, 3) := by decide +kernel
theorem d_Shelf_takeOut_91 : decode prog_10_method_8_code 91 = .ok (.iload_n 1, 1) := by decide +kernel
theorem d_Shelf_takeOut_92 : decode prog_10_method_8_code 92 = .ok (.iconst 1, 1) := by decide +kernel
theorem d_Shelf_takeOut_93 : decode prog_10_method_8_code 93 = .ok (.iadd, 1) := by decide +kernel
theorem d_Shelf_takeOut_94 : decode prog_10_method_8_code 94 = .ok (.aload_n 0, 1) := by decide +kernel
theorem d_Shelf_takeOut_95 : decode prog_10_method_8_code 95 = .ok (.getfield 15, 3) := by decide +kernel
theorem d_Shelf_takeOut_98 : decode prog_10_method_8_code 98 = .ok (.iload_n 1, 1) := by decide +kernel
theorem d_Shelf_takeOut_99 : decode prog_10_method_8_code 99 = .ok (.iload_n 3, 1) := by decide +kernel
theorem d_Shelf_takeOut_100 : decode prog_10_method_8_code 100 = .ok (.invokestatic 45, 3) := by decide +kernel
theorem d_Shelf_takeOut_103 : decode prog_10_method_8_code 103 = .ok (.iload_n 1, 1) := by decide +kernel
theorem d_Shelf_takeOut_104 : decode prog_10_method_8_code 104 = .ok (.istore 4, 2) := by decide +kernel
theorem d_Shelf_takeOut_106 : decode prog_10_method_8_code 106 = .ok (.iload 4, 2) := by decide +kernel
theorem d_Shelf_takeOut_108 : decode prog_10_method_8_code 108 = .ok (.aload_n 0, 1) := by decide +kernel
theorem d_Shelf_takeOut_109 : decode prog_10_method_8_code 109 = .ok (.getfield 25, 3) := by decide +kernel
theorem d_Shelf_takeOut_112 : decode prog_10_method_8_code 112 = .ok (.if_icmp .ge 27, 3) := by decide +kernel
theorem d_Shelf_takeOut_139 : decode prog_10_method_8_code 139 = .ok (.aload_n 0, 1) := by decide +kernel
theorem d_Shelf_takeOut_140 : decode prog_10_method_8_code 140 = .ok (.dup, 1) := by decide +kernel
theorem d_Shelf_takeOut_141 : decode prog_10_method_8_code 141 = .ok (.getfield 25, 3) := by decide +kernel
theorem d_Shelf_takeOut_144 : decode prog_10_method_8_code 144 = .ok (.iconst 1, 1) := by decide +kernel
theorem d_Shelf_takeOut_145 : decode prog_10_method_8_code 145 = .ok (.isub, 1) := by decide +kernel
theorem d_Shelf_takeOut_146 : decode prog_10_method_8_code 146 = .ok (.putfield 25, 3) := by decide +kernel
theorem d_Shelf_takeOut_149 : decode prog_10_method_8_code 149 = .ok (.return_, 1) := by decide +kernel
theorem d_Shelf_takeOut_115 : decode prog_10_method_8_code 115 = .ok (.aload_n 0, 1) := by decide +kernel
theorem d_Shelf_takeOut_116 : decode prog_10_method_8_code 116 = .ok (.getfield 22, 3) := by decide +kernel
theorem d_Shelf_takeOut_119 : decode prog_10_method_8_code 119 = .ok (.iload 4, 2) := by decide +kernel
theorem d_Shelf_takeOut_121 : decode prog_10_method_8_code 121 = .ok (.aload_n 0, 1) := by decide +kernel
theorem d_Shelf_takeOut_122 : decode prog_10_method_8_code 122 = .ok (.getfield 22, 3) := by decide +kernel
theorem d_Shelf_takeOut_125 : decode prog_10_method_8_code 125 = .ok (.iload 4, 2) := by decide +kernel
theorem d_Shelf_takeOut_127 : decode prog_10_method_8_code 127 = .ok (.iconst 1, 1) := by decide +kernel
theorem d_Shelf_takeOut_128 : decode prog_10_method_8_code 128 = .ok (.iadd, 1) := by decide +kernel
theorem d_Shelf_takeOut_129 : decode prog_10_method_8_code 129 = .ok (.iaload, 1) := by decide +kernel
theorem d_Shelf_takeOut_130 : decode prog_10_method_8_code 130 = .ok (.iload_n 2, 1) := by decide +kernel
theorem d_Shelf_takeOut_131 : decode prog_10_method_8_code 131 = .ok (.isub, 1) := by decide +kernel
theorem d_Shelf_takeOut_132 : decode prog_10_method_8_code 132 = .ok (.iastore, 1) := by decide +kernel
theorem d_Shelf_takeOut_133 : decode prog_10_method_8_code 133 = .ok (.iinc 4 1, 3) := by decide +kernel
theorem d_Shelf_takeOut_136 : decode prog_10_method_8_code 136 = .ok (.goto (-30), 3) := by decide +kernel
theorem d_Shelf_takeOut_8 : decode prog_10_method_8_code 8 = .ok (.return_, 1) := by decide +kernel
abbrev y_Shelf_takeOut : MethodName := ⟨"PackageBook$Shelf", "takeOut", "(I)V"⟩
abbrev i_Shelf_takeOut : pb_I := (y_Shelf_takeOut, prog_10_method_8_code, 5, (Option.none : Option Jvm.ClassFile.FieldType), [], { frames := 1, cells := 0, slots := 0, locals := 60 })
set_option maxRecDepth 100000 in
set_option maxHeartbeats 4000000 in
theorem g_Shelf_takeOut {l : Launch} (hl : l.stackTraces = false) (G : pb_G) (h : Nat) (sn : Nat) (sz : Nat) (sb : Nat) (sg : Nat) (c : Int32) (sfn : Nat → Int32) (sfz : Nat → Int32) (sfb : Nat → Int32) (sfg : Nat → Int32) (i : Int32) (V : VW_) (I : sh_I c.toInt sfz sfg) (R : rC_ c.toInt sfn sfz sfb sfg V) (F_sfn : sb_Fit sfn) (F_sfb : sb_Fit sfb) : Cn l G i_Shelf_takeOut [.ref h, .int i] [(h, .inr (3, [.ref sn, .ref sz, .ref sb, .ref sg, .int c])), (sn, .inl (G.2.1, 384, .inl sfn)), (sz, .inl (G.2.2.1, 16, .inl sfz)), (sb, .inl (G.2.1, 12000, .inl sfb)), (sg, .inl (G.2.2.1, 17, .inl sfg))] (S := Int32 × (Nat → Int32) × (Nat → Int32) × (Nat → Int32) × (Nat → Int32)) (fun rv_ u => rv_ = none ∧ (sh_I u.1.toInt u.2.2.1 u.2.2.2.2) ∧ ((0 ≤ i.toInt ∧ i.toInt < c.toInt ∧ u.1.toInt = c.toInt - 1 ∧ gx u.2.2.2.2 u.1.toInt = gx sfg c.toInt - (gx sfg (i.toInt + 1) - gx sfg i.toInt)) ∨ (¬ (0 ≤ i.toInt ∧ i.toInt < c.toInt) ∧ u.1.toInt = c.toInt ∧ gx u.2.2.2.2 u.1.toInt = gx sfg c.toInt)) ∧ ((0 ≤ i.toInt ∧ i.toInt < c.toInt → rC_ u.1.toInt u.2.1 u.2.2.1 u.2.2.2.1 u.2.2.2.2 (vou_ V i.toInt)) ∧ (¬ (0 ≤ i.toInt ∧ i.toInt < c.toInt) → rC_ u.1.toInt u.2.1 u.2.2.1 u.2.2.2.1 u.2.2.2.2 V)) ∧ (sb_Fit u.2.1) ∧ (sb_Fit u.2.2.2.1)) (fun u => [(h, .inr (3, [.ref sn, .ref sz, .ref sb, .ref sg, .int u.1])), (sn, .inl (G.2.1, 384, .inl u.2.1)), (sz, .inl (G.2.2.1, 16, .inl u.2.2.1)), (sb, .inl (G.2.1, 12000, .inl u.2.2.2.1)), (sg, .inl (G.2.2.1, 17, .inl u.2.2.2.2))]) := by
  refine Cn.of hl (by decide +kernel) rfl (Nat.le_of_ble_eq_true rfl) (fun M hQ => ?_)
  refine pb_eq (pc' := 0) (lo' := [(0, .ref h), (1, .int i)]) (rest' := []) (ws' := [(h, .inr (3, [.ref sn, .ref sz, .ref sb, .ref sg, .int c])), (sn, .inl (G.2.1, 384, .inl sfn)), (sz, .inl (G.2.2.1, 16, .inl sfz)), (sb, .inl (G.2.1, 12000, .inl sfb)), (sg, .inl (G.2.2.1, 17, .inl sfg))]) ?_
  have zl0 : (0 : Int32).toInt = 0 := by decide
  have zl1 : (1 : Int32).toInt = 1 := by decide
  have zl24 : (24 : Int32).toInt = 24 := by decide
  have p1 := I.1
  have p2 := I.2.1
  have p4 := I.2.2.2.1
  refine pb_aload_n (pc := 0) d_Shelf_takeOut_0 0 rfl rfl ?_
  refine pb_iload_n (pc := 1) d_Shelf_takeOut_1 1 rfl rfl ?_
  refine pb_callV (pc := 2) (I := i_Shelf_takeOut) (qb := 0) (ci := 3) (nA := 1) (rest := []) (wr := [(sn, .inl (G.2.1, 384, .inl sfn)), (sz, .inl (G.2.2.1, 16, .inl sfz)), (sb, .inl (G.2.1, 12000, .inl sfb)), (sg, .inl (G.2.2.1, 17, .inl sfg))]) d_Shelf_takeOut_2 (g_Shelf_has hl G h sn sz sb sg c i) rfl rfl [0] [1, 2, 3, 4] (by decide) rfl rfl rfl (by decide) (by decide) k_473 rfl k_127 k_470 k_471 k_472 ⟨rfl, hy_Shelf_has⟩ (by decide) rfl rfl (Nat.le_of_ble_eq_true rfl) (by decide) (fun v9 u2 ch1 => ?_)
  obtain ⟨r_3, rfl⟩ : ∃ z9, z9 = u2 := ⟨_, rfl⟩
  obtain ⟨ech1, ch1⟩ := ch1
  have ech1 : v9 = some (.int r_3) := ech1
  subst ech1
  obtain ⟨fh4, fh5⟩ : (r_3.toInt = 0 ∨ r_3.toInt = 1) ∧ (r_3.toInt = 1 ↔ 0 ≤ i.toInt ∧ i.toInt < c.toInt) := ch1
  refine pb_eq (pc' := 5) (lo' := [(0, .ref h), (1, .int i)]) (rest' := [.int r_3]) (ws' := [(sn, .inl (G.2.1, 384, .inl sfn)), (sz, .inl (G.2.2.1, 16, .inl sfz)), (sb, .inl (G.2.1, 12000, .inl sfb)), (sg, .inl (G.2.2.1, 17, .inl sfg)), (h, .inr (3, [.ref sn, .ref sz, .ref sb, .ref sg, .int c]))]) ?_
  refine pb_if_ne (pc := 5) (tgt := 9) d_Shelf_takeOut_5 (by decide) (fun w6 => ?_) (fun w6 => ?_)
  · have tw6 : ¬ r_3.toInt = 0 := fun z9 => w6 ((ti_eq rfl (by decide)).mpr z9)
    have y1 := sh_rng I (k := i.toInt) (by omega) (by omega)
    have y2 := sh_rng I (k := i.toInt + 1) (by omega) (by omega)
    have y3 := sh_le I (j := i.toInt + 1) (k := c.toInt) (by omega) (by omega) (by omega)
    refine pb_aload_n (pc := 9) d_Shelf_takeOut_9 0 rfl rfl ?_
    refine pb_iload_n (pc := 10) d_Shelf_takeOut_10 1 rfl rfl ?_
    refine pb_callV (pc := 11) (I := i_Shelf_takeOut) (qb := 4) (ci := 3) (nA := 1) (rest := []) (wr := [(sn, .inl (G.2.1, 384, .inl sfn)), (sz, .inl (G.2.2.1, 16, .inl sfz)), (sb, .inl (G.2.1, 12000, .inl sfb))]) d_Shelf_takeOut_11 (g_Shelf_sizeOf hl G h sn sz sb sg c sfz sfg i (by first | (with_reducible assumption) | omega (splitDisjunctions := false) | assumption | omega | decide) (by first | (with_reducible assumption) | omega (splitDisjunctions := false) | assumption | omega | decide) (by first | (with_reducible assumption) | omega (splitDisjunctions := false) | assumption | omega | decide)) rfl rfl [4, 3] [0, 1, 2] (by decide) rfl rfl rfl (by decide) (by decide) k_477 rfl k_127 k_474 k_475 k_476 ⟨rfl, hy_Shelf_sizeOf⟩ (by decide) rfl rfl (Nat.le_of_ble_eq_true rfl) (by decide) (fun v9 u8 ch7 => ?_)
    obtain ⟨r_9, rfl⟩ : ∃ z9, z9 = u8 := ⟨_, rfl⟩
    obtain ⟨ech7, ch7⟩ := ch7
    have ech7 : v9 = some (.int r_9) := ech7
    subst ech7
    obtain ⟨fh10, fh11, fh12⟩ : (r_9.toInt = gx sfg (i.toInt + 1) - gx sfg i.toInt) ∧ (0 ≤ r_9.toInt) ∧ (r_9.toInt ≤ 4000) := ch7
    refine pb_eq (pc' := 14) (lo' := [(0, .ref h), (1, .int i)]) (rest' := [.int r_9]) (ws' := [(sn, .inl (G.2.1, 384, .inl sfn)), (sz, .inl (G.2.2.1, 16, .inl sfz)), (sb, .inl (G.2.1, 12000, .inl sfb)), (h, .inr (3, [.ref sn, .ref sz, .ref sb, .ref sg, .int c])), (sg, .inl (G.2.2.1, 17, .inl sfg))]) ?_
    refine pb_istore_n (pc := 14) (lo' := [(2, .int r_9), (0, .ref h), (1, .int i)]) d_Shelf_takeOut_14 rfl (by decide) rfl ?_
    refine pb_aload_n (pc := 15) d_Shelf_takeOut_15 1 rfl rfl ?_
    refine pb_get (pc := 16) d_Shelf_takeOut_16 3 4 rfl rfl (by decide) in_Shelf k_403 rfl ?_
    refine pb_iload_n (pc := 19) d_Shelf_takeOut_19 2 rfl rfl ?_
    refine pb_isub (pc := 20) d_Shelf_takeOut_20 ?_
    refine pb_topi (fun i13 ei13 => ?_)
    try have ti13 : i13.toInt = c.toInt - i.toInt := ti_sub ei13 rfl rfl (by omega) (by omega)
    refine pb_iconst (pc := 21) (v := 1) d_Shelf_takeOut_21 (by decide) ?_
    refine pb_isub (pc := 22) d_Shelf_takeOut_22 ?_
    refine pb_topi (fun i14 ei14 => ?_)
    try have ti14 : i14.toInt = i13.toInt - 1 := ti_sub ei14 rfl (by decide) (by omega) (by omega)
    refine pb_istore_n (pc := 23) (lo' := [(3, .int i14), (2, .int r_9), (0, .ref h), (1, .int i)]) d_Shelf_takeOut_23 rfl (by decide) rfl ?_
    refine pb_aload_n (pc := 24) d_Shelf_takeOut_24 2 rfl rfl ?_
    refine pb_get (pc := 25) d_Shelf_takeOut_25 3 2 rfl rfl (by decide) in_Shelf k_395 rfl ?_
    refine pb_aload_n (pc := 28) d_Shelf_takeOut_28 2 rfl rfl ?_
    refine pb_get (pc := 29) d_Shelf_takeOut_29 3 3 rfl rfl (by decide) in_Shelf k_399 rfl ?_
    refine pb_iload_n (pc := 32) d_Shelf_takeOut_32 3 rfl rfl ?_
    refine pb_iconst (pc := 33) (v := 1) d_Shelf_takeOut_33 (by decide) ?_
    refine pb_iadd (pc := 34) d_Shelf_takeOut_34 ?_
    refine pb_topi (fun i15 ei15 => ?_)
    try have ti15 : i15.toInt = i.toInt + 1 := ti_add ei15 rfl (by decide) (by omega) (by omega)
    refine pb_iald (pc := 35) d_Shelf_takeOut_35 4 rfl (vp_in_iff.mpr (by constructor <;> (first | exact omg_c6455b3fbc fh4 fh5 tw6 ti15 | omega))) ?_
    refine pb_topi (fun i16 ei16 => ?_)
    have ti16 : i16.toInt = gx sfg (i.toInt + 1) := gx_ld ei16 (by omega)
    refine pb_aload_n (pc := 36) d_Shelf_takeOut_36 2 rfl rfl ?_
    refine pb_get (pc := 37) d_Shelf_takeOut_37 3 2 rfl rfl (by decide) in_Shelf k_395 rfl ?_
    refine pb_aload_n (pc := 40) d_Shelf_takeOut_40 2 rfl rfl ?_
    refine pb_get (pc := 41) d_Shelf_takeOut_41 3 3 rfl rfl (by decide) in_Shelf k_399 rfl ?_
    refine pb_iload_n (pc := 44) d_Shelf_takeOut_44 3 rfl rfl ?_
    refine pb_iald (pc := 45) d_Shelf_takeOut_45 4 rfl (vp_in_iff.mpr (by constructor <;> (first | exact omg_9d89c724d8 fh4 fh5 tw6 | omega))) ?_
    refine pb_topi (fun i17 ei17 => ?_)
    have ti17 : i17.toInt = gx sfg (i.toInt) := gx_ld ei17 rfl
    refine pb_aload_n (pc := 46) d_Shelf_takeOut_46 2 rfl rfl ?_
    refine pb_callV (pc := 47) (I := i_Shelf_takeOut) (qb := 3) (ci := 3) (nA := 0) (rest := [.int i17, .ref sb, .int i16, .ref sb]) (wr := [(sn, .inl (G.2.1, 384, .inl sfn)), (sz, .inl (G.2.2.1, 16, .inl sfz)), (sb, .inl (G.2.1, 12000, .inl sfb))]) d_Shelf_takeOut_47 (g_Shelf_inAll hl G h sn sz sb sg c sfz sfg (by first | (with_reducible assumption) | omega (splitDisjunctions := false) | assumption | omega | decide)) rfl rfl [3, 4] [0, 1, 2] (by decide) rfl rfl rfl (by decide) (by decide) k_481 rfl k_127 k_478 k_479 k_480 ⟨rfl, hy_Shelf_inAll⟩ (by decide) rfl rfl (Nat.le_of_ble_eq_true rfl) (by decide) (fun v9 u19 ch18 => ?_)
    obtain ⟨r_20, rfl⟩ : ∃ z9, z9 = u19 := ⟨_, rfl⟩
    obtain ⟨ech18, ch18⟩ := ch18
    have ech18 : v9 = some (.int r_20) := ech18
    subst ech18
    obtain ⟨fh21, fh22, fh23⟩ : (r_20.toInt = gx sfg c.toInt) ∧ (0 ≤ r_20.toInt) ∧ (r_20.toInt ≤ 12000) := ch18
    refine pb_eq (pc' := 50) (lo' := [(3, .int i14), (2, .int r_9), (0, .ref h), (1, .int i)]) (rest' := [.int r_20, .int i17, .ref sb, .int i16, .ref sb]) (ws' := [(sn, .inl (G.2.1, 384, .inl sfn)), (sz, .inl (G.2.2.1, 16, .inl sfz)), (sb, .inl (G.2.1, 12000, .inl sfb)), (h, .inr (3, [.ref sn, .ref sz, .ref sb, .ref sg, .int c])), (sg, .inl (G.2.2.1, 17, .inl sfg))]) ?_
    refine pb_aload_n (pc := 50) d_Shelf_takeOut_50 2 rfl rfl ?_
    refine pb_get (pc := 51) d_Shelf_takeOut_51 3 3 rfl rfl (by decide) in_Shelf k_399 rfl ?_
    refine pb_iload_n (pc := 54) d_Shelf_takeOut_54 3 rfl rfl ?_
    refine pb_iconst (pc := 55) (v := 1) d_Shelf_takeOut_55 (by decide) ?_
    refine pb_iadd (pc := 56) d_Shelf_takeOut_56 ?_
    refine pb_topi (fun i24 ei24 => ?_)
    try have ti24 : i24.toInt = i.toInt + 1 := ti_add ei24 rfl (by decide) (by omega) (by omega)
    refine pb_iald (pc := 57) d_Shelf_takeOut_57 4 rfl (vp_in_iff.mpr (by constructor <;> (first | exact omg_c6455b3fbc fh4 fh5 tw6 ti24 | omega))) ?_
    refine pb_topi (fun i25 ei25 => ?_)
    have ti25 : i25.toInt = gx sfg (i.toInt + 1) := gx_ld ei25 (by omega)
    refine pb_isub (pc := 58) d_Shelf_takeOut_58 ?_
    refine pb_topi (fun i26 ei26 => ?_)
    try have ti26 : i26.toInt = r_20.toInt - i25.toInt := ti_sub ei26 rfl rfl (by omega) (by omega)
    refine pb_copy (pc := 59) (ws' := [(sn, .inl (G.2.1, 384, .inl sfn)), (sz, .inl (G.2.2.1, 16, .inl sfz)), (sb, .inl (G.2.1, 12000, .inl (va_cpy sfb sfb (i16 : Int32).toNatClampNeg (i17 : Int32).toNatClampNeg (i26 : Int32).toNatClampNeg))), (h, .inr (3, [.ref sn, .ref sz, .ref sb, .ref sg, .int c])), (sg, .inl (G.2.2.1, 17, .inl sfg))]) d_Shelf_takeOut_59 0 2 2 rfl rfl rfl rfl k_482 k_484 k_483 k_134 (fun z9 => by have t9 : i16.toInt < 0 := (ti_lt rfl (by decide)).mp z9; omega) (fun z9 => by have t9 : i17.toInt < 0 := (ti_lt rfl (by decide)).mp z9; omega) (fun z9 => by have t9 : i26.toInt < 0 := (ti_lt rfl (by decide)).mp z9; omega) (by have := ti_clamp (x := i16) (by omega); have := ti_clamp (x := i26) (by omega); omega) (by have := ti_clamp (x := i17) (by omega); have := ti_clamp (x := i26) (by omega); omega) (fun i _ => F_sfb _) (by decide) (Nat.le_of_ble_eq_true rfl) rfl ?_
    refine pb_aload_n (pc := 62) d_Shelf_takeOut_62 2 rfl rfl ?_
    refine pb_get (pc := 63) d_Shelf_takeOut_63 3 0 rfl rfl (by decide) in_Shelf k_389 rfl ?_
    refine pb_bipush (pc := 66) (v := 24) d_Shelf_takeOut_66 (by decide) ?_
    refine pb_iload_n (pc := 68) d_Shelf_takeOut_68 3 rfl rfl ?_
    refine pb_iconst (pc := 69) (v := 1) d_Shelf_takeOut_69 (by decide) ?_
    refine pb_iadd (pc := 70) d_Shelf_takeOut_70 ?_
    refine pb_topi (fun i27 ei27 => ?_)
    try have ti27 : i27.toInt = i.toInt + 1 := ti_add ei27 rfl (by decide) (by (exact omg_eb461fd73e fh4 fh5 tw6)) (by (exact omg_c3eaa5cc60 p2 fh4 fh5 tw6))
    refine pb_imul (pc := 71) d_Shelf_takeOut_71 ?_
    refine pb_topi (fun i28 ei28 => ?_)
    try have ti28 : i28.toInt = 24 * i27.toInt := ti_mul ei28 (by decide) rfl (by omega) (by omega)
    refine pb_aload_n (pc := 72) d_Shelf_takeOut_72 2 rfl rfl ?_
    refine pb_get (pc := 73) d_Shelf_takeOut_73 3 0 rfl rfl (by decide) in_Shelf k_389 rfl ?_
    refine pb_bipush (pc := 76) (v := 24) d_Shelf_takeOut_76 (by decide) ?_
    refine pb_iload_n (pc := 78) d_Shelf_takeOut_78 3 rfl rfl ?_
    refine pb_imul (pc := 79) d_Shelf_takeOut_79 ?_
    refine pb_topi (fun i29 ei29 => ?_)
    try have ti29 : i29.toInt = 24 * i.toInt := ti_mul ei29 (by decide) rfl (by (exact omg_1733369d63 fh4 fh5 tw6)) (by omega)
    refine pb_bipush (pc := 80) (v := 24) d_Shelf_takeOut_80 (by decide) ?_
    refine pb_iload_n (pc := 82) d_Shelf_takeOut_82 0 rfl rfl ?_
    refine pb_imul (pc := 83) d_Shelf_takeOut_83 ?_
    refine pb_topi (fun i30 ei30 => ?_)
    try have ti30 : i30.toInt = 24 * i14.toInt := ti_mul ei30 (by decide) rfl (by omega) (by omega)
    refine pb_copy (pc := 84) (ws' := [(sn, .inl (G.2.1, 384, .inl (va_cpy sfn sfn (i28 : Int32).toNatClampNeg (i29 : Int32).toNatClampNeg (i30 : Int32).toNatClampNeg))), (sz, .inl (G.2.2.1, 16, .inl sfz)), (sb, .inl (G.2.1, 12000, .inl (va_cpy sfb sfb (i16 : Int32).toNatClampNeg (i17 : Int32).toNatClampNeg (i26 : Int32).toNatClampNeg))), (h, .inr (3, [.ref sn, .ref sz, .ref sb, .ref sg, .int c])), (sg, .inl (G.2.2.1, 17, .inl sfg))]) d_Shelf_takeOut_84 0 0 0 rfl rfl rfl rfl k_482 k_484 k_483 k_134 (fun z9 => by have t9 : i28.toInt < 0 := (ti_lt rfl (by decide)).mp z9; (exact omg_ee2626293c fh4 fh5 tw6 ti27 ti28 t9)) (fun z9 => by have t9 : i29.toInt < 0 := (ti_lt rfl (by decide)).mp z9; (exact omg_795fcaefb4 fh4 fh5 tw6 ti29 t9)) (fun z9 => by have t9 : i30.toInt < 0 := (ti_lt rfl (by decide)).mp z9; omega) (by have := ti_clamp (x := i28) (by omega); have := ti_clamp (x := i30) (by omega); omega) (by have := ti_clamp (x := i29) (by (exact omg_1f76eecec8 fh4 fh5 tw6 ti29)); have := ti_clamp (x := i30) (by omega); omega) (fun i _ => F_sfn _) (by decide) (Nat.le_of_ble_eq_true rfl) rfl ?_
    refine pb_aload_n (pc := 87) d_Shelf_takeOut_87 2 rfl rfl ?_
    refine pb_get (pc := 88) d_Shelf_takeOut_88 3 1 rfl rfl (by decide) in_Shelf k_392 rfl ?_
    refine pb_iload_n (pc := 91) d_Shelf_takeOut_91 3 rfl rfl ?_
    refine pb_iconst (pc := 92) (v := 1) d_Shelf_takeOut_92 (by decide) ?_
    refine pb_iadd (pc := 93) d_Shelf_takeOut_93 ?_
    refine pb_topi (fun i31 ei31 => ?_)
    try have ti31 : i31.toInt = i.toInt + 1 := ti_add ei31 rfl (by decide) (by (exact omg_eb461fd73e fh4 fh5 tw6)) (by (exact omg_c3eaa5cc60 p2 fh4 fh5 tw6))
    refine pb_aload_n (pc := 94) d_Shelf_takeOut_94 2 rfl rfl ?_
    refine pb_get (pc := 95) d_Shelf_takeOut_95 3 1 rfl rfl (by decide) in_Shelf k_392 rfl ?_
    refine pb_iload_n (pc := 98) d_Shelf_takeOut_98 3 rfl rfl ?_
    refine pb_iload_n (pc := 99) d_Shelf_takeOut_99 0 rfl rfl ?_
    refine pb_copy (pc := 100) (ws' := [(sn, .inl (G.2.1, 384, .inl (va_cpy sfn sfn (i28 : Int32).toNatClampNeg (i29 : Int32).toNatClampNeg (i30 : Int32).toNatClampNeg))), (sz, .inl (G.2.2.1, 16, .inl (va_cpy sfz sfz (i31 : Int32).toNatClampNeg (i : Int32).toNatClampNeg (i14 : Int32).toNatClampNeg))), (sb, .inl (G.2.1, 12000, .inl (va_cpy sfb sfb (i16 : Int32).toNatClampNeg (i17 : Int32).toNatClampNeg (i26 : Int32).toNatClampNeg))), (h, .inr (3, [.ref sn, .ref sz, .ref sb, .ref sg, .int c])), (sg, .inl (G.2.2.1, 17, .inl sfg))]) d_Shelf_takeOut_100 1 1 1 rfl rfl rfl rfl k_482 k_484 k_483 k_134 (fun z9 => by have t9 : i31.toInt < 0 := (ti_lt rfl (by decide)).mp z9; omega) (fun z9 => by have t9 : i.toInt < 0 := (ti_lt rfl (by decide)).mp z9; (exact omg_812ad2ddda fh4 fh5 tw6 t9)) (fun z9 => by have t9 : i14.toInt < 0 := (ti_lt rfl (by decide)).mp z9; omega) (by have := ti_clamp (x := i31) (by (exact omg_c6455b3fbc fh4 fh5 tw6 ti31)); have := ti_clamp (x := i14) (by (exact omg_156978aadd fh4 fh5 tw6 ti13 ti14)); omega) (by have := ti_clamp (x := i) (by (exact omg_9d89c724d8 fh4 fh5 tw6)); have := ti_clamp (x := i14) (by (exact omg_156978aadd fh4 fh5 tw6 ti13 ti14)); omega) (fun _ _ => rfl) (by decide) (Nat.le_of_ble_eq_true rfl) rfl ?_
    refine pb_iload_n (pc := 103) d_Shelf_takeOut_103 3 rfl rfl ?_
    refine pb_istore (pc := 104) (lo' := [(4, .int i), (3, .int i14), (2, .int r_9), (0, .ref h), (1, .int i)]) d_Shelf_takeOut_104 (by decide) rfl ?_
    have hL106_32 : ∀ (N9 : Nat) (k : Int32) (go : Int32) (gg : Nat → Int32) (fn3 : Nat → Int32) (zz : Nat → Int32) (fb3 : Nat → Int32), (sb_Fit fn3) → (sb_Fit fb3) → (0 ≤ i.toInt) → (i.toInt < c.toInt) → (i.toInt ≤ k.toInt) → (k.toInt ≤ c.toInt) → (go.toInt = (gx sfg (i.toInt + 1) - gx sfg i.toInt)) → (∀ j, 0 ≤ j → gx zz j = if i.toInt ≤ j ∧ j < c.toInt - 1 then gx sfz (j + 1) else gx sfz j) → (∀ j, 0 ≤ j → gx gg j = if i.toInt ≤ j ∧ j < k.toInt then gx sfg (j + 1) - (gx sfg (i.toInt + 1) - gx sfg i.toInt) else gx sfg j) → (∀ j : Int, 0 ≤ j → gx fn3 j = if 24 * i.toInt ≤ j ∧ j < 24 * (c.toInt - 1) then gx sfn (j + 24) else gx sfn j) → (∀ j : Int, 0 ≤ j → gr fb3 j = if gx sfg i.toInt ≤ j ∧ j < gx sfg c.toInt - (gx sfg (i.toInt + 1) - gx sfg i.toInt) then gr sfb (j + (gx sfg (i.toInt + 1) - gx sfg i.toInt)) else gr sfb j) → ((c.toInt - k.toInt).toNat) < N9 → pb_P l G M i_Shelf_takeOut 106 [(4, .int k), (2, .int go), (0, .ref h), (1, .int i)] [] [(h, .inr (3, [.ref sn, .ref sz, .ref sb, .ref sg, .int c])), (sn, .inl (G.2.1, 384, .inl fn3)), (sz, .inl (G.2.2.1, 16, .inl zz)), (sb, .inl (G.2.1, 12000, .inl fb3)), (sg, .inl (G.2.2.1, 17, .inl gg))] 0 0 := by
      intro N9
      induction N9 with
      | zero => intro k go gg fn3 zz fb3 F_fn3 F_fb3 hi0 hi1 hk hk2 hgo hz hgg hn3 hb3 hm9; exact absurd hm9 (Nat.not_lt_zero _)
      | succ N9 ih106 =>
        intro k go gg fn3 zz fb3 F_fn3 F_fb3 hi0 hi1 hk hk2 hgo hz hgg hn3 hb3 hm9
        refine pb_iload (pc := 106) d_Shelf_takeOut_106 0 rfl ?_
        refine pb_aload_n (pc := 108) d_Shelf_takeOut_108 2 rfl rfl ?_
        refine pb_get (pc := 109) d_Shelf_takeOut_109 0 4 rfl rfl (by decide) in_Shelf k_403 rfl ?_
        refine pb_icmp_ge (pc := 112) (tgt := 139) d_Shelf_takeOut_112 (by decide) (fun w33 => ?_) (fun w33 => ?_)
        · have tw33 : c.toInt ≤ k.toInt := (ti_le rfl rfl).mp w33
          refine pb_aload_n (pc := 139) d_Shelf_takeOut_139 2 rfl rfl ?_
          refine pb_dup (pc := 140) d_Shelf_takeOut_140 rfl ?_
          refine pb_get (pc := 141) d_Shelf_takeOut_141 0 4 rfl rfl (by decide) in_Shelf k_403 rfl ?_
          refine pb_iconst (pc := 144) (v := 1) d_Shelf_takeOut_144 (by decide) ?_
          refine pb_isub (pc := 145) d_Shelf_takeOut_145 ?_
          refine pb_topi (fun i34 ei34 => ?_)
          try have ti34 : i34.toInt = c.toInt - 1 := ti_sub ei34 rfl (by decide) (by omega) (by (exact omg_106bf30324 p2))
          refine pb_put (pc := 146) (ty := .int) (ws' := [(h, .inr (3, [.ref sn, .ref sz, .ref sb, .ref sg, .int i34])), (sn, .inl (G.2.1, 384, .inl fn3)), (sz, .inl (G.2.2.1, 16, .inl zz)), (sb, .inl (G.2.1, 12000, .inl fb3)), (sg, .inl (G.2.2.1, 17, .inl gg))]) d_Shelf_takeOut_146 0 4 t_Shelf t_Shelf_ok n_Shelf rfl rfl (by decide) in_Shelf k_403 rfl (by decide +kernel) rfl rfl (Nat.le_of_ble_eq_true rfl) rfl ?_
          have kc : k.toInt = c.toInt := by (exact omg_b6ad559467 hk2 tw33)
          rw [kc] at hgg
          have o9 := sh_out I hi0 hi1 hz hgg
          have o8 : i34.toInt = c.toInt - 1 := by omega
          rw [← o8] at o9
          exact pb_vret (pc := 149) hQ d_Shelf_takeOut_149 rfl (i34, fn3, zz, fb3, gg) ⟨rfl, (show sh_I i34.toInt zz gg from o9.1), (show (0 ≤ i.toInt ∧ i.toInt < c.toInt ∧ i34.toInt = c.toInt - 1 ∧ gx gg i34.toInt = gx sfg c.toInt - (gx sfg (i.toInt + 1) - gx sfg i.toInt)) ∨ (¬ (0 ≤ i.toInt ∧ i.toInt < c.toInt) ∧ i34.toInt = c.toInt ∧ gx gg i34.toInt = gx sfg c.toInt) from (by have o7 := o9.2; (try dsimp only); (exact omg_1d7fe3f2c7 hi0 hi1 ti34 o9))), (show (0 ≤ i.toInt ∧ i.toInt < c.toInt → rC_ i34.toInt fn3 zz fb3 gg (vou_ V i.toInt)) ∧ (¬ (0 ≤ i.toInt ∧ i.toInt < c.toInt) → rC_ i34.toInt fn3 zz fb3 gg V) from ⟨fun _ => (by have o6 := rC_out R I hi0 hi1 hz hgg hn3 hb3; rw [← o8] at o6; exact o6), fun q9 => absurd ⟨hi0, hi1⟩ q9⟩), F_fn3, F_fb3⟩ [0, 1, 2, 3, 4] (by decide) rfl rfl (by decide) (by decide)
        · have tw33 : ¬ c.toInt ≤ k.toInt := fun z9 => w33 ((ti_le rfl rfl).mpr z9)
          refine pb_aload_n (pc := 115) d_Shelf_takeOut_115 2 rfl rfl ?_
          refine pb_get (pc := 116) d_Shelf_takeOut_116 0 3 rfl rfl (by decide) in_Shelf k_399 rfl ?_
          refine pb_iload (pc := 119) d_Shelf_takeOut_119 0 rfl ?_
          refine pb_aload_n (pc := 121) d_Shelf_takeOut_121 2 rfl rfl ?_
          refine pb_get (pc := 122) d_Shelf_takeOut_122 0 3 rfl rfl (by decide) in_Shelf k_399 rfl ?_
          refine pb_iload (pc := 125) d_Shelf_takeOut_125 0 rfl ?_
          refine pb_iconst (pc := 127) (v := 1) d_Shelf_takeOut_127 (by decide) ?_
          refine pb_iadd (pc := 128) d_Shelf_takeOut_128 ?_
          refine pb_topi (fun i35 ei35 => ?_)
          try have ti35 : i35.toInt = k.toInt + 1 := ti_add ei35 rfl (by decide) (by (exact omg_b020050bbc hi0 hk)) (by (exact omg_142681d790 p2 tw33))
          refine pb_iald (pc := 129) d_Shelf_takeOut_129 4 rfl (vp_in_iff.mpr (by constructor <;> (first | exact omg_ad66320eb1 hi0 hk ti35 | omega))) ?_
          refine pb_topi (fun i36 ei36 => ?_)
          have ti36 : i36.toInt = gx gg (k.toInt + 1) := gx_ld ei36 (by omega)
          have w1 : gx gg (k.toInt + 1) = gx sfg (k.toInt + 1) := by rw [hgg _ (by (exact omg_7e37fbe9bf hi0 hk)), if_neg (by omega)]
          have y4 := sh_rng I (k := k.toInt + 1) (by omega) (by omega)
          refine pb_iload_n (pc := 130) d_Shelf_takeOut_130 1 rfl rfl ?_
          refine pb_isub (pc := 131) d_Shelf_takeOut_131 ?_
          refine pb_topi (fun i37 ei37 => ?_)
          try have ti37 : i37.toInt = i36.toInt - go.toInt := ti_sub ei37 rfl rfl (by omega) (by omega)
          refine pb_iast (pc := 132) (ws' := [(h, .inr (3, [.ref sn, .ref sz, .ref sb, .ref sg, .int c])), (sn, .inl (G.2.1, 384, .inl fn3)), (sz, .inl (G.2.2.1, 16, .inl zz)), (sb, .inl (G.2.1, 12000, .inl fb3)), (sg, .inl (G.2.2.1, 17, .inl (upd gg ((k : Int32).toNatClampNeg) i37)))]) d_Shelf_takeOut_132 4 rfl (vp_in_iff.mpr (by constructor <;> (first | exact omg_9c7fc39e0c hi0 hk | omega))) rfl ?_
          refine pb_iincN (pc := 133) (c := 1) d_Shelf_takeOut_133 0 rfl (by decide) (by decide) (fun i38 ei38 => ?_)
          have ti38 : i38.toInt = k.toInt + 1 := ti_add ei38 rfl (by decide) (by (exact omg_b020050bbc hi0 hk)) (by (exact omg_142681d790 p2 tw33))
          refine pb_eq (pc' := 136) (lo' := [(4, .int i38), (2, .int go), (0, .ref h), (1, .int i)]) (rest' := []) (ws' := [(h, .inr (3, [.ref sn, .ref sz, .ref sb, .ref sg, .int c])), (sn, .inl (G.2.1, 384, .inl fn3)), (sz, .inl (G.2.2.1, 16, .inl zz)), (sb, .inl (G.2.1, 12000, .inl fb3)), (sg, .inl (G.2.2.1, 17, .inl (upd gg ((k : Int32).toNatClampNeg) i37)))]) ?_
          refine pb_goto (pc := 136) (tgt := 106) d_Shelf_takeOut_136 (by decide) ?_
          exact ih106 i38 go (upd gg ((k : Int32).toNatClampNeg) i37) fn3 zz fb3 F_fn3 F_fb3 (by first | (with_reducible assumption) | omega (splitDisjunctions := false) | assumption | omega | decide) (by first | (with_reducible assumption) | omega (splitDisjunctions := false) | assumption | omega | decide) (by first | (with_reducible assumption) | (exact omg_fa94e12e03 hk ti38) | assumption | omega | decide) (by first | (with_reducible assumption) | (exact omg_1d77bbf042 tw33 ti38) | assumption | omega | decide) (by first | (with_reducible assumption) | omega (splitDisjunctions := false) | assumption | omega | decide) (by first | (with_reducible assumption) | omega (splitDisjunctions := false) | assumption | omega | decide) (sh_gstep hgg (by (exact omg_9c7fc39e0c hi0 hk)) (by omega) (by omega) (by omega)) (by first | (with_reducible assumption) | omega (splitDisjunctions := false) | assumption | omega | decide) (by first | (with_reducible assumption) | omega (splitDisjunctions := false) | assumption | omega | decide) (by (exact omg_7c8a06b1f5 hm9 tw33 ti38))
    refine pb_re (ws' := [(h, .inr (3, [.ref sn, .ref sz, .ref sb, .ref sg, .int c])), (sn, .inl (G.2.1, 384, .inl (va_cpy sfn sfn (i28 : Int32).toNatClampNeg (i29 : Int32).toNatClampNeg (i30 : Int32).toNatClampNeg))), (sz, .inl (G.2.2.1, 16, .inl (va_cpy sfz sfz (i31 : Int32).toNatClampNeg (i : Int32).toNatClampNeg (i14 : Int32).toNatClampNeg))), (sb, .inl (G.2.1, 12000, .inl (va_cpy sfb sfb (i16 : Int32).toNatClampNeg (i17 : Int32).toNatClampNeg (i26 : Int32).toNatClampNeg))), (sg, .inl (G.2.2.1, 17, .inl sfg))]) (lo' := [(4, .int i), (2, .int r_9), (0, .ref h), (1, .int i)]) [3, 0, 1, 2, 4] [0, 2, 3, 4] (by decide) rfl rfl rfl ?_
    exact hL106_32 _ i r_9 sfg (va_cpy sfn sfn (i28 : Int32).toNatClampNeg (i29 : Int32).toNatClampNeg (i30 : Int32).toNatClampNeg) (va_cpy sfz sfz (i31 : Int32).toNatClampNeg (i : Int32).toNatClampNeg (i14 : Int32).toNatClampNeg) (va_cpy sfb sfb (i16 : Int32).toNatClampNeg (i17 : Int32).toNatClampNeg (i26 : Int32).toNatClampNeg) (sb_fitC F_sfn F_sfn) (sb_fitC F_sfb F_sfb) (by first | (with_reducible assumption) | omega (splitDisjunctions := false) | assumption | (exact omg_9d89c724d8 fh4 fh5 tw6) | decide) (by first | (with_reducible assumption) | omega (splitDisjunctions := false) | assumption | (exact omg_58e5b0c77c fh4 fh5 tw6) | decide) (by first | (with_reducible assumption) | omega (splitDisjunctions := false) | assumption | omega | decide) (by first | (with_reducible assumption) | omega (splitDisjunctions := false) | assumption | omega | decide) (by first | (with_reducible assumption) | omega (splitDisjunctions := false) | assumption | omega | decide) (sh_zout (by omega) rfl (by omega) (by omega) (by omega)) (fun j hj => by rw [if_neg (by omega)]) (rn_out (by (exact omg_4b47cd916a ti27 ti28)) (by omega) (by omega) (by (exact omg_9d89c724d8 fh4 fh5 tw6)) (by omega)) (rb_out (by omega) (by omega) (by omega) (by omega) (by omega) (by omega)) (Nat.lt_succ_self _)
  · have tw6 : r_3.toInt = 0 := (ti_eq rfl (by decide)).mp w6
    exact pb_vret (pc := 8) hQ d_Shelf_takeOut_8 rfl (c, sfn, sfz, sfb, sfg) ⟨rfl, I, (by (try dsimp only); first | done | (with_reducible assumption) | omega (splitDisjunctions := false) | assumption | omega | decide), (show (0 ≤ i.toInt ∧ i.toInt < c.toInt → rC_ c.toInt sfn sfz sfb sfg (vou_ V i.toInt)) ∧ (¬ (0 ≤ i.toInt ∧ i.toInt < c.toInt) → rC_ c.toInt sfn sfz sfb sfg V) from ⟨fun q9 => absurd q9 (by omega), fun _ => R⟩), F_sfn, F_sfb⟩ [4, 0, 1, 2, 3] (by decide) rfl rfl (by decide) (by decide)

theorem d_Shelf_isBefore_0 : decode prog_10_method_11_code 0 = .ok (.iconst 0, 1) := by decide +kernel
theorem d_Shelf_isBefore_1 : decode prog_10_method_11_code 1 = .ok (.istore 5, 2) := by decide +kernel
theorem d_Shelf_isBefore_3 : decode prog_10_method_11_code 3 = .ok (.iload 5, 2) := by decide +kernel
theorem d_Shelf_isBefore_5 : decode prog_10_method_11_code 5 = .ok (.iload 4, 2) := by decide +kernel
theorem d_Shelf_isBefore_7 : decode prog_10_method_11_code 7 = .ok (.if_icmp .ge 57, 3) := by decide +kernel
theorem d_Shelf_isBefore_64 : decode prog_10_method_11_code 64 = .ok (.aload_n 0, 1) := by decide +kernel
theorem d_Shelf_isBefore_65 : decode prog_10_method_11_code 65 = .ok (.getfield 15, 3) := by decide +kernel
theorem d_Shelf_isBefore_68 : decode prog_10_method_11_code 68 = .ok (.iload_n 1, 1) := by decide +kernel
theorem d_Shelf_isBefore_69 : decode prog_10_method_11_code 69 = .ok (.iaload, 1) := by decide +kernel
theorem d_Shelf_isBefore_70 : decode prog_10_method_11_code 70 = .ok (.iload 4, 2) := by decide +kernel
theorem d_Shelf_isBefore_72 : decode prog_10_method_11_code 72 = .ok (.if_icmp .ge 7, 3) := by decide +kernel
theorem d_Shelf_isBefore_79 : decode prog_10_method_11_code 79 = .ok (.iconst 0, 1) := by decide +kernel
theorem d_Shelf_isBefore_80 : decode prog_10_method_11_code 80 = .ok (.ireturn, 1) := by decide +kernel
theorem d_Shelf_isBefore_75 : decode prog_10_method_11_code 75 = .ok (.iconst 1, 1) := by decide +kernel
theorem d_Shelf_isBefore_76 : decode prog_10_method_11_code 76 = .ok (.goto 4, 3) := by decide +kernel
theorem d_Shelf_isBefore_10 : decode prog_10_method_11_code 10 = .ok (.iload 5, 2) := by decide +kernel
theorem d_Shelf_isBefore_12 : decode prog_10_method_11_code 12 = .ok (.aload_n 0, 1) := by decide +kernel
theorem d_Shelf_isBefore_13 : decode prog_10_method_11_code 13 = .ok (.getfield 15, 3) := by decide +kernel
theorem d_Shelf_isBefore_16 : decode prog_10_method_11_code 16 = .ok (.iload_n 1, 1) := by decide +kernel
theorem d_Shelf_isBefore_17 : decode prog_10_method_11_code 17 = .ok (.iaload, 1) := by decide +kernel
theorem d_Shelf_isBefore_18 : decode prog_10_method_11_code 18 = .ok (.if_icmp .ge 46, 3) := by decide +kernel
theorem d_Shelf_isBefore_21 : decode prog_10_method_11_code 21 = .ok (.aload_n 0, 1) := by decide +kernel
theorem d_Shelf_isBefore_22 : decode prog_10_method_11_code 22 = .ok (.getfield 9, 3) := by decide +kernel
theorem d_Shelf_isBefore_25 : decode prog_10_method_11_code 25 = .ok (.bipush 24, 2) := by decide +kernel
theorem d_Shelf_isBefore_27 : decode prog_10_method_11_code 27 = .ok (.iload_n 1, 1) := by decide +kernel
theorem d_Shelf_isBefore_28 : decode prog_10_method_11_code 28 = .ok (.imul, 1) := by decide +kernel
theorem d_Shelf_isBefore_29 : decode prog_10_method_11_code 29 = .ok (.iload 5, 2) := by decide +kernel
theorem d_Shelf_isBefore_31 : decode prog_10_method_11_code 31 = .ok (.iadd, 1) := by decide +kernel
theorem d_Shelf_isBefore_32 : decode prog_10_method_11_code 32 = .ok (.baload, 1) := by decide +kernel
theorem d_Shelf_isBefore_33 : decode prog_10_method_11_code 33 = .ok (.aload_n 2, 1) := by decide +kernel
theorem d_Shelf_isBefore_34 : decode prog_10_method_11_code 34 = .ok (.iload_n 3, 1) := by decide +kernel
theorem d_Shelf_isBefore_35 : decode prog_10_method_11_code 35 = .ok (.iload 5, 2) := by decide +kernel
theorem d_Shelf_isBefore_37 : decode prog_10_method_11_code 37 = .ok (.iadd, 1) := by decide +kernel
theorem d_Shelf_isBefore_38 : decode prog_10_method_11_code 38 = .ok (.baload, 1) := by decide +kernel
theorem d_Shelf_isBefore_39 : decode prog_10_method_11_code 39 = .ok (.isub, 1) := by decide +kernel
theorem d_Shelf_isBefore_40 : decode prog_10_method_11_code 40 = .ok (.istore 6, 2) := by decide +kernel
theorem d_Shelf_isBefore_42 : decode prog_10_method_11_code 42 = .ok (.iload 6, 2) := by decide +kernel
theorem d_Shelf_isBefore_44 : decode prog_10_method_11_code 44 = .ok (.ifCond .eq 14, 3) := by decide +kernel
theorem d_Shelf_isBefore_58 : decode prog_10_method_11_code 58 = .ok (.iinc 5 1, 3) := by decide +kernel
theorem d_Shelf_isBefore_61 : decode prog_10_method_11_code 61 = .ok (.goto (-58), 3) := by decide +kernel
theorem d_Shelf_isBefore_47 : decode prog_10_method_11_code 47 = .ok (.iload 6, 2) := by decide +kernel
theorem d_Shelf_isBefore_49 : decode prog_10_method_11_code 49 = .ok (.ifCond .ge 7, 3) := by decide +kernel
theorem d_Shelf_isBefore_56 : decode prog_10_method_11_code 56 = .ok (.iconst 0, 1) := by decide +kernel
theorem d_Shelf_isBefore_57 : decode prog_10_method_11_code 57 = .ok (.ireturn, 1) := by decide +kernel
theorem d_Shelf_isBefore_52 : decode prog_10_method_11_code 52 = .ok (.iconst 1, 1) := by decide +kernel
theorem d_Shelf_isBefore_53 : decode prog_10_method_11_code 53 = .ok (.goto 4, 3) := by decide +kernel
abbrev y_Shelf_isBefore : MethodName := ⟨"PackageBook$Shelf", "isBefore", "(I[BII)Z"⟩
abbrev i_Shelf_isBefore : pb_I := (y_Shelf_isBefore, prog_10_method_11_code, 7, (some Jvm.ClassFile.FieldType.boolean), [], { frames := 0, cells := 0, slots := 0, locals := 0 })
set_option maxRecDepth 100000 in
set_option maxHeartbeats 4000000 in
theorem g_Shelf_isBefore {l : Launch} (hl : l.stackTraces = false) (G : pb_G) (h : Nat) (sn : Nat) (sz : Nat) (sb : Nat) (sg : Nat) (c : Int32) (sfn : Nat → Int32) (sfz : Nat → Int32) (b : Nat) (N : Nat) (f : Nat → Int32) (sfg : Nat → Int32) (i : Int32) (x : Int32) (n : Int32) (V : VW_) (R : rN_ c.toInt sfn sfz V) (n0 : 0 ≤ n.toInt) (I : sh_I c.toInt sfz sfg) (h0 : 0 ≤ x.toInt) (h1 : x.toInt + n.toInt ≤ N) (h2 : N ≤ 1000000) (h3 : 0 ≤ i.toInt) (h4 : i.toInt < c.toInt) (F_sfn : sb_Fit sfn) (F_f : sb_Fit f) : Cn l G i_Shelf_isBefore [.ref h, .int i, .ref b, .int x, .int n] [(h, .inr (3, [.ref sn, .ref sz, .ref sb, .ref sg, .int c])), (sn, .inl (G.2.1, 384, .inl sfn)), (sz, .inl (G.2.2.1, 16, .inl sfz)), (b, .inl (G.2.1, N, .inl f))] (S := Int32) (fun rv_ u => rv_ = some (.int u) ∧ (u.toInt = 0 ∨ u.toInt = 1) ∧ (u.toInt = 1 → lx_ (vN V i.toInt) (vZ V i.toInt) (fun k => gx f (x.toInt + k)) n.toInt) ∧ (u.toInt = 0 → ¬ lx_ (vN V i.toInt) (vZ V i.toInt) (fun k => gx f (x.toInt + k)) n.toInt)) (fun u => [(h, .inr (3, [.ref sn, .ref sz, .ref sb, .ref sg, .int c])), (sn, .inl (G.2.1, 384, .inl sfn)), (sz, .inl (G.2.2.1, 16, .inl sfz)), (b, .inl (G.2.1, N, .inl f))]) := by
  refine Cn.of hl (by decide +kernel) rfl (Nat.le_of_ble_eq_true rfl) (fun M hQ => ?_)
  refine pb_eq (pc' := 0) (lo' := [(0, .ref h), (1, .int i), (2, .ref b), (3, .int x), (4, .int n)]) (rest' := []) (ws' := [(h, .inr (3, [.ref sn, .ref sz, .ref sb, .ref sg, .int c])), (sn, .inl (G.2.1, 384, .inl sfn)), (sz, .inl (G.2.2.1, 16, .inl sfz)), (b, .inl (G.2.1, N, .inl f))]) ?_
  have zl0 : (0 : Int32).toInt = 0 := by decide
  have zl1 : (1 : Int32).toInt = 1 := by decide
  have zl24 : (24 : Int32).toInt = 24 := by decide
  have p2 := I.2.1
  have p5 := I.2.2.2.2 i.toInt (by omega) (by omega)
  have Ri := R.2 i.toInt h3 h4
  have Rz := Ri.1
  refine pb_iconst (pc := 0) (v := 0) d_Shelf_isBefore_0 (by decide) ?_
  refine pb_istore (pc := 1) (lo' := [(5, .int 0), (0, .ref h), (1, .int i), (2, .ref b), (3, .int x), (4, .int n)]) d_Shelf_isBefore_1 (by decide) rfl ?_
  have hL3_1 : ∀ (N9 : Nat) (k : Int32), (0 ≤ k.toInt) → (k.toInt ≤ n.toInt) → (k.toInt ≤ gx sfz i.toInt) → (∀ j : Int, 0 ≤ j → j < k.toInt → vN V i.toInt j = (fun k => gx f (x.toInt + k)) j) → ((n.toInt - k.toInt).toNat) < N9 → pb_P l G M i_Shelf_isBefore 3 [(5, .int k), (0, .ref h), (1, .int i), (2, .ref b), (3, .int x), (4, .int n)] [] [(h, .inr (3, [.ref sn, .ref sz, .ref sb, .ref sg, .int c])), (sn, .inl (G.2.1, 384, .inl sfn)), (sz, .inl (G.2.2.1, 16, .inl sfz)), (b, .inl (G.2.1, N, .inl f))] 0 0 := by
    intro N9
    induction N9 with
    | zero => intro k hk hk2 hk3 hp hm9; exact absurd hm9 (Nat.not_lt_zero _)
    | succ N9 ih3 =>
      intro k hk hk2 hk3 hp hm9
      refine pb_iload (pc := 3) d_Shelf_isBefore_3 0 rfl ?_
      refine pb_iload (pc := 5) d_Shelf_isBefore_5 5 rfl ?_
      refine pb_icmp_ge (pc := 7) (tgt := 64) d_Shelf_isBefore_7 (by decide) (fun w2 => ?_) (fun w2 => ?_)
      · have tw2 : n.toInt ≤ k.toInt := (ti_le rfl rfl).mp w2
        refine pb_aload_n (pc := 64) d_Shelf_isBefore_64 1 rfl rfl ?_
        refine pb_get (pc := 65) d_Shelf_isBefore_65 0 1 rfl rfl (by decide) in_Shelf k_392 rfl ?_
        refine pb_iload_n (pc := 68) d_Shelf_isBefore_68 2 rfl rfl ?_
        refine pb_iald (pc := 69) d_Shelf_isBefore_69 2 rfl (vp_in_iff.mpr (by constructor <;> omega)) ?_
        refine pb_topi (fun i3 ei3 => ?_)
        have ti3 : i3.toInt = gx sfz (i.toInt) := gx_ld ei3 rfl
        refine pb_iload (pc := 70) d_Shelf_isBefore_70 5 rfl ?_
        refine pb_icmp_ge (pc := 72) (tgt := 79) d_Shelf_isBefore_72 (by decide) (fun w4 => ?_) (fun w4 => ?_)
        · have tw4 : n.toInt ≤ i3.toInt := (ti_le rfl rfl).mp w4
          refine pb_iconst (pc := 79) (v := 0) d_Shelf_isBefore_79 (by decide) ?_
          exact pb_iret (pc := 80) hQ d_Shelf_isBefore_80 rfl rfl (0) ⟨rfl, (by (try dsimp only); first | done | (with_reducible assumption) | omega (splitDisjunctions := false) | assumption | omega | decide), (show (0 : Int32).toInt = 1 → lx_ (vN V i.toInt) (vZ V i.toInt) (fun k => gx f (x.toInt + k)) n.toInt from (by first | exact fun q9 => absurd q9 (by omega) | exact fun _ => lx_e1 hk hp (by omega) (by omega) (by omega) (by omega))), (show (0 : Int32).toInt = 0 → ¬ lx_ (vN V i.toInt) (vZ V i.toInt) (fun k => gx f (x.toInt + k)) n.toInt from (by first | exact fun q9 => absurd q9 (by omega) | exact fun _ => lx_e0 hk hp (by omega) (by omega) (by omega) (by omega)))⟩ [0, 1, 2, 3] (by decide) rfl rfl (by decide) (by decide)
        · have tw4 : ¬ n.toInt ≤ i3.toInt := fun z9 => w4 ((ti_le rfl rfl).mpr z9)
          refine pb_iconst (pc := 75) (v := 1) d_Shelf_isBefore_75 (by decide) ?_
          refine pb_goto (pc := 76) (tgt := 80) d_Shelf_isBefore_76 (by decide) ?_
          exact pb_iret (pc := 80) hQ d_Shelf_isBefore_80 rfl rfl (1) ⟨rfl, (by (try dsimp only); first | done | (with_reducible assumption) | omega (splitDisjunctions := false) | assumption | omega | decide), (show (1 : Int32).toInt = 1 → lx_ (vN V i.toInt) (vZ V i.toInt) (fun k => gx f (x.toInt + k)) n.toInt from (by first | exact fun q9 => absurd q9 (by omega) | exact fun _ => lx_e1 hk hp (by omega) (by omega) (by omega) (by omega))), (show (1 : Int32).toInt = 0 → ¬ lx_ (vN V i.toInt) (vZ V i.toInt) (fun k => gx f (x.toInt + k)) n.toInt from (by first | exact fun q9 => absurd q9 (by omega) | exact fun _ => lx_e0 hk hp (by omega) (by omega) (by omega) (by omega)))⟩ [0, 1, 2, 3] (by decide) rfl rfl (by decide) (by decide)
      · have tw2 : ¬ n.toInt ≤ k.toInt := fun z9 => w2 ((ti_le rfl rfl).mpr z9)
        refine pb_iload (pc := 10) d_Shelf_isBefore_10 0 rfl ?_
        refine pb_aload_n (pc := 12) d_Shelf_isBefore_12 1 rfl rfl ?_
        refine pb_get (pc := 13) d_Shelf_isBefore_13 0 1 rfl rfl (by decide) in_Shelf k_392 rfl ?_
        refine pb_iload_n (pc := 16) d_Shelf_isBefore_16 2 rfl rfl ?_
        refine pb_iald (pc := 17) d_Shelf_isBefore_17 2 rfl (vp_in_iff.mpr (by constructor <;> omega)) ?_
        refine pb_topi (fun i5 ei5 => ?_)
        have ti5 : i5.toInt = gx sfz (i.toInt) := gx_ld ei5 rfl
        refine pb_icmp_ge (pc := 18) (tgt := 64) d_Shelf_isBefore_18 (by decide) (fun w6 => ?_) (fun w6 => ?_)
        · have tw6 : i5.toInt ≤ k.toInt := (ti_le rfl rfl).mp w6
          refine pb_aload_n (pc := 64) d_Shelf_isBefore_64 1 rfl rfl ?_
          refine pb_get (pc := 65) d_Shelf_isBefore_65 0 1 rfl rfl (by decide) in_Shelf k_392 rfl ?_
          refine pb_iload_n (pc := 68) d_Shelf_isBefore_68 2 rfl rfl ?_
          refine pb_iald (pc := 69) d_Shelf_isBefore_69 2 rfl (vp_in_iff.mpr (by constructor <;> omega)) ?_
          refine pb_topi (fun i7 ei7 => ?_)
          have ti7 : i7.toInt = gx sfz (i.toInt) := gx_ld ei7 rfl
          refine pb_iload (pc := 70) d_Shelf_isBefore_70 5 rfl ?_
          refine pb_icmp_ge (pc := 72) (tgt := 79) d_Shelf_isBefore_72 (by decide) (fun w8 => ?_) (fun w8 => ?_)
          · have tw8 : n.toInt ≤ i7.toInt := (ti_le rfl rfl).mp w8
            refine pb_iconst (pc := 79) (v := 0) d_Shelf_isBefore_79 (by decide) ?_
            exact pb_iret (pc := 80) hQ d_Shelf_isBefore_80 rfl rfl (0) ⟨rfl, (by (try dsimp only); first | done | (with_reducible assumption) | omega (splitDisjunctions := false) | assumption | omega | decide), (show (0 : Int32).toInt = 1 → lx_ (vN V i.toInt) (vZ V i.toInt) (fun k => gx f (x.toInt + k)) n.toInt from (by first | exact fun q9 => absurd q9 (by omega) | exact fun _ => lx_e1 hk hp (by omega) (by omega) (by omega) (by omega))), (show (0 : Int32).toInt = 0 → ¬ lx_ (vN V i.toInt) (vZ V i.toInt) (fun k => gx f (x.toInt + k)) n.toInt from (by first | exact fun q9 => absurd q9 (by omega) | exact fun _ => lx_e0 hk hp (by omega) (by omega) (by omega) (by omega)))⟩ [0, 1, 2, 3] (by decide) rfl rfl (by decide) (by decide)
          · have tw8 : ¬ n.toInt ≤ i7.toInt := fun z9 => w8 ((ti_le rfl rfl).mpr z9)
            refine pb_iconst (pc := 75) (v := 1) d_Shelf_isBefore_75 (by decide) ?_
            refine pb_goto (pc := 76) (tgt := 80) d_Shelf_isBefore_76 (by decide) ?_
            exact pb_iret (pc := 80) hQ d_Shelf_isBefore_80 rfl rfl (1) ⟨rfl, (by (try dsimp only); first | done | (with_reducible assumption) | omega (splitDisjunctions := false) | assumption | omega | decide), (show (1 : Int32).toInt = 1 → lx_ (vN V i.toInt) (vZ V i.toInt) (fun k => gx f (x.toInt + k)) n.toInt from (by first | exact fun q9 => absurd q9 (by omega) | exact fun _ => lx_e1 hk hp (by omega) (by omega) (by omega) (by omega))), (show (1 : Int32).toInt = 0 → ¬ lx_ (vN V i.toInt) (vZ V i.toInt) (fun k => gx f (x.toInt + k)) n.toInt from (by first | exact fun q9 => absurd q9 (by omega) | exact fun _ => lx_e0 hk hp (by omega) (by omega) (by omega) (by omega)))⟩ [0, 1, 2, 3] (by decide) rfl rfl (by decide) (by decide)
        · have tw6 : ¬ i5.toInt ≤ k.toInt := fun z9 => w6 ((ti_le rfl rfl).mpr z9)
          refine pb_aload_n (pc := 21) d_Shelf_isBefore_21 1 rfl rfl ?_
          refine pb_get (pc := 22) d_Shelf_isBefore_22 0 0 rfl rfl (by decide) in_Shelf k_389 rfl ?_
          refine pb_bipush (pc := 25) (v := 24) d_Shelf_isBefore_25 (by decide) ?_
          refine pb_iload_n (pc := 27) d_Shelf_isBefore_27 2 rfl rfl ?_
          refine pb_imul (pc := 28) d_Shelf_isBefore_28 ?_
          refine pb_topi (fun i9 ei9 => ?_)
          try have ti9 : i9.toInt = 24 * i.toInt := ti_mul ei9 (by decide) rfl (by omega) (by omega)
          refine pb_iload (pc := 29) d_Shelf_isBefore_29 0 rfl ?_
          refine pb_iadd (pc := 31) d_Shelf_isBefore_31 ?_
          refine pb_topi (fun i10 ei10 => ?_)
          try have ti10 : i10.toInt = i9.toInt + k.toInt := ti_add ei10 rfl rfl (by omega) (by omega)
          refine pb_bald (pc := 32) d_Shelf_isBefore_32 1 rfl (vp_in_iff.mpr (by constructor <;> omega)) ?_
          refine pb_topi (fun i11 ei11 => ?_)
          have xi11 : i11 = gr sfn (24 * i.toInt + k.toInt) := gr_ld ei11 (by omega)
          have yi11 : i11.toInt = gx sfn (24 * i.toInt + k.toInt) := congrArg Int32.toInt xi11
          have ti11 : -128 ≤ i11.toInt ∧ i11.toInt ≤ 127 := ti_fit (F_sfn _) ei11
          refine pb_aload_n (pc := 33) d_Shelf_isBefore_33 3 rfl rfl ?_
          refine pb_iload_n (pc := 34) d_Shelf_isBefore_34 4 rfl rfl ?_
          refine pb_iload (pc := 35) d_Shelf_isBefore_35 0 rfl ?_
          refine pb_iadd (pc := 37) d_Shelf_isBefore_37 ?_
          refine pb_topi (fun i12 ei12 => ?_)
          try have ti12 : i12.toInt = x.toInt + k.toInt := ti_add ei12 rfl rfl (by omega) (by omega)
          refine pb_bald (pc := 38) d_Shelf_isBefore_38 3 rfl (vp_in_iff.mpr (by constructor <;> (first | exact omg_5e255a2854 h0 hk ti12 | omega))) ?_
          refine pb_topi (fun i13 ei13 => ?_)
          have xi13 : i13 = gr f (x.toInt + k.toInt) := gr_ld ei13 (by omega)
          have yi13 : i13.toInt = gx f (x.toInt + k.toInt) := congrArg Int32.toInt xi13
          have ti13 : -128 ≤ i13.toInt ∧ i13.toInt ≤ 127 := ti_fit (F_f _) ei13
          refine pb_isub (pc := 39) d_Shelf_isBefore_39 ?_
          refine pb_topi (fun i14 ei14 => ?_)
          try have ti14 : i14.toInt = i11.toInt - i13.toInt := ti_sub ei14 rfl rfl (by omega) (by omega)
          refine pb_istore (pc := 40) (lo' := [(6, .int i14), (5, .int k), (0, .ref h), (1, .int i), (2, .ref b), (3, .int x), (4, .int n)]) d_Shelf_isBefore_40 (by decide) rfl ?_
          refine pb_iload (pc := 42) d_Shelf_isBefore_42 0 rfl ?_
          refine pb_if_eq (pc := 44) (tgt := 58) d_Shelf_isBefore_44 (by decide) (fun w15 => ?_) (fun w15 => ?_)
          · have tw15 : i14.toInt = 0 := (ti_eq rfl (by decide)).mp w15
            refine pb_iincN (pc := 58) (c := 1) d_Shelf_isBefore_58 1 rfl (by decide) (by decide) (fun i16 ei16 => ?_)
            have ti16 : i16.toInt = k.toInt + 1 := ti_add ei16 rfl (by decide) (by omega) (by omega)
            refine pb_eq (pc' := 61) (lo' := [(5, .int i16), (6, .int i14), (0, .ref h), (1, .int i), (2, .ref b), (3, .int x), (4, .int n)]) (rest' := []) (ws' := [(h, .inr (3, [.ref sn, .ref sz, .ref sb, .ref sg, .int c])), (sn, .inl (G.2.1, 384, .inl sfn)), (sz, .inl (G.2.2.1, 16, .inl sfz)), (b, .inl (G.2.1, N, .inl f))]) ?_
            refine pb_goto (pc := 61) (tgt := 3) d_Shelf_isBefore_61 (by decide) ?_
            refine pb_re (ws' := [(h, .inr (3, [.ref sn, .ref sz, .ref sb, .ref sg, .int c])), (sn, .inl (G.2.1, 384, .inl sfn)), (sz, .inl (G.2.2.1, 16, .inl sfz)), (b, .inl (G.2.1, N, .inl f))]) (lo' := [(5, .int i16), (0, .ref h), (1, .int i), (2, .ref b), (3, .int x), (4, .int n)]) [0, 1, 2, 3] [0, 2, 3, 4, 5, 6] (by decide) rfl rfl rfl ?_
            exact ih3 i16 (by first | (with_reducible assumption) | omega (splitDisjunctions := false) | assumption | omega | decide) (by first | (with_reducible assumption) | omega (splitDisjunctions := false) | assumption | omega | decide) (by first | (with_reducible assumption) | omega (splitDisjunctions := false) | assumption | omega | decide) (lp_st hp (by omega) (by have q7 := Ri.2 k.toInt hk (by omega); show vN V i.toInt k.toInt = gx f (x.toInt + k.toInt); omega)) (by (exact omg_7c8a06b1f5 hm9 tw2 ti16))
          · have tw15 : ¬ i14.toInt = 0 := fun z9 => w15 ((ti_eq rfl (by decide)).mpr z9)
            refine pb_iload (pc := 47) d_Shelf_isBefore_47 0 rfl ?_
            refine pb_if_ge (pc := 49) (tgt := 56) d_Shelf_isBefore_49 (by decide) (fun w17 => ?_) (fun w17 => ?_)
            · have tw17 : 0 ≤ i14.toInt := (ti_le (by decide) rfl).mp w17
              refine pb_iconst (pc := 56) (v := 0) d_Shelf_isBefore_56 (by decide) ?_
              exact pb_iret (pc := 57) hQ d_Shelf_isBefore_57 rfl rfl (0) ⟨rfl, (by (try dsimp only); first | done | (with_reducible assumption) | omega (splitDisjunctions := false) | assumption | omega | decide), (show (0 : Int32).toInt = 1 → lx_ (vN V i.toInt) (vZ V i.toInt) (fun k => gx f (x.toInt + k)) n.toInt from (by first | exact fun q9 => absurd q9 (by omega) | exact fun _ => lx_lo hk hp (by omega) (by omega) (by have q7 := Ri.2 k.toInt hk (by omega); show vN V i.toInt k.toInt < gx f (x.toInt + k.toInt); omega))), (show (0 : Int32).toInt = 0 → ¬ lx_ (vN V i.toInt) (vZ V i.toInt) (fun k => gx f (x.toInt + k)) n.toInt from (by first | exact fun q9 => absurd q9 (by omega) | exact fun _ => lx_hi hk hp (by omega) (by omega) (by have q7 := Ri.2 k.toInt hk (by omega); show gx f (x.toInt + k.toInt) < vN V i.toInt k.toInt; omega)))⟩ [0, 1, 2, 3] (by decide) rfl rfl (by decide) (by decide)
            · have tw17 : ¬ 0 ≤ i14.toInt := fun z9 => w17 ((ti_le (by decide) rfl).mpr z9)
              refine pb_iconst (pc := 52) (v := 1) d_Shelf_isBefore_52 (by decide) ?_
              refine pb_goto (pc := 53) (tgt := 57) d_Shelf_isBefore_53 (by decide) ?_
              exact pb_iret (pc := 57) hQ d_Shelf_isBefore_57 rfl rfl (1) ⟨rfl, (by (try dsimp only); first | done | (with_reducible assumption) | omega (splitDisjunctions := false) | assumption | omega | decide), (show (1 : Int32).toInt = 1 → lx_ (vN V i.toInt) (vZ V i.toInt) (fun k => gx f (x.toInt + k)) n.toInt from (by first | exact fun q9 => absurd q9 (by omega) | exact fun _ => lx_lo hk hp (by omega) (by omega) (by have q7 := Ri.2 k.toInt hk (by omega); show vN V i.toInt k.toInt < gx f (x.toInt + k.toInt); omega))), (show (1 : Int32).toInt = 0 → ¬ lx_ (vN V i.toInt) (vZ V i.toInt) (fun k => gx f (x.toInt + k)) n.toInt from (by first | exact fun q9 => absurd q9 (by omega) | exact fun _ => lx_hi hk hp (by omega) (by omega) (by have q7 := Ri.2 k.toInt hk (by omega); show gx f (x.toInt + k.toInt) < vN V i.toInt k.toInt; omega)))⟩ [0, 1, 2, 3] (by decide) rfl rfl (by decide) (by decide)
  exact hL3_1 _ 0 (by first | (with_reducible assumption) | omega (splitDisjunctions := false) | assumption | omega | decide) (by first | (with_reducible assumption) | omega (splitDisjunctions := false) | assumption | omega | decide) (by first | (with_reducible assumption) | omega (splitDisjunctions := false) | assumption | omega | decide) (fun j h0 h1 => absurd h1 (by omega)) (Nat.lt_succ_self _)

theorem d_Shelf_placeOf_0 : decode prog_10_method_10_code 0 = .ok (.iconst 0, 1) := by decide +kernel
theorem d_Shelf_placeOf_1 : decode prog_10_method_10_code 1 = .ok (.istore 4, 2) := by decide +kernel
theorem d_Shelf_placeOf_3 : decode prog_10_method_10_code 3 = .ok (.iload 4, 2) := by decide +kernel
theorem d_Shelf_placeOf_5 : decode prog_10_method_10_code 5 = .ok (.aload_n 0, 1) := by decide +kernel
theorem d_Shelf_placeOf_6 : decode prog_10_method_10_code 6 = .ok (.getfield 25, 3) := by decide +kernel
theorem d_Shelf_placeOf_9 : decode prog_10_method_10_code 9 = .ok (.if_icmp .ge 21, 3) := by decide +kernel
theorem d_Shelf_placeOf_30 : decode prog_10_method_10_code 30 = .ok (.iload 4, 2) := by decide +kernel
theorem d_Shelf_placeOf_32 : decode prog_10_method_10_code 32 = .ok (.ireturn, 1) := by decide +kernel
theorem d_Shelf_placeOf_12 : decode prog_10_method_10_code 12 = .ok (.aload_n 0, 1) := by decide +kernel
theorem d_Shelf_placeOf_13 : decode prog_10_method_10_code 13 = .ok (.iload 4, 2) := by decide +kernel
theorem d_Shelf_placeOf_15 : decode prog_10_method_10_code 15 = .ok (.aload_n 1, 1) := by decide +kernel
theorem d_Shelf_placeOf_16 : decode prog_10_method_10_code 16 = .ok (.iload_n 2, 1) := by decide +kernel
theorem d_Shelf_placeOf_17 : decode prog_10_method_10_code 17 = .ok (.iload_n 3, 1) := by decide +kernel
theorem d_Shelf_placeOf_18 : decode prog_10_method_10_code 18 = .ok (.invokevirtual 55, 3) := by decide +kernel
theorem k_705 : (Jvm.Cond.methodLink "PackageBook$Shelf" (55 : Nat) ({ cls := "PackageBook$Shelf", name := "isBefore", desc := "(I[BII)Z" } : Jvm.MethodName)) ∈ uW := uW_c2 108 rfl (by decide +kernel)
theorem k_708 : (Jvm.Cond.code ({ cls := "PackageBook$Shelf", name := "isBefore", desc := "(I[BII)Z" } : Jvm.MethodName) prog_10_method_11_code (7 : Nat) (Option.some Jvm.ClassFile.FieldType.boolean)) ∈ uW := uW_c2 111 rfl (by decide +kernel)
theorem k_707 : (Jvm.Cond.instanceMethod ({ cls := "PackageBook$Shelf", name := "isBefore", desc := "(I[BII)Z" } : Jvm.MethodName)) ∈ uW := uW_c2 110 rfl (by decide +kernel)
theorem k_27 : Cond.selects "PackageBook$Shelf" ⟨"PackageBook$Shelf", "isBefore", "(I[BII)Z"⟩ ⟨"PackageBook$Shelf", "isBefore", "(I[BII)Z"⟩ ∈ uW := uW_of 27 (by decide +kernel) (by decide +kernel)
theorem hy_Shelf_isBefore : (y_Shelf_isBefore).cls ≠ "java/lang/invoke/MethodHandle" ∧ (y_Shelf_isBefore).cls ≠ "java/lang/invoke/VarHandle" ∧ (parseMethodDescriptor (y_Shelf_isBefore).desc).map (fun d => d.parameters.length) = some 4 := by decide +kernel
theorem d_Shelf_placeOf_21 : decode prog_10_method_10_code 21 = .ok (.ifCond .eq 9, 3) := by decide +kernel
theorem d_Shelf_placeOf_24 : decode prog_10_method_10_code 24 = .ok (.iinc 4 1, 3) := by decide +kernel
theorem d_Shelf_placeOf_27 : decode prog_10_method_10_code 27 = .ok (.goto (-24), 3) := by decide +kernel
abbrev y_Shelf_placeOf : MethodName := ⟨"PackageBook$Shelf", "placeOf", "([BII)I"⟩
abbrev i_Shelf_placeOf : pb_I := (y_Shelf_placeOf, prog_10_method_10_code, 5, (some Jvm.ClassFile.FieldType.int), [], { frames := 1, cells := 0, slots := 0, locals := 26 })
set_option maxRecDepth 100000 in
set_option maxHeartbeats 4000000 in
theorem g_Shelf_placeOf {l : Launch} (hl : l.stackTraces = false) (G : pb_G) (h : Nat) (sn : Nat) (sz : Nat) (sb : Nat) (sg : Nat) (c : Int32) (sfn : Nat → Int32) (sfz : Nat → Int32) (b : Nat) (N : Nat) (f : Nat → Int32) (sfg : Nat → Int32) (x : Int32) (n : Int32) (V : VW_) (R : rN_ c.toInt sfn sfz V) (n0 : 0 ≤ n.toInt) (I : sh_I c.toInt sfz sfg) (h0 : 0 ≤ x.toInt) (h1 : x.toInt + n.toInt ≤ N) (h2 : N ≤ 1000000) (F_sfn : sb_Fit sfn) (F_f : sb_Fit f) : Cn l G i_Shelf_placeOf [.ref h, .ref b, .int x, .int n] [(h, .inr (3, [.ref sn, .ref sz, .ref sb, .ref sg, .int c])), (sn, .inl (G.2.1, 384, .inl sfn)), (sz, .inl (G.2.2.1, 16, .inl sfz)), (b, .inl (G.2.1, N, .inl f))] (S := Int32) (fun rv_ u => rv_ = some (.int u) ∧ (0 ≤ u.toInt) ∧ (u.toInt ≤ c.toInt) ∧ (∀ j : Int, 0 ≤ j → j < u.toInt → lx_ (vN V j) (vZ V j) (fun k => gx f (x.toInt + k)) n.toInt) ∧ (u.toInt < c.toInt → ¬ lx_ (vN V u.toInt) (vZ V u.toInt) (fun k => gx f (x.toInt + k)) n.toInt)) (fun u => [(h, .inr (3, [.ref sn, .ref sz, .ref sb, .ref sg, .int c])), (sn, .inl (G.2.1, 384, .inl sfn)), (sz, .inl (G.2.2.1, 16, .inl sfz)), (b, .inl (G.2.1, N, .inl f))]) := by
  refine Cn.of hl (by decide +kernel) rfl (Nat.le_of_ble_eq_true rfl) (fun M hQ => ?_)
  refine pb_eq (pc' := 0) (lo' := [(0, .ref h), (1, .ref b), (2, .int x), (3, .int n)]) (rest' := []) (ws' := [(h, .inr (3, [.ref sn, .ref sz, .ref sb, .ref sg, .int c])), (sn, .inl (G.2.1, 384, .inl sfn)), (sz, .inl (G.2.2.1, 16, .inl sfz)), (b, .inl (G.2.1, N, .inl f))]) ?_
  have zl0 : (0 : Int32).toInt = 0 := by decide
  have zl1 : (1 : Int32).toInt = 1 := by decide
  have p1 := I.1
  have p2 := I.2.1
  refine pb_iconst (pc := 0) (v := 0) d_Shelf_placeOf_0 (by decide) ?_
  refine pb_istore (pc := 1) (lo' := [(4, .int 0), (0, .ref h), (1, .ref b), (2, .int x), (3, .int n)]) d_Shelf_placeOf_1 (by decide) rfl ?_
  have hL3_1 : ∀ (N9 : Nat) (i : Int32), (0 ≤ i.toInt) → (i.toInt ≤ c.toInt) → (∀ j : Int, 0 ≤ j → j < i.toInt → lx_ (vN V j) (vZ V j) (fun k => gx f (x.toInt + k)) n.toInt) → ((c.toInt - i.toInt).toNat) < N9 → pb_P l G M i_Shelf_placeOf 3 [(4, .int i), (0, .ref h), (1, .ref b), (2, .int x), (3, .int n)] [] [(h, .inr (3, [.ref sn, .ref sz, .ref sb, .ref sg, .int c])), (sn, .inl (G.2.1, 384, .inl sfn)), (sz, .inl (G.2.2.1, 16, .inl sfz)), (b, .inl (G.2.1, N, .inl f))] 0 0 := by
    intro N9
    induction N9 with
    | zero => intro i hi hi2 hlx hm9; exact absurd hm9 (Nat.not_lt_zero _)
    | succ N9 ih3 =>
      intro i hi hi2 hlx hm9
      refine pb_iload (pc := 3) d_Shelf_placeOf_3 0 rfl ?_
      refine pb_aload_n (pc := 5) d_Shelf_placeOf_5 1 rfl rfl ?_
      refine pb_get (pc := 6) d_Shelf_placeOf_6 0 4 rfl rfl (by decide) in_Shelf k_403 rfl ?_
      refine pb_icmp_ge (pc := 9) (tgt := 30) d_Shelf_placeOf_9 (by decide) (fun w2 => ?_) (fun w2 => ?_)
      · have tw2 : c.toInt ≤ i.toInt := (ti_le rfl rfl).mp w2
        refine pb_iload (pc := 30) d_Shelf_placeOf_30 0 rfl ?_
        exact pb_iret (pc := 32) hQ d_Shelf_placeOf_32 rfl rfl (i) ⟨rfl, (by (try dsimp only); first | done | (with_reducible assumption) | omega (splitDisjunctions := false) | assumption | omega | decide), (by (try dsimp only); first | done | (with_reducible assumption) | omega (splitDisjunctions := false) | assumption | omega | decide), hlx, (show i.toInt < c.toInt → ¬ lx_ (vN V i.toInt) (vZ V i.toInt) (fun k => gx f (x.toInt + k)) n.toInt from (by first | exact fun q9 => absurd q9 (by omega) | exact fun _ => b0F (by omega)))⟩ [0, 1, 2, 3] (by decide) rfl rfl (by decide) (by decide)
      · have tw2 : ¬ c.toInt ≤ i.toInt := fun z9 => w2 ((ti_le rfl rfl).mpr z9)
        refine pb_aload_n (pc := 12) d_Shelf_placeOf_12 1 rfl rfl ?_
        refine pb_iload (pc := 13) d_Shelf_placeOf_13 0 rfl ?_
        refine pb_aload_n (pc := 15) d_Shelf_placeOf_15 2 rfl rfl ?_
        refine pb_iload_n (pc := 16) d_Shelf_placeOf_16 3 rfl rfl ?_
        refine pb_iload_n (pc := 17) d_Shelf_placeOf_17 4 rfl rfl ?_
        refine pb_callV (pc := 18) (I := i_Shelf_placeOf) (qb := 0) (ci := 3) (nA := 4) (rest := []) (wr := []) d_Shelf_placeOf_18 (g_Shelf_isBefore hl G h sn sz sb sg c sfn sfz b N f sfg i x n V (by first | (with_reducible assumption) | omega (splitDisjunctions := false) | assumption | omega | decide) (by first | (with_reducible assumption) | omega (splitDisjunctions := false) | assumption | omega | decide) (by first | (with_reducible assumption) | omega (splitDisjunctions := false) | assumption | omega | decide) (by first | (with_reducible assumption) | omega (splitDisjunctions := false) | assumption | omega | decide) (by first | (with_reducible assumption) | omega (splitDisjunctions := false) | assumption | omega | decide) (by first | (with_reducible assumption) | omega (splitDisjunctions := false) | assumption | omega | decide) (by first | (with_reducible assumption) | omega (splitDisjunctions := false) | assumption | omega | decide) (by first | (with_reducible assumption) | omega (splitDisjunctions := false) | assumption | omega | decide) F_sfn F_f) rfl rfl [0, 1, 2, 3] [] (by decide) rfl rfl rfl (by decide) (by decide) k_708 rfl k_127 k_705 k_707 k_27 ⟨rfl, hy_Shelf_isBefore⟩ (by decide) rfl rfl (Nat.le_of_ble_eq_true rfl) (by decide) (fun v9 u4 ch3 => ?_)
        obtain ⟨r_5, rfl⟩ : ∃ z9, z9 = u4 := ⟨_, rfl⟩
        obtain ⟨ech3, ch3⟩ := ch3
        have ech3 : v9 = some (.int r_5) := ech3
        subst ech3
        obtain ⟨fh6, fh7, fh8⟩ : (r_5.toInt = 0 ∨ r_5.toInt = 1) ∧ (r_5.toInt = 1 → lx_ (vN V i.toInt) (vZ V i.toInt) (fun k => gx f (x.toInt + k)) n.toInt) ∧ (r_5.toInt = 0 → ¬ lx_ (vN V i.toInt) (vZ V i.toInt) (fun k => gx f (x.toInt + k)) n.toInt) := ch3
        have b1F := fh7
        have b0F := fh8
        refine pb_eq (pc' := 21) (lo' := [(4, .int i), (0, .ref h), (1, .ref b), (2, .int x), (3, .int n)]) (rest' := [.int r_5]) (ws' := [(h, .inr (3, [.ref sn, .ref sz, .ref sb, .ref sg, .int c])), (sn, .inl (G.2.1, 384, .inl sfn)), (sz, .inl (G.2.2.1, 16, .inl sfz)), (b, .inl (G.2.1, N, .inl f))]) ?_
        refine pb_if_eq (pc := 21) (tgt := 30) d_Shelf_placeOf_21 (by decide) (fun w9 => ?_) (fun w9 => ?_)
        · have tw9 : r_5.toInt = 0 := (ti_eq rfl (by decide)).mp w9
          refine pb_iload (pc := 30) d_Shelf_placeOf_30 0 rfl ?_
          exact pb_iret (pc := 32) hQ d_Shelf_placeOf_32 rfl rfl (i) ⟨rfl, (by (try dsimp only); first | done | (with_reducible assumption) | omega (splitDisjunctions := false) | assumption | omega | decide), (by (try dsimp only); first | done | (with_reducible assumption) | omega (splitDisjunctions := false) | assumption | omega | decide), hlx, (show i.toInt < c.toInt → ¬ lx_ (vN V i.toInt) (vZ V i.toInt) (fun k => gx f (x.toInt + k)) n.toInt from (by first | exact fun q9 => absurd q9 (by omega) | exact fun _ => b0F (by omega)))⟩ [0, 1, 2, 3] (by decide) rfl rfl (by decide) (by decide)
        · have tw9 : ¬ r_5.toInt = 0 := fun z9 => w9 ((ti_eq rfl (by decide)).mpr z9)
          refine pb_iincN (pc := 24) (c := 1) d_Shelf_placeOf_24 0 rfl (by decide) (by decide) (fun i10 ei10 => ?_)
          have ti10 : i10.toInt = i.toInt + 1 := ti_add ei10 rfl (by decide) (by omega) (by omega)
          refine pb_eq (pc' := 27) (lo' := [(4, .int i10), (0, .ref h), (1, .ref b), (2, .int x), (3, .int n)]) (rest' := []) (ws' := [(h, .inr (3, [.ref sn, .ref sz, .ref sb, .ref sg, .int c])), (sn, .inl (G.2.1, 384, .inl sfn)), (sz, .inl (G.2.2.1, 16, .inl sfz)), (b, .inl (G.2.1, N, .inl f))]) ?_
          refine pb_goto (pc := 27) (tgt := 3) d_Shelf_placeOf_27 (by decide) ?_
          exact ih3 i10 (by first | (with_reducible assumption) | omega (splitDisjunctions := false) | assumption | omega | decide) (by first | (with_reducible assumption) | omega (splitDisjunctions := false) | assumption | omega | decide) (ll_st hlx (by omega) (b1F (by (exact omg_d9c3f42b32 fh6 tw9)))) (by (exact omg_7c8a06b1f5 hm9 tw2 ti10))
  exact hL3_1 _ 0 (by first | (with_reducible assumption) | omega (splitDisjunctions := false) | assumption | omega | decide) (by first | (with_reducible assumption) | omega (splitDisjunctions := false) | assumption | omega | decide) (fun j h0 h1 => absurd h1 (by omega)) (Nat.lt_succ_self _)

theorem d_Shelf_bringIn_0 : decode prog_10_method_9_code 0 = .ok (.aload_n 0, 1) := by decide +kernel
theorem d_Shelf_bringIn_1 : decode prog_10_method_9_code 1 = .ok (.aload_n 1, 1) := by decide +kernel
theorem d_Shelf_bringIn_2 : decode prog_10_method_9_code 2 = .ok (.iload_n 2, 1) := by decide +kernel
theorem d_Shelf_bringIn_3 : decode prog_10_method_9_code 3 = .ok (.iload_n 3, 1) := by decide +kernel
theorem d_Shelf_bringIn_4 : decode prog_10_method_9_code 4 = .ok (.invokevirtual 51, 3) := by decide +kernel
theorem k_701 : (Jvm.Cond.methodLink "PackageBook$Shelf" (51 : Nat) ({ cls := "PackageBook$Shelf", name := "placeOf", desc := "([BII)I" } : Jvm.MethodName)) ∈ uW := uW_c2 104 rfl (by decide +kernel)
theorem k_704 : (Jvm.Cond.code ({ cls := "PackageBook$Shelf", name := "placeOf", desc := "([BII)I" } : Jvm.MethodName) prog_10_method_10_code (5 : Nat) (Option.some Jvm.ClassFile.FieldType.int)) ∈ uW := uW_c2 107 rfl (by decide +kernel)
theorem k_703 : (Jvm.Cond.instanceMethod ({ cls := "PackageBook$Shelf", name := "placeOf", desc := "([BII)I" } : Jvm.MethodName)) ∈ uW := uW_c2 106 rfl (by decide +kernel)
theorem k_26 : Cond.selects "PackageBook$Shelf" ⟨"PackageBook$Shelf", "placeOf", "([BII)I"⟩ ⟨"PackageBook$Shelf", "placeOf", "([BII)I"⟩ ∈ uW := uW_of 26 (by decide +kernel) (by decide +kernel)
theorem hy_Shelf_placeOf : (y_Shelf_placeOf).cls ≠ "java/lang/invoke/MethodHandle" ∧ (y_Shelf_placeOf).cls ≠ "java/lang/invoke/VarHandle" ∧ (parseMethodDescriptor (y_Shelf_placeOf).desc).map (fun d => d.parameters.length) = some 3 := by decide +kernel
theorem d_Shelf_bringIn_7 : decode prog_10_method_9_code 7 = .ok (.istore 7, 2) := by decide +kernel
theorem d_Shelf_bringIn_9 : decode prog_10_method_9_code 9 = .ok (.aload_n 0, 1) := by decide +kernel
theorem d_Shelf_bringIn_10 : decode prog_10_method_9_code 10 = .ok (.getfield 25, 3) := by decide +kernel
theorem d_Shelf_bringIn_13 : decode prog_10_method_9_code 13 = .ok (.iload 7, 2) := by decide +kernel
theorem d_Shelf_bringIn_15 : decode prog_10_method_9_code 15 = .ok (.isub, 1) := by decide +kernel
theorem d_Shelf_bringIn_16 : decode prog_10_method_9_code 16 = .ok (.istore 8, 2) := by decide +kernel
theorem d_Shelf_bringIn_18 : decode prog_10_method_9_code 18 = .ok (.aload_n 0, 1) := by decide +kernel
theorem d_Shelf_bringIn_19 : decode prog_10_method_9_code 19 = .ok (.getfield 19, 3) := by decide +kernel
theorem d_Shelf_bringIn_22 : decode prog_10_method_9_code 22 = .ok (.aload_n 0, 1) := by decide +kernel
theorem d_Shelf_bringIn_23 : decode prog_10_method_9_code 23 = .ok (.getfield 22, 3) := by decide +kernel
theorem d_Shelf_bringIn_26 : decode prog_10_method_9_code 26 = .ok (.iload 7, 2) := by decide +kernel
theorem d_Shelf_bringIn_28 : decode prog_10_method_9_code 28 = .ok (.iaload, 1) := by decide +kernel
theorem d_Shelf_bringIn_29 : decode prog_10_method_9_code 29 = .ok (.aload_n 0, 1) := by decide +kernel
theorem d_Shelf_bringIn_30 : decode prog_10_method_9_code 30 = .ok (.getfield 19, 3) := by decide +kernel
theorem d_Shelf_bringIn_33 : decode prog_10_method_9_code 33 = .ok (.aload_n 0, 1) := by decide +kernel
theorem d_Shelf_bringIn_34 : decode prog_10_method_9_code 34 = .ok (.getfield 22, 3) := by decide +kernel
theorem d_Shelf_bringIn_37 : decode prog_10_method_9_code 37 = .ok (.iload 7, 2) := by decide +kernel
theorem d_Shelf_bringIn_39 : decode prog_10_method_9_code 39 = .ok (.iaload, 1) := by decide +kernel
theorem d_Shelf_bringIn_40 : decode prog_10_method_9_code 40 = .ok (.iload 6, 2) := by decide +kernel
theorem d_Shelf_bringIn_42 : decode prog_10_method_9_code 42 = .ok (.iadd, 1) := by decide +kernel
theorem d_Shelf_bringIn_43 : decode prog_10_method_9_code 43 = .ok (.aload_n 0, 1) := by decide +kernel
theorem d_Shelf_bringIn_44 : decode prog_10_method_9_code 44 = .ok (.invokevirtual 41, 3) := by decide +kernel
theorem d_Shelf_bringIn_47 : decode prog_10_method_9_code 47 = .ok (.aload_n 0, 1) := by decide +kernel
theorem d_Shelf_bringIn_48 : decode prog_10_method_9_code 48 = .ok (.getfield 22, 3) := by decide +kernel
theorem d_Shelf_bringIn_51 : decode prog_10_method_9_code 51 = .ok (.iload 7, 2) := by decide +kernel
theorem d_Shelf_bringIn_53 : decode prog_10_method_9_code 53 = .ok (.iaload, 1) := by decide +kernel
theorem d_Shelf_bringIn_54 : decode prog_10_method_9_code 54 = .ok (.isub, 1) := by decide +kernel
theorem d_Shelf_bringIn_55 : decode prog_10_method_9_code 55 = .ok (.invokestatic 45, 3) := by decide +kernel
theorem d_Shelf_bringIn_58 : decode prog_10_method_9_code 58 = .ok (.aload_n 0, 1) := by decide +kernel
theorem d_Shelf_bringIn_59 : decode prog_10_method_9_code 59 = .ok (.getfield 9, 3) := by decide +kernel
theorem d_Shelf_bringIn_62 : decode prog_10_method_9_code 62 = .ok (.bipush 24, 2) := by decide +kernel
theorem d_Shelf_bringIn_64 : decode prog_10_method_9_code 64 = .ok (.iload 7, 2) := by decide +kernel
theorem d_Shelf_bringIn_66 : decode prog_10_method_9_code 66 = .ok (.imul, 1) := by decide +kernel
theorem d_Shelf_bringIn_67 : decode prog_10_method_9_code 67 = .ok (.aload_n 0, 1) := by decide +kernel
theorem d_Shelf_bringIn_68 : decode prog_10_method_9_code 68 = .ok (.getfield 9, 3) := by decide +kernel
theorem d_Shelf_bringIn_71 : decode prog_10_method_9_code 71 = .ok (.bipush 24, 2) := by decide +kernel
theorem d_Shelf_bringIn_73 : decode prog_10_method_9_code 73 = .ok (.iload 7, 2) := by decide +kernel
theorem d_Shelf_bringIn_75 : decode prog_10_method_9_code 75 = .ok (.iconst 1, 1) := by decide +kernel
theorem d_Shelf_bringIn_76 : decode prog_10_method_9_code 76 = .ok (.iadd, 1) := by decide +kernel
theorem d_Shelf_bringIn_77 : decode prog_10_method_9_code 77 = .ok (.imul, 1) := by decide +kernel
theorem d_Shelf_bringIn_78 : decode prog_10_method_9_code 78 = .ok (.bipush 24, 2) := by decide +kernel
theorem d_Shelf_bringIn_80 : decode prog_10_method_9_code 80 = .ok (.iload 8, 2) := by decide +kernel
theorem d_Shelf_bringIn_82 : decode prog_10_method_9_code 82 = .ok (.imul, 1) := by decide +kernel
theorem d_Shelf_bringIn_83 : decode prog_10_method_9_code 83 = .ok (.invokestatic 45, 3) := by decide +kernel
theorem d_Shelf_bringIn_86 : decode prog_10_method_9_code 86 = .ok (.aload_n 0, 1) := by decide +kernel
theorem d_Shelf_bringIn_87 : decode prog_10_method_9_code 87 = .ok (.getfield 15, 3) := by decide +kernel
theorem d_Shelf_bringIn_90 : decode prog_10_method_9_code 90 = .ok (.iload 7, 2) := by decide +kernel
theorem d_Shelf_bringIn_92 : decode prog_10_method_9_code 92 = .ok (.aload_n 0, 1) := by decide +kernel
theorem d_Shelf_bringIn_93 : decode prog_10_method_9_code 93 = .ok (.getfield 15, 3) := by decide +kernel
theorem d_Shelf_bringIn_96 : decode prog_10_method_9_code 96 = .ok (.iload 7, 2) := by decide +kernel
theorem d_Shelf_bringIn_98 : decode prog_10_method_9_code 98 = .ok (.iconst 1, 1) := by decide +kernel
theorem d_Shelf_bringIn_99 : decode prog_10_method_9_code 99 = .ok (.iadd, 1) := by decide +kernel
theorem d_Shelf_bringIn_100 : decode prog_10_method_9_code 100 = .ok (.iload 8, 2) := by decide +kernel
theorem d_Shelf_bringIn_102 : decode prog_10_method_9_code 102 = .ok (.invokestatic 45, 3) := by decide +kernel
theorem d_Shelf_bringIn_105 : decode prog_10_method_9_code 105 = .ok (.aload_n 0, 1) := by decide +kernel
theorem d_Shelf_bringIn_106 : decode prog_10_method_9_code 106 = .ok (.getfield 25, 3) := by decide +kernel
theorem d_Shelf_bringIn_109 : decode prog_10_method_9_code 109 = .ok (.istore 9, 2) := by decide +kernel
theorem d_Shelf_bringIn_111 : decode prog_10_method_9_code 111 = .ok (.iload 9, 2) := by decide +kernel
theorem d_Shelf_bringIn_113 : decode prog_10_method_9_code 113 = .ok (.iload 7, 2) := by decide +kernel
theorem d_Shelf_bringIn_115 : decode prog_10_method_9_code 115 = .ok (.if_icmp .lt 28, 3) := by decide +kernel
theorem d_Shelf_bringIn_143 : decode prog_10_method_9_code 143 = .ok (.aload_n 1, 1) := by decide +kernel
theorem d_Shelf_bringIn_144 : decode prog_10_method_9_code 144 = .ok (.iload_n 2, 1) := by decide +kernel
theorem d_Shelf_bringIn_145 : decode prog_10_method_9_code 145 = .ok (.aload_n 0, 1) := by decide +kernel
theorem d_Shelf_bringIn_146 : decode prog_10_method_9_code 146 = .ok (.getfield 9, 3) := by decide +kernel
theorem d_Shelf_bringIn_149 : decode prog_10_method_9_code 149 = .ok (.bipush 24, 2) := by decide +kernel
theorem d_Shelf_bringIn_151 : decode prog_10_method_9_code 151 = .ok (.iload 7, 2) := by decide +kernel
theorem d_Shelf_bringIn_153 : decode prog_10_method_9_code 153 = .ok (.imul, 1) := by decide +kernel
theorem d_Shelf_bringIn_154 : decode prog_10_method_9_code 154 = .ok (.iload_n 3, 1) := by decide +kernel
theorem d_Shelf_bringIn_155 : decode prog_10_method_9_code 155 = .ok (.invokestatic 45, 3) := by decide +kernel
theorem d_Shelf_bringIn_158 : decode prog_10_method_9_code 158 = .ok (.aload 4, 2) := by decide +kernel
theorem d_Shelf_bringIn_160 : decode prog_10_method_9_code 160 = .ok (.iload 5, 2) := by decide +kernel
theorem d_Shelf_bringIn_162 : decode prog_10_method_9_code 162 = .ok (.aload_n 0, 1) := by decide +kernel
theorem d_Shelf_bringIn_163 : decode prog_10_method_9_code 163 = .ok (.getfield 19, 3) := by decide +kernel
theorem d_Shelf_bringIn_166 : decode prog_10_method_9_code 166 = .ok (.aload_n 0, 1) := by decide +kernel
theorem d_Shelf_bringIn_167 : decode prog_10_method_9_code 167 = .ok (.getfield 22, 3) := by decide +kernel
theorem d_Shelf_bringIn_170 : decode prog_10_method_9_code 170 = .ok (.iload 7, 2) := by decide +kernel
theorem d_Shelf_bringIn_172 : decode prog_10_method_9_code 172 = .ok (.iaload, 1) := by decide +kernel
theorem d_Shelf_bringIn_173 : decode prog_10_method_9_code 173 = .ok (.iload 6, 2) := by decide +kernel
theorem d_Shelf_bringIn_175 : decode prog_10_method_9_code 175 = .ok (.invokestatic 45, 3) := by decide +kernel
theorem d_Shelf_bringIn_178 : decode prog_10_method_9_code 178 = .ok (.aload_n 0, 1) := by decide +kernel
theorem d_Shelf_bringIn_179 : decode prog_10_method_9_code 179 = .ok (.getfield 15, 3) := by decide +kernel
theorem d_Shelf_bringIn_182 : decode prog_10_method_9_code 182 = .ok (.iload 7, 2) := by decide +kernel
theorem d_Shelf_bringIn_184 : decode prog_10_method_9_code 184 = .ok (.iload_n 3, 1) := by decide +kernel
theorem d_Shelf_bringIn_185 : decode prog_10_method_9_code 185 = .ok (.iastore, 1) := by decide +kernel
theorem d_Shelf_bringIn_186 : decode prog_10_method_9_code 186 = .ok (.aload_n 0, 1) := by decide +kernel
theorem d_Shelf_bringIn_187 : decode prog_10_method_9_code 187 = .ok (.dup, 1) := by decide +kernel
theorem d_Shelf_bringIn_188 : decode prog_10_method_9_code 188 = .ok (.getfield 25, 3) := by decide +kernel
theorem d_Shelf_bringIn_191 : decode prog_10_method_9_code 191 = .ok (.iconst 1, 1) := by decide +kernel
theorem d_Shelf_bringIn_192 : decode prog_10_method_9_code 192 = .ok (.iadd, 1) := by decide +kernel
theorem d_Shelf_bringIn_193 : decode prog_10_method_9_code 193 = .ok (.putfield 25, 3) := by decide +kernel
theorem d_Shelf_bringIn_196 : decode prog_10_method_9_code 196 = .ok (.return_, 1) := by decide +kernel
theorem d_Shelf_bringIn_118 : decode prog_10_method_9_code 118 = .ok (.aload_n 0, 1) := by decide +kernel
theorem d_Shelf_bringIn_119 : decode prog_10_method_9_code 119 = .ok (.getfield 22, 3) := by decide +kernel
theorem d_Shelf_bringIn_122 : decode prog_10_method_9_code 122 = .ok (.iload 9, 2) := by decide +kernel
theorem d_Shelf_bringIn_124 : decode prog_10_method_9_code 124 = .ok (.iconst 1, 1) := by decide +kernel
theorem d_Shelf_bringIn_125 : decode prog_10_method_9_code 125 = .ok (.iadd, 1) := by decide +kernel
theorem d_Shelf_bringIn_126 : decode prog_10_method_9_code 126 = .ok (.aload_n 0, 1) := by decide +kernel
theorem d_Shelf_bringIn_127 : decode prog_10_method_9_code 127 = .ok (.getfield 22, 3) := by decide +kernel
theorem d_Shelf_bringIn_130 : decode prog_10_method_9_code 130 = .ok (.iload 9, 2) := by decide +kernel
theorem d_Shelf_bringIn_132 : decode prog_10_method_9_code 132 = .ok (.iaload, 1) := by decide +kernel
theorem d_Shelf_bringIn_133 : decode prog_10_method_9_code 133 = .ok (.iload 6, 2) := by decide +kernel
theorem d_Shelf_bringIn_135 : decode prog_10_method_9_code 135 = .ok (.iadd, 1) := by decide +kernel
theorem d_Shelf_bringIn_136 : decode prog_10_method_9_code 136 = .ok (.iastore, 1) := by decide +kernel
theorem d_Shelf_bringIn_137 : decode prog_10_method_9_code 137 = .ok (.iinc 9 (-1), 3) := by decide +kernel
theorem d_Shelf_bringIn_140 : decode prog_10_method_9_code 140 = .ok (.goto (-29), 3) := by decide +kernel
abbrev y_Shelf_bringIn : MethodName := ⟨"PackageBook$Shelf", "bringIn", "([BII[BII)V"⟩
abbrev i_Shelf_bringIn : pb_I := (y_Shelf_bringIn, prog_10_method_9_code, 10, (Option.none : Option Jvm.ClassFile.FieldType), [], { frames := 2, cells := 0, slots := 0, locals := 60 })
set_option maxRecDepth 100000 in
set_option maxHeartbeats 4000000 in
theorem g_Shelf_bringIn {l : Launch} (hl : l.stackTraces = false) (G : pb_G) (h : Nat) (sn : Nat) (sz : Nat) (sb : Nat) (sg : Nat) (c : Int32) (sfn : Nat → Int32) (sfz : Nat → Int32) (sfb : Nat → Int32) (sfg : Nat → Int32) (b : Nat) (N : Nat) (f : Nat → Int32) (b2 : Nat) (N2 : Nat) (f2 : Nat → Int32) (x : Int32) (n : Int32) (y : Int32) (m : Int32) (V : VW_) (R : rC_ c.toInt sfn sfz sfb sfg V) (I : sh_I c.toInt sfz sfg) (h0 : 0 ≤ x.toInt) (h1 : x.toInt + n.toInt ≤ N) (h2 : 1 ≤ n.toInt) (h3 : n.toInt ≤ 24) (h4 : 0 ≤ y.toInt) (h5 : y.toInt + m.toInt ≤ N2) (h6 : 0 ≤ m.toInt) (h7 : m.toInt ≤ 4000) (h8 : c.toInt < 16) (h9_ : gx sfg c.toInt + m.toInt ≤ 12000) (hN : N ≤ 1000000) (hN2 : N2 ≤ 1000000) (F_sfn : sb_Fit sfn) (F_sfb : sb_Fit sfb) (F_f : sb_Fit f) (F_f2 : sb_Fit f2) : Cn l G i_Shelf_bringIn [.ref h, .ref b, .int x, .int n, .ref b2, .int y, .int m] [(h, .inr (3, [.ref sn, .ref sz, .ref sb, .ref sg, .int c])), (sn, .inl (G.2.1, 384, .inl sfn)), (sz, .inl (G.2.2.1, 16, .inl sfz)), (sb, .inl (G.2.1, 12000, .inl sfb)), (sg, .inl (G.2.2.1, 17, .inl sfg)), (b, .inl (G.2.1, N, .inl f)), (b2, .inl (G.2.1, N2, .inl f2))] (S := Int32 × (Nat → Int32) × (Nat → Int32) × (Nat → Int32) × (Nat → Int32)) (fun rv_ u => rv_ = none ∧ (sh_I u.1.toInt u.2.2.1 u.2.2.2.2) ∧ (u.1.toInt = c.toInt + 1) ∧ (gx u.2.2.2.2 u.1.toInt = gx sfg c.toInt + m.toInt) ∧ (hid_ (∃ r : Int, 0 ≤ r ∧ r ≤ c.toInt ∧ (∀ j : Int, 0 ≤ j → j < r → lx_ (vN V j) (vZ V j) (fun k => gx f (x.toInt + k)) n.toInt) ∧ (r < c.toInt → ¬ lx_ (vN V r) (vZ V r) (fun k => gx f (x.toInt + k)) n.toInt) ∧ rC_ u.1.toInt u.2.1 u.2.2.1 u.2.2.2.1 u.2.2.2.2 (vin_ V r n.toInt (fun k => gx f (x.toInt + k)) m.toInt (fun k => gr f2 (y.toInt + k))))) ∧ (sb_Fit u.2.1) ∧ (sb_Fit u.2.2.2.1)) (fun u => [(h, .inr (3, [.ref sn, .ref sz, .ref sb, .ref sg, .int u.1])), (sn, .inl (G.2.1, 384, .inl u.2.1)), (sz, .inl (G.2.2.1, 16, .inl u.2.2.1)), (sb, .inl (G.2.1, 12000, .inl u.2.2.2.1)), (sg, .inl (G.2.2.1, 17, .inl u.2.2.2.2)), (b, .inl (G.2.1, N, .inl f)), (b2, .inl (G.2.1, N2, .inl f2))]) := by
  refine Cn.of hl (by decide +kernel) rfl (Nat.le_of_ble_eq_true rfl) (fun M hQ => ?_)
  refine pb_eq (pc' := 0) (lo' := [(0, .ref h), (1, .ref b), (2, .int x), (3, .int n), (4, .ref b2), (5, .int y), (6, .int m)]) (rest' := []) (ws' := [(h, .inr (3, [.ref sn, .ref sz, .ref sb, .ref sg, .int c])), (sn, .inl (G.2.1, 384, .inl sfn)), (sz, .inl (G.2.2.1, 16, .inl sfz)), (sb, .inl (G.2.1, 12000, .inl sfb)), (sg, .inl (G.2.2.1, 17, .inl sfg)), (b, .inl (G.2.1, N, .inl f)), (b2, .inl (G.2.1, N2, .inl f2))]) ?_
  have zm1 : ((-1) : Int32).toInt = (-1) := by decide
  have zl0 : (0 : Int32).toInt = 0 := by decide
  have zl1 : (1 : Int32).toInt = 1 := by decide
  have zl24 : (24 : Int32).toInt = 24 := by decide
  have p1 := I.1
  have p2 := I.2.1
  refine pb_aload_n (pc := 0) d_Shelf_bringIn_0 0 rfl rfl ?_
  refine pb_aload_n (pc := 1) d_Shelf_bringIn_1 1 rfl rfl ?_
  refine pb_iload_n (pc := 2) d_Shelf_bringIn_2 2 rfl rfl ?_
  refine pb_iload_n (pc := 3) d_Shelf_bringIn_3 3 rfl rfl ?_
  refine pb_callV (pc := 4) (I := i_Shelf_bringIn) (qb := 0) (ci := 3) (nA := 3) (rest := []) (wr := [(sb, .inl (G.2.1, 12000, .inl sfb)), (sg, .inl (G.2.2.1, 17, .inl sfg)), (b2, .inl (G.2.1, N2, .inl f2))]) d_Shelf_bringIn_4 (g_Shelf_placeOf hl G h sn sz sb sg c sfn sfz b N f sfg x n V (rC_N R) (by first | (with_reducible assumption) | omega (splitDisjunctions := false) | assumption | omega | decide) (by first | (with_reducible assumption) | omega (splitDisjunctions := false) | assumption | omega | decide) (by first | (with_reducible assumption) | omega (splitDisjunctions := false) | assumption | omega | decide) (by first | (with_reducible assumption) | omega (splitDisjunctions := false) | assumption | omega | decide) (by first | (with_reducible assumption) | omega (splitDisjunctions := false) | assumption | omega | decide) F_sfn F_f) rfl rfl [0, 1, 2, 5] [3, 4, 6] (by decide) rfl rfl rfl (by decide) (by decide) k_704 rfl k_127 k_701 k_703 k_26 ⟨rfl, hy_Shelf_placeOf⟩ (by decide) rfl rfl (Nat.le_of_ble_eq_true rfl) (by decide) (fun v9 u2 ch1 => ?_)
  obtain ⟨r_3, rfl⟩ : ∃ z9, z9 = u2 := ⟨_, rfl⟩
  obtain ⟨ech1, ch1⟩ := ch1
  have ech1 : v9 = some (.int r_3) := ech1
  subst ech1
  obtain ⟨fh4, fh5, fh6, fh7⟩ : (0 ≤ r_3.toInt) ∧ (r_3.toInt ≤ c.toInt) ∧ (∀ j : Int, 0 ≤ j → j < r_3.toInt → lx_ (vN V j) (vZ V j) (fun k => gx f (x.toInt + k)) n.toInt) ∧ (r_3.toInt < c.toInt → ¬ lx_ (vN V r_3.toInt) (vZ V r_3.toInt) (fun k => gx f (x.toInt + k)) n.toInt) := ch1
  have y1 := sh_rng I (k := r_3.toInt) (by omega) (by omega)
  have P1F := fh6
  have P2F := fh7
  refine pb_eq (pc' := 7) (lo' := [(0, .ref h), (1, .ref b), (2, .int x), (3, .int n), (4, .ref b2), (5, .int y), (6, .int m)]) (rest' := [.int r_3]) (ws' := [(sb, .inl (G.2.1, 12000, .inl sfb)), (sg, .inl (G.2.2.1, 17, .inl sfg)), (b2, .inl (G.2.1, N2, .inl f2)), (h, .inr (3, [.ref sn, .ref sz, .ref sb, .ref sg, .int c])), (sn, .inl (G.2.1, 384, .inl sfn)), (sz, .inl (G.2.2.1, 16, .inl sfz)), (b, .inl (G.2.1, N, .inl f))]) ?_
  refine pb_istore (pc := 7) (lo' := [(7, .int r_3), (0, .ref h), (1, .ref b), (2, .int x), (3, .int n), (4, .ref b2), (5, .int y), (6, .int m)]) d_Shelf_bringIn_7 (by decide) rfl ?_
  refine pb_aload_n (pc := 9) d_Shelf_bringIn_9 1 rfl rfl ?_
  refine pb_get (pc := 10) d_Shelf_bringIn_10 3 4 rfl rfl (by decide) in_Shelf k_403 rfl ?_
  refine pb_iload (pc := 13) d_Shelf_bringIn_13 0 rfl ?_
  refine pb_isub (pc := 15) d_Shelf_bringIn_15 ?_
  refine pb_topi (fun i8 ei8 => ?_)
  try have ti8 : i8.toInt = c.toInt - r_3.toInt := ti_sub ei8 rfl rfl (by omega) (by omega)
  refine pb_istore (pc := 16) (lo' := [(8, .int i8), (7, .int r_3), (0, .ref h), (1, .ref b), (2, .int x), (3, .int n), (4, .ref b2), (5, .int y), (6, .int m)]) d_Shelf_bringIn_16 (by decide) rfl ?_
  refine pb_aload_n (pc := 18) d_Shelf_bringIn_18 2 rfl rfl ?_
  refine pb_get (pc := 19) d_Shelf_bringIn_19 3 2 rfl rfl (by decide) in_Shelf k_395 rfl ?_
  refine pb_aload_n (pc := 22) d_Shelf_bringIn_22 2 rfl rfl ?_
  refine pb_get (pc := 23) d_Shelf_bringIn_23 3 3 rfl rfl (by decide) in_Shelf k_399 rfl ?_
  refine pb_iload (pc := 26) d_Shelf_bringIn_26 1 rfl ?_
  refine pb_iald (pc := 28) d_Shelf_bringIn_28 1 rfl (vp_in_iff.mpr (by constructor <;> omega)) ?_
  refine pb_topi (fun i9 ei9 => ?_)
  have ti9 : i9.toInt = gx sfg (r_3.toInt) := gx_ld ei9 rfl
  refine pb_aload_n (pc := 29) d_Shelf_bringIn_29 2 rfl rfl ?_
  refine pb_get (pc := 30) d_Shelf_bringIn_30 3 2 rfl rfl (by decide) in_Shelf k_395 rfl ?_
  refine pb_aload_n (pc := 33) d_Shelf_bringIn_33 2 rfl rfl ?_
  refine pb_get (pc := 34) d_Shelf_bringIn_34 3 3 rfl rfl (by decide) in_Shelf k_399 rfl ?_
  refine pb_iload (pc := 37) d_Shelf_bringIn_37 1 rfl ?_
  refine pb_iald (pc := 39) d_Shelf_bringIn_39 1 rfl (vp_in_iff.mpr (by constructor <;> omega)) ?_
  refine pb_topi (fun i10 ei10 => ?_)
  have ti10 : i10.toInt = gx sfg (r_3.toInt) := gx_ld ei10 rfl
  refine pb_iload (pc := 40) d_Shelf_bringIn_40 8 rfl ?_
  refine pb_iadd (pc := 42) d_Shelf_bringIn_42 ?_
  refine pb_topi (fun i11 ei11 => ?_)
  try have ti11 : i11.toInt = i10.toInt + m.toInt := ti_add ei11 rfl rfl (by omega) (by omega)
  refine pb_aload_n (pc := 43) d_Shelf_bringIn_43 2 rfl rfl ?_
  refine pb_callV (pc := 44) (I := i_Shelf_bringIn) (qb := 3) (ci := 3) (nA := 0) (rest := [.int i11, .ref sb, .int i9, .ref sb]) (wr := [(sb, .inl (G.2.1, 12000, .inl sfb)), (b2, .inl (G.2.1, N2, .inl f2)), (sn, .inl (G.2.1, 384, .inl sfn)), (sz, .inl (G.2.2.1, 16, .inl sfz)), (b, .inl (G.2.1, N, .inl f))]) d_Shelf_bringIn_44 (g_Shelf_inAll hl G h sn sz sb sg c sfz sfg (by first | (with_reducible assumption) | omega (splitDisjunctions := false) | assumption | omega | decide)) rfl rfl [3, 1] [0, 2, 4, 5, 6] (by decide) rfl rfl rfl (by decide) (by decide) k_481 rfl k_127 k_478 k_479 k_480 ⟨rfl, hy_Shelf_inAll⟩ (by decide) rfl rfl (Nat.le_of_ble_eq_true rfl) (by decide) (fun v9 u13 ch12 => ?_)
  obtain ⟨r_14, rfl⟩ : ∃ z9, z9 = u13 := ⟨_, rfl⟩
  obtain ⟨ech12, ch12⟩ := ch12
  have ech12 : v9 = some (.int r_14) := ech12
  subst ech12
  obtain ⟨fh15, fh16, fh17⟩ : (r_14.toInt = gx sfg c.toInt) ∧ (0 ≤ r_14.toInt) ∧ (r_14.toInt ≤ 12000) := ch12
  refine pb_eq (pc' := 47) (lo' := [(8, .int i8), (7, .int r_3), (0, .ref h), (1, .ref b), (2, .int x), (3, .int n), (4, .ref b2), (5, .int y), (6, .int m)]) (rest' := [.int r_14, .int i11, .ref sb, .int i9, .ref sb]) (ws' := [(sb, .inl (G.2.1, 12000, .inl sfb)), (b2, .inl (G.2.1, N2, .inl f2)), (sn, .inl (G.2.1, 384, .inl sfn)), (sz, .inl (G.2.2.1, 16, .inl sfz)), (b, .inl (G.2.1, N, .inl f)), (h, .inr (3, [.ref sn, .ref sz, .ref sb, .ref sg, .int c])), (sg, .inl (G.2.2.1, 17, .inl sfg))]) ?_
  refine pb_aload_n (pc := 47) d_Shelf_bringIn_47 2 rfl rfl ?_
  refine pb_get (pc := 48) d_Shelf_bringIn_48 5 3 rfl rfl (by decide) in_Shelf k_399 rfl ?_
  refine pb_iload (pc := 51) d_Shelf_bringIn_51 1 rfl ?_
  refine pb_iald (pc := 53) d_Shelf_bringIn_53 6 rfl (vp_in_iff.mpr (by constructor <;> omega)) ?_
  refine pb_topi (fun i18 ei18 => ?_)
  have ti18 : i18.toInt = gx sfg (r_3.toInt) := gx_ld ei18 rfl
  refine pb_isub (pc := 54) d_Shelf_bringIn_54 ?_
  refine pb_topi (fun i19 ei19 => ?_)
  try have ti19 : i19.toInt = r_14.toInt - i18.toInt := ti_sub ei19 rfl rfl (by (exact omg_5c0f478f21 y1 fh15 ti18)) (by (exact omg_244340d88c y1 fh15 ti18))
  refine pb_copy (pc := 55) (ws' := [(sb, .inl (G.2.1, 12000, .inl (va_cpy sfb sfb (i9 : Int32).toNatClampNeg (i11 : Int32).toNatClampNeg (i19 : Int32).toNatClampNeg))), (b2, .inl (G.2.1, N2, .inl f2)), (sn, .inl (G.2.1, 384, .inl sfn)), (sz, .inl (G.2.2.1, 16, .inl sfz)), (b, .inl (G.2.1, N, .inl f)), (h, .inr (3, [.ref sn, .ref sz, .ref sb, .ref sg, .int c])), (sg, .inl (G.2.2.1, 17, .inl sfg))]) d_Shelf_bringIn_55 0 0 0 rfl rfl rfl rfl k_482 k_484 k_483 k_134 (fun z9 => by have t9 : i9.toInt < 0 := (ti_lt rfl (by decide)).mp z9; omega) (fun z9 => by have t9 : i11.toInt < 0 := (ti_lt rfl (by decide)).mp z9; (exact omg_fca262f941 h6 y1 ti10 ti11 t9)) (fun z9 => by have t9 : i19.toInt < 0 := (ti_lt rfl (by decide)).mp z9; (exact omg_5675e8d289 y1 fh15 ti18 ti19 t9)) (by have := ti_clamp (x := i9) (by omega); have := ti_clamp (x := i19) (by (exact omg_485bfdfdc3 y1 fh15 ti18 ti19)); omega) (by have := ti_clamp (x := i11) (by (exact omg_768ad140d7 h6 y1 ti10 ti11)); have := ti_clamp (x := i19) (by omega); omega) (fun i _ => F_sfb _) (by decide) (Nat.le_of_ble_eq_true rfl) rfl ?_
  refine pb_aload_n (pc := 58) d_Shelf_bringIn_58 2 rfl rfl ?_
  refine pb_get (pc := 59) d_Shelf_bringIn_59 5 0 rfl rfl (by decide) in_Shelf k_389 rfl ?_
  refine pb_bipush (pc := 62) (v := 24) d_Shelf_bringIn_62 (by decide) ?_
  refine pb_iload (pc := 64) d_Shelf_bringIn_64 1 rfl ?_
  refine pb_imul (pc := 66) d_Shelf_bringIn_66 ?_
  refine pb_topi (fun i20 ei20 => ?_)
  try have ti20 : i20.toInt = 24 * r_3.toInt := ti_mul ei20 (by decide) rfl (by omega) (by omega)
  refine pb_aload_n (pc := 67) d_Shelf_bringIn_67 2 rfl rfl ?_
  refine pb_get (pc := 68) d_Shelf_bringIn_68 5 0 rfl rfl (by decide) in_Shelf k_389 rfl ?_
  refine pb_bipush (pc := 71) (v := 24) d_Shelf_bringIn_71 (by decide) ?_
  refine pb_iload (pc := 73) d_Shelf_bringIn_73 1 rfl ?_
  refine pb_iconst (pc := 75) (v := 1) d_Shelf_bringIn_75 (by decide) ?_
  refine pb_iadd (pc := 76) d_Shelf_bringIn_76 ?_
  refine pb_topi (fun i21 ei21 => ?_)
  try have ti21 : i21.toInt = r_3.toInt + 1 := ti_add ei21 rfl (by decide) (by omega) (by omega)
  refine pb_imul (pc := 77) d_Shelf_bringIn_77 ?_
  refine pb_topi (fun i22 ei22 => ?_)
  try have ti22 : i22.toInt = 24 * i21.toInt := ti_mul ei22 (by decide) rfl (by omega) (by omega)
  refine pb_bipush (pc := 78) (v := 24) d_Shelf_bringIn_78 (by decide) ?_
  refine pb_iload (pc := 80) d_Shelf_bringIn_80 0 rfl ?_
  refine pb_imul (pc := 82) d_Shelf_bringIn_82 ?_
  refine pb_topi (fun i23 ei23 => ?_)
  try have ti23 : i23.toInt = 24 * i8.toInt := ti_mul ei23 (by decide) rfl (by omega) (by omega)
  refine pb_copy (pc := 83) (ws' := [(sb, .inl (G.2.1, 12000, .inl (va_cpy sfb sfb (i9 : Int32).toNatClampNeg (i11 : Int32).toNatClampNeg (i19 : Int32).toNatClampNeg))), (b2, .inl (G.2.1, N2, .inl f2)), (sn, .inl (G.2.1, 384, .inl (va_cpy sfn sfn (i20 : Int32).toNatClampNeg (i22 : Int32).toNatClampNeg (i23 : Int32).toNatClampNeg))), (sz, .inl (G.2.2.1, 16, .inl sfz)), (b, .inl (G.2.1, N, .inl f)), (h, .inr (3, [.ref sn, .ref sz, .ref sb, .ref sg, .int c])), (sg, .inl (G.2.2.1, 17, .inl sfg))]) d_Shelf_bringIn_83 0 2 2 rfl rfl rfl rfl k_482 k_484 k_483 k_134 (fun z9 => by have t9 : i20.toInt < 0 := (ti_lt rfl (by decide)).mp z9; (exact omg_5f89e63376 fh4 ti20 t9)) (fun z9 => by have t9 : i22.toInt < 0 := (ti_lt rfl (by decide)).mp z9; (exact omg_e38ef96cb2 fh4 ti21 ti22 t9)) (fun z9 => by have t9 : i23.toInt < 0 := (ti_lt rfl (by decide)).mp z9; omega) (by have := ti_clamp (x := i20) (by (exact omg_2afa6fbb1b fh4 ti20)); have := ti_clamp (x := i23) (by omega); omega) (by have := ti_clamp (x := i22) (by (exact omg_e224d9fe03 fh4 ti21 ti22)); have := ti_clamp (x := i23) (by omega); omega) (fun i _ => F_sfn _) (by decide) (Nat.le_of_ble_eq_true rfl) rfl ?_
  refine pb_aload_n (pc := 86) d_Shelf_bringIn_86 2 rfl rfl ?_
  refine pb_get (pc := 87) d_Shelf_bringIn_87 5 1 rfl rfl (by decide) in_Shelf k_392 rfl ?_
  refine pb_iload (pc := 90) d_Shelf_bringIn_90 1 rfl ?_
  refine pb_aload_n (pc := 92) d_Shelf_bringIn_92 2 rfl rfl ?_
  refine pb_get (pc := 93) d_Shelf_bringIn_93 5 1 rfl rfl (by decide) in_Shelf k_392 rfl ?_
  refine pb_iload (pc := 96) d_Shelf_bringIn_96 1 rfl ?_
  refine pb_iconst (pc := 98) (v := 1) d_Shelf_bringIn_98 (by decide) ?_
  refine pb_iadd (pc := 99) d_Shelf_bringIn_99 ?_
  refine pb_topi (fun i24 ei24 => ?_)
  try have ti24 : i24.toInt = r_3.toInt + 1 := ti_add ei24 rfl (by decide) (by omega) (by omega)
  refine pb_iload (pc := 100) d_Shelf_bringIn_100 0 rfl ?_
  refine pb_copy (pc := 102) (ws' := [(sb, .inl (G.2.1, 12000, .inl (va_cpy sfb sfb (i9 : Int32).toNatClampNeg (i11 : Int32).toNatClampNeg (i19 : Int32).toNatClampNeg))), (b2, .inl (G.2.1, N2, .inl f2)), (sn, .inl (G.2.1, 384, .inl (va_cpy sfn sfn (i20 : Int32).toNatClampNeg (i22 : Int32).toNatClampNeg (i23 : Int32).toNatClampNeg))), (sz, .inl (G.2.2.1, 16, .inl (va_cpy sfz sfz (r_3 : Int32).toNatClampNeg (i24 : Int32).toNatClampNeg (i8 : Int32).toNatClampNeg))), (b, .inl (G.2.1, N, .inl f)), (h, .inr (3, [.ref sn, .ref sz, .ref sb, .ref sg, .int c])), (sg, .inl (G.2.2.1, 17, .inl sfg))]) d_Shelf_bringIn_102 1 3 3 rfl rfl rfl rfl k_482 k_484 k_483 k_134 (fun z9 => by have t9 : r_3.toInt < 0 := (ti_lt rfl (by decide)).mp z9; omega) (fun z9 => by have t9 : i24.toInt < 0 := (ti_lt rfl (by decide)).mp z9; omega) (fun z9 => by have t9 : i8.toInt < 0 := (ti_lt rfl (by decide)).mp z9; omega) (by have := ti_clamp (x := r_3) (by omega); have := ti_clamp (x := i8) (by omega); omega) (by have := ti_clamp (x := i24) (by omega); have := ti_clamp (x := i8) (by omega); omega) (fun _ _ => rfl) (by decide) (Nat.le_of_ble_eq_true rfl) rfl ?_
  refine pb_aload_n (pc := 105) d_Shelf_bringIn_105 2 rfl rfl ?_
  refine pb_get (pc := 106) d_Shelf_bringIn_106 5 4 rfl rfl (by decide) in_Shelf k_403 rfl ?_
  refine pb_istore (pc := 109) (lo' := [(9, .int c), (8, .int i8), (7, .int r_3), (0, .ref h), (1, .ref b), (2, .int x), (3, .int n), (4, .ref b2), (5, .int y), (6, .int m)]) d_Shelf_bringIn_109 (by decide) rfl ?_
  have hL111_25 : ∀ (N9 : Nat) (k : Int32) (i : Int32) (gg : Nat → Int32) (fn3 : Nat → Int32) (zz : Nat → Int32) (fb3 : Nat → Int32), (sb_Fit fn3) → (sb_Fit fb3) → (0 ≤ i.toInt) → (i.toInt ≤ c.toInt) → (i.toInt - 1 ≤ k.toInt) → (k.toInt ≤ c.toInt) → (∀ j, 0 ≤ j → gx zz j = if i.toInt < j ∧ j ≤ c.toInt then gx sfz (j - 1) else gx sfz j) → (∀ j, 0 ≤ j → gx gg j = if k.toInt + 1 < j ∧ j ≤ c.toInt + 1 then gx sfg (j - 1) + m.toInt else gx sfg j) → (∀ j : Int, 0 ≤ j → j < i.toInt → lx_ (vN V j) (vZ V j) (fun k => gx f (x.toInt + k)) n.toInt) → (i.toInt < c.toInt → ¬ lx_ (vN V i.toInt) (vZ V i.toInt) (fun k => gx f (x.toInt + k)) n.toInt) → (∀ j : Int, 0 ≤ j → gx fn3 j = if 24 * (i.toInt + 1) ≤ j ∧ j < 24 * (c.toInt + 1) then gx sfn (j - 24) else gx sfn j) → (∀ j : Int, 0 ≤ j → gr fb3 j = if gx sfg i.toInt + m.toInt ≤ j ∧ j < gx sfg c.toInt + m.toInt then gr sfb (j - m.toInt) else gr sfb j) → ((k.toInt - i.toInt + 1).toNat) < N9 → pb_P l G M i_Shelf_bringIn 111 [(9, .int k), (7, .int i), (0, .ref h), (1, .ref b), (2, .int x), (3, .int n), (4, .ref b2), (5, .int y), (6, .int m)] [] [(h, .inr (3, [.ref sn, .ref sz, .ref sb, .ref sg, .int c])), (sn, .inl (G.2.1, 384, .inl fn3)), (sz, .inl (G.2.2.1, 16, .inl zz)), (sb, .inl (G.2.1, 12000, .inl fb3)), (sg, .inl (G.2.2.1, 17, .inl gg)), (b, .inl (G.2.1, N, .inl f)), (b2, .inl (G.2.1, N2, .inl f2))] 0 0 := by
    intro N9
    induction N9 with
    | zero => intro k i gg fn3 zz fb3 F_fn3 F_fb3 hi0 hi1 hk hk2 hz hgg l1 l2 hn3 hb3 hm9; exact absurd hm9 (Nat.not_lt_zero _)
    | succ N9 ih111 =>
      intro k i gg fn3 zz fb3 F_fn3 F_fb3 hi0 hi1 hk hk2 hz hgg l1 l2 hn3 hb3 hm9
      refine pb_iload (pc := 111) d_Shelf_bringIn_111 0 rfl ?_
      refine pb_iload (pc := 113) d_Shelf_bringIn_113 1 rfl ?_
      refine pb_icmp_lt (pc := 115) (tgt := 143) d_Shelf_bringIn_115 (by decide) (fun w26 => ?_) (fun w26 => ?_)
      · have tw26 : k.toInt < i.toInt := (ti_lt rfl rfl).mp w26
        have kk : k.toInt = i.toInt - 1 := by omega
        have w2 : gx gg i.toInt = gx sfg i.toInt := by rw [hgg _ (by omega), if_neg (by omega)]
        have y5 := sh_rng I (k := i.toInt) (by omega) (by omega)
        refine pb_aload_n (pc := 143) d_Shelf_bringIn_143 3 rfl rfl ?_
        refine pb_iload_n (pc := 144) d_Shelf_bringIn_144 4 rfl rfl ?_
        refine pb_aload_n (pc := 145) d_Shelf_bringIn_145 2 rfl rfl ?_
        refine pb_get (pc := 146) d_Shelf_bringIn_146 0 0 rfl rfl (by decide) in_Shelf k_389 rfl ?_
        refine pb_bipush (pc := 149) (v := 24) d_Shelf_bringIn_149 (by decide) ?_
        refine pb_iload (pc := 151) d_Shelf_bringIn_151 1 rfl ?_
        refine pb_imul (pc := 153) d_Shelf_bringIn_153 ?_
        refine pb_topi (fun i27 ei27 => ?_)
        try have ti27 : i27.toInt = 24 * i.toInt := ti_mul ei27 (by decide) rfl (by omega) (by (exact omg_e56b94b6f8 h8 hi1))
        refine pb_iload_n (pc := 154) d_Shelf_bringIn_154 5 rfl rfl ?_
        refine pb_copy (pc := 155) (ws' := [(h, .inr (3, [.ref sn, .ref sz, .ref sb, .ref sg, .int c])), (sn, .inl (G.2.1, 384, .inl (va_cpy f fn3 (x : Int32).toNatClampNeg (i27 : Int32).toNatClampNeg (n : Int32).toNatClampNeg))), (sz, .inl (G.2.2.1, 16, .inl zz)), (sb, .inl (G.2.1, 12000, .inl fb3)), (sg, .inl (G.2.2.1, 17, .inl gg)), (b, .inl (G.2.1, N, .inl f)), (b2, .inl (G.2.1, N2, .inl f2))]) d_Shelf_bringIn_155 0 5 1 rfl rfl rfl rfl k_482 k_484 k_483 k_134 (fun z9 => by have t9 : x.toInt < 0 := (ti_lt rfl (by decide)).mp z9; omega) (fun z9 => by have t9 : i27.toInt < 0 := (ti_lt rfl (by decide)).mp z9; (exact omg_5f89e63376 hi0 ti27 t9)) (fun z9 => by have t9 : n.toInt < 0 := (ti_lt rfl (by decide)).mp z9; omega) (by have := ti_clamp (x := x) (by omega); have := ti_clamp (x := n) (by omega); omega) (by have := ti_clamp (x := i27) (by (exact omg_2afa6fbb1b hi0 ti27)); have := ti_clamp (x := n) (by omega); omega) (fun i _ => F_f _) (by decide) (Nat.le_of_ble_eq_true rfl) rfl ?_
        refine pb_aload (pc := 158) d_Shelf_bringIn_158 6 rfl ?_
        refine pb_iload (pc := 160) d_Shelf_bringIn_160 7 rfl ?_
        refine pb_aload_n (pc := 162) d_Shelf_bringIn_162 2 rfl rfl ?_
        refine pb_get (pc := 163) d_Shelf_bringIn_163 0 2 rfl rfl (by decide) in_Shelf k_395 rfl ?_
        refine pb_aload_n (pc := 166) d_Shelf_bringIn_166 2 rfl rfl ?_
        refine pb_get (pc := 167) d_Shelf_bringIn_167 0 3 rfl rfl (by decide) in_Shelf k_399 rfl ?_
        refine pb_iload (pc := 170) d_Shelf_bringIn_170 1 rfl ?_
        refine pb_iald (pc := 172) d_Shelf_bringIn_172 4 rfl (vp_in_iff.mpr (by constructor <;> (first | exact omg_6b198f536d h8 hi1 | omega))) ?_
        refine pb_topi (fun i28 ei28 => ?_)
        have ti28 : i28.toInt = gx gg (i.toInt) := gx_ld ei28 rfl
        refine pb_iload (pc := 173) d_Shelf_bringIn_173 8 rfl ?_
        refine pb_copy (pc := 175) (ws' := [(h, .inr (3, [.ref sn, .ref sz, .ref sb, .ref sg, .int c])), (sn, .inl (G.2.1, 384, .inl (va_cpy f fn3 (x : Int32).toNatClampNeg (i27 : Int32).toNatClampNeg (n : Int32).toNatClampNeg))), (sz, .inl (G.2.2.1, 16, .inl zz)), (sb, .inl (G.2.1, 12000, .inl (va_cpy f2 fb3 (y : Int32).toNatClampNeg (i28 : Int32).toNatClampNeg (m : Int32).toNatClampNeg))), (sg, .inl (G.2.2.1, 17, .inl gg)), (b, .inl (G.2.1, N, .inl f)), (b2, .inl (G.2.1, N2, .inl f2))]) d_Shelf_bringIn_175 0 6 3 rfl rfl rfl rfl k_482 k_484 k_483 k_134 (fun z9 => by have t9 : y.toInt < 0 := (ti_lt rfl (by decide)).mp z9; omega) (fun z9 => by have t9 : i28.toInt < 0 := (ti_lt rfl (by decide)).mp z9; omega) (fun z9 => by have t9 : m.toInt < 0 := (ti_lt rfl (by decide)).mp z9; omega) (by have := ti_clamp (x := y) (by omega); have := ti_clamp (x := m) (by omega); omega) (by have := ti_clamp (x := i28) (by omega); have := ti_clamp (x := m) (by omega); omega) (fun i _ => F_f2 _) (by decide) (Nat.le_of_ble_eq_true rfl) rfl ?_
        refine pb_aload_n (pc := 178) d_Shelf_bringIn_178 2 rfl rfl ?_
        refine pb_get (pc := 179) d_Shelf_bringIn_179 0 1 rfl rfl (by decide) in_Shelf k_392 rfl ?_
        refine pb_iload (pc := 182) d_Shelf_bringIn_182 1 rfl ?_
        refine pb_iload_n (pc := 184) d_Shelf_bringIn_184 5 rfl rfl ?_
        refine pb_iast (pc := 185) (ws' := [(h, .inr (3, [.ref sn, .ref sz, .ref sb, .ref sg, .int c])), (sn, .inl (G.2.1, 384, .inl (va_cpy f fn3 (x : Int32).toNatClampNeg (i27 : Int32).toNatClampNeg (n : Int32).toNatClampNeg))), (sz, .inl (G.2.2.1, 16, .inl (upd zz ((i : Int32).toNatClampNeg) n))), (sb, .inl (G.2.1, 12000, .inl (va_cpy f2 fb3 (y : Int32).toNatClampNeg (i28 : Int32).toNatClampNeg (m : Int32).toNatClampNeg))), (sg, .inl (G.2.2.1, 17, .inl gg)), (b, .inl (G.2.1, N, .inl f)), (b2, .inl (G.2.1, N2, .inl f2))]) d_Shelf_bringIn_185 2 rfl (vp_in_iff.mpr (by constructor <;> (first | exact omg_7933d60fc2 h8 hi1 | omega))) rfl ?_
        refine pb_aload_n (pc := 186) d_Shelf_bringIn_186 2 rfl rfl ?_
        refine pb_dup (pc := 187) d_Shelf_bringIn_187 rfl ?_
        refine pb_get (pc := 188) d_Shelf_bringIn_188 0 4 rfl rfl (by decide) in_Shelf k_403 rfl ?_
        refine pb_iconst (pc := 191) (v := 1) d_Shelf_bringIn_191 (by decide) ?_
        refine pb_iadd (pc := 192) d_Shelf_bringIn_192 ?_
        refine pb_topi (fun i29 ei29 => ?_)
        try have ti29 : i29.toInt = c.toInt + 1 := ti_add ei29 rfl (by decide) (by omega) (by omega)
        refine pb_put (pc := 193) (ty := .int) (ws' := [(h, .inr (3, [.ref sn, .ref sz, .ref sb, .ref sg, .int i29])), (sn, .inl (G.2.1, 384, .inl (va_cpy f fn3 (x : Int32).toNatClampNeg (i27 : Int32).toNatClampNeg (n : Int32).toNatClampNeg))), (sz, .inl (G.2.2.1, 16, .inl (upd zz ((i : Int32).toNatClampNeg) n))), (sb, .inl (G.2.1, 12000, .inl (va_cpy f2 fb3 (y : Int32).toNatClampNeg (i28 : Int32).toNatClampNeg (m : Int32).toNatClampNeg))), (sg, .inl (G.2.2.1, 17, .inl gg)), (b, .inl (G.2.1, N, .inl f)), (b2, .inl (G.2.1, N2, .inl f2))]) d_Shelf_bringIn_193 0 4 t_Shelf t_Shelf_ok n_Shelf rfl rfl (by decide) in_Shelf k_403 rfl (by decide +kernel) rfl rfl (Nat.le_of_ble_eq_true rfl) rfl ?_
        have o9 := sh_in (n := n.toInt) (s := m.toInt) (z' := (upd zz ((i : Int32).toNatClampNeg) n)) (g' := gg) I hi0 hi1 (by omega) (by omega) (by omega) (by omega) (sh_zlast hz rfl hi0 rfl) (by rw [show i.toInt = k.toInt + 1 by omega]; exact hgg)
        have o8 : i29.toInt = c.toInt + 1 := by omega
        rw [← o8] at o9
        exact pb_vret (pc := 196) hQ d_Shelf_bringIn_196 rfl (i29, (va_cpy f fn3 (x : Int32).toNatClampNeg (i27 : Int32).toNatClampNeg (n : Int32).toNatClampNeg), (upd zz ((i : Int32).toNatClampNeg) n), (va_cpy f2 fb3 (y : Int32).toNatClampNeg (i28 : Int32).toNatClampNeg (m : Int32).toNatClampNeg), gg) ⟨rfl, (show sh_I i29.toInt (upd zz ((i : Int32).toNatClampNeg) n) gg from o9.1), (by (try dsimp only); first | done | (with_reducible assumption) | omega (splitDisjunctions := false) | assumption | omega | decide), (show gx gg i29.toInt = gx sfg c.toInt + m.toInt from o9.2), (show hid_ (∃ r : Int, 0 ≤ r ∧ r ≤ c.toInt ∧ (∀ j : Int, 0 ≤ j → j < r → lx_ (vN V j) (vZ V j) (fun k => gx f (x.toInt + k)) n.toInt) ∧ (r < c.toInt → ¬ lx_ (vN V r) (vZ V r) (fun k => gx f (x.toInt + k)) n.toInt) ∧ rC_ i29.toInt (va_cpy f fn3 (x : Int32).toNatClampNeg (i27 : Int32).toNatClampNeg (n : Int32).toNatClampNeg) (upd zz ((i : Int32).toNatClampNeg) n) (va_cpy f2 fb3 (y : Int32).toNatClampNeg (i28 : Int32).toNatClampNeg (m : Int32).toNatClampNeg) gg (vin_ V r n.toInt (fun k => gx f (x.toInt + k)) m.toInt (fun k => gr f2 (y.toInt + k)))) from (hid_i ⟨i.toInt, hi0, hi1, l1, l2, (by have o6 := rC_in (a := fun k => gx f (x.toInt + k)) (d := fun k => gr f2 (y.toInt + k)) (m := n.toInt) (s := m.toInt) (fn' := (va_cpy f fn3 (x : Int32).toNatClampNeg (i27 : Int32).toNatClampNeg (n : Int32).toNatClampNeg)) (fb' := (va_cpy f2 fb3 (y : Int32).toNatClampNeg (i28 : Int32).toNatClampNeg (m : Int32).toNatClampNeg)) (fz' := (upd zz ((i : Int32).toNatClampNeg) n)) (fg' := gg) R I hi0 hi1 (by omega) (by omega) (sh_zlast hz rfl hi0 rfl) (by rw [show i.toInt = k.toInt + 1 by omega]; exact hgg) (rn_put hn3 rfl (by omega) rfl (by omega) hi0 (by omega)) (rb_put hb3 rfl (by omega) rfl (by omega) (by omega) (by omega)); rw [← o8] at o6; exact o6)⟩)), (sb_fitC F_f F_fn3), (sb_fitC F_f2 F_fb3)⟩ [0, 1, 2, 3, 4, 5, 6] (by decide) rfl rfl (by decide) (by decide)
      · have tw26 : ¬ k.toInt < i.toInt := fun z9 => w26 ((ti_lt rfl rfl).mpr z9)
        refine pb_aload_n (pc := 118) d_Shelf_bringIn_118 2 rfl rfl ?_
        refine pb_get (pc := 119) d_Shelf_bringIn_119 0 3 rfl rfl (by decide) in_Shelf k_399 rfl ?_
        refine pb_iload (pc := 122) d_Shelf_bringIn_122 0 rfl ?_
        refine pb_iconst (pc := 124) (v := 1) d_Shelf_bringIn_124 (by decide) ?_
        refine pb_iadd (pc := 125) d_Shelf_bringIn_125 ?_
        refine pb_topi (fun i30 ei30 => ?_)
        try have ti30 : i30.toInt = k.toInt + 1 := ti_add ei30 rfl (by decide) (by omega) (by (exact omg_de2f5d104e h8 hk2))
        refine pb_aload_n (pc := 126) d_Shelf_bringIn_126 2 rfl rfl ?_
        refine pb_get (pc := 127) d_Shelf_bringIn_127 0 3 rfl rfl (by decide) in_Shelf k_399 rfl ?_
        refine pb_iload (pc := 130) d_Shelf_bringIn_130 0 rfl ?_
        have w1 : gx gg k.toInt = gx sfg k.toInt := by rw [hgg _ (by omega), if_neg (by omega)]
        have y4 := sh_rng I (k := k.toInt) (by omega) (by omega)
        refine pb_iald (pc := 132) d_Shelf_bringIn_132 4 rfl (vp_in_iff.mpr (by constructor <;> (first | exact omg_6b198f536d h8 hk2 | omega))) ?_
        refine pb_topi (fun i31 ei31 => ?_)
        have ti31 : i31.toInt = gx gg (k.toInt) := gx_ld ei31 rfl
        refine pb_iload (pc := 133) d_Shelf_bringIn_133 8 rfl ?_
        refine pb_iadd (pc := 135) d_Shelf_bringIn_135 ?_
        refine pb_topi (fun i32 ei32 => ?_)
        try have ti32 : i32.toInt = i31.toInt + m.toInt := ti_add ei32 rfl rfl (by (exact omg_ca8afbb782 h6 w1 y4 ti31)) (by (exact omg_f843fe99cd h9_ w1 y4 ti31))
        refine pb_iast (pc := 136) (ws' := [(h, .inr (3, [.ref sn, .ref sz, .ref sb, .ref sg, .int c])), (sn, .inl (G.2.1, 384, .inl fn3)), (sz, .inl (G.2.2.1, 16, .inl zz)), (sb, .inl (G.2.1, 12000, .inl fb3)), (sg, .inl (G.2.2.1, 17, .inl (upd gg ((i30 : Int32).toNatClampNeg) i32))), (b, .inl (G.2.1, N, .inl f)), (b2, .inl (G.2.1, N2, .inl f2))]) d_Shelf_bringIn_136 4 rfl (vp_in_iff.mpr (by constructor <;> (first | exact omg_2df8418a30 hi0 tw26 ti30 | exact omg_24f9f54383 h8 hk2 ti30 | omega))) rfl ?_
        refine pb_iincN (pc := 137) (c := (-1)) d_Shelf_bringIn_137 0 rfl (by decide) (by decide) (fun i33 ei33 => ?_)
        have ti33 : i33.toInt = k.toInt + (-1) := ti_add ei33 rfl (by decide) (by omega) (by (exact omg_b64e49890a h8 hk2))
        refine pb_eq (pc' := 140) (lo' := [(9, .int i33), (7, .int i), (0, .ref h), (1, .ref b), (2, .int x), (3, .int n), (4, .ref b2), (5, .int y), (6, .int m)]) (rest' := []) (ws' := [(h, .inr (3, [.ref sn, .ref sz, .ref sb, .ref sg, .int c])), (sn, .inl (G.2.1, 384, .inl fn3)), (sz, .inl (G.2.2.1, 16, .inl zz)), (sb, .inl (G.2.1, 12000, .inl fb3)), (sg, .inl (G.2.2.1, 17, .inl (upd gg ((i30 : Int32).toNatClampNeg) i32))), (b, .inl (G.2.1, N, .inl f)), (b2, .inl (G.2.1, N2, .inl f2))]) ?_
        refine pb_goto (pc := 140) (tgt := 111) d_Shelf_bringIn_140 (by decide) ?_
        exact ih111 i33 i (upd gg ((i30 : Int32).toNatClampNeg) i32) fn3 zz fb3 F_fn3 F_fb3 (by first | (with_reducible assumption) | omega (splitDisjunctions := false) | assumption | omega | decide) (by first | (with_reducible assumption) | omega (splitDisjunctions := false) | assumption | omega | decide) (by first | (with_reducible assumption) | omega (splitDisjunctions := false) | assumption | omega | decide) (by first | (with_reducible assumption) | (exact omg_1b7add1533 hk2 ti33) | assumption | omega | decide) (by first | (with_reducible assumption) | omega (splitDisjunctions := false) | assumption | omega | decide) (sh_istep hgg (by (exact omg_ff2a826de4 hi0 tw26)) (by omega) (by omega) (by (exact omg_4e569a15d1 ti33)) (by (exact omg_1f9ce21a20 w1 ti31 ti32))) (by first | (with_reducible assumption) | omega (splitDisjunctions := false) | assumption | omega | decide) (by first | (with_reducible assumption) | omega (splitDisjunctions := false) | assumption | omega | decide) (by first | (with_reducible assumption) | omega (splitDisjunctions := false) | assumption | omega | decide) (by first | (with_reducible assumption) | omega (splitDisjunctions := false) | assumption | omega | decide) (by (exact omg_5b3ad91220 hm9 tw26 ti33))
  refine pb_re (ws' := [(h, .inr (3, [.ref sn, .ref sz, .ref sb, .ref sg, .int c])), (sn, .inl (G.2.1, 384, .inl (va_cpy sfn sfn (i20 : Int32).toNatClampNeg (i22 : Int32).toNatClampNeg (i23 : Int32).toNatClampNeg))), (sz, .inl (G.2.2.1, 16, .inl (va_cpy sfz sfz (r_3 : Int32).toNatClampNeg (i24 : Int32).toNatClampNeg (i8 : Int32).toNatClampNeg))), (sb, .inl (G.2.1, 12000, .inl (va_cpy sfb sfb (i9 : Int32).toNatClampNeg (i11 : Int32).toNatClampNeg (i19 : Int32).toNatClampNeg))), (sg, .inl (G.2.2.1, 17, .inl sfg)), (b, .inl (G.2.1, N, .inl f)), (b2, .inl (G.2.1, N2, .inl f2))]) (lo' := [(9, .int c), (7, .int r_3), (0, .ref h), (1, .ref b), (2, .int x), (3, .int n), (4, .ref b2), (5, .int y), (6, .int m)]) [5, 2, 3, 0, 6, 4, 1] [0, 2, 3, 4, 5, 6, 7, 8, 9] (by decide) rfl rfl rfl ?_
  exact hL111_25 _ c r_3 sfg (va_cpy sfn sfn (i20 : Int32).toNatClampNeg (i22 : Int32).toNatClampNeg (i23 : Int32).toNatClampNeg) (va_cpy sfz sfz (r_3 : Int32).toNatClampNeg (i24 : Int32).toNatClampNeg (i8 : Int32).toNatClampNeg) (va_cpy sfb sfb (i9 : Int32).toNatClampNeg (i11 : Int32).toNatClampNeg (i19 : Int32).toNatClampNeg) (sb_fitC F_sfn F_sfn) (sb_fitC F_sfb F_sfb) (by first | (with_reducible assumption) | omega (splitDisjunctions := false) | assumption | omega | decide) (by first | (with_reducible assumption) | omega (splitDisjunctions := false) | assumption | omega | decide) (by first | (with_reducible assumption) | omega (splitDisjunctions := false) | assumption | omega | decide) (by first | (with_reducible assumption) | omega (splitDisjunctions := false) | assumption | omega | decide) (sh_zin rfl (by omega) (by omega) (by omega) (by omega)) (fun j hj => by rw [if_neg (by omega)]) P1F P2F (rn_in (by omega) (by (exact omg_4b47cd916a ti21 ti22)) (by omega) (by omega) (by omega)) (rb_in (by omega) (by omega) (by (exact omg_668e77e914 fh15 ti18 ti19)) (by omega) (by (exact omg_087e784acd y1)) (by (exact omg_dafa83a2be h6))) (Nat.lt_succ_self _)

set_option maxRecDepth 100000 in
set_option maxHeartbeats 4000000 in
theorem g_Shelf_bringIn1 {l : Launch} (hl : l.stackTraces = false) (G : pb_G) (h : Nat) (sn : Nat) (sz : Nat) (sb : Nat) (sg : Nat) (c : Int32) (sfn : Nat → Int32) (sfz : Nat → Int32) (sfb : Nat → Int32) (sfg : Nat → Int32) (b : Nat) (N : Nat) (f : Nat → Int32) (x : Int32) (n : Int32) (y : Int32) (m : Int32) (V : VW_) (R : rC_ c.toInt sfn sfz sfb sfg V) (I : sh_I c.toInt sfz sfg) (h0 : 0 ≤ x.toInt) (h1 : x.toInt + n.toInt ≤ N) (h2 : 1 ≤ n.toInt) (h3 : n.toInt ≤ 24) (h4 : 0 ≤ y.toInt) (h5 : y.toInt + m.toInt ≤ N) (h6 : 0 ≤ m.toInt) (h7 : m.toInt ≤ 4000) (h8 : c.toInt < 16) (h9_ : gx sfg c.toInt + m.toInt ≤ 12000) (hN : N ≤ 1000000) (hN2 : N ≤ 1000000) (F_sfn : sb_Fit sfn) (F_sfb : sb_Fit sfb) (F_f : sb_Fit f) : Cn l G i_Shelf_bringIn [.ref h, .ref b, .int x, .int n, .ref b, .int y, .int m] [(h, .inr (3, [.ref sn, .ref sz, .ref sb, .ref sg, .int c])), (sn, .inl (G.2.1, 384, .inl sfn)), (sz, .inl (G.2.2.1, 16, .inl sfz)), (sb, .inl (G.2.1, 12000, .inl sfb)), (sg, .inl (G.2.2.1, 17, .inl sfg)), (b, .inl (G.2.1, N, .inl f))] (S := Int32 × (Nat → Int32) × (Nat → Int32) × (Nat → Int32) × (Nat → Int32)) (fun rv_ u => rv_ = none ∧ (sh_I u.1.toInt u.2.2.1 u.2.2.2.2) ∧ (u.1.toInt = c.toInt + 1) ∧ (gx u.2.2.2.2 u.1.toInt = gx sfg c.toInt + m.toInt) ∧ (hid_ (∃ r : Int, 0 ≤ r ∧ r ≤ c.toInt ∧ (∀ j : Int, 0 ≤ j → j < r → lx_ (vN V j) (vZ V j) (fun k => gx f (x.toInt + k)) n.toInt) ∧ (r < c.toInt → ¬ lx_ (vN V r) (vZ V r) (fun k => gx f (x.toInt + k)) n.toInt) ∧ rC_ u.1.toInt u.2.1 u.2.2.1 u.2.2.2.1 u.2.2.2.2 (vin_ V r n.toInt (fun k => gx f (x.toInt + k)) m.toInt (fun k => gr f (y.toInt + k))))) ∧ (sb_Fit u.2.1) ∧ (sb_Fit u.2.2.2.1)) (fun u => [(h, .inr (3, [.ref sn, .ref sz, .ref sb, .ref sg, .int u.1])), (sn, .inl (G.2.1, 384, .inl u.2.1)), (sz, .inl (G.2.2.1, 16, .inl u.2.2.1)), (sb, .inl (G.2.1, 12000, .inl u.2.2.2.1)), (sg, .inl (G.2.2.1, 17, .inl u.2.2.2.2)), (b, .inl (G.2.1, N, .inl f))]) := by
  refine Cn.of hl (by decide +kernel) rfl (Nat.le_of_ble_eq_true rfl) (fun M hQ => ?_)
  refine pb_eq (pc' := 0) (lo' := [(0, .ref h), (1, .ref b), (2, .int x), (3, .int n), (4, .ref b), (5, .int y), (6, .int m)]) (rest' := []) (ws' := [(h, .inr (3, [.ref sn, .ref sz, .ref sb, .ref sg, .int c])), (sn, .inl (G.2.1, 384, .inl sfn)), (sz, .inl (G.2.2.1, 16, .inl sfz)), (sb, .inl (G.2.1, 12000, .inl sfb)), (sg, .inl (G.2.2.1, 17, .inl sfg)), (b, .inl (G.2.1, N, .inl f))]) ?_
  have zm1 : ((-1) : Int32).toInt = (-1) := by decide
  have zl0 : (0 : Int32).toInt = 0 := by decide
  have zl1 : (1 : Int32).toInt = 1 := by decide
  have zl24 : (24 : Int32).toInt = 24 := by decide
  have p1 := I.1
  have p2 := I.2.1
  refine pb_aload_n (pc := 0) d_Shelf_bringIn_0 0 rfl rfl ?_
  refine pb_aload_n (pc := 1) d_Shelf_bringIn_1 1 rfl rfl ?_
  refine pb_iload_n (pc := 2) d_Shelf_bringIn_2 2 rfl rfl ?_
  refine pb_iload_n (pc := 3) d_Shelf_bringIn_3 3 rfl rfl ?_
  refine pb_callV (pc := 4) (I := i_Shelf_bringIn) (qb := 0) (ci := 3) (nA := 3) (rest := []) (wr := [(sb, .inl (G.2.1, 12000, .inl sfb)), (sg, .inl (G.2.2.1, 17, .inl sfg))]) d_Shelf_bringIn_4 (g_Shelf_placeOf hl G h sn sz sb sg c sfn sfz b N f sfg x n V (rC_N R) (by first | (with_reducible assumption) | omega (splitDisjunctions := false) | assumption | omega | decide) (by first | (with_reducible assumption) | omega (splitDisjunctions := false) | assumption | omega | decide) (by first | (with_reducible assumption) | omega (splitDisjunctions := false) | assumption | omega | decide) (by first | (with_reducible assumption) | omega (splitDisjunctions := false) | assumption | omega | decide) (by first | (with_reducible assumption) | omega (splitDisjunctions := false) | assumption | omega | decide) F_sfn F_f) rfl rfl [0, 1, 2, 5] [3, 4] (by decide) rfl rfl rfl (by decide) (by decide) k_704 rfl k_127 k_701 k_703 k_26 ⟨rfl, hy_Shelf_placeOf⟩ (by decide) rfl rfl (Nat.le_of_ble_eq_true rfl) (by decide) (fun v9 u2 ch1 => ?_)
  obtain ⟨r_3, rfl⟩ : ∃ z9, z9 = u2 := ⟨_, rfl⟩
  obtain ⟨ech1, ch1⟩ := ch1
  have ech1 : v9 = some (.int r_3) := ech1
  subst ech1
  obtain ⟨fh4, fh5, fh6, fh7⟩ : (0 ≤ r_3.toInt) ∧ (r_3.toInt ≤ c.toInt) ∧ (∀ j : Int, 0 ≤ j → j < r_3.toInt → lx_ (vN V j) (vZ V j) (fun k => gx f (x.toInt + k)) n.toInt) ∧ (r_3.toInt < c.toInt → ¬ lx_ (vN V r_3.toInt) (vZ V r_3.toInt) (fun k => gx f (x.toInt + k)) n.toInt) := ch1
  have y1 := sh_rng I (k := r_3.toInt) (by omega) (by omega)
  have P1F := fh6
  have P2F := fh7
  refine pb_eq (pc' := 7) (lo' := [(0, .ref h), (1, .ref b), (2, .int x), (3, .int n), (4, .ref b), (5, .int y), (6, .int m)]) (rest' := [.int r_3]) (ws' := [(sb, .inl (G.2.1, 12000, .inl sfb)), (sg, .inl (G.2.2.1, 17, .inl sfg)), (h, .inr (3, [.ref sn, .ref sz, .ref sb, .ref sg, .int c])), (sn, .inl (G.2.1, 384, .inl sfn)), (sz, .inl (G.2.2.1, 16, .inl sfz)), (b, .inl (G.2.1, N, .inl f))]) ?_
  refine pb_istore (pc := 7) (lo' := [(7, .int r_3), (0, .ref h), (1, .ref b), (2, .int x), (3, .int n), (4, .ref b), (5, .int y), (6, .int m)]) d_Shelf_bringIn_7 (by decide) rfl ?_
  refine pb_aload_n (pc := 9) d_Shelf_bringIn_9 1 rfl rfl ?_
  refine pb_get (pc := 10) d_Shelf_bringIn_10 2 4 rfl rfl (by decide) in_Shelf k_403 rfl ?_
  refine pb_iload (pc := 13) d_Shelf_bringIn_13 0 rfl ?_
  refine pb_isub (pc := 15) d_Shelf_bringIn_15 ?_
  refine pb_topi (fun i8 ei8 => ?_)
  try have ti8 : i8.toInt = c.toInt - r_3.toInt := ti_sub ei8 rfl rfl (by omega) (by omega)
  refine pb_istore (pc := 16) (lo' := [(8, .int i8), (7, .int r_3), (0, .ref h), (1, .ref b), (2, .int x), (3, .int n), (4, .ref b), (5, .int y), (6, .int m)]) d_Shelf_bringIn_16 (by decide) rfl ?_
  refine pb_aload_n (pc := 18) d_Shelf_bringIn_18 2 rfl rfl ?_
  refine pb_get (pc := 19) d_Shelf_bringIn_19 2 2 rfl rfl (by decide) in_Shelf k_395 rfl ?_
  refine pb_aload_n (pc := 22) d_Shelf_bringIn_22 2 rfl rfl ?_
  refine pb_get (pc := 23) d_Shelf_bringIn_23 2 3 rfl rfl (by decide) in_Shelf k_399 rfl ?_
  refine pb_iload (pc := 26) d_Shelf_bringIn_26 1 rfl ?_
  refine pb_iald (pc := 28) d_Shelf_bringIn_28 1 rfl (vp_in_iff.mpr (by constructor <;> omega)) ?_
  refine pb_topi (fun i9 ei9 => ?_)
  have ti9 : i9.toInt = gx sfg (r_3.toInt) := gx_ld ei9 rfl
  refine pb_aload_n (pc := 29) d_Shelf_bringIn_29 2 rfl rfl ?_
  refine pb_get (pc := 30) d_Shelf_bringIn_30 2 2 rfl rfl (by decide) in_Shelf k_395 rfl ?_
  refine pb_aload_n (pc := 33) d_Shelf_bringIn_33 2 rfl rfl ?_
  refine pb_get (pc := 34) d_Shelf_bringIn_34 2 3 rfl rfl (by decide) in_Shelf k_399 rfl ?_
  refine pb_iload (pc := 37) d_Shelf_bringIn_37 1 rfl ?_
  refine pb_iald (pc := 39) d_Shelf_bringIn_39 1 rfl (vp_in_iff.mpr (by constructor <;> omega)) ?_
  refine pb_topi (fun i10 ei10 => ?_)
  have ti10 : i10.toInt = gx sfg (r_3.toInt) := gx_ld ei10 rfl
  refine pb_iload (pc := 40) d_Shelf_bringIn_40 8 rfl ?_
  refine pb_iadd (pc := 42) d_Shelf_bringIn_42 ?_
  refine pb_topi (fun i11 ei11 => ?_)
  try have ti11 : i11.toInt = i10.toInt + m.toInt := ti_add ei11 rfl rfl (by omega) (by omega)
  refine pb_aload_n (pc := 43) d_Shelf_bringIn_43 2 rfl rfl ?_
  refine pb_callV (pc := 44) (I := i_Shelf_bringIn) (qb := 2) (ci := 3) (nA := 0) (rest := [.int i11, .ref sb, .int i9, .ref sb]) (wr := [(sb, .inl (G.2.1, 12000, .inl sfb)), (sn, .inl (G.2.1, 384, .inl sfn)), (sz, .inl (G.2.2.1, 16, .inl sfz)), (b, .inl (G.2.1, N, .inl f))]) d_Shelf_bringIn_44 (g_Shelf_inAll hl G h sn sz sb sg c sfz sfg (by first | (with_reducible assumption) | omega (splitDisjunctions := false) | assumption | omega | decide)) rfl rfl [2, 1] [0, 3, 4, 5] (by decide) rfl rfl rfl (by decide) (by decide) k_481 rfl k_127 k_478 k_479 k_480 ⟨rfl, hy_Shelf_inAll⟩ (by decide) rfl rfl (Nat.le_of_ble_eq_true rfl) (by decide) (fun v9 u13 ch12 => ?_)
  obtain ⟨r_14, rfl⟩ : ∃ z9, z9 = u13 := ⟨_, rfl⟩
  obtain ⟨ech12, ch12⟩ := ch12
  have ech12 : v9 = some (.int r_14) := ech12
  subst ech12
  obtain ⟨fh15, fh16, fh17⟩ : (r_14.toInt = gx sfg c.toInt) ∧ (0 ≤ r_14.toInt) ∧ (r_14.toInt ≤ 12000) := ch12
  refine pb_eq (pc' := 47) (lo' := [(8, .int i8), (7, .int r_3), (0, .ref h), (1, .ref b), (2, .int x), (3, .int n), (4, .ref b), (5, .int y), (6, .int m)]) (rest' := [.int r_14, .int i11, .ref sb, .int i9, .ref sb]) (ws' := [(sb, .inl (G.2.1, 12000, .inl sfb)), (sn, .inl (G.2.1, 384, .inl sfn)), (sz, .inl (G.2.2.1, 16, .inl sfz)), (b, .inl (G.2.1, N, .inl f)), (h, .inr (3, [.ref sn, .ref sz, .ref sb, .ref sg, .int c])), (sg, .inl (G.2.2.1, 17, .inl sfg))]) ?_
  refine pb_aload_n (pc := 47) d_Shelf_bringIn_47 2 rfl rfl ?_
  refine pb_get (pc := 48) d_Shelf_bringIn_48 4 3 rfl rfl (by decide) in_Shelf k_399 rfl ?_
  refine pb_iload (pc := 51) d_Shelf_bringIn_51 1 rfl ?_
  refine pb_iald (pc := 53) d_Shelf_bringIn_53 5 rfl (vp_in_iff.mpr (by constructor <;> omega)) ?_
  refine pb_topi (fun i18 ei18 => ?_)
  have ti18 : i18.toInt = gx sfg (r_3.toInt) := gx_ld ei18 rfl
  refine pb_isub (pc := 54) d_Shelf_bringIn_54 ?_
  refine pb_topi (fun i19 ei19 => ?_)
  try have ti19 : i19.toInt = r_14.toInt - i18.toInt := ti_sub ei19 rfl rfl (by (exact omg_5c0f478f21 y1 fh15 ti18)) (by (exact omg_244340d88c y1 fh15 ti18))
  refine pb_copy (pc := 55) (ws' := [(sb, .inl (G.2.1, 12000, .inl (va_cpy sfb sfb (i9 : Int32).toNatClampNeg (i11 : Int32).toNatClampNeg (i19 : Int32).toNatClampNeg))), (sn, .inl (G.2.1, 384, .inl sfn)), (sz, .inl (G.2.2.1, 16, .inl sfz)), (b, .inl (G.2.1, N, .inl f)), (h, .inr (3, [.ref sn, .ref sz, .ref sb, .ref sg, .int c])), (sg, .inl (G.2.2.1, 17, .inl sfg))]) d_Shelf_bringIn_55 0 0 0 rfl rfl rfl rfl k_482 k_484 k_483 k_134 (fun z9 => by have t9 : i9.toInt < 0 := (ti_lt rfl (by decide)).mp z9; omega) (fun z9 => by have t9 : i11.toInt < 0 := (ti_lt rfl (by decide)).mp z9; (exact omg_fca262f941 h6 y1 ti10 ti11 t9)) (fun z9 => by have t9 : i19.toInt < 0 := (ti_lt rfl (by decide)).mp z9; (exact omg_5675e8d289 y1 fh15 ti18 ti19 t9)) (by have := ti_clamp (x := i9) (by omega); have := ti_clamp (x := i19) (by (exact omg_485bfdfdc3 y1 fh15 ti18 ti19)); omega) (by have := ti_clamp (x := i11) (by (exact omg_768ad140d7 h6 y1 ti10 ti11)); have := ti_clamp (x := i19) (by omega); omega) (fun i _ => F_sfb _) (by decide) (Nat.le_of_ble_eq_true rfl) rfl ?_
  refine pb_aload_n (pc := 58) d_Shelf_bringIn_58 2 rfl rfl ?_
  refine pb_get (pc := 59) d_Shelf_bringIn_59 4 0 rfl rfl (by decide) in_Shelf k_389 rfl ?_
  refine pb_bipush (pc := 62) (v := 24) d_Shelf_bringIn_62 (by decide) ?_
  refine pb_iload (pc := 64) d_Shelf_bringIn_64 1 rfl ?_
  refine pb_imul (pc := 66) d_Shelf_bringIn_66 ?_
  refine pb_topi (fun i20 ei20 => ?_)
  try have ti20 : i20.toInt = 24 * r_3.toInt := ti_mul ei20 (by decide) rfl (by omega) (by omega)
  refine pb_aload_n (pc := 67) d_Shelf_bringIn_67 2 rfl rfl ?_
  refine pb_get (pc := 68) d_Shelf_bringIn_68 4 0 rfl rfl (by decide) in_Shelf k_389 rfl ?_
  refine pb_bipush (pc := 71) (v := 24) d_Shelf_bringIn_71 (by decide) ?_
  refine pb_iload (pc := 73) d_Shelf_bringIn_73 1 rfl ?_
  refine pb_iconst (pc := 75) (v := 1) d_Shelf_bringIn_75 (by decide) ?_
  refine pb_iadd (pc := 76) d_Shelf_bringIn_76 ?_
  refine pb_topi (fun i21 ei21 => ?_)
  try have ti21 : i21.toInt = r_3.toInt + 1 := ti_add ei21 rfl (by decide) (by omega) (by omega)
  refine pb_imul (pc := 77) d_Shelf_bringIn_77 ?_
  refine pb_topi (fun i22 ei22 => ?_)
  try have ti22 : i22.toInt = 24 * i21.toInt := ti_mul ei22 (by decide) rfl (by omega) (by omega)
  refine pb_bipush (pc := 78) (v := 24) d_Shelf_bringIn_78 (by decide) ?_
  refine pb_iload (pc := 80) d_Shelf_bringIn_80 0 rfl ?_
  refine pb_imul (pc := 82) d_Shelf_bringIn_82 ?_
  refine pb_topi (fun i23 ei23 => ?_)
  try have ti23 : i23.toInt = 24 * i8.toInt := ti_mul ei23 (by decide) rfl (by omega) (by omega)
  refine pb_copy (pc := 83) (ws' := [(sb, .inl (G.2.1, 12000, .inl (va_cpy sfb sfb (i9 : Int32).toNatClampNeg (i11 : Int32).toNatClampNeg (i19 : Int32).toNatClampNeg))), (sn, .inl (G.2.1, 384, .inl (va_cpy sfn sfn (i20 : Int32).toNatClampNeg (i22 : Int32).toNatClampNeg (i23 : Int32).toNatClampNeg))), (sz, .inl (G.2.2.1, 16, .inl sfz)), (b, .inl (G.2.1, N, .inl f)), (h, .inr (3, [.ref sn, .ref sz, .ref sb, .ref sg, .int c])), (sg, .inl (G.2.2.1, 17, .inl sfg))]) d_Shelf_bringIn_83 0 1 1 rfl rfl rfl rfl k_482 k_484 k_483 k_134 (fun z9 => by have t9 : i20.toInt < 0 := (ti_lt rfl (by decide)).mp z9; (exact omg_5f89e63376 fh4 ti20 t9)) (fun z9 => by have t9 : i22.toInt < 0 := (ti_lt rfl (by decide)).mp z9; (exact omg_e38ef96cb2 fh4 ti21 ti22 t9)) (fun z9 => by have t9 : i23.toInt < 0 := (ti_lt rfl (by decide)).mp z9; omega) (by have := ti_clamp (x := i20) (by (exact omg_2afa6fbb1b fh4 ti20)); have := ti_clamp (x := i23) (by omega); omega) (by have := ti_clamp (x := i22) (by (exact omg_e224d9fe03 fh4 ti21 ti22)); have := ti_clamp (x := i23) (by omega); omega) (fun i _ => F_sfn _) (by decide) (Nat.le_of_ble_eq_true rfl) rfl ?_
  refine pb_aload_n (pc := 86) d_Shelf_bringIn_86 2 rfl rfl ?_
  refine pb_get (pc := 87) d_Shelf_bringIn_87 4 1 rfl rfl (by decide) in_Shelf k_392 rfl ?_
  refine pb_iload (pc := 90) d_Shelf_bringIn_90 1 rfl ?_
  refine pb_aload_n (pc := 92) d_Shelf_bringIn_92 2 rfl rfl ?_
  refine pb_get (pc := 93) d_Shelf_bringIn_93 4 1 rfl rfl (by decide) in_Shelf k_392 rfl ?_
  refine pb_iload (pc := 96) d_Shelf_bringIn_96 1 rfl ?_
  refine pb_iconst (pc := 98) (v := 1) d_Shelf_bringIn_98 (by decide) ?_
  refine pb_iadd (pc := 99) d_Shelf_bringIn_99 ?_
  refine pb_topi (fun i24 ei24 => ?_)
  try have ti24 : i24.toInt = r_3.toInt + 1 := ti_add ei24 rfl (by decide) (by omega) (by omega)
  refine pb_iload (pc := 100) d_Shelf_bringIn_100 0 rfl ?_
  refine pb_copy (pc := 102) (ws' := [(sb, .inl (G.2.1, 12000, .inl (va_cpy sfb sfb (i9 : Int32).toNatClampNeg (i11 : Int32).toNatClampNeg (i19 : Int32).toNatClampNeg))), (sn, .inl (G.2.1, 384, .inl (va_cpy sfn sfn (i20 : Int32).toNatClampNeg (i22 : Int32).toNatClampNeg (i23 : Int32).toNatClampNeg))), (sz, .inl (G.2.2.1, 16, .inl (va_cpy sfz sfz (r_3 : Int32).toNatClampNeg (i24 : Int32).toNatClampNeg (i8 : Int32).toNatClampNeg))), (b, .inl (G.2.1, N, .inl f)), (h, .inr (3, [.ref sn, .ref sz, .ref sb, .ref sg, .int c])), (sg, .inl (G.2.2.1, 17, .inl sfg))]) d_Shelf_bringIn_102 1 2 2 rfl rfl rfl rfl k_482 k_484 k_483 k_134 (fun z9 => by have t9 : r_3.toInt < 0 := (ti_lt rfl (by decide)).mp z9; omega) (fun z9 => by have t9 : i24.toInt < 0 := (ti_lt rfl (by decide)).mp z9; omega) (fun z9 => by have t9 : i8.toInt < 0 := (ti_lt rfl (by decide)).mp z9; omega) (by have := ti_clamp (x := r_3) (by omega); have := ti_clamp (x := i8) (by omega); omega) (by have := ti_clamp (x := i24) (by omega); have := ti_clamp (x := i8) (by omega); omega) (fun _ _ => rfl) (by decide) (Nat.le_of_ble_eq_true rfl) rfl ?_
  refine pb_aload_n (pc := 105) d_Shelf_bringIn_105 2 rfl rfl ?_
  refine pb_get (pc := 106) d_Shelf_bringIn_106 4 4 rfl rfl (by decide) in_Shelf k_403 rfl ?_
  refine pb_istore (pc := 109) (lo' := [(9, .int c), (8, .int i8), (7, .int r_3), (0, .ref h), (1, .ref b), (2, .int x), (3, .int n), (4, .ref b), (5, .int y), (6, .int m)]) d_Shelf_bringIn_109 (by decide) rfl ?_
  have hL111_25 : ∀ (N9 : Nat) (k : Int32) (i : Int32) (gg : Nat → Int32) (fn3 : Nat → Int32) (zz : Nat → Int32) (fb3 : Nat → Int32), (sb_Fit fn3) → (sb_Fit fb3) → (0 ≤ i.toInt) → (i.toInt ≤ c.toInt) → (i.toInt - 1 ≤ k.toInt) → (k.toInt ≤ c.toInt) → (∀ j, 0 ≤ j → gx zz j = if i.toInt < j ∧ j ≤ c.toInt then gx sfz (j - 1) else gx sfz j) → (∀ j, 0 ≤ j → gx gg j = if k.toInt + 1 < j ∧ j ≤ c.toInt + 1 then gx sfg (j - 1) + m.toInt else gx sfg j) → (∀ j : Int, 0 ≤ j → j < i.toInt → lx_ (vN V j) (vZ V j) (fun k => gx f (x.toInt + k)) n.toInt) → (i.toInt < c.toInt → ¬ lx_ (vN V i.toInt) (vZ V i.toInt) (fun k => gx f (x.toInt + k)) n.toInt) → (∀ j : Int, 0 ≤ j → gx fn3 j = if 24 * (i.toInt + 1) ≤ j ∧ j < 24 * (c.toInt + 1) then gx sfn (j - 24) else gx sfn j) → (∀ j : Int, 0 ≤ j → gr fb3 j = if gx sfg i.toInt + m.toInt ≤ j ∧ j < gx sfg c.toInt + m.toInt then gr sfb (j - m.toInt) else gr sfb j) → ((k.toInt - i.toInt + 1).toNat) < N9 → pb_P l G M i_Shelf_bringIn 111 [(9, .int k), (7, .int i), (0, .ref h), (1, .ref b), (2, .int x), (3, .int n), (4, .ref b), (5, .int y), (6, .int m)] [] [(h, .inr (3, [.ref sn, .ref sz, .ref sb, .ref sg, .int c])), (sn, .inl (G.2.1, 384, .inl fn3)), (sz, .inl (G.2.2.1, 16, .inl zz)), (sb, .inl (G.2.1, 12000, .inl fb3)), (sg, .inl (G.2.2.1, 17, .inl gg)), (b, .inl (G.2.1, N, .inl f))] 0 0 := by
    intro N9
    induction N9 with
    | zero => intro k i gg fn3 zz fb3 F_fn3 F_fb3 hi0 hi1 hk hk2 hz hgg l1 l2 hn3 hb3 hm9; exact absurd hm9 (Nat.not_lt_zero _)
    | succ N9 ih111 =>
      intro k i gg fn3 zz fb3 F_fn3 F_fb3 hi0 hi1 hk hk2 hz hgg l1 l2 hn3 hb3 hm9
      refine pb_iload (pc := 111) d_Shelf_bringIn_111 0 rfl ?_
      refine pb_iload (pc := 113) d_Shelf_bringIn_113 1 rfl ?_
      refine pb_icmp_lt (pc := 115) (tgt := 143) d_Shelf_bringIn_115 (by decide) (fun w26 => ?_) (fun w26 => ?_)
      · have tw26 : k.toInt < i.toInt := (ti_lt rfl rfl).mp w26
        have kk : k.toInt = i.toInt - 1 := by omega
        have w2 : gx gg i.toInt = gx sfg i.toInt := by rw [hgg _ (by omega), if_neg (by omega)]
        have y5 := sh_rng I (k := i.toInt) (by omega) (by omega)
        refine pb_aload_n (pc := 143) d_Shelf_bringIn_143 3 rfl rfl ?_
        refine pb_iload_n (pc := 144) d_Shelf_bringIn_144 4 rfl rfl ?_
        refine pb_aload_n (pc := 145) d_Shelf_bringIn_145 2 rfl rfl ?_
        refine pb_get (pc := 146) d_Shelf_bringIn_146 0 0 rfl rfl (by decide) in_Shelf k_389 rfl ?_
        refine pb_bipush (pc := 149) (v := 24) d_Shelf_bringIn_149 (by decide) ?_
        refine pb_iload (pc := 151) d_Shelf_bringIn_151 1 rfl ?_
        refine pb_imul (pc := 153) d_Shelf_bringIn_153 ?_
        refine pb_topi (fun i27 ei27 => ?_)
        try have ti27 : i27.toInt = 24 * i.toInt := ti_mul ei27 (by decide) rfl (by omega) (by (exact omg_e56b94b6f8 h8 hi1))
        refine pb_iload_n (pc := 154) d_Shelf_bringIn_154 5 rfl rfl ?_
        refine pb_copy (pc := 155) (ws' := [(h, .inr (3, [.ref sn, .ref sz, .ref sb, .ref sg, .int c])), (sn, .inl (G.2.1, 384, .inl (va_cpy f fn3 (x : Int32).toNatClampNeg (i27 : Int32).toNatClampNeg (n : Int32).toNatClampNeg))), (sz, .inl (G.2.2.1, 16, .inl zz)), (sb, .inl (G.2.1, 12000, .inl fb3)), (sg, .inl (G.2.2.1, 17, .inl gg)), (b, .inl (G.2.1, N, .inl f))]) d_Shelf_bringIn_155 0 5 1 rfl rfl rfl rfl k_482 k_484 k_483 k_134 (fun z9 => by have t9 : x.toInt < 0 := (ti_lt rfl (by decide)).mp z9; omega) (fun z9 => by have t9 : i27.toInt < 0 := (ti_lt rfl (by decide)).mp z9; (exact omg_5f89e63376 hi0 ti27 t9)) (fun z9 => by have t9 : n.toInt < 0 := (ti_lt rfl (by decide)).mp z9; omega) (by have := ti_clamp (x := x) (by omega); have := ti_clamp (x := n) (by omega); omega) (by have := ti_clamp (x := i27) (by (exact omg_2afa6fbb1b hi0 ti27)); have := ti_clamp (x := n) (by omega); omega) (fun i _ => F_f _) (by decide) (Nat.le_of_ble_eq_true rfl) rfl ?_
        refine pb_aload (pc := 158) d_Shelf_bringIn_158 6 rfl ?_
        refine pb_iload (pc := 160) d_Shelf_bringIn_160 7 rfl ?_
        refine pb_aload_n (pc := 162) d_Shelf_bringIn_162 2 rfl rfl ?_
        refine pb_get (pc := 163) d_Shelf_bringIn_163 0 2 rfl rfl (by decide) in_Shelf k_395 rfl ?_
        refine pb_aload_n (pc := 166) d_Shelf_bringIn_166 2 rfl rfl ?_
        refine pb_get (pc := 167) d_Shelf_bringIn_167 0 3 rfl rfl (by decide) in_Shelf k_399 rfl ?_
        refine pb_iload (pc := 170) d_Shelf_bringIn_170 1 rfl ?_
        refine pb_iald (pc := 172) d_Shelf_bringIn_172 4 rfl (vp_in_iff.mpr (by constructor <;> (first | exact omg_6b198f536d h8 hi1 | omega))) ?_
        refine pb_topi (fun i28 ei28 => ?_)
        have ti28 : i28.toInt = gx gg (i.toInt) := gx_ld ei28 rfl
        refine pb_iload (pc := 173) d_Shelf_bringIn_173 8 rfl ?_
        refine pb_copy (pc := 175) (ws' := [(h, .inr (3, [.ref sn, .ref sz, .ref sb, .ref sg, .int c])), (sn, .inl (G.2.1, 384, .inl (va_cpy f fn3 (x : Int32).toNatClampNeg (i27 : Int32).toNatClampNeg (n : Int32).toNatClampNeg))), (sz, .inl (G.2.2.1, 16, .inl zz)), (sb, .inl (G.2.1, 12000, .inl (va_cpy f fb3 (y : Int32).toNatClampNeg (i28 : Int32).toNatClampNeg (m : Int32).toNatClampNeg))), (sg, .inl (G.2.2.1, 17, .inl gg)), (b, .inl (G.2.1, N, .inl f))]) d_Shelf_bringIn_175 0 5 3 rfl rfl rfl rfl k_482 k_484 k_483 k_134 (fun z9 => by have t9 : y.toInt < 0 := (ti_lt rfl (by decide)).mp z9; omega) (fun z9 => by have t9 : i28.toInt < 0 := (ti_lt rfl (by decide)).mp z9; omega) (fun z9 => by have t9 : m.toInt < 0 := (ti_lt rfl (by decide)).mp z9; omega) (by have := ti_clamp (x := y) (by omega); have := ti_clamp (x := m) (by omega); omega) (by have := ti_clamp (x := i28) (by omega); have := ti_clamp (x := m) (by omega); omega) (fun i _ => F_f _) (by decide) (Nat.le_of_ble_eq_true rfl) rfl ?_
        refine pb_aload_n (pc := 178) d_Shelf_bringIn_178 2 rfl rfl ?_
        refine pb_get (pc := 179) d_Shelf_bringIn_179 0 1 rfl rfl (by decide) in_Shelf k_392 rfl ?_
        refine pb_iload (pc := 182) d_Shelf_bringIn_182 1 rfl ?_
        refine pb_iload_n (pc := 184) d_Shelf_bringIn_184 5 rfl rfl ?_
        refine pb_iast (pc := 185) (ws' := [(h, .inr (3, [.ref sn, .ref sz, .ref sb, .ref sg, .int c])), (sn, .inl (G.2.1, 384, .inl (va_cpy f fn3 (x : Int32).toNatClampNeg (i27 : Int32).toNatClampNeg (n : Int32).toNatClampNeg))), (sz, .inl (G.2.2.1, 16, .inl (upd zz ((i : Int32).toNatClampNeg) n))), (sb, .inl (G.2.1, 12000, .inl (va_cpy f fb3 (y : Int32).toNatClampNeg (i28 : Int32).toNatClampNeg (m : Int32).toNatClampNeg))), (sg, .inl (G.2.2.1, 17, .inl gg)), (b, .inl (G.2.1, N, .inl f))]) d_Shelf_bringIn_185 2 rfl (vp_in_iff.mpr (by constructor <;> (first | exact omg_7933d60fc2 h8 hi1 | omega))) rfl ?_
        refine pb_aload_n (pc := 186) d_Shelf_bringIn_186 2 rfl rfl ?_
        refine pb_dup (pc := 187) d_Shelf_bringIn_187 rfl ?_
        refine pb_get (pc := 188) d_Shelf_bringIn_188 0 4 rfl rfl (by decide) in_Shelf k_403 rfl ?_
        refine pb_iconst (pc := 191) (v := 1) d_Shelf_bringIn_191 (by decide) ?_
        refine pb_iadd (pc := 192) d_Shelf_bringIn_192 ?_
        refine pb_topi (fun i29 ei29 => ?_)
        try have ti29 : i29.toInt = c.toInt + 1 := ti_add ei29 rfl (by decide) (by omega) (by omega)
        refine pb_put (pc := 193) (ty := .int) (ws' := [(h, .inr (3, [.ref sn, .ref sz, .ref sb, .ref sg, .int i29])), (sn, .inl (G.2.1, 384, .inl (va_cpy f fn3 (x : Int32).toNatClampNeg (i27 : Int32).toNatClampNeg (n : Int32).toNatClampNeg))), (sz, .inl (G.2.2.1, 16, .inl (upd zz ((i : Int32).toNatClampNeg) n))), (sb, .inl (G.2.1, 12000, .inl (va_cpy f fb3 (y : Int32).toNatClampNeg (i28 : Int32).toNatClampNeg (m : Int32).toNatClampNeg))), (sg, .inl (G.2.2.1, 17, .inl gg)), (b, .inl (G.2.1, N, .inl f))]) d_Shelf_bringIn_193 0 4 t_Shelf t_Shelf_ok n_Shelf rfl rfl (by decide) in_Shelf k_403 rfl (by decide +kernel) rfl rfl (Nat.le_of_ble_eq_true rfl) rfl ?_
        have o9 := sh_in (n := n.toInt) (s := m.toInt) (z' := (upd zz ((i : Int32).toNatClampNeg) n)) (g' := gg) I hi0 hi1 (by omega) (by omega) (by omega) (by omega) (sh_zlast hz rfl hi0 rfl) (by rw [show i.toInt = k.toInt + 1 by omega]; exact hgg)
        have o8 : i29.toInt = c.toInt + 1 := by omega
        rw [← o8] at o9
        exact pb_vret (pc := 196) hQ d_Shelf_bringIn_196 rfl (i29, (va_cpy f fn3 (x : Int32).toNatClampNeg (i27 : Int32).toNatClampNeg (n : Int32).toNatClampNeg), (upd zz ((i : Int32).toNatClampNeg) n), (va_cpy f fb3 (y : Int32).toNatClampNeg (i28 : Int32).toNatClampNeg (m : Int32).toNatClampNeg), gg) ⟨rfl, (show sh_I i29.toInt (upd zz ((i : Int32).toNatClampNeg) n) gg from o9.1), (by (try dsimp only); first | done | (with_reducible assumption) | omega (splitDisjunctions := false) | assumption | omega | decide), (show gx gg i29.toInt = gx sfg c.toInt + m.toInt from o9.2), (show hid_ (∃ r : Int, 0 ≤ r ∧ r ≤ c.toInt ∧ (∀ j : Int, 0 ≤ j → j < r → lx_ (vN V j) (vZ V j) (fun k => gx f (x.toInt + k)) n.toInt) ∧ (r < c.toInt → ¬ lx_ (vN V r) (vZ V r) (fun k => gx f (x.toInt + k)) n.toInt) ∧ rC_ i29.toInt (va_cpy f fn3 (x : Int32).toNatClampNeg (i27 : Int32).toNatClampNeg (n : Int32).toNatClampNeg) (upd zz ((i : Int32).toNatClampNeg) n) (va_cpy f fb3 (y : Int32).toNatClampNeg (i28 : Int32).toNatClampNeg (m : Int32).toNatClampNeg) gg (vin_ V r n.toInt (fun k => gx f (x.toInt + k)) m.toInt (fun k => gr f (y.toInt + k)))) from (hid_i ⟨i.toInt, hi0, hi1, l1, l2, (by have o6 := rC_in (a := fun k => gx f (x.toInt + k)) (d := fun k => gr f (y.toInt + k)) (m := n.toInt) (s := m.toInt) (fn' := (va_cpy f fn3 (x : Int32).toNatClampNeg (i27 : Int32).toNatClampNeg (n : Int32).toNatClampNeg)) (fb' := (va_cpy f fb3 (y : Int32).toNatClampNeg (i28 : Int32).toNatClampNeg (m : Int32).toNatClampNeg)) (fz' := (upd zz ((i : Int32).toNatClampNeg) n)) (fg' := gg) R I hi0 hi1 (by omega) (by omega) (sh_zlast hz rfl hi0 rfl) (by rw [show i.toInt = k.toInt + 1 by omega]; exact hgg) (rn_put hn3 rfl (by omega) rfl (by omega) hi0 (by omega)) (rb_put hb3 rfl (by omega) rfl (by omega) (by omega) (by omega)); rw [← o8] at o6; exact o6)⟩)), (sb_fitC F_f F_fn3), (sb_fitC F_f F_fb3)⟩ [0, 1, 2, 3, 4, 5] (by decide) rfl rfl (by decide) (by decide)
      · have tw26 : ¬ k.toInt < i.toInt := fun z9 => w26 ((ti_lt rfl rfl).mpr z9)
        refine pb_aload_n (pc := 118) d_Shelf_bringIn_118 2 rfl rfl ?_
        refine pb_get (pc := 119) d_Shelf_bringIn_119 0 3 rfl rfl (by decide) in_Shelf k_399 rfl ?_
        refine pb_iload (pc := 122) d_Shelf_bringIn_122 0 rfl ?_
        refine pb_iconst (pc := 124) (v := 1) d_Shelf_bringIn_124 (by decide) ?_
        refine pb_iadd (pc := 125) d_Shelf_bringIn_125 ?_
        refine pb_topi (fun i30 ei30 => ?_)
        try have ti30 : i30.toInt = k.toInt + 1 := ti_add ei30 rfl (by decide) (by omega) (by (exact omg_de2f5d104e h8 hk2))
        refine pb_aload_n (pc := 126) d_Shelf_bringIn_126 2 rfl rfl ?_
        refine pb_get (pc := 127) d_Shelf_bringIn_127 0 3 rfl rfl (by decide) in_Shelf k_399 rfl ?_
        refine pb_iload (pc := 130) d_Shelf_bringIn_130 0 rfl ?_
        have w1 : gx gg k.toInt = gx sfg k.toInt := by rw [hgg _ (by omega), if_neg (by omega)]
        have y4 := sh_rng I (k := k.toInt) (by omega) (by omega)
        refine pb_iald (pc := 132) d_Shelf_bringIn_132 4 rfl (vp_in_iff.mpr (by constructor <;> (first | exact omg_6b198f536d h8 hk2 | omega))) ?_
        refine pb_topi (fun i31 ei31 => ?_)
        have ti31 : i31.toInt = gx gg (k.toInt) := gx_ld ei31 rfl
        refine pb_iload (pc := 133) d_Shelf_bringIn_133 8 rfl ?_
        refine pb_iadd (pc := 135) d_Shelf_bringIn_135 ?_
        refine pb_topi (fun i32 ei32 => ?_)
        try have ti32 : i32.toInt = i31.toInt + m.toInt := ti_add ei32 rfl rfl (by (exact omg_ca8afbb782 h6 w1 y4 ti31)) (by (exact omg_f843fe99cd h9_ w1 y4 ti31))
        refine pb_iast (pc := 136) (ws' := [(h, .inr (3, [.ref sn, .ref sz, .ref sb, .ref sg, .int c])), (sn, .inl (G.2.1, 384, .inl fn3)), (sz, .inl (G.2.2.1, 16, .inl zz)), (sb, .inl (G.2.1, 12000, .inl fb3)), (sg, .inl (G.2.2.1, 17, .inl (upd gg ((i30 : Int32).toNatClampNeg) i32))), (b, .inl (G.2.1, N, .inl f))]) d_Shelf_bringIn_136 4 rfl (vp_in_iff.mpr (by constructor <;> (first | exact omg_2df8418a30 hi0 tw26 ti30 | exact omg_24f9f54383 h8 hk2 ti30 | omega))) rfl ?_
        refine pb_iincN (pc := 137) (c := (-1)) d_Shelf_bringIn_137 0 rfl (by decide) (by decide) (fun i33 ei33 => ?_)
        have ti33 : i33.toInt = k.toInt + (-1) := ti_add ei33 rfl (by decide) (by omega) (by (exact omg_b64e49890a h8 hk2))
        refine pb_eq (pc' := 140) (lo' := [(9, .int i33), (7, .int i), (0, .ref h), (1, .ref b), (2, .int x), (3, .int n), (4, .ref b), (5, .int y), (6, .int m)]) (rest' := []) (ws' := [(h, .inr (3, [.ref sn, .ref sz, .ref sb, .ref sg, .int c])), (sn, .inl (G.2.1, 384, .inl fn3)), (sz, .inl (G.2.2.1, 16, .inl zz)), (sb, .inl (G.2.1, 12000, .inl fb3)), (sg, .inl (G.2.2.1, 17, .inl (upd gg ((i30 : Int32).toNatClampNeg) i32))), (b, .inl (G.2.1, N, .inl f))]) ?_
        refine pb_goto (pc := 140) (tgt := 111) d_Shelf_bringIn_140 (by decide) ?_
        exact ih111 i33 i (upd gg ((i30 : Int32).toNatClampNeg) i32) fn3 zz fb3 F_fn3 F_fb3 (by first | (with_reducible assumption) | omega (splitDisjunctions := false) | assumption | omega | decide) (by first | (with_reducible assumption) | omega (splitDisjunctions := false) | assumption | omega | decide) (by first | (with_reducible assumption) | omega (splitDisjunctions := false) | assumption | omega | decide) (by first | (with_reducible assumption) | (exact omg_1b7add1533 hk2 ti33) | assumption | omega | decide) (by first | (with_reducible assumption) | omega (splitDisjunctions := false) | assumption | omega | decide) (sh_istep hgg (by (exact omg_ff2a826de4 hi0 tw26)) (by omega) (by omega) (by omega) (by (exact omg_1f9ce21a20 w1 ti31 ti32))) (by first | (with_reducible assumption) | omega (splitDisjunctions := false) | assumption | omega | decide) (by first | (with_reducible assumption) | omega (splitDisjunctions := false) | assumption | omega | decide) (by first | (with_reducible assumption) | omega (splitDisjunctions := false) | assumption | omega | decide) (by first | (with_reducible assumption) | omega (splitDisjunctions := false) | assumption | omega | decide) (by (exact omg_5b3ad91220 hm9 tw26 ti33))
  refine pb_re (ws' := [(h, .inr (3, [.ref sn, .ref sz, .ref sb, .ref sg, .int c])), (sn, .inl (G.2.1, 384, .inl (va_cpy sfn sfn (i20 : Int32).toNatClampNeg (i22 : Int32).toNatClampNeg (i23 : Int32).toNatClampNeg))), (sz, .inl (G.2.2.1, 16, .inl (va_cpy sfz sfz (r_3 : Int32).toNatClampNeg (i24 : Int32).toNatClampNeg (i8 : Int32).toNatClampNeg))), (sb, .inl (G.2.1, 12000, .inl (va_cpy sfb sfb (i9 : Int32).toNatClampNeg (i11 : Int32).toNatClampNeg (i19 : Int32).toNatClampNeg))), (sg, .inl (G.2.2.1, 17, .inl sfg)), (b, .inl (G.2.1, N, .inl f))]) (lo' := [(9, .int c), (7, .int r_3), (0, .ref h), (1, .ref b), (2, .int x), (3, .int n), (4, .ref b), (5, .int y), (6, .int m)]) [4, 1, 2, 0, 5, 3] [0, 2, 3, 4, 5, 6, 7, 8, 9] (by decide) rfl rfl rfl ?_
  exact hL111_25 _ c r_3 sfg (va_cpy sfn sfn (i20 : Int32).toNatClampNeg (i22 : Int32).toNatClampNeg (i23 : Int32).toNatClampNeg) (va_cpy sfz sfz (r_3 : Int32).toNatClampNeg (i24 : Int32).toNatClampNeg (i8 : Int32).toNatClampNeg) (va_cpy sfb sfb (i9 : Int32).toNatClampNeg (i11 : Int32).toNatClampNeg (i19 : Int32).toNatClampNeg) (sb_fitC F_sfn F_sfn) (sb_fitC F_sfb F_sfb) (by first | (with_reducible assumption) | omega (splitDisjunctions := false) | assumption | omega | decide) (by first | (with_reducible assumption) | omega (splitDisjunctions := false) | assumption | omega | decide) (by first | (with_reducible assumption) | omega (splitDisjunctions := false) | assumption | omega | decide) (by first | (with_reducible assumption) | omega (splitDisjunctions := false) | assumption | omega | decide) (sh_zin rfl (by omega) (by omega) (by omega) (by omega)) (fun j hj => by rw [if_neg (by omega)]) P1F P2F (rn_in (by omega) (by omega) (by omega) (by omega) (by omega)) (rb_in (by omega) (by omega) (by (exact omg_668e77e914 fh15 ti18 ti19)) (by omega) (by (exact omg_087e784acd y1)) (by omega)) (Nat.lt_succ_self _)
/-! ROWS OF NUMBERS -/
theorem omg_0f40257777 {x0 : Int} {x1 : Int} {x2 : Int} {x3 : Int} {x4 : Int} {x5 : Int} {x6 : Int} (a0 : ((x0 ≤ x1) ∧ ((x1 ≤ (x0 + (4000 : Int))) ∧ (((1 : Int) ≤ x2) ∧ (x2 ≤ (24 : Int)))))) (a1 : (x3 = (x2 - x4))) (a2 : (((0 : Int) < x5) → ((0 : Int) ≤ x3))) (a3 : (x6 = x4)) (a4 : (x6 ≤ x5)) : (x4 ≤ x2) := by omega
theorem omg_edbe65595c {x0 : Int} {x1 : Int} {x2 : Int} {x3 : Int} {x4 : Int} {x5 : Int} (a0 : (x0 = (x1 - x2))) (a1 : (((0 : Int) < x3) → ((0 : Int) ≤ x0))) (a2 : (x4 = x2)) (a3 : (x4 ≤ x3)) : ((x5 = (1 : Int)) → (((0 : Int) < x2) → (x2 ≤ x1))) := by omega
theorem omg_a45382f626 {x0 : Int} {x1 : Int} {x2 : Int} {x3 : Int} {x4 : Int} (a0 : ((0 : Int) ≤ x0)) (a1 : ((0 : Int) ≤ x1)) (a2 : (¬ (x2 < (0 : Int)))) (a3 : (x3 = ((24 : Int) * x0))) (a4 : (x4 = (x3 + x2))) : ((-(2147483648 : Int)) ≤ (x4 + x1)) := by omega
theorem omg_b30a0bed9f {x0 : Int} {x1 : Int} {x2 : Nat} {x3 : Int} {x4 : Int} (a0 : ((Int.toNat (x0 - x1)) < (x2 + (1 : Nat)))) (a1 : (x3 = x0)) (a2 : (¬ (x3 ≤ x1))) (a3 : (x4 = (x1 + (1 : Int)))) : ((Int.toNat (x0 - x4)) < x2) := by omega
theorem omg_e822e67b55 {x0 : Int} {x1 : Int} {x2 : Int} (a0 : (x0 = (x1 + (1 : Int)))) (a1 : (x2 < x0)) (a2 : (¬ (x2 < x1))) : (x2 = x1) := by omega
theorem omg_717929f615 {x0 : Int} {x1 : Int} {x2 : Int} {x3 : Int} (a0 : (x0 = x1)) (a1 : (¬ (x0 ≤ x2))) (a2 : (x3 = (x2 + (1 : Int)))) : (x3 ≤ x1) := by omega
theorem omg_43afb53601 {x0 : Int} {x1 : Int} {x2 : Int} {x3 : Int} {x4 : Int} {x5 : Int} {x6 : Int} (a0 : (x0 = (5 : Int))) (a1 : (x1 = x2)) (a2 : (x3 = x4)) (a3 : (x5 = x0)) (a4 : (x6 = (x1 + x5))) (a5 : (x3 = x6)) : (x4 = (x2 + (5 : Int))) := by omega
theorem omg_3cda784dae {x0 : Int} {x1 : Int} {x2 : Int} {x3 : Int} {x4 : Int} {x5 : Int} {x6 : Int} (a0 : (x0 ≤ (16 : Int))) (a1 : ((x1 ≤ x2) ∧ ((x2 ≤ (x1 + (4000 : Int))) ∧ (((1 : Int) ≤ x3) ∧ (x3 ≤ (24 : Int)))))) (a2 : (x4 = x3)) (a3 : (¬ (x0 ≤ x5))) (a4 : (x6 = ((24 : Int) * x5))) : ((x6 + x4) ≤ (((384 : Nat) : Nat) : Int)) := by omega
/-! who tells a part's relations -/
def tr_ (j : Int) : Int := ([46, 114, 101, 108, 115] : List Int).getD j.toNat 0
theorem tr_0 : (st_byts.getD 0 []).map Int32.toInt = [46, 114, 101, 108, 115] := by decide +kernel
theorem tr_c (j : Int) : st_c 0 j = tr_ j := by
  unfold st_c tr_
  rw [← tr_0]
  generalize st_byts.getD 0 [] = S
  rw [List.getD_eq_getElem?_getD, List.getD_eq_getElem?_getD, List.getElem?_map]
  cases c : S[j.toNat]? with
  | none => rfl
  | some x => rfl
def en6_ (n z : Nat → Int32) (i : Int) (k : Nat) : Prop := st_len k ≤ gx z i ∧ ∀ j : Int, 0 ≤ j → j < st_len k → gx n (24 * i + (gx z i - st_len k) + j) = st_c k j
/-- the name of part i, and .rels behind it -/
def tn6_ (V : VW_) (i k : Int) : Int := if k < vZ V i then vN V i k else tr_ (k - vZ V i)
theorem tn_z {c x i : Int} {n z : Nat → Int32} (h : ¬ gx z x = gx z i + 5) : ¬ nE_ (cN_ c n z) x (gx z i + 5) (tn6_ (cN_ c n z) i) := fun q => h q.1
theorem tn_nm {c i k : Int} {n z : Nat → Int32} (h : k < gx z i) : tn6_ (cN_ c n z) i k = gx n (24 * i + k) := if_pos h
theorem tn_rl {c i k : Int} {n z : Nat → Int32} (h : ¬ k < gx z i) : tn6_ (cN_ c n z) i k = tr_ (k - gx z i) := if_neg h
theorem tn_y {c x i : Int} {n z : Nat → Int32} (hz : gx z x = gx z i + 5) (hl : st_len 0 = 5) (he : en6_ n z x 0) (hs : ∀ j : Int, 0 ≤ j → j < gx z i → gx n (24 * i + j) = gx n (24 * x + j)) : nE_ (cN_ c n z) x (gx z i + 5) (tn6_ (cN_ c n z) i) := by
  refine ⟨hz, fun k k0 k1 => ?_⟩
  show gx n (24 * x + k) = _
  by_cases w : k < gx z i
  · rw [tn_nm w, hs k k0 w]
  · have e := he.2 (k - gx z i) (by omega) (by omega)
    rw [hl] at e
    rw [tn_rl w, ← tr_c, ← e]
    exact congrArg (gx n) (by omega)
theorem tn_e {c x i : Int} {n z : Nat → Int32} (hz : gx z x = gx z i + 5) (h0 : 0 ≤ gx z i) (hl : st_len 0 = 5) (he : ¬ en6_ n z x 0) : ¬ nE_ (cN_ c n z) x (gx z i + 5) (tn6_ (cN_ c n z) i) := fun q => he ⟨by omega, fun j j0 j1 => by
  have e : gx n (24 * x + (gx z i + j)) = tn6_ (cN_ c n z) i (gx z i + j) := q.2 (gx z i + j) (by omega) (by omega)
  rw [tn_rl (by omega), show gx z i + j - gx z i = j by omega] at e
  rw [tr_c, ← e]
  exact congrArg (gx n) (by omega)⟩
theorem tn_d {c x i : Int} {n z : Nat → Int32} (hs : ¬ ∀ j : Int, 0 ≤ j → j < gx z i → gx n (24 * i + j) = gx n (24 * x + j)) : ¬ nE_ (cN_ c n z) x (gx z i + 5) (tn6_ (cN_ c n z) i) := fun q => hs (fun j j0 j1 => by
  have e : gx n (24 * x + j) = tn6_ (cN_ c n z) i j := q.2 j j0 (by omega)
  rw [tn_nm j1] at e
  exact e.symm)
/-- the names alone say which part has a name -/
theorem isF_N {c m r : Int} {n z : Nat → Int32} {V : VW_} {a : Int → Int} (R : rN_ c n z V) (h : isF_ (cN_ c n z) m a r) : isF_ V m a r := by
  have key : ∀ i : Int, 0 ≤ i → i < c → (nE_ (cN_ c n z) i m a ↔ nE_ V i m a) := fun i i0 i1 => by
    have q := R.2 i i0 i1
    constructor
    · intro w
      have w1 : gx z i = m := w.1
      refine ⟨by rw [← q.1]; exact w1, fun k k0 k1 => ?_⟩
      rw [← q.2 k k0 (by rw [← q.1, w1]; exact k1)]
      exact w.2 k k0 k1
    · intro w
      have w1 : gx z i = m := by rw [q.1]; exact w.1
      refine ⟨w1, fun k k0 k1 => ?_⟩
      show gx n (24 * i + k) = a k
      rw [q.2 k k0 (by rw [← q.1, w1]; exact k1)]
      exact w.2 k k0 k1
  rcases h with ⟨h0, h1, h2⟩ | ⟨h0, h1⟩
  · have h3 : r < c := h1
    exact Or.inl ⟨h0, by rw [← R.1]; exact h3, (key r h0 h3).mp h2⟩
  · refine Or.inr ⟨h0, fun i i0 i1 q => ?_⟩
    have i2 : i < c := by rw [R.1]; exact i1
    exact h1 i i0 i2 ((key i i0 i2).mpr q)
theorem tn_N {c i : Int} {n z : Nat → Int32} {V : VW_} (R : rN_ c n z V) (i0 : 0 ≤ i) (i1 : i < c) (k : Int) (k0 : 0 ≤ k) : tn6_ (cN_ c n z) i k = tn6_ V i k := by
  have q := R.2 i i0 i1
  by_cases w : k < gx z i
  · rw [tn_nm w, q.2 k k0 (by rw [← q.1]; exact w)]
    exact (if_pos (show k < vZ V i by rw [← q.1]; exact w)).symm
  · rw [tn_rl w, q.1]
    exact (if_neg (show ¬ k < vZ V i by rw [← q.1]; exact w)).symm
theorem tl_N {c i r : Int} {n z : Nat → Int32} {V : VW_} (R : rN_ c n z V) (i0 : 0 ≤ i) (i1 : i < c) (h : isF_ (cN_ c n z) (gx z i + 5) (tn6_ (cN_ c n z) i) r) : isF_ V (vZ V i + 5) (tn6_ V i) r := by
  have q := (R.2 i i0 i1).1
  rw [q] at h
  exact isF_cg (isF_N R h) (fun k k0 _ => tn_N R i0 i1 k k0)

/-! CHECK: names told by a string, and which parts tell -/
theorem ns7_y {c i : Int} {n z : Nat → Int32} {k : Nat} (hz : gx z i = st_len k) (he : en6_ n z i k) : nE_ (cN_ c n z) i (st_len k) (st_c k) := ⟨hz, fun j j0 j1 => by
  have e := he.2 j j0 j1
  show gx n (24 * i + j) = st_c k j
  rw [← e]
  exact congrArg (gx n) (by omega)⟩
theorem ns7_z {c i : Int} {n z : Nat → Int32} {k : Nat} (hz : ¬ gx z i = st_len k) : ¬ nE_ (cN_ c n z) i (st_len k) (st_c k) := fun q => hz q.1
theorem ns7_e {c i : Int} {n z : Nat → Int32} {k : Nat} (hz : gx z i = st_len k) (he : ¬ en6_ n z i k) : ¬ nE_ (cN_ c n z) i (st_len k) (st_c k) := fun q => he ⟨by omega, fun j j0 j1 => by
  have e : gx n (24 * i + j) = st_c k j := q.2 j j0 j1
  rw [← e]
  exact congrArg (gx n) (by omega)⟩
/-- a part that is relations itself: its name is that of a part, and .rels behind it -/
def iT7_ (V : VW_) (i : Int) : Prop := ∃ k : Int, 0 ≤ k ∧ k < vC V ∧ nE_ V i (vZ V k + 5) (tn6_ V k)
theorem it7_y {c i r : Int} {n z : Nat → Int32} (hl : st_len 0 = 5) (he : en6_ n z i 0) (f : isF_ (cN_ c n z) (gx z i - 5) (fun k => gx n (24 * i + k)) r) (hr : 0 ≤ r) : iT7_ (cN_ c n z) i := by
  rcases f with ⟨_, f1, f2⟩ | ⟨f1, _⟩
  · have z1 : gx z r = gx z i - 5 := f2.1
    exact ⟨r, hr, f1, tn_y (by omega) hl he (fun j j0 j1 => f2.2 j j0 (by omega))⟩
  · omega
theorem it7_e {c i : Int} {n z : Nat → Int32} (hz : ∀ k : Int, 0 ≤ k → k < c → 0 ≤ gx z k) (hl : st_len 0 = 5) (he : ¬ en6_ n z i 0) : ¬ iT7_ (cN_ c n z) i := fun q => by
  obtain ⟨k, k0, k1, k2⟩ := q
  have z1 : gx z i = gx z k + 5 := k2.1
  exact tn_e z1 (hz k k0 k1) hl he k2
theorem it7_f {c i r : Int} {n z : Nat → Int32} (hz : ∀ k : Int, 0 ≤ k → k < c → 0 ≤ gx z k) (f : isF_ (cN_ c n z) (gx z i - 5) (fun k => gx n (24 * i + k)) r) (hr : r < 0) : ¬ iT7_ (cN_ c n z) i := fun q => by
  obtain ⟨k, k0, k1, k2⟩ := q
  have z1 : gx z i = gx z k + 5 := k2.1
  have z2 := hz k k0 k1
  rcases f with ⟨f0, _⟩ | ⟨_, f2⟩
  · omega
  · refine f2 k k0 k1 ⟨show gx z k = gx z i - 5 by omega, fun j j0 j1 => ?_⟩
    have e : gx n (24 * i + j) = tn6_ (cN_ c n z) k j := k2.2 j j0 (by show j < gx z k + 5; omega)
    rw [tn_nm (by omega)] at e
    exact e.symm
theorem iT7_N {c i : Int} {n z : Nat → Int32} {V : VW_} (R : rN_ c n z V) (i0 : 0 ≤ i) (i1 : i < c) : iT7_ (cN_ c n z) i ↔ iT7_ V i := by
  have eI := R.2 i i0 i1
  have key : ∀ k : Int, 0 ≤ k → k < c → (nE_ (cN_ c n z) i (gx z k + 5) (tn6_ (cN_ c n z) k) ↔ nE_ V i (vZ V k + 5) (tn6_ V k)) := fun k k0 k1 => by
    have eK := R.2 k k0 k1
    rw [eK.1]
    constructor
    · intro q
      have q1 : gx z i = vZ V k + 5 := q.1
      refine ⟨by rw [← eI.1]; exact q1, fun j j0 j1 => ?_⟩
      rw [← tn_N R k0 k1 j j0, ← eI.2 j j0 (by omega)]
      exact q.2 j j0 j1
    · intro q
      have q1 := q.1
      refine ⟨show gx z i = vZ V k + 5 by rw [eI.1]; exact q1, fun j j0 j1 => ?_⟩
      rw [tn_N R k0 k1 j j0]
      show gx n (24 * i + j) = _
      rw [eI.2 j j0 (by omega)]
      exact q.2 j j0 j1
  constructor
  · intro q
    obtain ⟨k, k0, k1, k2⟩ := q
    have k3 : k < c := k1
    exact ⟨k, k0, by rw [← R.1]; exact k3, (key k k0 k3).mp k2⟩
  · intro q
    obtain ⟨k, k0, k1, k2⟩ := q
    have k3 : k < c := by rw [R.1]; exact k1
    exact ⟨k, k0, k3, (key k k0 k3).mpr k2⟩
theorem nE_N {c i m : Int} {n z : Nat → Int32} {V : VW_} {a : Int → Int} (R : rN_ c n z V) (i0 : 0 ≤ i) (i1 : i < c) : nE_ (cN_ c n z) i m a ↔ nE_ V i m a := by
  have eI := R.2 i i0 i1
  constructor
  · intro q
    have q1 : gx z i = m := q.1
    refine ⟨by rw [← eI.1]; exact q1, fun j j0 j1 => ?_⟩
    rw [← eI.2 j j0 (by omega)]
    exact q.2 j j0 j1
  · intro q
    have q1 := q.1
    refine ⟨show gx z i = m by rw [eI.1]; exact q1, fun j j0 j1 => ?_⟩
    show gx n (24 * i + j) = _
    rw [eI.2 j j0 (by omega)]
    exact q.2 j j0 j1

theorem d_Shelf_endsWith_0 : decode prog_10_method_13_code 0 = .ok (.aload_n 0, 1) := by decide +kernel
theorem d_Shelf_endsWith_1 : decode prog_10_method_13_code 1 = .ok (.getfield 15, 3) := by decide +kernel
theorem d_Shelf_endsWith_4 : decode prog_10_method_13_code 4 = .ok (.iload_n 1, 1) := by decide +kernel
theorem d_Shelf_endsWith_5 : decode prog_10_method_13_code 5 = .ok (.iaload, 1) := by decide +kernel
theorem d_Shelf_endsWith_6 : decode prog_10_method_13_code 6 = .ok (.aload_n 2, 1) := by decide +kernel
theorem d_Shelf_endsWith_7 : decode prog_10_method_13_code 7 = .ok (.invokevirtual 59, 3) := by decide +kernel
theorem k_741 : (Jvm.Cond.methodLink "PackageBook$Shelf" (59 : Nat) ({ cls := "java/lang/String", name := "length", desc := "()I" } : Jvm.MethodName)) ∈ uW := uW_c2 144 rfl (by decide +kernel)
theorem k_744 : (Jvm.Cond.code ({ cls := "java/lang/String", name := "length", desc := "()I" } : Jvm.MethodName) prog_18_method_54_code (1 : Nat) (Option.some Jvm.ClassFile.FieldType.int)) ∈ uW := uW_c2 147 rfl (by decide +kernel)
theorem k_742 : (Jvm.Cond.instanceMethod ({ cls := "java/lang/String", name := "length", desc := "()I" } : Jvm.MethodName)) ∈ uW := uW_c2 145 rfl (by decide +kernel)
theorem k_743 : (Jvm.Cond.selects "java/lang/String" ({ cls := "java/lang/String", name := "length", desc := "()I" } : Jvm.MethodName) ({ cls := "java/lang/String", name := "length", desc := "()I" } : Jvm.MethodName)) ∈ uW := uW_c2 146 rfl (by decide +kernel)
theorem hy_JString_length : (y_JString_length).cls ≠ "java/lang/invoke/MethodHandle" ∧ (y_JString_length).cls ≠ "java/lang/invoke/VarHandle" ∧ (parseMethodDescriptor (y_JString_length).desc).map (fun d => d.parameters.length) = some 0 := by decide +kernel
theorem d_Shelf_endsWith_10 : decode prog_10_method_13_code 10 = .ok (.isub, 1) := by decide +kernel
theorem d_Shelf_endsWith_11 : decode prog_10_method_13_code 11 = .ok (.istore_n 3, 1) := by decide +kernel
theorem d_Shelf_endsWith_12 : decode prog_10_method_13_code 12 = .ok (.iconst 0, 1) := by decide +kernel
theorem d_Shelf_endsWith_13 : decode prog_10_method_13_code 13 = .ok (.istore 4, 2) := by decide +kernel
theorem d_Shelf_endsWith_15 : decode prog_10_method_13_code 15 = .ok (.iload 4, 2) := by decide +kernel
theorem d_Shelf_endsWith_17 : decode prog_10_method_13_code 17 = .ok (.aload_n 2, 1) := by decide +kernel
theorem d_Shelf_endsWith_18 : decode prog_10_method_13_code 18 = .ok (.invokevirtual 59, 3) := by decide +kernel
theorem d_Shelf_endsWith_21 : decode prog_10_method_13_code 21 = .ok (.if_icmp .ge 38, 3) := by decide +kernel
theorem d_Shelf_endsWith_59 : decode prog_10_method_13_code 59 = .ok (.iconst 1, 1) := by decide +kernel
theorem d_Shelf_endsWith_60 : decode prog_10_method_13_code 60 = .ok (.ireturn, 1) := by decide +kernel
theorem d_Shelf_endsWith_24 : decode prog_10_method_13_code 24 = .ok (.iload_n 3, 1) := by decide +kernel
theorem d_Shelf_endsWith_25 : decode prog_10_method_13_code 25 = .ok (.ifCond .lt 26, 3) := by decide +kernel
theorem d_Shelf_endsWith_51 : decode prog_10_method_13_code 51 = .ok (.iconst 0, 1) := by decide +kernel
theorem d_Shelf_endsWith_52 : decode prog_10_method_13_code 52 = .ok (.ireturn, 1) := by decide +kernel
theorem d_Shelf_endsWith_28 : decode prog_10_method_13_code 28 = .ok (.aload_n 0, 1) := by decide +kernel
theorem d_Shelf_endsWith_29 : decode prog_10_method_13_code 29 = .ok (.getfield 9, 3) := by decide +kernel
theorem d_Shelf_endsWith_32 : decode prog_10_method_13_code 32 = .ok (.bipush 24, 2) := by decide +kernel
theorem d_Shelf_endsWith_34 : decode prog_10_method_13_code 34 = .ok (.iload_n 1, 1) := by decide +kernel
theorem d_Shelf_endsWith_35 : decode prog_10_method_13_code 35 = .ok (.imul, 1) := by decide +kernel
theorem d_Shelf_endsWith_36 : decode prog_10_method_13_code 36 = .ok (.iload_n 3, 1) := by decide +kernel
theorem d_Shelf_endsWith_37 : decode prog_10_method_13_code 37 = .ok (.iadd, 1) := by decide +kernel
theorem d_Shelf_endsWith_38 : decode prog_10_method_13_code 38 = .ok (.iload 4, 2) := by decide +kernel
theorem d_Shelf_endsWith_40 : decode prog_10_method_13_code 40 = .ok (.iadd, 1) := by decide +kernel
theorem d_Shelf_endsWith_41 : decode prog_10_method_13_code 41 = .ok (.baload, 1) := by decide +kernel
theorem d_Shelf_endsWith_42 : decode prog_10_method_13_code 42 = .ok (.aload_n 2, 1) := by decide +kernel
theorem d_Shelf_endsWith_43 : decode prog_10_method_13_code 43 = .ok (.iload 4, 2) := by decide +kernel
theorem d_Shelf_endsWith_45 : decode prog_10_method_13_code 45 = .ok (.invokevirtual 68, 3) := by decide +kernel
theorem k_751 : (Jvm.Cond.methodLink "PackageBook$Shelf" (68 : Nat) ({ cls := "java/lang/String", name := "charAt", desc := "(I)C" } : Jvm.MethodName)) ∈ uW := uW_c2 154 rfl (by decide +kernel)
theorem k_754 : (Jvm.Cond.code ({ cls := "java/lang/String", name := "charAt", desc := "(I)C" } : Jvm.MethodName) prog_18_method_56_code (2 : Nat) (Option.some Jvm.ClassFile.FieldType.char)) ∈ uW := uW_c2 157 rfl (by decide +kernel)
theorem k_752 : (Jvm.Cond.instanceMethod ({ cls := "java/lang/String", name := "charAt", desc := "(I)C" } : Jvm.MethodName)) ∈ uW := uW_c2 155 rfl (by decide +kernel)
theorem k_753 : (Jvm.Cond.selects "java/lang/String" ({ cls := "java/lang/String", name := "charAt", desc := "(I)C" } : Jvm.MethodName) ({ cls := "java/lang/String", name := "charAt", desc := "(I)C" } : Jvm.MethodName)) ∈ uW := uW_c2 156 rfl (by decide +kernel)
theorem hy_JString_charAt : (y_JString_charAt).cls ≠ "java/lang/invoke/MethodHandle" ∧ (y_JString_charAt).cls ≠ "java/lang/invoke/VarHandle" ∧ (parseMethodDescriptor (y_JString_charAt).desc).map (fun d => d.parameters.length) = some 1 := by decide +kernel
theorem d_Shelf_endsWith_48 : decode prog_10_method_13_code 48 = .ok (.if_icmp .eq 5, 3) := by decide +kernel
theorem d_Shelf_endsWith_53 : decode prog_10_method_13_code 53 = .ok (.iinc 4 1, 3) := by decide +kernel
theorem d_Shelf_endsWith_56 : decode prog_10_method_13_code 56 = .ok (.goto (-41), 3) := by decide +kernel
abbrev y_Shelf_endsWith : MethodName := ⟨"PackageBook$Shelf", "endsWith", "(ILjava/lang/String;)Z"⟩
abbrev i_Shelf_endsWith : pb_I := (y_Shelf_endsWith, prog_10_method_13_code, 5, (some Jvm.ClassFile.FieldType.boolean), [], { frames := 4, cells := 0, slots := 0, locals := 85 })
set_option maxRecDepth 100000 in
set_option maxHeartbeats 4000000 in
theorem g_Shelf_endsWith {l : Launch} (hl : l.stackTraces = false) (G : pb_G) (h : Nat) (sn : Nat) (sz : Nat) (sb : Nat) (sg : Nat) (c : Int32) (sfn : Nat → Int32) (sfz : Nat → Int32) (sfg : Nat → Int32) (i : Int32) (k : Nat) (I : sh_I c.toInt sfz sfg) (i0 : 0 ≤ i.toInt) (i1 : i.toInt < c.toInt) (hk : k < st_n) (F_sfn : sb_Fit sfn) : Cn l G i_Shelf_endsWith [.ref h, .int i, .ref (G.2.2.2.2.2.1 k)] [(h, .inr (3, [.ref sn, .ref sz, .ref sb, .ref sg, .int c])), (sn, .inl (G.2.1, 384, .inl sfn)), (sz, .inl (G.2.2.1, 16, .inl sfz))] (S := Int32) (fun rv_ u => rv_ = some (.int u) ∧ (u.toInt = 0 ∨ u.toInt = 1) ∧ (u.toInt = 1 → 0 < st_len k → st_len k ≤ gx sfz i.toInt) ∧ (hid_ (u.toInt = 1 ↔ en6_ sfn sfz i.toInt k))) (fun u => [(h, .inr (3, [.ref sn, .ref sz, .ref sb, .ref sg, .int c])), (sn, .inl (G.2.1, 384, .inl sfn)), (sz, .inl (G.2.2.1, 16, .inl sfz))]) := by
  refine Cn.of hl (by decide +kernel) rfl (Nat.le_of_ble_eq_true rfl) (fun M hQ => ?_)
  refine pb_eq (pc' := 0) (lo' := [(0, .ref h), (1, .int i), (2, .ref (G.2.2.2.2.2.1 k))]) (rest' := []) (ws' := [(h, .inr (3, [.ref sn, .ref sz, .ref sb, .ref sg, .int c])), (sn, .inl (G.2.1, 384, .inl sfn)), (sz, .inl (G.2.2.1, 16, .inl sfz))]) ?_
  have zl0 : (0 : Int32).toInt = 0 := by decide
  have zl1 : (1 : Int32).toInt = 1 := by decide
  have zl24 : (24 : Int32).toInt = 24 := by decide
  have q9 := I.2.1
  have q8 := I.2.2.2.2 i.toInt (by omega) (by omega)
  have sl := st_len_rng k
  refine pb_aload_n (pc := 0) d_Shelf_endsWith_0 0 rfl rfl ?_
  refine pb_get (pc := 1) d_Shelf_endsWith_1 0 1 rfl rfl (by decide) in_Shelf k_392 rfl ?_
  refine pb_iload_n (pc := 4) d_Shelf_endsWith_4 1 rfl rfl ?_
  refine pb_iald (pc := 5) d_Shelf_endsWith_5 2 rfl (vp_in_iff.mpr (by constructor <;> omega)) ?_
  refine pb_topi (fun i1 ei1 => ?_)
  have ti1 : i1.toInt = gx sfz (i.toInt) := gx_ld ei1 rfl
  refine pb_aload_n (pc := 6) d_Shelf_endsWith_6 2 rfl rfl ?_
  refine pb_callVS (pc := 7) (I := i_Shelf_endsWith) (k := k) (nA := 0) (rest := [.int i1]) (wr := [(h, .inr (3, [.ref sn, .ref sz, .ref sb, .ref sg, .int c])), (sn, .inl (G.2.1, 384, .inl sfn)), (sz, .inl (G.2.2.1, 16, .inl sfz))]) d_Shelf_endsWith_7 (g_Str_length hl G k (by first | (with_reducible assumption) | omega (splitDisjunctions := false) | assumption | omega | decide)) hk rfl [] [0, 1, 2] (by decide) rfl rfl rfl (by decide) (by decide) k_744 rfl k_138 k_741 k_742 k_743 ⟨rfl, hy_JString_length⟩ (by decide) rfl rfl (Nat.le_of_ble_eq_true rfl) (by decide) (fun v9 u3 ch2 => ?_)
  obtain ⟨r_4, rfl⟩ : ∃ z9, z9 = u3 := ⟨_, rfl⟩
  obtain ⟨ech2, ch2⟩ := ch2
  have ech2 : v9 = some (.int r_4) := ech2
  subst ech2
  have fh5 : r_4.toInt = st_len k := ch2
  refine pb_eq (pc' := 10) (lo' := [(0, .ref h), (1, .int i), (2, .ref (G.2.2.2.2.2.1 k))]) (rest' := [.int r_4, .int i1]) (ws' := [(h, .inr (3, [.ref sn, .ref sz, .ref sb, .ref sg, .int c])), (sn, .inl (G.2.1, 384, .inl sfn)), (sz, .inl (G.2.2.1, 16, .inl sfz))]) ?_
  refine pb_isub (pc := 10) d_Shelf_endsWith_10 ?_
  refine pb_topi (fun i6 ei6 => ?_)
  try have ti6 : i6.toInt = i1.toInt - r_4.toInt := ti_sub ei6 rfl rfl (by omega) (by omega)
  refine pb_istore_n (pc := 11) (lo' := [(3, .int i6), (0, .ref h), (1, .int i), (2, .ref (G.2.2.2.2.2.1 k))]) d_Shelf_endsWith_11 rfl (by decide) rfl ?_
  refine pb_iconst (pc := 12) (v := 0) d_Shelf_endsWith_12 (by decide) ?_
  refine pb_istore (pc := 13) (lo' := [(4, .int 0), (3, .int i6), (0, .ref h), (1, .int i), (2, .ref (G.2.2.2.2.2.1 k))]) d_Shelf_endsWith_13 (by decide) rfl ?_
  have hL15_7 : ∀ (N9 : Nat) (fr : Int32) (j : Int32), (0 ≤ j.toInt) → (j.toInt ≤ st_len k) → (fr.toInt = gx sfz i.toInt - st_len k) → (0 < j.toInt → 0 ≤ fr.toInt) → (∀ x : Int, 0 ≤ x → x < j.toInt → gx sfn (24 * i.toInt + fr.toInt + x) = st_c k x) → ((st_len k - j.toInt).toNat) < N9 → pb_P l G M i_Shelf_endsWith 15 [(3, .int fr), (4, .int j), (0, .ref h), (1, .int i), (2, .ref (G.2.2.2.2.2.1 k))] [] [(h, .inr (3, [.ref sn, .ref sz, .ref sb, .ref sg, .int c])), (sn, .inl (G.2.1, 384, .inl sfn)), (sz, .inl (G.2.2.1, 16, .inl sfz))] 0 0 := by
    intro N9
    induction N9 with
    | zero => intro fr j j0 j1 f0 f1 je hm9; exact absurd hm9 (Nat.not_lt_zero _)
    | succ N9 ih15 =>
      intro fr j j0 j1 f0 f1 je hm9
      refine pb_iload (pc := 15) d_Shelf_endsWith_15 1 rfl ?_
      refine pb_aload_n (pc := 17) d_Shelf_endsWith_17 4 rfl rfl ?_
      refine pb_callVS (pc := 18) (I := i_Shelf_endsWith) (k := k) (nA := 0) (rest := [.int j]) (wr := [(h, .inr (3, [.ref sn, .ref sz, .ref sb, .ref sg, .int c])), (sn, .inl (G.2.1, 384, .inl sfn)), (sz, .inl (G.2.2.1, 16, .inl sfz))]) d_Shelf_endsWith_18 (g_Str_length hl G k (by first | (with_reducible assumption) | omega (splitDisjunctions := false) | assumption | omega | decide)) hk rfl [] [0, 1, 2] (by decide) rfl rfl rfl (by decide) (by decide) k_744 rfl k_138 k_741 k_742 k_743 ⟨rfl, hy_JString_length⟩ (by decide) rfl rfl (Nat.le_of_ble_eq_true rfl) (by decide) (fun v9 u9 ch8 => ?_)
      obtain ⟨r_10, rfl⟩ : ∃ z9, z9 = u9 := ⟨_, rfl⟩
      obtain ⟨ech8, ch8⟩ := ch8
      have ech8 : v9 = some (.int r_10) := ech8
      subst ech8
      have fh11 : r_10.toInt = st_len k := ch8
      refine pb_eq (pc' := 21) (lo' := [(3, .int fr), (4, .int j), (0, .ref h), (1, .int i), (2, .ref (G.2.2.2.2.2.1 k))]) (rest' := [.int r_10, .int j]) (ws' := [(h, .inr (3, [.ref sn, .ref sz, .ref sb, .ref sg, .int c])), (sn, .inl (G.2.1, 384, .inl sfn)), (sz, .inl (G.2.2.1, 16, .inl sfz))]) ?_
      refine pb_icmp_ge (pc := 21) (tgt := 59) d_Shelf_endsWith_21 (by decide) (fun w12 => ?_) (fun w12 => ?_)
      · have tw12 : r_10.toInt ≤ j.toInt := (ti_le rfl rfl).mp w12
        refine pb_iconst (pc := 59) (v := 1) d_Shelf_endsWith_59 (by decide) ?_
        exact pb_iret (pc := 60) hQ d_Shelf_endsWith_60 rfl rfl (1) ⟨rfl, (by (try dsimp only); first | done | (with_reducible assumption) | omega (splitDisjunctions := false) | assumption | omega | decide), (by (try dsimp only); first | done | (with_reducible assumption) | omega (splitDisjunctions := false) | assumption | (exact omg_edbe65595c f0 f1 ch8 tw12) | decide), (show hid_ ((1 : Int32).toInt = 1 ↔ en6_ sfn sfz i.toInt k) from (hid_i ⟨fun _ => ⟨by (exact omg_0f40257777 q8 f0 f1 ch8 tw12), fun x x0 x1 => by rw [← f0]; exact je x x0 (by omega)⟩, fun _ => zl1⟩))⟩ [0, 1, 2] (by decide) rfl rfl (by decide) (by decide)
      · have tw12 : ¬ r_10.toInt ≤ j.toInt := fun z9 => w12 ((ti_le rfl rfl).mpr z9)
        refine pb_iload_n (pc := 24) d_Shelf_endsWith_24 0 rfl rfl ?_
        refine pb_if_lt (pc := 25) (tgt := 51) d_Shelf_endsWith_25 (by decide) (fun w13 => ?_) (fun w13 => ?_)
        · have tw13 : fr.toInt < 0 := (ti_lt rfl (by decide)).mp w13
          refine pb_iconst (pc := 51) (v := 0) d_Shelf_endsWith_51 (by decide) ?_
          exact pb_iret (pc := 52) hQ d_Shelf_endsWith_52 rfl rfl (0) ⟨rfl, (by (try dsimp only); first | done | (with_reducible assumption) | omega (splitDisjunctions := false) | assumption | omega | decide), (by (try dsimp only); first | done | (with_reducible assumption) | omega (splitDisjunctions := false) | assumption | omega | decide), (show hid_ ((0 : Int32).toInt = 1 ↔ en6_ sfn sfz i.toInt k) from (hid_i ⟨fun q9 => absurd q9 (by omega), fun q9 => by have q8 := q9.1; have q7 := q9.2 j.toInt j0 (by omega); rw [← f0] at q7; omega⟩))⟩ [0, 1, 2] (by decide) rfl rfl (by decide) (by decide)
        · have tw13 : ¬ fr.toInt < 0 := fun z9 => w13 ((ti_lt rfl (by decide)).mpr z9)
          refine pb_aload_n (pc := 28) d_Shelf_endsWith_28 2 rfl rfl ?_
          refine pb_get (pc := 29) d_Shelf_endsWith_29 0 0 rfl rfl (by decide) in_Shelf k_389 rfl ?_
          refine pb_bipush (pc := 32) (v := 24) d_Shelf_endsWith_32 (by decide) ?_
          refine pb_iload_n (pc := 34) d_Shelf_endsWith_34 3 rfl rfl ?_
          refine pb_imul (pc := 35) d_Shelf_endsWith_35 ?_
          refine pb_topi (fun i14 ei14 => ?_)
          try have ti14 : i14.toInt = 24 * i.toInt := ti_mul ei14 (by decide) rfl (by omega) (by omega)
          refine pb_iload_n (pc := 36) d_Shelf_endsWith_36 0 rfl rfl ?_
          refine pb_iadd (pc := 37) d_Shelf_endsWith_37 ?_
          refine pb_topi (fun i15 ei15 => ?_)
          try have ti15 : i15.toInt = i14.toInt + fr.toInt := ti_add ei15 rfl rfl (by omega) (by omega)
          refine pb_iload (pc := 38) d_Shelf_endsWith_38 1 rfl ?_
          refine pb_iadd (pc := 40) d_Shelf_endsWith_40 ?_
          refine pb_topi (fun i16 ei16 => ?_)
          try have ti16 : i16.toInt = i15.toInt + j.toInt := ti_add ei16 rfl rfl (by (exact omg_a45382f626 i0 j0 tw13 ti14 ti15)) (by omega)
          refine pb_bald (pc := 41) d_Shelf_endsWith_41 1 rfl (vp_in_iff.mpr (by constructor <;> omega)) ?_
          refine pb_topi (fun i17 ei17 => ?_)
          have xi17 : i17 = gr sfn (24 * i.toInt + fr.toInt + j.toInt) := gr_ld ei17 (by omega)
          have yi17 : i17.toInt = gx sfn (24 * i.toInt + fr.toInt + j.toInt) := congrArg Int32.toInt xi17
          have ti17 : -128 ≤ i17.toInt ∧ i17.toInt ≤ 127 := ti_fit (F_sfn _) ei17
          have yN := yi17
          refine pb_aload_n (pc := 42) d_Shelf_endsWith_42 4 rfl rfl ?_
          refine pb_iload (pc := 43) d_Shelf_endsWith_43 1 rfl ?_
          refine pb_callVS (pc := 45) (I := i_Shelf_endsWith) (k := k) (nA := 1) (rest := [.int i17]) (wr := [(h, .inr (3, [.ref sn, .ref sz, .ref sb, .ref sg, .int c])), (sn, .inl (G.2.1, 384, .inl sfn)), (sz, .inl (G.2.2.1, 16, .inl sfz))]) d_Shelf_endsWith_45 (g_Str_charAt hl G k j (by first | (with_reducible assumption) | omega (splitDisjunctions := false) | assumption | omega | decide) (by first | (with_reducible assumption) | omega (splitDisjunctions := false) | assumption | omega | decide) (by first | (with_reducible assumption) | omega (splitDisjunctions := false) | assumption | omega | decide)) hk rfl [] [0, 1, 2] (by decide) rfl rfl rfl (by decide) (by decide) k_754 rfl k_138 k_751 k_752 k_753 ⟨rfl, hy_JString_charAt⟩ (by decide) rfl rfl (Nat.le_of_ble_eq_true rfl) (by decide) (fun v9 u19 ch18 => ?_)
          obtain ⟨r_20, rfl⟩ : ∃ z9, z9 = u19 := ⟨_, rfl⟩
          obtain ⟨ech18, ch18⟩ := ch18
          have ech18 : v9 = some (.int r_20) := ech18
          subst ech18
          obtain ⟨fh21, fh22, fh23⟩ : (0 ≤ r_20.toInt) ∧ (r_20.toInt ≤ 255) ∧ (r_20.toInt = st_c k j.toInt) := ch18
          have cF9 := fh23
          refine pb_eq (pc' := 48) (lo' := [(3, .int fr), (4, .int j), (0, .ref h), (1, .int i), (2, .ref (G.2.2.2.2.2.1 k))]) (rest' := [.int r_20, .int i17]) (ws' := [(h, .inr (3, [.ref sn, .ref sz, .ref sb, .ref sg, .int c])), (sn, .inl (G.2.1, 384, .inl sfn)), (sz, .inl (G.2.2.1, 16, .inl sfz))]) ?_
          refine pb_icmp_eq (pc := 48) (tgt := 53) d_Shelf_endsWith_48 (by decide) (fun w24 => ?_) (fun w24 => ?_)
          · have tw24 : i17.toInt = r_20.toInt := (ti_eq rfl rfl).mp w24
            refine pb_iincN (pc := 53) (c := 1) d_Shelf_endsWith_53 1 rfl (by decide) (by decide) (fun i25 ei25 => ?_)
            have ti25 : i25.toInt = j.toInt + 1 := ti_add ei25 rfl (by decide) (by omega) (by omega)
            refine pb_eq (pc' := 56) (lo' := [(4, .int i25), (3, .int fr), (0, .ref h), (1, .int i), (2, .ref (G.2.2.2.2.2.1 k))]) (rest' := []) (ws' := [(h, .inr (3, [.ref sn, .ref sz, .ref sb, .ref sg, .int c])), (sn, .inl (G.2.1, 384, .inl sfn)), (sz, .inl (G.2.2.1, 16, .inl sfz))]) ?_
            refine pb_goto (pc := 56) (tgt := 15) d_Shelf_endsWith_56 (by decide) ?_
            refine pb_re (ws' := [(h, .inr (3, [.ref sn, .ref sz, .ref sb, .ref sg, .int c])), (sn, .inl (G.2.1, 384, .inl sfn)), (sz, .inl (G.2.2.1, 16, .inl sfz))]) (lo' := [(3, .int fr), (4, .int i25), (0, .ref h), (1, .int i), (2, .ref (G.2.2.2.2.2.1 k))]) [0, 1, 2] [1, 0, 2, 3, 4] (by decide) rfl rfl rfl ?_
            exact ih15 fr i25 (by first | (with_reducible assumption) | omega (splitDisjunctions := false) | assumption | omega | decide) (by first | (with_reducible assumption) | (exact omg_717929f615 ch8 tw12 ti25) | assumption | omega | decide) (by first | (with_reducible assumption) | omega (splitDisjunctions := false) | assumption | omega | decide) (by first | (with_reducible assumption) | omega (splitDisjunctions := false) | assumption | omega | decide) (fun x x0 x1 => if w9 : x < j.toInt then je x x0 w9 else by rw [show x = j.toInt by (exact omg_e822e67b55 ti25 x1 w9)]; omega) (by (exact omg_b30a0bed9f hm9 ch8 tw12 ti25))
          · have tw24 : ¬ i17.toInt = r_20.toInt := fun z9 => w24 ((ti_eq rfl rfl).mpr z9)
            refine pb_iconst (pc := 51) (v := 0) d_Shelf_endsWith_51 (by decide) ?_
            exact pb_iret (pc := 52) hQ d_Shelf_endsWith_52 rfl rfl (0) ⟨rfl, (by (try dsimp only); first | done | (with_reducible assumption) | omega (splitDisjunctions := false) | assumption | omega | decide), (by (try dsimp only); first | done | (with_reducible assumption) | omega (splitDisjunctions := false) | assumption | omega | decide), (show hid_ ((0 : Int32).toInt = 1 ↔ en6_ sfn sfz i.toInt k) from (hid_i ⟨fun q9 => absurd q9 (by omega), fun q9 => by have q8 := q9.1; have q7 := q9.2 j.toInt j0 (by omega); rw [← f0] at q7; omega⟩))⟩ [0, 1, 2] (by decide) rfl rfl (by decide) (by decide)
  refine pb_re (ws' := [(h, .inr (3, [.ref sn, .ref sz, .ref sb, .ref sg, .int c])), (sn, .inl (G.2.1, 384, .inl sfn)), (sz, .inl (G.2.2.1, 16, .inl sfz))]) (lo' := [(3, .int i6), (4, .int 0), (0, .ref h), (1, .int i), (2, .ref (G.2.2.2.2.2.1 k))]) [0, 1, 2] [1, 0, 2, 3, 4] (by decide) rfl rfl rfl ?_
  exact hL15_7 _ i6 0 (by first | (with_reducible assumption) | omega (splitDisjunctions := false) | assumption | omega | decide) (by first | (with_reducible assumption) | omega (splitDisjunctions := false) | assumption | omega | decide) (by first | (with_reducible assumption) | omega (splitDisjunctions := false) | assumption | omega | decide) (by first | (with_reducible assumption) | omega (splitDisjunctions := false) | assumption | omega | decide) (fun x x0 x1 => absurd x1 (by omega)) (Nat.lt_succ_self _)

theorem d_Shelf_isNamed_0 : decode prog_10_method_12_code 0 = .ok (.aload_n 0, 1) := by decide +kernel
theorem d_Shelf_isNamed_1 : decode prog_10_method_12_code 1 = .ok (.getfield 15, 3) := by decide +kernel
theorem d_Shelf_isNamed_4 : decode prog_10_method_12_code 4 = .ok (.iload_n 1, 1) := by decide +kernel
theorem d_Shelf_isNamed_5 : decode prog_10_method_12_code 5 = .ok (.iaload, 1) := by decide +kernel
theorem d_Shelf_isNamed_6 : decode prog_10_method_12_code 6 = .ok (.aload_n 2, 1) := by decide +kernel
theorem d_Shelf_isNamed_7 : decode prog_10_method_12_code 7 = .ok (.invokevirtual 59, 3) := by decide +kernel
theorem d_Shelf_isNamed_10 : decode prog_10_method_12_code 10 = .ok (.if_icmp .ne 16, 3) := by decide +kernel
theorem d_Shelf_isNamed_26 : decode prog_10_method_12_code 26 = .ok (.iconst 0, 1) := by decide +kernel
theorem d_Shelf_isNamed_27 : decode prog_10_method_12_code 27 = .ok (.ireturn, 1) := by decide +kernel
theorem d_Shelf_isNamed_13 : decode prog_10_method_12_code 13 = .ok (.aload_n 0, 1) := by decide +kernel
theorem d_Shelf_isNamed_14 : decode prog_10_method_12_code 14 = .ok (.iload_n 1, 1) := by decide +kernel
theorem d_Shelf_isNamed_15 : decode prog_10_method_12_code 15 = .ok (.aload_n 2, 1) := by decide +kernel
theorem d_Shelf_isNamed_16 : decode prog_10_method_12_code 16 = .ok (.invokevirtual 64, 3) := by decide +kernel
theorem k_737 : (Jvm.Cond.methodLink "PackageBook$Shelf" (64 : Nat) ({ cls := "PackageBook$Shelf", name := "endsWith", desc := "(ILjava/lang/String;)Z" } : Jvm.MethodName)) ∈ uW := uW_c2 140 rfl (by decide +kernel)
theorem k_740 : (Jvm.Cond.code ({ cls := "PackageBook$Shelf", name := "endsWith", desc := "(ILjava/lang/String;)Z" } : Jvm.MethodName) prog_10_method_13_code (5 : Nat) (Option.some Jvm.ClassFile.FieldType.boolean)) ∈ uW := uW_c2 143 rfl (by decide +kernel)
theorem k_739 : (Jvm.Cond.instanceMethod ({ cls := "PackageBook$Shelf", name := "endsWith", desc := "(ILjava/lang/String;)Z" } : Jvm.MethodName)) ∈ uW := uW_c2 142 rfl (by decide +kernel)
theorem k_29 : Cond.selects "PackageBook$Shelf" ⟨"PackageBook$Shelf", "endsWith", "(ILjava/lang/String;)Z"⟩ ⟨"PackageBook$Shelf", "endsWith", "(ILjava/lang/String;)Z"⟩ ∈ uW := uW_of 29 (by decide +kernel) (by decide +kernel)
theorem hy_Shelf_endsWith : (y_Shelf_endsWith).cls ≠ "java/lang/invoke/MethodHandle" ∧ (y_Shelf_endsWith).cls ≠ "java/lang/invoke/VarHandle" ∧ (parseMethodDescriptor (y_Shelf_endsWith).desc).map (fun d => d.parameters.length) = some 2 := by decide +kernel
theorem d_Shelf_isNamed_19 : decode prog_10_method_12_code 19 = .ok (.ifCond .eq 7, 3) := by decide +kernel
theorem d_Shelf_isNamed_22 : decode prog_10_method_12_code 22 = .ok (.iconst 1, 1) := by decide +kernel
theorem d_Shelf_isNamed_23 : decode prog_10_method_12_code 23 = .ok (.goto 4, 3) := by decide +kernel
abbrev y_Shelf_isNamed : MethodName := ⟨"PackageBook$Shelf", "isNamed", "(ILjava/lang/String;)Z"⟩
abbrev i_Shelf_isNamed : pb_I := (y_Shelf_isNamed, prog_10_method_12_code, 3, (some Jvm.ClassFile.FieldType.boolean), [], { frames := 5, cells := 0, slots := 0, locals := 109 })
set_option maxRecDepth 100000 in
set_option maxHeartbeats 4000000 in
theorem g_Shelf_isNamed {l : Launch} (hl : l.stackTraces = false) (G : pb_G) (h : Nat) (sn : Nat) (sz : Nat) (sb : Nat) (sg : Nat) (c : Int32) (sfn : Nat → Int32) (sfz : Nat → Int32) (sfg : Nat → Int32) (i : Int32) (k : Nat) (I : sh_I c.toInt sfz sfg) (i0 : 0 ≤ i.toInt) (i1 : i.toInt < c.toInt) (hk : k < st_n) (F_sfn : sb_Fit sfn) : Cn l G i_Shelf_isNamed [.ref h, .int i, .ref (G.2.2.2.2.2.1 k)] [(h, .inr (3, [.ref sn, .ref sz, .ref sb, .ref sg, .int c])), (sn, .inl (G.2.1, 384, .inl sfn)), (sz, .inl (G.2.2.1, 16, .inl sfz))] (S := Int32) (fun rv_ u => rv_ = some (.int u) ∧ (u.toInt = 0 ∨ u.toInt = 1) ∧ (hid_ ((u.toInt = 1 ∧ nE_ (cN_ c.toInt sfn sfz) i.toInt (st_len k) (st_c k)) ∨ (u.toInt = 0 ∧ ¬ nE_ (cN_ c.toInt sfn sfz) i.toInt (st_len k) (st_c k))))) (fun u => [(h, .inr (3, [.ref sn, .ref sz, .ref sb, .ref sg, .int c])), (sn, .inl (G.2.1, 384, .inl sfn)), (sz, .inl (G.2.2.1, 16, .inl sfz))]) := by
  refine Cn.of hl (by decide +kernel) rfl (Nat.le_of_ble_eq_true rfl) (fun M hQ => ?_)
  refine pb_eq (pc' := 0) (lo' := [(0, .ref h), (1, .int i), (2, .ref (G.2.2.2.2.2.1 k))]) (rest' := []) (ws' := [(h, .inr (3, [.ref sn, .ref sz, .ref sb, .ref sg, .int c])), (sn, .inl (G.2.1, 384, .inl sfn)), (sz, .inl (G.2.2.1, 16, .inl sfz))]) ?_
  have zl0 : (0 : Int32).toInt = 0 := by decide
  have zl1 : (1 : Int32).toInt = 1 := by decide
  have q9 := I.2.1
  have q8 := I.2.2.2.2 i.toInt (by omega) (by omega)
  refine pb_aload_n (pc := 0) d_Shelf_isNamed_0 0 rfl rfl ?_
  refine pb_get (pc := 1) d_Shelf_isNamed_1 0 1 rfl rfl (by decide) in_Shelf k_392 rfl ?_
  refine pb_iload_n (pc := 4) d_Shelf_isNamed_4 1 rfl rfl ?_
  refine pb_iald (pc := 5) d_Shelf_isNamed_5 2 rfl (vp_in_iff.mpr (by constructor <;> omega)) ?_
  refine pb_topi (fun i1 ei1 => ?_)
  have ti1 : i1.toInt = gx sfz (i.toInt) := gx_ld ei1 rfl
  refine pb_aload_n (pc := 6) d_Shelf_isNamed_6 2 rfl rfl ?_
  refine pb_callVS (pc := 7) (I := i_Shelf_isNamed) (k := k) (nA := 0) (rest := [.int i1]) (wr := [(h, .inr (3, [.ref sn, .ref sz, .ref sb, .ref sg, .int c])), (sn, .inl (G.2.1, 384, .inl sfn)), (sz, .inl (G.2.2.1, 16, .inl sfz))]) d_Shelf_isNamed_7 (g_Str_length hl G k (by first | (with_reducible assumption) | omega (splitDisjunctions := false) | assumption | omega | decide)) hk rfl [] [0, 1, 2] (by decide) rfl rfl rfl (by decide) (by decide) k_744 rfl k_138 k_741 k_742 k_743 ⟨rfl, hy_JString_length⟩ (by decide) rfl rfl (Nat.le_of_ble_eq_true rfl) (by decide) (fun v9 u3 ch2 => ?_)
  obtain ⟨r_4, rfl⟩ : ∃ z9, z9 = u3 := ⟨_, rfl⟩
  obtain ⟨ech2, ch2⟩ := ch2
  have ech2 : v9 = some (.int r_4) := ech2
  subst ech2
  have fh5 : r_4.toInt = st_len k := ch2
  refine pb_eq (pc' := 10) (lo' := [(0, .ref h), (1, .int i), (2, .ref (G.2.2.2.2.2.1 k))]) (rest' := [.int r_4, .int i1]) (ws' := [(h, .inr (3, [.ref sn, .ref sz, .ref sb, .ref sg, .int c])), (sn, .inl (G.2.1, 384, .inl sfn)), (sz, .inl (G.2.2.1, 16, .inl sfz))]) ?_
  refine pb_icmp_ne (pc := 10) (tgt := 26) d_Shelf_isNamed_10 (by decide) (fun w6 => ?_) (fun w6 => ?_)
  · have tw6 : ¬ i1.toInt = r_4.toInt := fun z9 => w6 ((ti_eq rfl rfl).mpr z9)
    refine pb_iconst (pc := 26) (v := 0) d_Shelf_isNamed_26 (by decide) ?_
    exact pb_iret (pc := 27) hQ d_Shelf_isNamed_27 rfl rfl (0) ⟨rfl, (by (try dsimp only); first | done | (with_reducible assumption) | omega (splitDisjunctions := false) | assumption | omega | decide), (show hid_ (((0 : Int32).toInt = 1 ∧ nE_ (cN_ c.toInt sfn sfz) i.toInt (st_len k) (st_c k)) ∨ ((0 : Int32).toInt = 0 ∧ ¬ nE_ (cN_ c.toInt sfn sfz) i.toInt (st_len k) (st_c k))) from (by first | exact hid_i (Or.inl ⟨by omega, ns7_y (by omega) (eF9.mp (by omega))⟩) | exact hid_i (Or.inr ⟨by omega, ns7_e (by omega) (fun q9 => absurd (eF9.mpr q9) (by omega))⟩) | exact hid_i (Or.inr ⟨by omega, ns7_z (by omega)⟩)))⟩ [0, 1, 2] (by decide) rfl rfl (by decide) (by decide)
  · have tw6 : i1.toInt = r_4.toInt := (ti_eq rfl rfl).mp w6
    refine pb_aload_n (pc := 13) d_Shelf_isNamed_13 0 rfl rfl ?_
    refine pb_iload_n (pc := 14) d_Shelf_isNamed_14 1 rfl rfl ?_
    refine pb_aload_n (pc := 15) d_Shelf_isNamed_15 2 rfl rfl ?_
    refine pb_callV (pc := 16) (I := i_Shelf_isNamed) (qb := 0) (ci := 3) (nA := 2) (rest := []) (wr := []) d_Shelf_isNamed_16 (g_Shelf_endsWith hl G h sn sz sb sg c sfn sfz sfg i k (by first | (with_reducible assumption) | omega (splitDisjunctions := false) | assumption | omega | decide) (by first | (with_reducible assumption) | omega (splitDisjunctions := false) | assumption | omega | decide) (by first | (with_reducible assumption) | omega (splitDisjunctions := false) | assumption | omega | decide) (by first | (with_reducible assumption) | omega (splitDisjunctions := false) | assumption | omega | decide) F_sfn) rfl rfl [0, 1, 2] [] (by decide) rfl rfl rfl (by decide) (by decide) k_740 rfl k_127 k_737 k_739 k_29 ⟨rfl, hy_Shelf_endsWith⟩ (by decide) rfl rfl (Nat.le_of_ble_eq_true rfl) (by decide) (fun v9 u8 ch7 => ?_)
    obtain ⟨r_9, rfl⟩ : ∃ z9, z9 = u8 := ⟨_, rfl⟩
    obtain ⟨ech7, ch7⟩ := ch7
    have ech7 : v9 = some (.int r_9) := ech7
    subst ech7
    obtain ⟨fh10, fh11, fh12⟩ : (r_9.toInt = 0 ∨ r_9.toInt = 1) ∧ (r_9.toInt = 1 → 0 < st_len k → st_len k ≤ gx sfz i.toInt) ∧ (hid_ (r_9.toInt = 1 ↔ en6_ sfn sfz i.toInt k)) := ch7
    have eF9 := hid_o fh12
    refine pb_eq (pc' := 19) (lo' := [(0, .ref h), (1, .int i), (2, .ref (G.2.2.2.2.2.1 k))]) (rest' := [.int r_9]) (ws' := [(h, .inr (3, [.ref sn, .ref sz, .ref sb, .ref sg, .int c])), (sn, .inl (G.2.1, 384, .inl sfn)), (sz, .inl (G.2.2.1, 16, .inl sfz))]) ?_
    refine pb_if_eq (pc := 19) (tgt := 26) d_Shelf_isNamed_19 (by decide) (fun w13 => ?_) (fun w13 => ?_)
    · have tw13 : r_9.toInt = 0 := (ti_eq rfl (by decide)).mp w13
      refine pb_iconst (pc := 26) (v := 0) d_Shelf_isNamed_26 (by decide) ?_
      exact pb_iret (pc := 27) hQ d_Shelf_isNamed_27 rfl rfl (0) ⟨rfl, (by (try dsimp only); first | done | (with_reducible assumption) | omega (splitDisjunctions := false) | assumption | omega | decide), (show hid_ (((0 : Int32).toInt = 1 ∧ nE_ (cN_ c.toInt sfn sfz) i.toInt (st_len k) (st_c k)) ∨ ((0 : Int32).toInt = 0 ∧ ¬ nE_ (cN_ c.toInt sfn sfz) i.toInt (st_len k) (st_c k))) from (by first | exact hid_i (Or.inl ⟨by omega, ns7_y (by omega) (eF9.mp (by omega))⟩) | exact hid_i (Or.inr ⟨by omega, ns7_e (by omega) (fun q9 => absurd (eF9.mpr q9) (by omega))⟩) | exact hid_i (Or.inr ⟨by omega, ns7_z (by omega)⟩)))⟩ [0, 1, 2] (by decide) rfl rfl (by decide) (by decide)
    · have tw13 : ¬ r_9.toInt = 0 := fun z9 => w13 ((ti_eq rfl (by decide)).mpr z9)
      refine pb_iconst (pc := 22) (v := 1) d_Shelf_isNamed_22 (by decide) ?_
      refine pb_goto (pc := 23) (tgt := 27) d_Shelf_isNamed_23 (by decide) ?_
      exact pb_iret (pc := 27) hQ d_Shelf_isNamed_27 rfl rfl (1) ⟨rfl, (by (try dsimp only); first | done | (with_reducible assumption) | omega (splitDisjunctions := false) | assumption | omega | decide), (show hid_ (((1 : Int32).toInt = 1 ∧ nE_ (cN_ c.toInt sfn sfz) i.toInt (st_len k) (st_c k)) ∨ ((1 : Int32).toInt = 0 ∧ ¬ nE_ (cN_ c.toInt sfn sfz) i.toInt (st_len k) (st_c k))) from (by first | exact hid_i (Or.inl ⟨by omega, ns7_y (by omega) (eF9.mp (by omega))⟩) | exact hid_i (Or.inr ⟨by omega, ns7_e (by omega) (fun q9 => absurd (eF9.mpr q9) (by omega))⟩) | exact hid_i (Or.inr ⟨by omega, ns7_z (by omega)⟩)))⟩ [0, 1, 2] (by decide) rfl rfl (by decide) (by decide)

theorem d_Shelf_isTeller_0 : decode prog_10_method_14_code 0 = .ok (.aload_n 0, 1) := by decide +kernel
theorem d_Shelf_isTeller_1 : decode prog_10_method_14_code 1 = .ok (.iload_n 1, 1) := by decide +kernel
theorem d_Shelf_isTeller_2 : decode prog_10_method_14_code 2 = .ok (.ldc 72, 2) := by decide +kernel
theorem d_Shelf_isTeller_4 : decode prog_10_method_14_code 4 = .ok (.invokevirtual 64, 3) := by decide +kernel
theorem d_Shelf_isTeller_7 : decode prog_10_method_14_code 7 = .ok (.ifCond .eq 34, 3) := by decide +kernel
theorem d_Shelf_isTeller_41 : decode prog_10_method_14_code 41 = .ok (.iconst 0, 1) := by decide +kernel
theorem d_Shelf_isTeller_42 : decode prog_10_method_14_code 42 = .ok (.ireturn, 1) := by decide +kernel
theorem d_Shelf_isTeller_10 : decode prog_10_method_14_code 10 = .ok (.aload_n 0, 1) := by decide +kernel
theorem d_Shelf_isTeller_11 : decode prog_10_method_14_code 11 = .ok (.aload_n 0, 1) := by decide +kernel
theorem d_Shelf_isTeller_12 : decode prog_10_method_14_code 12 = .ok (.getfield 9, 3) := by decide +kernel
theorem d_Shelf_isTeller_15 : decode prog_10_method_14_code 15 = .ok (.bipush 24, 2) := by decide +kernel
theorem d_Shelf_isTeller_17 : decode prog_10_method_14_code 17 = .ok (.iload_n 1, 1) := by decide +kernel
theorem d_Shelf_isTeller_18 : decode prog_10_method_14_code 18 = .ok (.imul, 1) := by decide +kernel
theorem d_Shelf_isTeller_19 : decode prog_10_method_14_code 19 = .ok (.aload_n 0, 1) := by decide +kernel
theorem d_Shelf_isTeller_20 : decode prog_10_method_14_code 20 = .ok (.getfield 15, 3) := by decide +kernel
theorem d_Shelf_isTeller_23 : decode prog_10_method_14_code 23 = .ok (.iload_n 1, 1) := by decide +kernel
theorem d_Shelf_isTeller_24 : decode prog_10_method_14_code 24 = .ok (.iaload, 1) := by decide +kernel
theorem d_Shelf_isTeller_25 : decode prog_10_method_14_code 25 = .ok (.ldc 72, 2) := by decide +kernel
theorem d_Shelf_isTeller_27 : decode prog_10_method_14_code 27 = .ok (.invokevirtual 59, 3) := by decide +kernel
theorem d_Shelf_isTeller_30 : decode prog_10_method_14_code 30 = .ok (.isub, 1) := by decide +kernel
theorem d_Shelf_isTeller_31 : decode prog_10_method_14_code 31 = .ok (.invokevirtual 74, 3) := by decide +kernel
theorem k_789 : (Jvm.Cond.methodLink "PackageBook$Shelf" (74 : Nat) ({ cls := "PackageBook$Shelf", name := "find", desc := "([BII)I" } : Jvm.MethodName)) ∈ uW := uW_c2 192 rfl (by decide +kernel)
theorem k_462 : (Jvm.Cond.code ({ cls := "PackageBook$Shelf", name := "find", desc := "([BII)I" } : Jvm.MethodName) prog_10_method_6_code (5 : Nat) (Option.some Jvm.ClassFile.FieldType.int)) ∈ uW := uW_c1 105 rfl (by decide +kernel)
theorem k_460 : (Jvm.Cond.instanceMethod ({ cls := "PackageBook$Shelf", name := "find", desc := "([BII)I" } : Jvm.MethodName)) ∈ uW := uW_c1 103 rfl (by decide +kernel)
theorem k_461 : (Jvm.Cond.selects "PackageBook$Shelf" ({ cls := "PackageBook$Shelf", name := "find", desc := "([BII)I" } : Jvm.MethodName) ({ cls := "PackageBook$Shelf", name := "find", desc := "([BII)I" } : Jvm.MethodName)) ∈ uW := uW_c1 104 rfl (by decide +kernel)
theorem hy_Shelf_find : (y_Shelf_find).cls ≠ "java/lang/invoke/MethodHandle" ∧ (y_Shelf_find).cls ≠ "java/lang/invoke/VarHandle" ∧ (parseMethodDescriptor (y_Shelf_find).desc).map (fun d => d.parameters.length) = some 3 := by decide +kernel
theorem d_Shelf_isTeller_34 : decode prog_10_method_14_code 34 = .ok (.ifCond .lt 7, 3) := by decide +kernel
theorem d_Shelf_isTeller_37 : decode prog_10_method_14_code 37 = .ok (.iconst 1, 1) := by decide +kernel
theorem d_Shelf_isTeller_38 : decode prog_10_method_14_code 38 = .ok (.goto 4, 3) := by decide +kernel
abbrev y_Shelf_isTeller : MethodName := ⟨"PackageBook$Shelf", "isTeller", "(I)Z"⟩
abbrev i_Shelf_isTeller : pb_I := (y_Shelf_isTeller, prog_10_method_14_code, 2, (some Jvm.ClassFile.FieldType.boolean), [], { frames := 5, cells := 0, slots := 0, locals := 109 })
set_option maxRecDepth 100000 in
set_option maxHeartbeats 4000000 in
theorem g_Shelf_isTeller {l : Launch} (hl : l.stackTraces = false) (G : pb_G) (h : Nat) (sn : Nat) (sz : Nat) (sb : Nat) (sg : Nat) (c : Int32) (sfn : Nat → Int32) (sfz : Nat → Int32) (sfg : Nat → Int32) (i : Int32) (I : sh_I c.toInt sfz sfg) (i0 : 0 ≤ i.toInt) (i1 : i.toInt < c.toInt) (F_sfn : sb_Fit sfn) : Cn l G i_Shelf_isTeller [.ref h, .int i] [(h, .inr (3, [.ref sn, .ref sz, .ref sb, .ref sg, .int c])), (sn, .inl (G.2.1, 384, .inl sfn)), (sz, .inl (G.2.2.1, 16, .inl sfz))] (S := Int32) (fun rv_ u => rv_ = some (.int u) ∧ (u.toInt = 0 ∨ u.toInt = 1) ∧ (hid_ ((u.toInt = 1 ∧ iT7_ (cN_ c.toInt sfn sfz) i.toInt) ∨ (u.toInt = 0 ∧ ¬ iT7_ (cN_ c.toInt sfn sfz) i.toInt)))) (fun u => [(h, .inr (3, [.ref sn, .ref sz, .ref sb, .ref sg, .int c])), (sn, .inl (G.2.1, 384, .inl sfn)), (sz, .inl (G.2.2.1, 16, .inl sfz))]) := by
  refine Cn.of hl (by decide +kernel) rfl (Nat.le_of_ble_eq_true rfl) (fun M hQ => ?_)
  refine pb_eq (pc' := 0) (lo' := [(0, .ref h), (1, .int i)]) (rest' := []) (ws' := [(h, .inr (3, [.ref sn, .ref sz, .ref sb, .ref sg, .int c])), (sn, .inl (G.2.1, 384, .inl sfn)), (sz, .inl (G.2.2.1, 16, .inl sfz))]) ?_
  have zl0 : (0 : Int32).toInt = 0 := by decide
  have zl1 : (1 : Int32).toInt = 1 := by decide
  have zl24 : (24 : Int32).toInt = 24 := by decide
  have q9 := I.2.1
  have q8 := I.2.2.2.2 i.toInt (by omega) (by omega)
  have s5 : st_len 0 = 5 := by decide +kernel
  refine pb_aload_n (pc := 0) d_Shelf_isTeller_0 0 rfl rfl ?_
  refine pb_iload_n (pc := 1) d_Shelf_isTeller_1 1 rfl rfl ?_
  refine pb_ldcS (pc := 2) (k := 0) d_Shelf_isTeller_2 rfl (by decide) ?_
  refine pb_callV (pc := 4) (I := i_Shelf_isTeller) (qb := 0) (ci := 3) (nA := 2) (rest := []) (wr := []) d_Shelf_isTeller_4 (g_Shelf_endsWith hl G h sn sz sb sg c sfn sfz sfg i 0 (by first | omega | assumption | decide +kernel) (by first | omega | assumption | decide +kernel) (by first | omega | assumption | decide +kernel) (by first | omega | assumption | decide +kernel) F_sfn) rfl rfl [0, 1, 2] [] (by decide) rfl rfl rfl (by decide) (by decide) k_740 rfl k_127 k_737 k_739 k_29 ⟨rfl, hy_Shelf_endsWith⟩ (by decide) rfl rfl (Nat.le_of_ble_eq_true rfl) (by decide) (fun v9 u2 ch1 => ?_)
  obtain ⟨r_3, rfl⟩ : ∃ z9, z9 = u2 := ⟨_, rfl⟩
  obtain ⟨ech1, ch1⟩ := ch1
  have ech1 : v9 = some (.int r_3) := ech1
  subst ech1
  obtain ⟨fh4, fh5, fh6⟩ : (r_3.toInt = 0 ∨ r_3.toInt = 1) ∧ (r_3.toInt = 1 → 0 < st_len 0 → st_len 0 ≤ gx sfz i.toInt) ∧ (hid_ (r_3.toInt = 1 ↔ en6_ sfn sfz i.toInt 0)) := ch1
  have eF9 := hid_o fh6
  refine pb_eq (pc' := 7) (lo' := [(0, .ref h), (1, .int i)]) (rest' := [.int r_3]) (ws' := [(h, .inr (3, [.ref sn, .ref sz, .ref sb, .ref sg, .int c])), (sn, .inl (G.2.1, 384, .inl sfn)), (sz, .inl (G.2.2.1, 16, .inl sfz))]) ?_
  refine pb_if_eq (pc := 7) (tgt := 41) d_Shelf_isTeller_7 (by decide) (fun w7 => ?_) (fun w7 => ?_)
  · have tw7 : r_3.toInt = 0 := (ti_eq rfl (by decide)).mp w7
    refine pb_iconst (pc := 41) (v := 0) d_Shelf_isTeller_41 (by decide) ?_
    exact pb_iret (pc := 42) hQ d_Shelf_isTeller_42 rfl rfl (0) ⟨rfl, (by (try dsimp only); first | done | (with_reducible assumption) | omega (splitDisjunctions := false) | assumption | omega | decide), (show hid_ (((0 : Int32).toInt = 1 ∧ iT7_ (cN_ c.toInt sfn sfz) i.toInt) ∨ ((0 : Int32).toInt = 0 ∧ ¬ iT7_ (cN_ c.toInt sfn sfz) i.toInt)) from (by first | exact hid_i (Or.inl ⟨by omega, it7_y s5 (eF9.mp (by omega)) fF9 (by omega)⟩) | exact hid_i (Or.inr ⟨by omega, it7_f (fun k k0 k1 => by have q7 := (I.2.2.2.2 k k0 k1).2.2.1; omega) fF9 (by omega)⟩) | exact hid_i (Or.inr ⟨by omega, it7_e (fun k k0 k1 => by have q7 := (I.2.2.2.2 k k0 k1).2.2.1; omega) s5 (fun q9 => absurd (eF9.mpr q9) (by omega))⟩)))⟩ [0, 1, 2] (by decide) rfl rfl (by decide) (by decide)
  · have tw7 : ¬ r_3.toInt = 0 := fun z9 => w7 ((ti_eq rfl (by decide)).mpr z9)
    refine pb_aload_n (pc := 10) d_Shelf_isTeller_10 0 rfl rfl ?_
    refine pb_aload_n (pc := 11) d_Shelf_isTeller_11 0 rfl rfl ?_
    refine pb_get (pc := 12) d_Shelf_isTeller_12 0 0 rfl rfl (by decide) in_Shelf k_389 rfl ?_
    refine pb_bipush (pc := 15) (v := 24) d_Shelf_isTeller_15 (by decide) ?_
    refine pb_iload_n (pc := 17) d_Shelf_isTeller_17 1 rfl rfl ?_
    refine pb_imul (pc := 18) d_Shelf_isTeller_18 ?_
    refine pb_topi (fun i8 ei8 => ?_)
    try have ti8 : i8.toInt = 24 * i.toInt := ti_mul ei8 (by decide) rfl (by omega) (by omega)
    refine pb_aload_n (pc := 19) d_Shelf_isTeller_19 0 rfl rfl ?_
    refine pb_get (pc := 20) d_Shelf_isTeller_20 0 1 rfl rfl (by decide) in_Shelf k_392 rfl ?_
    refine pb_iload_n (pc := 23) d_Shelf_isTeller_23 1 rfl rfl ?_
    refine pb_iald (pc := 24) d_Shelf_isTeller_24 2 rfl (vp_in_iff.mpr (by constructor <;> omega)) ?_
    refine pb_topi (fun i9 ei9 => ?_)
    have ti9 : i9.toInt = gx sfz (i.toInt) := gx_ld ei9 rfl
    refine pb_ldcS (pc := 25) (k := 0) d_Shelf_isTeller_25 rfl (by decide) ?_
    refine pb_callVS (pc := 27) (I := i_Shelf_isTeller) (k := 0) (nA := 0) (rest := [.int i9, .int i8, .ref sn, .ref h]) (wr := [(h, .inr (3, [.ref sn, .ref sz, .ref sb, .ref sg, .int c])), (sn, .inl (G.2.1, 384, .inl sfn)), (sz, .inl (G.2.2.1, 16, .inl sfz))]) d_Shelf_isTeller_27 (g_Str_length hl G 0 (by first | omega | assumption | decide +kernel)) (by decide) rfl [] [0, 1, 2] (by decide) rfl rfl rfl (by decide) (by decide) k_744 rfl k_138 k_741 k_742 k_743 ⟨rfl, hy_JString_length⟩ (by decide) rfl rfl (Nat.le_of_ble_eq_true rfl) (by decide) (fun v9 u11 ch10 => ?_)
    obtain ⟨r_12, rfl⟩ : ∃ z9, z9 = u11 := ⟨_, rfl⟩
    obtain ⟨ech10, ch10⟩ := ch10
    have ech10 : v9 = some (.int r_12) := ech10
    subst ech10
    have fh13 : r_12.toInt = st_len 0 := ch10
    refine pb_eq (pc' := 30) (lo' := [(0, .ref h), (1, .int i)]) (rest' := [.int r_12, .int i9, .int i8, .ref sn, .ref h]) (ws' := [(h, .inr (3, [.ref sn, .ref sz, .ref sb, .ref sg, .int c])), (sn, .inl (G.2.1, 384, .inl sfn)), (sz, .inl (G.2.2.1, 16, .inl sfz))]) ?_
    refine pb_isub (pc := 30) d_Shelf_isTeller_30 ?_
    refine pb_topi (fun i14 ei14 => ?_)
    try have ti14 : i14.toInt = i9.toInt - r_12.toInt := ti_sub ei14 rfl rfl (by omega) (by omega)
    refine pb_callV (pc := 31) (I := i_Shelf_isTeller) (qb := 0) (ci := 3) (nA := 3) (rest := []) (wr := []) d_Shelf_isTeller_31 (g_Shelf_find1 hl G h sn sz sb sg c sfn sfz sfg i8 i14 (cN_ c.toInt sfn sfz) cN_R (by first | omega | assumption | decide +kernel) (by first | omega | assumption | decide +kernel) (by first | omega | assumption | decide +kernel) F_sfn) rfl rfl [0, 1, 2] [] (by decide) rfl rfl rfl (by decide) (by decide) k_462 rfl k_127 k_789 k_460 k_461 ⟨rfl, hy_Shelf_find⟩ (by decide) rfl rfl (Nat.le_of_ble_eq_true rfl) (by decide) (fun v9 u16 ch15 => ?_)
    obtain ⟨r_17, rfl⟩ : ∃ z9, z9 = u16 := ⟨_, rfl⟩
    obtain ⟨ech15, ch15⟩ := ch15
    have ech15 : v9 = some (.int r_17) := ech15
    subst ech15
    obtain ⟨fh18, fh19, fh20⟩ : (-1 ≤ r_17.toInt) ∧ (r_17.toInt < c.toInt) ∧ (isF_ (cN_ c.toInt sfn sfz) i14.toInt (fun k => gx sfn (i8.toInt + k)) r_17.toInt) := ch15
    have fF9 := isF_cg fh20 (b := fun k => gx sfn (24 * i.toInt + k)) (fun k k0 k1 => by rw [show i8.toInt = 24 * i.toInt by omega])
    rw [show i14.toInt = gx sfz i.toInt - 5 by omega] at fF9
    refine pb_eq (pc' := 34) (lo' := [(0, .ref h), (1, .int i)]) (rest' := [.int r_17]) (ws' := [(h, .inr (3, [.ref sn, .ref sz, .ref sb, .ref sg, .int c])), (sn, .inl (G.2.1, 384, .inl sfn)), (sz, .inl (G.2.2.1, 16, .inl sfz))]) ?_
    refine pb_if_lt (pc := 34) (tgt := 41) d_Shelf_isTeller_34 (by decide) (fun w21 => ?_) (fun w21 => ?_)
    · have tw21 : r_17.toInt < 0 := (ti_lt rfl (by decide)).mp w21
      refine pb_iconst (pc := 41) (v := 0) d_Shelf_isTeller_41 (by decide) ?_
      exact pb_iret (pc := 42) hQ d_Shelf_isTeller_42 rfl rfl (0) ⟨rfl, (by (try dsimp only); first | done | (with_reducible assumption) | omega (splitDisjunctions := false) | assumption | omega | decide), (show hid_ (((0 : Int32).toInt = 1 ∧ iT7_ (cN_ c.toInt sfn sfz) i.toInt) ∨ ((0 : Int32).toInt = 0 ∧ ¬ iT7_ (cN_ c.toInt sfn sfz) i.toInt)) from (by first | exact hid_i (Or.inl ⟨by omega, it7_y s5 (eF9.mp (by omega)) fF9 (by omega)⟩) | exact hid_i (Or.inr ⟨by omega, it7_f (fun k k0 k1 => by have q7 := (I.2.2.2.2 k k0 k1).2.2.1; omega) fF9 (by omega)⟩) | exact hid_i (Or.inr ⟨by omega, it7_e (fun k k0 k1 => by have q7 := (I.2.2.2.2 k k0 k1).2.2.1; omega) s5 (fun q9 => absurd (eF9.mpr q9) (by omega))⟩)))⟩ [0, 1, 2] (by decide) rfl rfl (by decide) (by decide)
    · have tw21 : ¬ r_17.toInt < 0 := fun z9 => w21 ((ti_lt rfl (by decide)).mpr z9)
      refine pb_iconst (pc := 37) (v := 1) d_Shelf_isTeller_37 (by decide) ?_
      refine pb_goto (pc := 38) (tgt := 42) d_Shelf_isTeller_38 (by decide) ?_
      exact pb_iret (pc := 42) hQ d_Shelf_isTeller_42 rfl rfl (1) ⟨rfl, (by (try dsimp only); first | done | (with_reducible assumption) | omega (splitDisjunctions := false) | assumption | omega | decide), (show hid_ (((1 : Int32).toInt = 1 ∧ iT7_ (cN_ c.toInt sfn sfz) i.toInt) ∨ ((1 : Int32).toInt = 0 ∧ ¬ iT7_ (cN_ c.toInt sfn sfz) i.toInt)) from (by first | exact hid_i (Or.inl ⟨by omega, it7_y s5 (eF9.mp (by omega)) fF9 (by omega)⟩) | exact hid_i (Or.inr ⟨by omega, it7_f (fun k k0 k1 => by have q7 := (I.2.2.2.2 k k0 k1).2.2.1; omega) fF9 (by omega)⟩) | exact hid_i (Or.inr ⟨by omega, it7_e (fun k k0 k1 => by have q7 := (I.2.2.2.2 k k0 k1).2.2.1; omega) s5 (fun q9 => absurd (eF9.mpr q9) (by omega))⟩)))⟩ [0, 1, 2] (by decide) rfl rfl (by decide) (by decide)

theorem d_Shelf_tellerOf_0 : decode prog_10_method_15_code 0 = .ok (.aload_n 0, 1) := by decide +kernel
theorem d_Shelf_tellerOf_1 : decode prog_10_method_15_code 1 = .ok (.getfield 15, 3) := by decide +kernel
theorem d_Shelf_tellerOf_4 : decode prog_10_method_15_code 4 = .ok (.iload_n 1, 1) := by decide +kernel
theorem d_Shelf_tellerOf_5 : decode prog_10_method_15_code 5 = .ok (.iaload, 1) := by decide +kernel
theorem d_Shelf_tellerOf_6 : decode prog_10_method_15_code 6 = .ok (.istore_n 2, 1) := by decide +kernel
theorem d_Shelf_tellerOf_7 : decode prog_10_method_15_code 7 = .ok (.iconst 0, 1) := by decide +kernel
theorem d_Shelf_tellerOf_8 : decode prog_10_method_15_code 8 = .ok (.istore_n 3, 1) := by decide +kernel
theorem d_Shelf_tellerOf_9 : decode prog_10_method_15_code 9 = .ok (.iload_n 3, 1) := by decide +kernel
theorem d_Shelf_tellerOf_10 : decode prog_10_method_15_code 10 = .ok (.aload_n 0, 1) := by decide +kernel
theorem d_Shelf_tellerOf_11 : decode prog_10_method_15_code 11 = .ok (.getfield 25, 3) := by decide +kernel
theorem d_Shelf_tellerOf_14 : decode prog_10_method_15_code 14 = .ok (.if_icmp .ge 60, 3) := by decide +kernel
theorem d_Shelf_tellerOf_74 : decode prog_10_method_15_code 74 = .ok (.iconst (-1), 1) := by decide +kernel
theorem d_Shelf_tellerOf_75 : decode prog_10_method_15_code 75 = .ok (.ireturn, 1) := by decide +kernel
theorem d_Shelf_tellerOf_17 : decode prog_10_method_15_code 17 = .ok (.aload_n 0, 1) := by decide +kernel
theorem d_Shelf_tellerOf_18 : decode prog_10_method_15_code 18 = .ok (.getfield 15, 3) := by decide +kernel
theorem d_Shelf_tellerOf_21 : decode prog_10_method_15_code 21 = .ok (.iload_n 3, 1) := by decide +kernel
theorem d_Shelf_tellerOf_22 : decode prog_10_method_15_code 22 = .ok (.iaload, 1) := by decide +kernel
theorem d_Shelf_tellerOf_23 : decode prog_10_method_15_code 23 = .ok (.iload_n 2, 1) := by decide +kernel
theorem d_Shelf_tellerOf_24 : decode prog_10_method_15_code 24 = .ok (.ldc 72, 2) := by decide +kernel
theorem d_Shelf_tellerOf_26 : decode prog_10_method_15_code 26 = .ok (.invokevirtual 59, 3) := by decide +kernel
theorem d_Shelf_tellerOf_29 : decode prog_10_method_15_code 29 = .ok (.iadd, 1) := by decide +kernel
theorem d_Shelf_tellerOf_30 : decode prog_10_method_15_code 30 = .ok (.if_icmp .ne 38, 3) := by decide +kernel
theorem d_Shelf_tellerOf_68 : decode prog_10_method_15_code 68 = .ok (.iinc 3 1, 3) := by decide +kernel
theorem d_Shelf_tellerOf_71 : decode prog_10_method_15_code 71 = .ok (.goto (-62), 3) := by decide +kernel
theorem d_Shelf_tellerOf_33 : decode prog_10_method_15_code 33 = .ok (.aload_n 0, 1) := by decide +kernel
theorem d_Shelf_tellerOf_34 : decode prog_10_method_15_code 34 = .ok (.iload_n 3, 1) := by decide +kernel
theorem d_Shelf_tellerOf_35 : decode prog_10_method_15_code 35 = .ok (.ldc 72, 2) := by decide +kernel
theorem d_Shelf_tellerOf_37 : decode prog_10_method_15_code 37 = .ok (.invokevirtual 64, 3) := by decide +kernel
theorem d_Shelf_tellerOf_40 : decode prog_10_method_15_code 40 = .ok (.ifCond .eq 28, 3) := by decide +kernel
theorem d_Shelf_tellerOf_43 : decode prog_10_method_15_code 43 = .ok (.aload_n 0, 1) := by decide +kernel
theorem d_Shelf_tellerOf_44 : decode prog_10_method_15_code 44 = .ok (.getfield 9, 3) := by decide +kernel
theorem d_Shelf_tellerOf_47 : decode prog_10_method_15_code 47 = .ok (.bipush 24, 2) := by decide +kernel
theorem d_Shelf_tellerOf_49 : decode prog_10_method_15_code 49 = .ok (.iload_n 1, 1) := by decide +kernel
theorem d_Shelf_tellerOf_50 : decode prog_10_method_15_code 50 = .ok (.imul, 1) := by decide +kernel
theorem d_Shelf_tellerOf_51 : decode prog_10_method_15_code 51 = .ok (.aload_n 0, 1) := by decide +kernel
theorem d_Shelf_tellerOf_52 : decode prog_10_method_15_code 52 = .ok (.getfield 9, 3) := by decide +kernel
theorem d_Shelf_tellerOf_55 : decode prog_10_method_15_code 55 = .ok (.bipush 24, 2) := by decide +kernel
theorem d_Shelf_tellerOf_57 : decode prog_10_method_15_code 57 = .ok (.iload_n 3, 1) := by decide +kernel
theorem d_Shelf_tellerOf_58 : decode prog_10_method_15_code 58 = .ok (.imul, 1) := by decide +kernel
theorem d_Shelf_tellerOf_59 : decode prog_10_method_15_code 59 = .ok (.iload_n 2, 1) := by decide +kernel
theorem d_Shelf_tellerOf_60 : decode prog_10_method_15_code 60 = .ok (.invokestatic 29, 3) := by decide +kernel
theorem d_Shelf_tellerOf_63 : decode prog_10_method_15_code 63 = .ok (.ifCond .eq 5, 3) := by decide +kernel
theorem d_Shelf_tellerOf_66 : decode prog_10_method_15_code 66 = .ok (.iload_n 3, 1) := by decide +kernel
theorem d_Shelf_tellerOf_67 : decode prog_10_method_15_code 67 = .ok (.ireturn, 1) := by decide +kernel
abbrev y_Shelf_tellerOf : MethodName := ⟨"PackageBook$Shelf", "tellerOf", "(I)I"⟩
abbrev i_Shelf_tellerOf : pb_I := (y_Shelf_tellerOf, prog_10_method_15_code, 4, (some Jvm.ClassFile.FieldType.int), [], { frames := 5, cells := 0, slots := 0, locals := 109 })
set_option maxRecDepth 100000 in
set_option maxHeartbeats 4000000 in
theorem g_Shelf_tellerOf {l : Launch} (hl : l.stackTraces = false) (G : pb_G) (h : Nat) (sn : Nat) (sz : Nat) (sb : Nat) (sg : Nat) (c : Int32) (sfn : Nat → Int32) (sfz : Nat → Int32) (sfg : Nat → Int32) (i : Int32) (I : sh_I c.toInt sfz sfg) (i0 : 0 ≤ i.toInt) (i1 : i.toInt < c.toInt) (F_sfn : sb_Fit sfn) : Cn l G i_Shelf_tellerOf [.ref h, .int i] [(h, .inr (3, [.ref sn, .ref sz, .ref sb, .ref sg, .int c])), (sn, .inl (G.2.1, 384, .inl sfn)), (sz, .inl (G.2.2.1, 16, .inl sfz))] (S := Int32) (fun rv_ u => rv_ = some (.int u) ∧ (-1 ≤ u.toInt) ∧ (u.toInt < c.toInt) ∧ (isF_ (cN_ c.toInt sfn sfz) (gx sfz i.toInt + 5) (tn6_ (cN_ c.toInt sfn sfz) i.toInt) u.toInt)) (fun u => [(h, .inr (3, [.ref sn, .ref sz, .ref sb, .ref sg, .int c])), (sn, .inl (G.2.1, 384, .inl sfn)), (sz, .inl (G.2.2.1, 16, .inl sfz))]) := by
  refine Cn.of hl (by decide +kernel) rfl (Nat.le_of_ble_eq_true rfl) (fun M hQ => ?_)
  refine pb_eq (pc' := 0) (lo' := [(0, .ref h), (1, .int i)]) (rest' := []) (ws' := [(h, .inr (3, [.ref sn, .ref sz, .ref sb, .ref sg, .int c])), (sn, .inl (G.2.1, 384, .inl sfn)), (sz, .inl (G.2.2.1, 16, .inl sfz))]) ?_
  have zm1 : ((-1) : Int32).toInt = (-1) := by decide
  have zl0 : (0 : Int32).toInt = 0 := by decide
  have zl1 : (1 : Int32).toInt = 1 := by decide
  have zl24 : (24 : Int32).toInt = 24 := by decide
  have q9 := I.2.1
  have q8 := I.2.2.2.2 i.toInt (by omega) (by omega)
  have s5 : st_len 0 = 5 := by decide +kernel
  refine pb_aload_n (pc := 0) d_Shelf_tellerOf_0 0 rfl rfl ?_
  refine pb_get (pc := 1) d_Shelf_tellerOf_1 0 1 rfl rfl (by decide) in_Shelf k_392 rfl ?_
  refine pb_iload_n (pc := 4) d_Shelf_tellerOf_4 1 rfl rfl ?_
  refine pb_iald (pc := 5) d_Shelf_tellerOf_5 2 rfl (vp_in_iff.mpr (by constructor <;> omega)) ?_
  refine pb_topi (fun i1 ei1 => ?_)
  have ti1 : i1.toInt = gx sfz (i.toInt) := gx_ld ei1 rfl
  refine pb_istore_n (pc := 6) (lo' := [(2, .int i1), (0, .ref h), (1, .int i)]) d_Shelf_tellerOf_6 rfl (by decide) rfl ?_
  refine pb_iconst (pc := 7) (v := 0) d_Shelf_tellerOf_7 (by decide) ?_
  refine pb_istore_n (pc := 8) (lo' := [(3, .int 0), (2, .int i1), (0, .ref h), (1, .int i)]) d_Shelf_tellerOf_8 rfl (by decide) rfl ?_
  have hL9_2 : ∀ (N9 : Nat) (sz_ : Int32) (j : Int32), (0 ≤ j.toInt) → (j.toInt ≤ c.toInt) → (sz_.toInt = gx sfz i.toInt) → (∀ x : Int, 0 ≤ x → x < j.toInt → ¬ nE_ (cN_ c.toInt sfn sfz) x (gx sfz i.toInt + 5) (tn6_ (cN_ c.toInt sfn sfz) i.toInt)) → ((c.toInt - j.toInt).toNat) < N9 → pb_P l G M i_Shelf_tellerOf 9 [(2, .int sz_), (3, .int j), (0, .ref h), (1, .int i)] [] [(h, .inr (3, [.ref sn, .ref sz, .ref sb, .ref sg, .int c])), (sn, .inl (G.2.1, 384, .inl sfn)), (sz, .inl (G.2.2.1, 16, .inl sfz))] 0 0 := by
    intro N9
    induction N9 with
    | zero => intro sz_ j j0 j1 z0 jn hm9; exact absurd hm9 (Nat.not_lt_zero _)
    | succ N9 ih9 =>
      intro sz_ j j0 j1 z0 jn hm9
      refine pb_iload_n (pc := 9) d_Shelf_tellerOf_9 1 rfl rfl ?_
      refine pb_aload_n (pc := 10) d_Shelf_tellerOf_10 2 rfl rfl ?_
      refine pb_get (pc := 11) d_Shelf_tellerOf_11 0 4 rfl rfl (by decide) in_Shelf k_403 rfl ?_
      refine pb_icmp_ge (pc := 14) (tgt := 74) d_Shelf_tellerOf_14 (by decide) (fun w3 => ?_) (fun w3 => ?_)
      · have tw3 : c.toInt ≤ j.toInt := (ti_le rfl rfl).mp w3
        refine pb_iconst (pc := 74) (v := (-1)) d_Shelf_tellerOf_74 (by decide) ?_
        exact pb_iret (pc := 75) hQ d_Shelf_tellerOf_75 rfl rfl ((-1)) ⟨rfl, (by (try dsimp only); first | done | (with_reducible assumption) | omega (splitDisjunctions := false) | assumption | omega | decide), (by (try dsimp only); first | done | (with_reducible assumption) | omega (splitDisjunctions := false) | assumption | omega | decide), (show isF_ (cN_ c.toInt sfn sfz) (gx sfz i.toInt + 5) (tn6_ (cN_ c.toInt sfn sfz) i.toInt) ((-1) : Int32).toInt from (Or.inr ⟨by decide, fun x x0 x1 => jn x x0 (by have q9 : x < c.toInt := x1; omega)⟩))⟩ [0, 1, 2] (by decide) rfl rfl (by decide) (by decide)
      · have tw3 : ¬ c.toInt ≤ j.toInt := fun z9 => w3 ((ti_le rfl rfl).mpr z9)
        refine pb_aload_n (pc := 17) d_Shelf_tellerOf_17 2 rfl rfl ?_
        refine pb_get (pc := 18) d_Shelf_tellerOf_18 0 1 rfl rfl (by decide) in_Shelf k_392 rfl ?_
        refine pb_iload_n (pc := 21) d_Shelf_tellerOf_21 1 rfl rfl ?_
        refine pb_iald (pc := 22) d_Shelf_tellerOf_22 2 rfl (vp_in_iff.mpr (by constructor <;> omega)) ?_
        refine pb_topi (fun i4 ei4 => ?_)
        have ti4 : i4.toInt = gx sfz (j.toInt) := gx_ld ei4 rfl
        refine pb_iload_n (pc := 23) d_Shelf_tellerOf_23 0 rfl rfl ?_
        refine pb_ldcS (pc := 24) (k := 0) d_Shelf_tellerOf_24 rfl (by decide) ?_
        refine pb_callVS (pc := 26) (I := i_Shelf_tellerOf) (k := 0) (nA := 0) (rest := [.int sz_, .int i4]) (wr := [(h, .inr (3, [.ref sn, .ref sz, .ref sb, .ref sg, .int c])), (sn, .inl (G.2.1, 384, .inl sfn)), (sz, .inl (G.2.2.1, 16, .inl sfz))]) d_Shelf_tellerOf_26 (g_Str_length hl G 0 (by first | omega | assumption | decide +kernel)) (by decide) rfl [] [0, 1, 2] (by decide) rfl rfl rfl (by decide) (by decide) k_744 rfl k_138 k_741 k_742 k_743 ⟨rfl, hy_JString_length⟩ (by decide) rfl rfl (Nat.le_of_ble_eq_true rfl) (by decide) (fun v9 u6 ch5 => ?_)
        obtain ⟨r_7, rfl⟩ : ∃ z9, z9 = u6 := ⟨_, rfl⟩
        obtain ⟨ech5, ch5⟩ := ch5
        have ech5 : v9 = some (.int r_7) := ech5
        subst ech5
        have fh8 : r_7.toInt = st_len 0 := ch5
        refine pb_eq (pc' := 29) (lo' := [(2, .int sz_), (3, .int j), (0, .ref h), (1, .int i)]) (rest' := [.int r_7, .int sz_, .int i4]) (ws' := [(h, .inr (3, [.ref sn, .ref sz, .ref sb, .ref sg, .int c])), (sn, .inl (G.2.1, 384, .inl sfn)), (sz, .inl (G.2.2.1, 16, .inl sfz))]) ?_
        refine pb_iadd (pc := 29) d_Shelf_tellerOf_29 ?_
        refine pb_topi (fun i9 ei9 => ?_)
        try have ti9 : i9.toInt = sz_.toInt + r_7.toInt := ti_add ei9 rfl rfl (by omega) (by omega)
        refine pb_icmp_ne (pc := 30) (tgt := 68) d_Shelf_tellerOf_30 (by decide) (fun w10 => ?_) (fun w10 => ?_)
        · have tw10 : ¬ i4.toInt = i9.toInt := fun z9 => w10 ((ti_eq rfl rfl).mpr z9)
          refine pb_iincN (pc := 68) (c := 1) d_Shelf_tellerOf_68 1 rfl (by decide) (by decide) (fun i11 ei11 => ?_)
          have ti11 : i11.toInt = j.toInt + 1 := ti_add ei11 rfl (by decide) (by omega) (by omega)
          refine pb_eq (pc' := 71) (lo' := [(3, .int i11), (2, .int sz_), (0, .ref h), (1, .int i)]) (rest' := []) (ws' := [(h, .inr (3, [.ref sn, .ref sz, .ref sb, .ref sg, .int c])), (sn, .inl (G.2.1, 384, .inl sfn)), (sz, .inl (G.2.2.1, 16, .inl sfz))]) ?_
          refine pb_goto (pc := 71) (tgt := 9) d_Shelf_tellerOf_71 (by decide) ?_
          refine pb_re (ws' := [(h, .inr (3, [.ref sn, .ref sz, .ref sb, .ref sg, .int c])), (sn, .inl (G.2.1, 384, .inl sfn)), (sz, .inl (G.2.2.1, 16, .inl sfz))]) (lo' := [(2, .int sz_), (3, .int i11), (0, .ref h), (1, .int i)]) [0, 1, 2] [1, 0, 2, 3] (by decide) rfl rfl rfl ?_
          exact ih9 sz_ i11 (by first | (with_reducible assumption) | omega (splitDisjunctions := false) | assumption | omega | decide) (by first | (with_reducible assumption) | omega (splitDisjunctions := false) | assumption | omega | decide) (by first | (with_reducible assumption) | omega (splitDisjunctions := false) | assumption | omega | decide) (fun x x0 x1 => if w9 : x < j.toInt then jn x x0 w9 else by rw [show x = j.toInt by omega]; first | exact tn_d (sD9 (by omega)) | exact tn_e (by omega) (by omega) s5 (fun q9 => absurd (eF9.mpr q9) (by omega)) | exact tn_z (by omega)) (by (exact omg_7c8a06b1f5 hm9 tw3 ti11))
        · have tw10 : i4.toInt = i9.toInt := (ti_eq rfl rfl).mp w10
          refine pb_aload_n (pc := 33) d_Shelf_tellerOf_33 2 rfl rfl ?_
          refine pb_iload_n (pc := 34) d_Shelf_tellerOf_34 1 rfl rfl ?_
          refine pb_ldcS (pc := 35) (k := 0) d_Shelf_tellerOf_35 rfl (by decide) ?_
          refine pb_callV (pc := 37) (I := i_Shelf_tellerOf) (qb := 0) (ci := 3) (nA := 2) (rest := []) (wr := []) d_Shelf_tellerOf_37 (g_Shelf_endsWith hl G h sn sz sb sg c sfn sfz sfg j 0 (by first | omega | assumption | decide +kernel) (by first | omega | assumption | decide +kernel) (by first | omega | assumption | decide +kernel) (by first | omega | assumption | decide +kernel) F_sfn) rfl rfl [0, 1, 2] [] (by decide) rfl rfl rfl (by decide) (by decide) k_740 rfl k_127 k_737 k_739 k_29 ⟨rfl, hy_Shelf_endsWith⟩ (by decide) rfl rfl (Nat.le_of_ble_eq_true rfl) (by decide) (fun v9 u13 ch12 => ?_)
          obtain ⟨r_14, rfl⟩ : ∃ z9, z9 = u13 := ⟨_, rfl⟩
          obtain ⟨ech12, ch12⟩ := ch12
          have ech12 : v9 = some (.int r_14) := ech12
          subst ech12
          obtain ⟨fh15, fh16, fh17⟩ : (r_14.toInt = 0 ∨ r_14.toInt = 1) ∧ (r_14.toInt = 1 → 0 < st_len 0 → st_len 0 ≤ gx sfz j.toInt) ∧ (hid_ (r_14.toInt = 1 ↔ en6_ sfn sfz j.toInt 0)) := ch12
          have eF9 := hid_o fh17
          refine pb_eq (pc' := 40) (lo' := [(2, .int sz_), (3, .int j), (0, .ref h), (1, .int i)]) (rest' := [.int r_14]) (ws' := [(h, .inr (3, [.ref sn, .ref sz, .ref sb, .ref sg, .int c])), (sn, .inl (G.2.1, 384, .inl sfn)), (sz, .inl (G.2.2.1, 16, .inl sfz))]) ?_
          refine pb_if_eq (pc := 40) (tgt := 68) d_Shelf_tellerOf_40 (by decide) (fun w18 => ?_) (fun w18 => ?_)
          · have tw18 : r_14.toInt = 0 := (ti_eq rfl (by decide)).mp w18
            refine pb_iincN (pc := 68) (c := 1) d_Shelf_tellerOf_68 1 rfl (by decide) (by decide) (fun i19 ei19 => ?_)
            have ti19 : i19.toInt = j.toInt + 1 := ti_add ei19 rfl (by decide) (by omega) (by omega)
            refine pb_eq (pc' := 71) (lo' := [(3, .int i19), (2, .int sz_), (0, .ref h), (1, .int i)]) (rest' := []) (ws' := [(h, .inr (3, [.ref sn, .ref sz, .ref sb, .ref sg, .int c])), (sn, .inl (G.2.1, 384, .inl sfn)), (sz, .inl (G.2.2.1, 16, .inl sfz))]) ?_
            refine pb_goto (pc := 71) (tgt := 9) d_Shelf_tellerOf_71 (by decide) ?_
            refine pb_re (ws' := [(h, .inr (3, [.ref sn, .ref sz, .ref sb, .ref sg, .int c])), (sn, .inl (G.2.1, 384, .inl sfn)), (sz, .inl (G.2.2.1, 16, .inl sfz))]) (lo' := [(2, .int sz_), (3, .int i19), (0, .ref h), (1, .int i)]) [0, 1, 2] [1, 0, 2, 3] (by decide) rfl rfl rfl ?_
            exact ih9 sz_ i19 (by first | (with_reducible assumption) | omega (splitDisjunctions := false) | assumption | omega | decide) (by first | (with_reducible assumption) | omega (splitDisjunctions := false) | assumption | omega | decide) (by first | (with_reducible assumption) | omega (splitDisjunctions := false) | assumption | omega | decide) (fun x x0 x1 => if w9 : x < j.toInt then jn x x0 w9 else by rw [show x = j.toInt by omega]; first | exact tn_d (sD9 (by omega)) | exact tn_e (by (exact omg_43afb53601 s5 z0 ti4 ch5 ti9 tw10)) (by omega) s5 (fun q9 => absurd (eF9.mpr q9) (by omega)) | exact tn_z (by omega)) (by (exact omg_7c8a06b1f5 hm9 tw3 ti19))
          · have tw18 : ¬ r_14.toInt = 0 := fun z9 => w18 ((ti_eq rfl (by decide)).mpr z9)
            refine pb_aload_n (pc := 43) d_Shelf_tellerOf_43 2 rfl rfl ?_
            refine pb_get (pc := 44) d_Shelf_tellerOf_44 0 0 rfl rfl (by decide) in_Shelf k_389 rfl ?_
            refine pb_bipush (pc := 47) (v := 24) d_Shelf_tellerOf_47 (by decide) ?_
            refine pb_iload_n (pc := 49) d_Shelf_tellerOf_49 3 rfl rfl ?_
            refine pb_imul (pc := 50) d_Shelf_tellerOf_50 ?_
            refine pb_topi (fun i20 ei20 => ?_)
            try have ti20 : i20.toInt = 24 * i.toInt := ti_mul ei20 (by decide) rfl (by omega) (by omega)
            refine pb_aload_n (pc := 51) d_Shelf_tellerOf_51 2 rfl rfl ?_
            refine pb_get (pc := 52) d_Shelf_tellerOf_52 0 0 rfl rfl (by decide) in_Shelf k_389 rfl ?_
            refine pb_bipush (pc := 55) (v := 24) d_Shelf_tellerOf_55 (by decide) ?_
            refine pb_iload_n (pc := 57) d_Shelf_tellerOf_57 1 rfl rfl ?_
            refine pb_imul (pc := 58) d_Shelf_tellerOf_58 ?_
            refine pb_topi (fun i21 ei21 => ?_)
            try have ti21 : i21.toInt = 24 * j.toInt := ti_mul ei21 (by decide) rfl (by omega) (by omega)
            refine pb_iload_n (pc := 59) d_Shelf_tellerOf_59 0 rfl rfl ?_
            refine pb_callSN (pc := 60) (I := i_Shelf_tellerOf) (nA := 5) (rest := []) (wr := [(h, .inr (3, [.ref sn, .ref sz, .ref sb, .ref sg, .int c])), (sz, .inl (G.2.2.1, 16, .inl sfz))]) d_Shelf_tellerOf_60 (g_isSame1 hl G sn 384 sfn i20 i21 sz_ (by first | omega | assumption | decide +kernel) (by first | (exact omg_2afa6fbb1b j0 ti21) | assumption | decide +kernel) (by first | omega | assumption | decide +kernel) (by first | (exact omg_3cda784dae q9 q8 z0 tw3 ti21) | assumption | decide +kernel) (by first | omega | assumption | decide +kernel) (by first | omega | assumption | decide +kernel) F_sfn) [1] [0, 2] (by decide) rfl rfl rfl (by decide) (by decide) k_465 rfl k_118 k_463 k_464 hy_Book_isSame (by decide) rfl rfl (Nat.le_of_ble_eq_true rfl) (by decide) (fun v9 u23 ch22 => ?_)
            obtain ⟨r_24, rfl⟩ : ∃ z9, z9 = u23 := ⟨_, rfl⟩
            obtain ⟨ech22, ch22⟩ := ch22
            have ech22 : v9 = some (.int r_24) := ech22
            subst ech22
            obtain ⟨fh25, fh26, fh27⟩ : (r_24.toInt = 0 ∨ r_24.toInt = 1) ∧ (r_24.toInt = 1 → ∀ j : Int, 0 ≤ j → j < sz_.toInt → gx sfn (i20.toInt + j) = gx sfn (i21.toInt + j)) ∧ (r_24.toInt = 0 → ¬ (∀ j : Int, 0 ≤ j → j < sz_.toInt → gx sfn (i20.toInt + j) = gx sfn (i21.toInt + j))) := ch22
            have sS9 := fh26
            have sD9 := fh27
            rw [show i20.toInt = 24 * i.toInt by omega, show i21.toInt = 24 * j.toInt by omega, show sz_.toInt = gx sfz i.toInt by omega] at sS9 sD9
            refine pb_eq (pc' := 63) (lo' := [(2, .int sz_), (3, .int j), (0, .ref h), (1, .int i)]) (rest' := [.int r_24]) (ws' := [(h, .inr (3, [.ref sn, .ref sz, .ref sb, .ref sg, .int c])), (sz, .inl (G.2.2.1, 16, .inl sfz)), (sn, .inl (G.2.1, 384, .inl sfn))]) ?_
            refine pb_if_eq (pc := 63) (tgt := 68) d_Shelf_tellerOf_63 (by decide) (fun w28 => ?_) (fun w28 => ?_)
            · have tw28 : r_24.toInt = 0 := (ti_eq rfl (by decide)).mp w28
              refine pb_iincN (pc := 68) (c := 1) d_Shelf_tellerOf_68 1 rfl (by decide) (by decide) (fun i29 ei29 => ?_)
              have ti29 : i29.toInt = j.toInt + 1 := ti_add ei29 rfl (by decide) (by omega) (by omega)
              refine pb_eq (pc' := 71) (lo' := [(3, .int i29), (2, .int sz_), (0, .ref h), (1, .int i)]) (rest' := []) (ws' := [(h, .inr (3, [.ref sn, .ref sz, .ref sb, .ref sg, .int c])), (sz, .inl (G.2.2.1, 16, .inl sfz)), (sn, .inl (G.2.1, 384, .inl sfn))]) ?_
              refine pb_goto (pc := 71) (tgt := 9) d_Shelf_tellerOf_71 (by decide) ?_
              refine pb_re (ws' := [(h, .inr (3, [.ref sn, .ref sz, .ref sb, .ref sg, .int c])), (sn, .inl (G.2.1, 384, .inl sfn)), (sz, .inl (G.2.2.1, 16, .inl sfz))]) (lo' := [(2, .int sz_), (3, .int i29), (0, .ref h), (1, .int i)]) [0, 2, 1] [1, 0, 2, 3] (by decide) rfl rfl rfl ?_
              exact ih9 sz_ i29 (by first | (with_reducible assumption) | omega (splitDisjunctions := false) | assumption | omega | decide) (by first | (with_reducible assumption) | omega (splitDisjunctions := false) | assumption | omega | decide) (by first | (with_reducible assumption) | omega (splitDisjunctions := false) | assumption | omega | decide) (fun x x0 x1 => if w9 : x < j.toInt then jn x x0 w9 else by rw [show x = j.toInt by omega]; first | exact tn_d (sD9 (by omega)) | exact tn_e (by omega) (by omega) s5 (fun q9 => absurd (eF9.mpr q9) (by omega)) | exact tn_z (by omega)) (by (exact omg_7c8a06b1f5 hm9 tw3 ti29))
            · have tw28 : ¬ r_24.toInt = 0 := fun z9 => w28 ((ti_eq rfl (by decide)).mpr z9)
              refine pb_iload_n (pc := 66) d_Shelf_tellerOf_66 1 rfl rfl ?_
              exact pb_iret (pc := 67) hQ d_Shelf_tellerOf_67 rfl rfl (j) ⟨rfl, (by (try dsimp only); first | done | (with_reducible assumption) | omega (splitDisjunctions := false) | assumption | omega | decide), (by (try dsimp only); first | done | (with_reducible assumption) | omega (splitDisjunctions := false) | assumption | omega | decide), (show isF_ (cN_ c.toInt sfn sfz) (gx sfz i.toInt + 5) (tn6_ (cN_ c.toInt sfn sfz) i.toInt) j.toInt from (Or.inl ⟨by omega, show _ < c.toInt by omega, tn_y (by (exact omg_43afb53601 s5 z0 ti4 ch5 ti9 tw10)) s5 (eF9.mp (by (exact omg_d9c3f42b32 fh15 tw18))) (sS9 (by (exact omg_d9c3f42b32 fh25 tw28)))⟩))⟩ [0, 2, 1] (by decide) rfl rfl (by decide) (by decide)
  refine pb_re (ws' := [(h, .inr (3, [.ref sn, .ref sz, .ref sb, .ref sg, .int c])), (sn, .inl (G.2.1, 384, .inl sfn)), (sz, .inl (G.2.2.1, 16, .inl sfz))]) (lo' := [(2, .int i1), (3, .int 0), (0, .ref h), (1, .int i)]) [0, 1, 2] [1, 0, 2, 3] (by decide) rfl rfl rfl ?_
  exact hL9_2 _ i1 0 (by first | (with_reducible assumption) | omega (splitDisjunctions := false) | assumption | omega | decide) (by first | (with_reducible assumption) | omega (splitDisjunctions := false) | assumption | omega | decide) (by first | (with_reducible assumption) | omega (splitDisjunctions := false) | assumption | omega | decide) (fun x x0 x1 => absurd x1 (by omega)) (Nat.lt_succ_self _)
/-! ROWS OF NUMBERS -/
theorem omg_377aec9634 {x0 : Int} (a0 : ((0 : Int) ≤ x0)) (a1 : (x0 ≤ (10 : Int))) : ((x0 = (0 : Int)) ∨ ((x0 = (1 : Int)) ∨ ((x0 = (2 : Int)) ∨ ((x0 = (3 : Int)) ∨ ((x0 = (4 : Int)) ∨ ((x0 = (5 : Int)) ∨ ((x0 = (6 : Int)) ∨ ((x0 = (7 : Int)) ∨ ((x0 = (8 : Int)) ∨ ((x0 = (9 : Int)) ∨ (x0 = (10 : Int)))))))))))) := by omega
theorem pb_mmin {l : Launch} {G : pb_G} {M : pb_M} {I : pb_I} {pc : Nat} {lo : List (Nat × Value)} {rest : List Value} {ws : va_W} {ck cn : Nat} {index : Nat} {x y : Int32} (hd : decode (pi_c I) pc = .ok (.invokestatic index, 3)) (w1 : Cond.methodLink (pi_y I).cls index Lib.Math.min.name ∈ uW) (w2 : Cond.static Lib.Math.min.name ∈ uW) (w3 : Cond.initialized "java/lang/Math" ∈ uW) (w4 : Cond.code Lib.Math.min.name Lib.Math.min.code 2 (some .int) ∈ uW) (h6 : 1 ≤ (pi_R I).frames) (h7 : (rest.map fun v => v.category).sum + 13 ≤ (pi_R I).locals) (hc : ck ≤ (pi_R I).cells) (hs : cn ≤ (pi_R I).slots) (kk : ∀ z : Int32, z.toInt ≤ x.toInt → z.toInt ≤ y.toInt → (z.toInt = x.toInt ∨ z.toInt = y.toInt) → pb_P l G M I (pc + 3) lo (.int z :: rest) ws ck cn) : pb_P l G M I pc lo (.int y :: .int x :: rest) ws ck cn := fun E H locs ls hP hD hS hl => by
  refine va_mmin E.1 E.2.1 (E.2.2.1.trans hl.1.symm) E.2.2.2.1 (pb_w E w1) (pb_w E w2) (pb_w E w3) (pb_w E w4) h6 h7 hc hs hd ?_
  by_cases h : y < x
  · have h2 := Int32.lt_iff_toInt_lt.mp h
    rw [if_pos h]
    exact kk y (by omega) (Int.le_refl _) (Or.inr rfl) E H locs ls hP hD hS hl
  · have h2 : ¬ y.toInt < x.toInt := fun z => h (Int32.lt_iff_toInt_lt.mpr z)
    rw [if_neg h]
    exact kk x (Int.le_refl _) (by omega) (Or.inl rfl) E H locs ls hP hD hS hl

/-- a row of bytes as it is: n bytes from place b of an array on -/
def sq (f : Nat → Int32) (b n : Int) : Int → Int32 := fun j => if 0 ≤ j ∧ j < n then gr f (b + j) else 0
theorem sq_at {f : Nat → Int32} {b n j : Int} (h0 : 0 ≤ j) (h1 : j < n) : sq f b n j = gr f (b + j) := if_pos ⟨h0, h1⟩
theorem sq_rl {f g : Nat → Int32} {n : Int} (h : rl_B f g n) : sq f (0 : Int32).toInt n = sq g (0 : Int32).toInt n := by
  funext j
  unfold sq
  by_cases c : 0 ≤ j ∧ j < n
  · rw [if_pos c, if_pos c, show (0 : Int32).toInt = 0 by decide, Int.zero_add]
    exact h j c.1 c.2
  · rw [if_neg c, if_neg c]
/-- r bytes from x on are those from y on, and not one more, but for the most m -/
def sm_R (a : Int → Int32) (x y m r : Int) : Prop := 0 ≤ r ∧ r ≤ m ∧ (∀ j : Int, 0 ≤ j → j < r → a (x + j) = a (y + j)) ∧ (r < m → ¬ a (x + r) = a (y + r))
theorem sm_uniq {a : Int → Int32} {x y m r s : Int} (h : sm_R a x y m r) (k : sm_R a x y m s) : r = s := by
  obtain ⟨h0, h1, h2, h3⟩ := h
  obtain ⟨k0, k1, k2, k3⟩ := k
  rcases Int.lt_trichotomy r s with c | c | c
  · exact absurd (k2 r h0 c) (h3 (by omega))
  · exact c
  · exact absurd (h2 s k0 c) (k3 (by omega))
/-- how many bytes may be alike at place p -/
def mm_ (n p : Int) : Int := if n - p < 258 then n - p else 258
theorem mm_le {n p : Int} : mm_ n p ≤ n - p ∧ mm_ n p ≤ 258 ∧ (mm_ n p = n - p ∨ mm_ n p = 258) := by
  unfold mm_
  split <;> omega
/-- the longest row before place p has L bytes and begins at W; there is none of three bytes -/
def lb_S (a : Int → Int32) (n p L W : Int) : Prop := 3 ≤ L ∧ 0 ≤ W ∧ W < p ∧ sm_R a W p (mm_ n p) L ∧ ∀ i r : Int, 0 ≤ i → i < p → sm_R a i p (mm_ n p) r → r ≤ L ∧ (r = L → i ≤ W)
def lb_N (a : Int → Int32) (n p : Int) : Prop := ∀ i r : Int, 0 ≤ i → i < p → sm_R a i p (mm_ n p) r → r < 3
theorem lb_uniq {a : Int → Int32} {n p L W L' W' : Int} (h : lb_S a n p L W) (k : lb_S a n p L' W') : L = L' ∧ W = W' := by
  obtain ⟨h0, h1, h2, h3, h4⟩ := h
  obtain ⟨k0, k1, k2, k3, k4⟩ := k
  have a1 := h4 W' L' k1 k2 k3
  have a2 := k4 W L h1 h2 h3
  omega
theorem lb_not {a : Int → Int32} {n p L W : Int} (h : lb_S a n p L W) (k : lb_N a n p) : False := by
  obtain ⟨h0, h1, h2, h3, h4⟩ := h
  have := k W L h1 h2 h3
  omega
/-- how many bits a byte, a length, a distance has -/
def li_c (b : Int32) : Int := if (b &&& 255).toInt < 144 then 8 else 9
def le_c (L : Int) : Int := if L ≤ 10 then 7 else if L ≤ 18 then 8 else if L ≤ 34 then 9 else if L ≤ 66 then 10 else if L ≤ 114 then 11 else if L ≤ 130 then 12 else if L ≤ 257 then 13 else 8
def di_c (D : Int) : Int := if D ≤ 4 then 5 else if D ≤ 8 then 6 else if D ≤ 16 then 7 else if D ≤ 32 then 8 else if D ≤ 64 then 9 else if D ≤ 128 then 10 else if D ≤ 256 then 11 else if D ≤ 512 then 12 else if D ≤ 1024 then 13 else if D ≤ 2048 then 14 else 15
theorem li_rng (b : Int32) : 8 ≤ li_c b ∧ li_c b ≤ 9 := by
  unfold li_c
  split <;> omega
theorem li_cE {b v : Int32} {c : Int} (e : v = b &&& 255) (h : v.toInt < 144 ∧ c = 8 ∨ 144 ≤ v.toInt ∧ c = 9) : c = li_c b := by
  unfold li_c
  rw [← e]
  split <;> omega
theorem le_cE {L c : Int} (h : L ≤ 10 ∧ c = 7 ∨ 11 ≤ L ∧ L ≤ 18 ∧ c = 8 ∨ 19 ≤ L ∧ L ≤ 34 ∧ c = 9 ∨ 35 ≤ L ∧ L ≤ 66 ∧ c = 10 ∨ 67 ≤ L ∧ L ≤ 114 ∧ c = 11 ∨ 115 ≤ L ∧ L ≤ 130 ∧ c = 12 ∨ 131 ≤ L ∧ L ≤ 257 ∧ c = 13 ∨ 258 ≤ L ∧ c = 8) : c = le_c L := by
  unfold le_c
  repeat (split; · omega)
  omega
theorem le_cb (L : Int) (h : 3 ≤ L) : 7 ≤ le_c L ∧ le_c L ≤ 13 ∧ le_c L + 15 ≤ 9 * L := by
  unfold le_c
  repeat (split; · omega)
  omega
theorem di_cE {D c : Int} (h : D ≤ 4 ∧ c = 5 ∨ 5 ≤ D ∧ D ≤ 8 ∧ c = 6 ∨ 9 ≤ D ∧ D ≤ 16 ∧ c = 7 ∨ 17 ≤ D ∧ D ≤ 32 ∧ c = 8 ∨ 33 ≤ D ∧ D ≤ 64 ∧ c = 9 ∨ 65 ≤ D ∧ D ≤ 128 ∧ c = 10 ∨ 129 ≤ D ∧ D ≤ 256 ∧ c = 11 ∨ 257 ≤ D ∧ D ≤ 512 ∧ c = 12 ∨ 513 ≤ D ∧ D ≤ 1024 ∧ c = 13 ∨ 1025 ≤ D ∧ D ≤ 2048 ∧ c = 14 ∨ 2049 ≤ D ∧ c = 15) : c = di_c D := by
  unfold di_c
  repeat (split; · omega)
  omega
theorem di_cb (D : Int) : 5 ≤ di_c D ∧ di_c D ≤ 15 := by
  unfold di_c
  repeat (split; · omega)
  omega
/-- one symbol, or one length and distance, from place p to place q, in c bits -/
def ts_R (a : Int → Int32) (n p q c : Int) : Prop := p < n ∧ ((lb_N a n p ∧ q = p + 1 ∧ c = li_c (a p)) ∨ ∃ L W : Int, lb_S a n p L W ∧ q = p + L ∧ c = le_c L + di_c (p - W))
theorem ts_uniq {a : Int → Int32} {n p q c q' c' : Int} (h : ts_R a n p q c) (k : ts_R a n p q' c') : q = q' ∧ c = c' := by
  obtain ⟨h0, h1⟩ := h
  obtain ⟨k0, k1⟩ := k
  rcases h1 with ⟨h2, h3, h4⟩ | ⟨L, W, h2, h3, h4⟩ <;> rcases k1 with ⟨k2, k3, k4⟩ | ⟨L', W', k2, k3, k4⟩
  · exact ⟨by omega, by rw [h4, k4]⟩
  · exact (lb_not k2 h2).elim
  · exact (lb_not h2 k2).elim
  · obtain ⟨e1, e2⟩ := lb_uniq h2 k2
    subst e1 e2
    exact ⟨by omega, by omega⟩
theorem ts_rng {a : Int → Int32} {n p q c : Int} (h : ts_R a n p q c) : p < q ∧ q ≤ n ∧ 0 ≤ c ∧ c ≤ 9 * (q - p) := by
  obtain ⟨h0, h1⟩ := h
  rcases h1 with ⟨h2, h3, h4⟩ | ⟨L, W, h2, h3, h4⟩
  · have := li_rng (a p)
    omega
  · obtain ⟨k0, k1, k2, k3, k4⟩ := h2
    have b1 := k3.2.1
    have b2 := mm_le (n := n) (p := p)
    have b3 := le_cb L k0
    have b4 := di_cb (p - W)
    omega
/-- the place and the bits behind so many of them -/
noncomputable def ts_f (a : Int → Int32) (n : Int) (s : Int × Int) : Int × Int := @dite (Int × Int) (∃ t : Int × Int, ts_R a n s.1 t.1 (t.2 - s.2)) (Classical.propDecidable _) (fun h => Classical.choose h) (fun _ => s)
noncomputable def ts_i (a : Int → Int32) (n : Int) : Nat → Int × Int
  | 0 => (0, 3)
  | k + 1 => ts_f a n (ts_i a n k)
theorem ts_pos {a : Int → Int32} {n p q c T : Int} (h : ts_R a n p q c) : ts_f a n (p, T) = (q, T + c) := by
  have hx : ∃ t : Int × Int, ts_R a n (p, T).1 t.1 (t.2 - (p, T).2) := ⟨(q, T + c), by show ts_R a n p q (T + c - T); rw [show T + c - T = c by omega]; exact h⟩
  have hs := Classical.choose_spec hx
  have e : ts_f a n (p, T) = Classical.choose hx := dif_pos hx
  rw [e]
  have u := ts_uniq hs h
  exact Prod.ext u.1 (by have := u.2; show (Classical.choose hx).2 = T + c; have e2 : (p, T).2 = T := rfl; omega)
theorem ts_neg {a : Int → Int32} {n p T : Int} (h : n ≤ p) : ts_f a n (p, T) = (p, T) := by
  have hx : ¬ ∃ t : Int × Int, ts_R a n (p, T).1 t.1 (t.2 - (p, T).2) := fun ⟨t, ht⟩ => by
    have := ht.1
    have e2 : (p, T).1 = p := rfl
    omega
  exact dif_neg hx
/-- T bits are made when place p is next -/
def pt_R (a : Int → Int32) (n p T : Int) : Prop := ∃ k : Nat, ts_i a n k = (p, T)
theorem pt_00 {a : Int → Int32} {n : Int} : pt_R a n 0 3 := ⟨0, rfl⟩
theorem pt_st {a : Int → Int32} {n p q c T T' : Int} (h : pt_R a n p T) (k : ts_R a n p q c) (e : T' = T + c) : pt_R a n q T' := by
  obtain ⟨j, hj⟩ := h
  refine ⟨j + 1, ?_⟩
  show ts_f a n (ts_i a n j) = (q, T')
  rw [hj, ts_pos k, e]
theorem pt_stay {a : Int → Int32} {n T : Int} {k : Nat} (h : ts_i a n k = (n, T)) : ∀ d : Nat, ts_i a n (k + d) = (n, T)
  | 0 => h
  | d + 1 => by
    show ts_f a n (ts_i a n (k + d)) = (n, T)
    rw [pt_stay h d, ts_neg (Int.le_refl n)]
theorem pt_uniq {a : Int → Int32} {n T T' : Int} (h : pt_R a n n T) (k : pt_R a n n T') : T = T' := by
  obtain ⟨i, hi⟩ := h
  obtain ⟨j, hj⟩ := k
  rcases Nat.le_total i j with c | c
  · have e := pt_stay hi (j - i)
    rw [show i + (j - i) = j by omega, hj] at e
    exact (Prod.mk.inj e).2.symm
  · have e := pt_stay hj (i - j)
    rw [show j + (i - j) = i by omega, hi] at e
    exact (Prod.mk.inj e).2
theorem pt_all {a : Int → Int32} {n : Int} (hn : 0 ≤ n) : ∀ k : Nat, 0 ≤ (ts_i a n k).1 ∧ (ts_i a n k).1 ≤ n ∧ 3 ≤ (ts_i a n k).2 ∧ (ts_i a n k).2 ≤ 3 + 9 * (ts_i a n k).1
  | 0 => by
    show (0 : Int) ≤ 0 ∧ (0 : Int) ≤ n ∧ (3 : Int) ≤ 3 ∧ (3 : Int) ≤ 3 + 9 * 0
    omega
  | k + 1 => by
    have ih := pt_all (a := a) hn k
    generalize hs : ts_i a n k = z at ih
    obtain ⟨p, T⟩ := z
    show 0 ≤ (ts_f a n (ts_i a n k)).1 ∧ (ts_f a n (ts_i a n k)).1 ≤ n ∧ 3 ≤ (ts_f a n (ts_i a n k)).2 ∧ (ts_f a n (ts_i a n k)).2 ≤ 3 + 9 * (ts_f a n (ts_i a n k)).1
    rw [hs]
    by_cases hx : ∃ t : Int × Int, ts_R a n (p, T).1 t.1 (t.2 - (p, T).2)
    · obtain ⟨⟨q, U⟩, ht⟩ := hx
      have ht2 : ts_R a n p q (U - T) := ht
      rw [ts_pos ht2]
      have r := ts_rng ht2
      have i1 : 0 ≤ p ∧ p ≤ n ∧ 3 ≤ T ∧ T ≤ 3 + 9 * p := ih
      show 0 ≤ q ∧ q ≤ n ∧ 3 ≤ T + (U - T) ∧ T + (U - T) ≤ 3 + 9 * q
      omega
    · have e : ts_f a n (p, T) = (p, T) := dif_neg hx
      rw [e]
      exact ih
theorem pt_rng {a : Int → Int32} {n p T : Int} (hn : 0 ≤ n) (h : pt_R a n p T) : 0 ≤ p ∧ p ≤ n ∧ 3 ≤ T ∧ T ≤ 3 + 9 * p := by
  obtain ⟨k, hk⟩ := h
  have := pt_all (a := a) hn k
  rw [hk] at this
  exact this
/-- the size of all: the bits, seven more, and zeros to the end of the byte -/
def pt_F (a : Int → Int32) (n z : Int) : Prop := ∃ T : Int, pt_R a n n T ∧ z = (T + 14) / 8
theorem pt_Fu {a : Int → Int32} {n z z' : Int} (h : pt_F a n z) (k : pt_F a n z') : z = z' := by
  obtain ⟨T, h1, h2⟩ := h
  obtain ⟨T', k1, k2⟩ := k
  have := pt_uniq h1 k1
  omega
/-- the mix of three bytes -/
def mx_ (a : Int → Int32) (p : Int) : Int := ((((a p) <<< ((6 : Int32) &&& 31)) ^^^ ((a (p + 1)) <<< ((3 : Int32) &&& 31)) ^^^ (a (p + 2))) &&& 1023).toInt
theorem mx_sm {a : Int → Int32} {x y m r : Int} (h : sm_R a x y m r) (hr : 3 ≤ r) : mx_ a x = mx_ a y := by
  have e0 := h.2.2.1 0 (by omega) (by omega)
  have e1 := h.2.2.1 1 (by omega) (by omega)
  have e2 := h.2.2.1 2 (by omega) (by omega)
  rw [Int.add_zero, Int.add_zero] at e0
  unfold mx_
  rw [e0, e1, e2]
/-- v is the nearest place before p of the mix x, or -1 -/
def la_R (a : Int → Int32) (n p x v : Int) : Prop := (v = -1 ∨ (0 ≤ v ∧ v < p ∧ v + 3 ≤ n ∧ mx_ a v = x)) ∧ ∀ q : Int, v < q → 0 ≤ q → q < p → q + 3 ≤ n → ¬ mx_ a q = x
def ch_I (a : Int → Int32) (n p : Int) (fl fe : Nat → Int32) : Prop := (∀ x : Int, 0 ≤ x → x < 1024 → la_R a n p x (gx fl x)) ∧ ∀ k : Int, 0 ≤ k → k < p → k + 3 ≤ n → la_R a n k (mx_ a k) (gx fe k)
theorem ch_0 {a : Int → Int32} {n : Int} {fl fe : Nat → Int32} (h : ∀ x : Int, 0 ≤ x → x < 1024 → gx fl x = -1) : ch_I a n 0 fl fe := ⟨fun x h0 h1 => ⟨Or.inl (h x h0 h1), fun q _ q1 q2 => absurd q2 (by omega)⟩, fun k k0 k1 => absurd k1 (by omega)⟩
theorem ch_skip {a : Int → Int32} {n p q : Int} {fl fe : Nat → Int32} (h : ch_I a n p fl fe) (hs : ¬ p + 3 ≤ n) (hq : q = p + 1) : ch_I a n q fl fe := by
  subst hq
  refine ⟨fun x h0 h1 => ?_, fun k k0 k1 k2 => h.2 k k0 (by omega) k2⟩
  have b := h.1 x h0 h1
  exact ⟨b.1.imp id (fun c => ⟨c.1, by omega, c.2.2⟩), fun r r0 r1 r2 r3 => b.2 r r0 r1 (by omega) r3⟩
theorem ch_step {a : Int → Int32} {n p q m : Int} {fl fe : Nat → Int32} {pi mi pv v : Int32} (h : ch_I a n p fl fe) (h0 : 0 ≤ p) (h3 : p + 3 ≤ n) (hm : m = mx_ a p) (hp : pi.toInt = p) (hmi : mi.toInt = m) (hm0 : 0 ≤ m) (hm1 : m < 1024) (hv : v.toInt = gx fl m) (hpv : pv.toInt = p) (hq : q = p + 1) : ch_I a n q (upd fl mi.toNatClampNeg pv) (upd fe pi.toNatClampNeg v) := by
  subst hq
  refine ⟨fun x x0 x1 => ?_, fun k k0 k1 k2 => ?_⟩
  · rw [gx_upd hmi x hm0 x0]
    by_cases w : x = m
    · rw [if_pos w, hpv]
      exact ⟨Or.inr ⟨h0, by omega, h3, by rw [w, hm]⟩, fun r r0 r1 r2 => absurd r2 (by omega)⟩
    · rw [if_neg w]
      have b := h.1 x x0 x1
      refine ⟨b.1.imp id (fun c => ⟨c.1, by omega, c.2.2⟩), fun r r0 r1 r2 r3 => ?_⟩
      by_cases w2 : r = p
      · subst w2
        exact fun z => w (by rw [← z, hm])
      · exact b.2 r r0 r1 (by omega) r3
  · rw [gx_upd hp k h0 k0]
    by_cases w : k = p
    · rw [if_pos w, hv, w, ← hm]
      exact h.1 m hm0 hm1
    · rw [if_neg w]
      exact h.2 k k0 (by omega) k2
/-- what the search along the chain knows: places behind o have been looked at -/
def bs_R (a : Int → Int32) (n p o l d : Int) : Prop := (l = 1 ∧ ∀ i r : Int, o < i → 0 ≤ i → i < p → sm_R a i p (mm_ n p) r → r < 3) ∨ (3 ≤ l ∧ o < p - d ∧ 0 ≤ p - d ∧ p - d < p ∧ sm_R a (p - d) p (mm_ n p) l ∧ ∀ i r : Int, o < i → 0 ≤ i → i < p → sm_R a i p (mm_ n p) r → r ≤ l ∧ (r = l → i ≤ p - d))
theorem bs_0 {a : Int → Int32} {n p o d : Int} (h3 : p + 3 ≤ n) (h : la_R a n p (mx_ a p) o) : bs_R a n p o 1 d := by
  refine Or.inl ⟨rfl, fun i r i0 i1 i2 hr => ?_⟩
  by_cases c : r < 3
  · exact c
  · exact absurd (mx_sm hr (by omega)) (h.2 i i0 i1 i2 (by omega))
theorem bs_keep {a : Int → Int32} {n p o o' l d s : Int} (h : bs_R a n p o l d) (h3 : p + 3 ≤ n) (ho : 0 ≤ o) (hp : o < p) (hm : mx_ a o = mx_ a p) (hc : la_R a n o (mx_ a o) o') (hs : sm_R a o p (mm_ n p) s) (hl : s < 3 ∨ s ≤ l) : bs_R a n p o' l d := by
  have far : ∀ i r : Int, o' < i → 0 ≤ i → i < o → sm_R a i p (mm_ n p) r → r < 3 := fun i r i0 i1 i2 hr => by
    by_cases c : r < 3
    · exact c
    · exact absurd ((mx_sm hr (by omega)).trans hm.symm) (hc.2 i i0 i1 i2 (by omega))
  have ho' : o' < o := by
    rcases hc.1 with c | c <;> omega
  rcases h with ⟨h1, h2⟩ | ⟨h1, h2, h4, h5, h6, h7⟩
  · refine Or.inl ⟨h1, fun i r i0 i1 i2 hr => ?_⟩
    rcases Int.lt_trichotomy i o with c | c | c
    · exact far i r i0 i1 c hr
    · subst c
      have := sm_uniq hr hs
      omega
    · exact h2 i r c i1 i2 hr
  · refine Or.inr ⟨h1, by omega, h4, h5, h6, fun i r i0 i1 i2 hr => ?_⟩
    rcases Int.lt_trichotomy i o with c | c | c
    · have := far i r i0 i1 c hr
      omega
    · subst c
      have := sm_uniq hr hs
      omega
    · exact h7 i r c i1 i2 hr
theorem bs_take {a : Int → Int32} {n p o o' l d d' s : Int} (h : bs_R a n p o l d) (h3 : p + 3 ≤ n) (ho : 0 ≤ o) (hp : o < p) (hm : mx_ a o = mx_ a p) (hc : la_R a n o (mx_ a o) o') (hs : sm_R a o p (mm_ n p) s) (hl : 3 ≤ s) (hl2 : l < s) (hd : d' = p - o) : bs_R a n p o' s d' := by
  have far : ∀ i r : Int, o' < i → 0 ≤ i → i < o → sm_R a i p (mm_ n p) r → r < 3 := fun i r i0 i1 i2 hr => by
    by_cases c : r < 3
    · exact c
    · exact absurd ((mx_sm hr (by omega)).trans hm.symm) (hc.2 i i0 i1 i2 (by omega))
  have ho' : o' < o := by
    rcases hc.1 with c | c <;> omega
  have e : p - d' = o := by omega
  refine Or.inr ⟨hl, by omega, by omega, by omega, by rw [e]; exact hs, fun i r i0 i1 i2 hr => ?_⟩
  rcases Int.lt_trichotomy i o with c | c | c
  · have := far i r i0 i1 c hr
    omega
  · subst c
    have := sm_uniq hr hs
    omega
  · rcases h with ⟨h1, h2⟩ | ⟨h1, h2, h4, h5, h6, h7⟩
    · have := h2 i r c i1 i2 hr
      omega
    · have := h7 i r c i1 i2 hr
      omega
/-- what the search finds -/
def fl_R (a : Int → Int32) (n p l d : Int) : Prop := (lb_N a n p ∧ l = 1) ∨ lb_S a n p l (p - d)
theorem fl_bs {a : Int → Int32} {n p o l d : Int} (h : bs_R a n p o l d) (he : o < 0 ∨ mm_ n p ≤ l) (hm : 3 ≤ mm_ n p) : fl_R a n p l d := by
  rcases h with ⟨h1, h2⟩ | ⟨h1, h2, h4, h5, h6, h7⟩
  · exact Or.inl ⟨fun i r i0 i1 hr => h2 i r (by omega) i0 i1 hr, h1⟩
  · refine Or.inr ⟨h1, h4, h5, h6, fun i r i0 i1 hr => ?_⟩
    by_cases c : o < i
    · exact h7 i r c i0 i1 hr
    · have b1 := hr.2.1
      have b2 := h6.2.1
      omega
theorem fl_few {a : Int → Int32} {n p d : Int} (hm : mm_ n p < 3) : fl_R a n p 1 d := Or.inl ⟨fun i r _ _ hr => by have := hr.2.1; omega, rfl⟩
theorem fl_lit {a : Int → Int32} {n p q l d c : Int} (h : fl_R a n p l d) (hl : l < 3) (hp : p < n) (hq : q = p + l) (hc : c = li_c (a p)) : ts_R a n p q c := by
  rcases h with ⟨h1, h2⟩ | h1
  · exact ⟨hp, Or.inl ⟨h1, by omega, hc⟩⟩
  · have := h1.1
    omega
theorem fl_rng {a : Int → Int32} {n p l d : Int} (h : fl_R a n p l d) (hp : p < n) : 1 ≤ l ∧ l ≤ 258 ∧ p + l ≤ n ∧ (3 ≤ l → 1 ≤ d ∧ d ≤ p) ∧ (l < 3 → l = 1) := by
  rcases h with ⟨h1, h2⟩ | h1
  · omega
  · obtain ⟨k0, k1, k2, k3, k4⟩ := h1
    have b1 := k3.2.1
    have b2 := mm_le (n := n) (p := p)
    omega
theorem fl_row {a : Int → Int32} {n p q l d c : Int} (h : fl_R a n p l d) (hl : 3 ≤ l) (hp : p < n) (hq : q = p + l) (hc : c = le_c l + di_c d) : ts_R a n p q c := by
  rcases h with ⟨h1, h2⟩ | h1
  · omega
  · exact ⟨hp, Or.inr ⟨l, p - d, h1, hq, by rw [show p - (p - d) = d by omega]; exact hc⟩⟩
/-- what the reference's search knows: places before i have been looked at -/
def rb_R (a : Int → Int32) (n p i l w : Int) : Prop := (i = 0 ∧ l = 0) ∨ (0 < i ∧ 0 ≤ w ∧ w < i ∧ sm_R a w p (mm_ n p) l ∧ ∀ j r : Int, 0 ≤ j → j < i → sm_R a j p (mm_ n p) r → r ≤ l ∧ (r = l → j ≤ w))
theorem rb_st {a : Int → Int32} {n p i i' l l' w w' m : Int} (h : rb_R a n p i l w) (hi : 0 ≤ i) (hm : sm_R a i p (mm_ n p) m) (hi' : i' = i + 1) (hc : l ≤ m ∧ l' = m ∧ w' = i ∨ m < l ∧ l' = l ∧ w' = w) : rb_R a n p i' l' w' := by
  subst hi'
  have m0 := hm.1
  rcases h with ⟨h1, h2⟩ | ⟨h1, h2, h3, h4, h5⟩
  · rcases hc with ⟨c1, c2, c3⟩ | c
    · subst c2 c3 h1
      refine Or.inr ⟨by omega, by omega, by omega, hm, fun j r j0 j1 hr => ?_⟩
      obtain rfl : j = 0 := by omega
      have := sm_uniq hr hm
      omega
    · omega
  · rcases hc with ⟨c1, c2, c3⟩ | ⟨c1, c2, c3⟩
    · subst c2 c3
      refine Or.inr ⟨by omega, hi, by omega, hm, fun j r j0 j1 hr => ?_⟩
      by_cases e : j = w'
      · subst e
        have := sm_uniq hr hm
        omega
      · have := h5 j r j0 (by omega) hr
        omega
    · subst c2 c3
      refine Or.inr ⟨by omega, h2, by omega, h4, fun j r j0 j1 hr => ?_⟩
      by_cases e : j = i
      · subst e
        have := sm_uniq hr hm
        omega
      · exact h5 j r j0 (by omega) hr
theorem rb_fl {a : Int → Int32} {n p l w : Int} (h : rb_R a n p p l w) (hl : 3 ≤ l) : lb_S a n p l w := by
  rcases h with ⟨h1, h2⟩ | ⟨h1, h2, h3, h4, h5⟩
  · omega
  · exact ⟨hl, h2, h3, h4, h5⟩
theorem rb_no {a : Int → Int32} {n p l w : Int} (h : rb_R a n p p l w) (hl : l < 3) : lb_N a n p := by
  rcases h with ⟨h1, h2⟩ | ⟨h1, h2, h3, h4, h5⟩
  · exact fun i r i0 i1 _ => absurd i1 (by omega)
  · exact fun i r i0 i1 hr => by have := h5 i r i0 i1 hr; omega
theorem ts_lit {a : Int → Int32} {n p q c : Int} (h : lb_N a n p) (hp : p < n) (hq : q = p + 1) (hc : c = li_c (a p)) : ts_R a n p q c := ⟨hp, Or.inl ⟨h, hq, hc⟩⟩
theorem ts_row {a : Int → Int32} {n p q c L W D : Int} (h : lb_S a n p L W) (hp : p < n) (hq : q = p + L) (hD : D = p - W) (hc : c = le_c L + di_c D) : ts_R a n p q c := ⟨hp, Or.inr ⟨L, W, h, hq, by rw [hc, hD]⟩⟩
/-- the two searches' rows of like bytes, by the arrays -/
theorem sm_of {f : Nat → Int32} {b n x y m r X Y : Int} (h0 : 0 ≤ r) (h1 : r ≤ m) (hx : 0 ≤ x) (hxy : x ≤ y) (hy : y + m ≤ n) (eX : X = b + x) (eY : Y = b + y) (h2 : ∀ j : Int, 0 ≤ j → j < r → gr f (X + j) = gr f (Y + j)) (h3 : r < m → ¬ gr f (X + r) = gr f (Y + r)) : sm_R (sq f b n) x y m r := by
  subst eX eY
  refine ⟨h0, h1, fun j j0 j1 => ?_, fun k => ?_⟩
  · rw [sq_at (by omega) (by omega), sq_at (by omega) (by omega), ← Int.add_assoc, ← Int.add_assoc]
    exact h2 j j0 j1
  · rw [sq_at (by omega) (by omega), sq_at (by omega) (by omega), ← Int.add_assoc, ← Int.add_assoc]
    exact h3 k
/-- a shift by a number that isn't told ahead -/
theorem ti_shv {z x m : Int32} (e : z = x >>> (m &&& 31)) (h0 : 0 ≤ m.toInt) (h1 : m.toInt ≤ 13) : (m.toInt = 0 → z.toInt = x.toInt) ∧ (m.toInt = 1 → z.toInt = x.toInt / 2) ∧ (m.toInt = 2 → z.toInt = x.toInt / 4) ∧ (m.toInt = 3 → z.toInt = x.toInt / 8) ∧ (m.toInt = 4 → z.toInt = x.toInt / 16) ∧ (m.toInt = 5 → z.toInt = x.toInt / 32) ∧ (m.toInt = 6 → z.toInt = x.toInt / 64) ∧ (m.toInt = 7 → z.toInt = x.toInt / 128) ∧ (m.toInt = 8 → z.toInt = x.toInt / 256) ∧ (m.toInt = 9 → z.toInt = x.toInt / 512) ∧ (m.toInt = 10 → z.toInt = x.toInt / 1024) ∧ (m.toInt = 11 → z.toInt = x.toInt / 2048) ∧ (m.toInt = 12 → z.toInt = x.toInt / 4096) ∧ (m.toInt = 13 → z.toInt = x.toInt / 8192) := by
  refine ⟨fun h => ?_, fun h => ?_, fun h => ?_, fun h => ?_, fun h => ?_, fun h => ?_, fun h => ?_, fun h => ?_, fun h => ?_, fun h => ?_, fun h => ?_, fun h => ?_, fun h => ?_, fun h => ?_⟩
  · obtain rfl : m = 0 := Int32.toInt_inj.mp (h.trans (by decide))
    have := ti_shr (b := 1) e rfl 0 (by decide) (by decide)
    omega
  · obtain rfl : m = 1 := Int32.toInt_inj.mp (h.trans (by decide))
    exact ti_shr e rfl 1 (by decide) (by decide)
  · obtain rfl : m = 2 := Int32.toInt_inj.mp (h.trans (by decide))
    exact ti_shr e rfl 2 (by decide) (by decide)
  · obtain rfl : m = 3 := Int32.toInt_inj.mp (h.trans (by decide))
    exact ti_shr e rfl 3 (by decide) (by decide)
  · obtain rfl : m = 4 := Int32.toInt_inj.mp (h.trans (by decide))
    exact ti_shr e rfl 4 (by decide) (by decide)
  · obtain rfl : m = 5 := Int32.toInt_inj.mp (h.trans (by decide))
    exact ti_shr e rfl 5 (by decide) (by decide)
  · obtain rfl : m = 6 := Int32.toInt_inj.mp (h.trans (by decide))
    exact ti_shr e rfl 6 (by decide) (by decide)
  · obtain rfl : m = 7 := Int32.toInt_inj.mp (h.trans (by decide))
    exact ti_shr e rfl 7 (by decide) (by decide)
  · obtain rfl : m = 8 := Int32.toInt_inj.mp (h.trans (by decide))
    exact ti_shr e rfl 8 (by decide) (by decide)
  · obtain rfl : m = 9 := Int32.toInt_inj.mp (h.trans (by decide))
    exact ti_shr e rfl 9 (by decide) (by decide)
  · obtain rfl : m = 10 := Int32.toInt_inj.mp (h.trans (by decide))
    exact ti_shr e rfl 10 (by decide) (by decide)
  · obtain rfl : m = 11 := Int32.toInt_inj.mp (h.trans (by decide))
    exact ti_shr e rfl 11 (by decide) (by decide)
  · obtain rfl : m = 12 := Int32.toInt_inj.mp (h.trans (by decide))
    exact ti_shr e rfl 12 (by decide) (by decide)
  · obtain rfl : m = 13 := Int32.toInt_inj.mp (h.trans (by decide))
    exact ti_shr e rfl 13 (by decide) (by decide)
/-- the same as one choice of six, of eleven -/
theorem ti_sh5 {z x m : Int32} (e : z = x >>> (m &&& 31)) (h0 : 0 ≤ m.toInt) (h1 : m.toInt ≤ 5) : m.toInt = 0 ∧ z.toInt = x.toInt ∨ m.toInt = 1 ∧ z.toInt = x.toInt / 2 ∨ m.toInt = 2 ∧ z.toInt = x.toInt / 4 ∨ m.toInt = 3 ∧ z.toInt = x.toInt / 8 ∨ m.toInt = 4 ∧ z.toInt = x.toInt / 16 ∨ m.toInt = 5 ∧ z.toInt = x.toInt / 32 := by
  have t := ti_shv e h0 (by omega)
  rcases (show m.toInt = 0 ∨ m.toInt = 1 ∨ m.toInt = 2 ∨ m.toInt = 3 ∨ m.toInt = 4 ∨ m.toInt = 5 by omega) with h | h | h | h | h | h
  · exact Or.inl ⟨h, t.1 h⟩
  · exact Or.inr (Or.inl ⟨h, t.2.1 h⟩)
  · exact Or.inr (Or.inr (Or.inl ⟨h, t.2.2.1 h⟩))
  · exact Or.inr (Or.inr (Or.inr (Or.inl ⟨h, t.2.2.2.1 h⟩)))
  · exact Or.inr (Or.inr (Or.inr (Or.inr (Or.inl ⟨h, t.2.2.2.2.1 h⟩))))
  · exact Or.inr (Or.inr (Or.inr (Or.inr (Or.inr (⟨h, t.2.2.2.2.2.1 h⟩)))))
theorem ti_sh10 {z x m : Int32} (e : z = x >>> (m &&& 31)) (h0 : 0 ≤ m.toInt) (h1 : m.toInt ≤ 10) : m.toInt = 0 ∧ z.toInt = x.toInt ∨ m.toInt = 1 ∧ z.toInt = x.toInt / 2 ∨ m.toInt = 2 ∧ z.toInt = x.toInt / 4 ∨ m.toInt = 3 ∧ z.toInt = x.toInt / 8 ∨ m.toInt = 4 ∧ z.toInt = x.toInt / 16 ∨ m.toInt = 5 ∧ z.toInt = x.toInt / 32 ∨ m.toInt = 6 ∧ z.toInt = x.toInt / 64 ∨ m.toInt = 7 ∧ z.toInt = x.toInt / 128 ∨ m.toInt = 8 ∧ z.toInt = x.toInt / 256 ∨ m.toInt = 9 ∧ z.toInt = x.toInt / 512 ∨ m.toInt = 10 ∧ z.toInt = x.toInt / 1024 := by
  have t := ti_shv e h0 (by omega)
  rcases (show m.toInt = 0 ∨ m.toInt = 1 ∨ m.toInt = 2 ∨ m.toInt = 3 ∨ m.toInt = 4 ∨ m.toInt = 5 ∨ m.toInt = 6 ∨ m.toInt = 7 ∨ m.toInt = 8 ∨ m.toInt = 9 ∨ m.toInt = 10 by (exact omg_377aec9634 h0 h1)) with h | h | h | h | h | h | h | h | h | h | h
  · exact Or.inl ⟨h, t.1 h⟩
  · exact Or.inr (Or.inl ⟨h, t.2.1 h⟩)
  · exact Or.inr (Or.inr (Or.inl ⟨h, t.2.2.1 h⟩))
  · exact Or.inr (Or.inr (Or.inr (Or.inl ⟨h, t.2.2.2.1 h⟩)))
  · exact Or.inr (Or.inr (Or.inr (Or.inr (Or.inl ⟨h, t.2.2.2.2.1 h⟩))))
  · exact Or.inr (Or.inr (Or.inr (Or.inr (Or.inr (Or.inl ⟨h, t.2.2.2.2.2.1 h⟩)))))
  · exact Or.inr (Or.inr (Or.inr (Or.inr (Or.inr (Or.inr (Or.inl ⟨h, t.2.2.2.2.2.2.1 h⟩))))))
  · exact Or.inr (Or.inr (Or.inr (Or.inr (Or.inr (Or.inr (Or.inr (Or.inl ⟨h, t.2.2.2.2.2.2.2.1 h⟩)))))))
  · exact Or.inr (Or.inr (Or.inr (Or.inr (Or.inr (Or.inr (Or.inr (Or.inr (Or.inl ⟨h, t.2.2.2.2.2.2.2.2.1 h⟩))))))))
  · exact Or.inr (Or.inr (Or.inr (Or.inr (Or.inr (Or.inr (Or.inr (Or.inr (Or.inr (Or.inl ⟨h, t.2.2.2.2.2.2.2.2.2.1 h⟩)))))))))
  · exact Or.inr (Or.inr (Or.inr (Or.inr (Or.inr (Or.inr (Or.inr (Or.inr (Or.inr (Or.inr ⟨h, t.2.2.2.2.2.2.2.2.2.2.1 h⟩)))))))))
theorem la_rng {a : Int → Int32} {n p x v : Int} (h : la_R a n p x v) (hp : 0 ≤ p) : -1 ≤ v ∧ v < p := by
  rcases h.1 with c | c <;> omega
theorem la_mx {a : Int → Int32} {n p x v : Int} (h : la_R a n p x v) (hv : 0 ≤ v) : v + 3 ≤ n ∧ mx_ a v = x := by
  rcases h.1 with c | c
  · omega
  · exact ⟨c.2.2.1, c.2.2.2⟩
theorem nb_ne {i j A B : Int32} (e1 : i = A) (e2 : j = B) (h : ¬ i.toInt = j.toInt) : ¬ A = B := fun z => h (by rw [e1, e2, z])
theorem nb_eq {i j A B : Int32} (e1 : i = A) (e2 : j = B) (h : i.toInt = j.toInt) : A = B := by
  rw [← e1, ← e2]
  exact Int32.toInt_inj.mp h
theorem nb_st {f : Nat → Int32} {X Y k k2 : Int} (h : ∀ j : Int, 0 ≤ j → j < k → gr f (X + j) = gr f (Y + j)) (e : k2 = k + 1) (hk : gr f (X + k) = gr f (Y + k)) : ∀ j : Int, 0 ≤ j → j < k2 → gr f (X + j) = gr f (Y + j) := fun j h0 h1 => by
  by_cases c : j = k
  · rw [c]
    exact hk
  · exact h j h0 (by omega)
theorem li_sq {f : Nat → Int32} {b n p c : Int} {v i : Int32} (e1 : v = i &&& 255) (e2 : i = gr f (b + p)) (h0 : 0 ≤ p) (h1 : p < n) (h : v.toInt < 144 ∧ c = 8 ∨ 144 ≤ v.toInt ∧ c = 9) : c = li_c (sq f b n p) := by
  rw [sq_at h0 h1]
  exact li_cE (e1.trans (by rw [e2])) h
theorem pt_Fi {a : Int → Int32} {n p T z : Int} (h : pt_R a n p T) (e : p = n) (hz : z = (T + 14) / 8) : pt_F a n z := by
  subst e
  exact ⟨T, h, hz⟩
theorem pt_eq {a : Int → Int32} {n p q T U : Int} (h : pt_R a n p T) (e : q = p) (f : U = T) : pt_R a n q U := by
  subst e f
  exact h
theorem rb_fl2 {a : Int → Int32} {n p i l w : Int} (h : rb_R a n p i l w) (e : i = p) (hl : 3 ≤ l) : lb_S a n p l w := by
  subst e
  exact rb_fl h hl
theorem rb_no2 {a : Int → Int32} {n p i l w : Int} (h : rb_R a n p i l w) (e : i = p) (hl : l < 3) : lb_N a n p := by
  subst e
  exact rb_no h hl
theorem sm_z {f : Nat → Int32} {b n x y z : Int} {i j : Int32} (e1 : i = gr f (b + x)) (e2 : j = gr f (b + y)) (h : ¬ i.toInt = j.toInt) (hz : z = 0) (hx : 0 ≤ x) (hxy : x ≤ y) (hy : y < n) : sm_R (sq f b n) x y (mm_ n y) z := by
  have b1 := mm_le (n := n) (p := y)
  refine sm_of (X := b + x) (Y := b + y) (by omega) (by omega) hx hxy (by omega) rfl rfl (fun j j0 j1 => absurd j1 (by omega)) (fun _ => ?_)
  rw [hz, Int.add_zero, Int.add_zero]
  exact nb_ne e1 e2 h
theorem sm_ss {f : Nat → Int32} {b n x y r X Y e : Int} (s1 : ∀ j : Int, 0 ≤ j → j < r → gr f (X + j) = gr f (Y + j)) (s2 : r < 258 → Y + r < e → ¬ gr f (X + r) = gr f (Y + r)) (p0 : 0 ≤ r) (p1 : r ≤ 258) (p2 : Y + r ≤ e) (he : e = b + n) (eX : X = b + x) (eY : Y = b + y) (hx : 0 ≤ x) (hxy : x ≤ y) : sm_R (sq f b n) x y (mm_ n y) r := by
  have b1 := mm_le (n := n) (p := y)
  exact sm_of (X := X) (Y := Y) p0 (by omega) hx hxy (by omega) eX eY s1 (fun q => s2 (by omega) (by omega))
/-- a shift to the left of a small number, by a number that isn't told ahead -/
theorem ti_slv {z x s : Int32} (e : z = x <<< (s &&& 31)) (x0 : 0 ≤ x.toInt) (x1 : x.toInt ≤ 7) (h0 : 0 ≤ s.toInt) (h1 : s.toInt ≤ 13) : s.toInt = 0 ∧ z.toInt = x.toInt ∨ s.toInt = 1 ∧ z.toInt = x.toInt * 2 ∨ s.toInt = 2 ∧ z.toInt = x.toInt * 4 ∨ s.toInt = 3 ∧ z.toInt = x.toInt * 8 ∨ s.toInt = 4 ∧ z.toInt = x.toInt * 16 ∨ s.toInt = 5 ∧ z.toInt = x.toInt * 32 ∨ s.toInt = 6 ∧ z.toInt = x.toInt * 64 ∨ s.toInt = 7 ∧ z.toInt = x.toInt * 128 ∨ s.toInt = 8 ∧ z.toInt = x.toInt * 256 ∨ s.toInt = 9 ∧ z.toInt = x.toInt * 512 ∨ s.toInt = 10 ∧ z.toInt = x.toInt * 1024 ∨ s.toInt = 11 ∧ z.toInt = x.toInt * 2048 ∨ s.toInt = 12 ∧ z.toInt = x.toInt * 4096 ∨ s.toInt = 13 ∧ z.toInt = x.toInt * 8192 := by
  rcases (show s.toInt = 0 ∨ s.toInt = 1 ∨ s.toInt = 2 ∨ s.toInt = 3 ∨ s.toInt = 4 ∨ s.toInt = 5 ∨ s.toInt = 6 ∨ s.toInt = 7 ∨ s.toInt = 8 ∨ s.toInt = 9 ∨ s.toInt = 10 ∨ s.toInt = 11 ∨ s.toInt = 12 ∨ s.toInt = 13 by omega) with h | h | h | h | h | h | h | h | h | h | h | h | h | h
  · obtain rfl : s = 0 := Int32.toInt_inj.mp (h.trans (by decide))
    exact Or.inl ⟨h, by have := ti_shl (b := 1) e rfl 0 (by decide) (by decide) x0 (by omega); omega⟩
  · obtain rfl : s = 1 := Int32.toInt_inj.mp (h.trans (by decide))
    exact Or.inr (Or.inl ⟨h, ti_shl e rfl 1 (by decide) (by decide) x0 (by omega)⟩)
  · obtain rfl : s = 2 := Int32.toInt_inj.mp (h.trans (by decide))
    exact Or.inr (Or.inr (Or.inl ⟨h, ti_shl e rfl 2 (by decide) (by decide) x0 (by omega)⟩))
  · obtain rfl : s = 3 := Int32.toInt_inj.mp (h.trans (by decide))
    exact Or.inr (Or.inr (Or.inr (Or.inl ⟨h, ti_shl e rfl 3 (by decide) (by decide) x0 (by omega)⟩)))
  · obtain rfl : s = 4 := Int32.toInt_inj.mp (h.trans (by decide))
    exact Or.inr (Or.inr (Or.inr (Or.inr (Or.inl ⟨h, ti_shl e rfl 4 (by decide) (by decide) x0 (by omega)⟩))))
  · obtain rfl : s = 5 := Int32.toInt_inj.mp (h.trans (by decide))
    exact Or.inr (Or.inr (Or.inr (Or.inr (Or.inr (Or.inl ⟨h, ti_shl e rfl 5 (by decide) (by decide) x0 (by omega)⟩)))))
  · obtain rfl : s = 6 := Int32.toInt_inj.mp (h.trans (by decide))
    exact Or.inr (Or.inr (Or.inr (Or.inr (Or.inr (Or.inr (Or.inl ⟨h, ti_shl e rfl 6 (by decide) (by decide) x0 (by omega)⟩))))))
  · obtain rfl : s = 7 := Int32.toInt_inj.mp (h.trans (by decide))
    exact Or.inr (Or.inr (Or.inr (Or.inr (Or.inr (Or.inr (Or.inr (Or.inl ⟨h, ti_shl e rfl 7 (by decide) (by decide) x0 (by omega)⟩)))))))
  · obtain rfl : s = 8 := Int32.toInt_inj.mp (h.trans (by decide))
    exact Or.inr (Or.inr (Or.inr (Or.inr (Or.inr (Or.inr (Or.inr (Or.inr (Or.inl ⟨h, ti_shl e rfl 8 (by decide) (by decide) x0 (by omega)⟩))))))))
  · obtain rfl : s = 9 := Int32.toInt_inj.mp (h.trans (by decide))
    exact Or.inr (Or.inr (Or.inr (Or.inr (Or.inr (Or.inr (Or.inr (Or.inr (Or.inr (Or.inl ⟨h, ti_shl e rfl 9 (by decide) (by decide) x0 (by omega)⟩)))))))))
  · obtain rfl : s = 10 := Int32.toInt_inj.mp (h.trans (by decide))
    exact Or.inr (Or.inr (Or.inr (Or.inr (Or.inr (Or.inr (Or.inr (Or.inr (Or.inr (Or.inr (Or.inl ⟨h, ti_shl e rfl 10 (by decide) (by decide) x0 (by omega)⟩))))))))))
  · obtain rfl : s = 11 := Int32.toInt_inj.mp (h.trans (by decide))
    exact Or.inr (Or.inr (Or.inr (Or.inr (Or.inr (Or.inr (Or.inr (Or.inr (Or.inr (Or.inr (Or.inr (Or.inl ⟨h, ti_shl e rfl 11 (by decide) (by decide) x0 (by omega)⟩)))))))))))
  · obtain rfl : s = 12 := Int32.toInt_inj.mp (h.trans (by decide))
    exact Or.inr (Or.inr (Or.inr (Or.inr (Or.inr (Or.inr (Or.inr (Or.inr (Or.inr (Or.inr (Or.inr (Or.inr (Or.inl ⟨h, ti_shl e rfl 12 (by decide) (by decide) x0 (by omega)⟩))))))))))))
  · obtain rfl : s = 13 := Int32.toInt_inj.mp (h.trans (by decide))
    exact Or.inr (Or.inr (Or.inr (Or.inr (Or.inr (Or.inr (Or.inr (Or.inr (Or.inr (Or.inr (Or.inr (Or.inr (Or.inr (⟨h, ti_shl e rfl 13 (by decide) (by decide) x0 (by omega)⟩)))))))))))))
theorem pt_Fe {a : Int → Int32} {n z z' : Int} (h : pt_F a n z) (e : z' = z) : pt_F a n z' := by
  subst e
  exact h
theorem pr_law {f g : Nat → Int32} {s t k th a b : Int} (h : rl_B f g s) (e : s = t) (l : k = 0 → s ≤ 4000 ∧ pt_F (sq f (0 : Int32).toInt s) s a) (m : th = 0 → pt_F (sq g (0 : Int32).toInt t) t b) (th0 : k = 0 → th = 0) : k = 0 → a = b := fun hk => by
  subst e
  have l1 := (l hk).2
  rw [sq_rl h] at l1
  exact pt_Fu l1 (m (th0 hk))
