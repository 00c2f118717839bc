/-! ROWS OF NUMBERS -/
theorem omg_3a34c98417 {x0 : Int} {x1 : Int} {x2 : Int} {x3 : Int} {x4 : Int} {x5 : Int} {x6 : Int} {x7 : Int} (a0 : (((0 : Int) ≤ x0) ∧ (x0 ≤ (1 : Int)))) (a1 : (((0 : Int) ≤ x1) ∧ (x1 ≤ (1 : Int)))) (a2 : (((0 : Int) ≤ x2) ∧ (x2 ≤ (1 : Int)))) (a3 : (((0 : Int) ≤ x3) ∧ (x3 ≤ (1 : Int)))) (a4 : (((0 : Int) ≤ x4) ∧ (x4 ≤ (1 : Int)))) (a5 : (((0 : Int) ≤ x5) ∧ (x5 ≤ (1 : Int)))) (a6 : (((0 : Int) ≤ x6) ∧ (x6 ≤ (1 : Int)))) (a7 : (x7 = (0 : Int))) : ((0 : Int) ≤ (((((((x0 + ((2 : Int) * x1)) + ((4 : Int) * x2)) + ((8 : Int) * x3)) + ((16 : Int) * x4)) + ((32 : Int) * x5)) + ((64 : Int) * x6)) + ((128 : Int) * x7))) := by omega
theorem omg_a36da587f6 {x0 : Int} {x1 : Int} {x2 : Int} {x3 : Int} {x4 : Int} {x5 : Int} {x6 : Int} {x7 : Int} (a0 : (((0 : Int) ≤ x0) ∧ (x0 ≤ (1 : Int)))) (a1 : (((0 : Int) ≤ x1) ∧ (x1 ≤ (1 : Int)))) (a2 : (((0 : Int) ≤ x2) ∧ (x2 ≤ (1 : Int)))) (a3 : (((0 : Int) ≤ x3) ∧ (x3 ≤ (1 : Int)))) (a4 : (((0 : Int) ≤ x4) ∧ (x4 ≤ (1 : Int)))) (a5 : (((0 : Int) ≤ x5) ∧ (x5 ≤ (1 : Int)))) (a6 : (((0 : Int) ≤ x6) ∧ (x6 ≤ (1 : Int)))) (a7 : (x7 = (0 : Int))) : ((((((((x0 + ((2 : Int) * x1)) + ((4 : Int) * x2)) + ((8 : Int) * x3)) + ((16 : Int) * x4)) + ((32 : Int) * x5)) + ((64 : Int) * x6)) + ((128 : Int) * x7)) < (128 : Int)) := by omega
theorem omg_8bb25932fa {x0 : Int} {x1 : Int} {x2 : Int} {x3 : Int} {x4 : Int} {x5 : Int} {x6 : Int} {x7 : Int} {x8 : Int} {x9 : Int} {x10 : Int} {x11 : Int} {x12 : Int} {x13 : Int} {x14 : Int} {x15 : Int} {x16 : Int} (a0 : (x0 = x1)) (a1 : (x2 = x3)) (a2 : (x4 = x5)) (a3 : (x6 = x7)) (a4 : (x8 = x9)) (a5 : (x10 = x11)) (a6 : (x12 = x13)) (a7 : (x14 = x15)) (a8 : (x16 = (0 : Int))) : ((((((((x0 + ((2 : Int) * x2)) + ((4 : Int) * x4)) + ((8 : Int) * x6)) + ((16 : Int) * x8)) + ((32 : Int) * x10)) + ((64 : Int) * x12)) + ((128 : Int) * x14)) = ((((((((x1 + ((2 : Int) * x3)) + ((4 : Int) * x5)) + ((8 : Int) * x7)) + ((16 : Int) * x9)) + ((32 : Int) * x11)) + ((64 : Int) * x13)) + ((128 : Int) * x16)) + (x15 * (128 : Int)))) := by omega
/-! THE BITS THAT ARE WRITTEN: S = (how many, which); a byte is told by eight of them -/
def b1_ (S : Int × (Int → Int)) (b : Int) : Int × (Int → Int) := (S.1 + 1, fun k => if k = S.1 then b else S.2 k)
def bw_ (S : Int × (Int → Int)) : Prop := 0 ≤ S.1 ∧ (∀ k : Int, 0 ≤ S.2 k ∧ S.2 k ≤ 1) ∧ ∀ k : Int, S.1 ≤ k → S.2 k = 0
def bz_ : Int × (Int → Int) := (0, fun _ => 0)
theorem bw_0 : bw_ bz_ := ⟨Int.le_refl _, fun _ => ⟨Int.le_refl _, (by decide : (0 : Int) ≤ 1)⟩, fun _ _ => rfl⟩
theorem bw_1 {S : Int × (Int → Int)} {b : Int} (h : bw_ S) (h0 : 0 ≤ b ∧ b ≤ 1) : bw_ (b1_ S b) := by
  obtain ⟨h1, h2, h3⟩ := h
  refine ⟨by show 0 ≤ S.1 + 1; omega, fun k => ?_, fun k hk => ?_⟩
  · show 0 ≤ (if k = S.1 then b else S.2 k) ∧ (if k = S.1 then b else S.2 k) ≤ 1
    split
    · exact h0
    · exact h2 k
  · have hk' : S.1 + 1 ≤ k := hk
    show (if k = S.1 then b else S.2 k) = 0
    rw [if_neg (by omega)]
    exact h3 k (by omega)
def bv_ (B : Int → Int) (j : Int) : Int := B (8 * j + 0) + 2 * B (8 * j + 1) + 4 * B (8 * j + 2) + 8 * B (8 * j + 3) + 16 * B (8 * j + 4) + 32 * B (8 * j + 5) + 64 * B (8 * j + 6) + 128 * B (8 * j + 7)
theorem bv_rg {S : Int × (Int → Int)} (h : bw_ S) (j : Int) : 0 ≤ bv_ S.2 j ∧ bv_ S.2 j ≤ 255 := by
  unfold bv_
  have r0 := h.2.1 (8 * j + 0)
  have r1 := h.2.1 (8 * j + 1)
  have r2 := h.2.1 (8 * j + 2)
  have r3 := h.2.1 (8 * j + 3)
  have r4 := h.2.1 (8 * j + 4)
  have r5 := h.2.1 (8 * j + 5)
  have r6 := h.2.1 (8 * j + 6)
  have r7 := h.2.1 (8 * j + 7)
  omega
theorem bv_z {S : Int × (Int → Int)} {j : Int} (h : bw_ S) (hj : S.1 ≤ 8 * j) : bv_ S.2 j = 0 := by
  unfold bv_
  have r0 := h.2.2 (8 * j + 0) (by omega)
  have r1 := h.2.2 (8 * j + 1) (by omega)
  have r2 := h.2.2 (8 * j + 2) (by omega)
  have r3 := h.2.2 (8 * j + 3) (by omega)
  have r4 := h.2.2 (8 * j + 4) (by omega)
  have r5 := h.2.2 (8 * j + 5) (by omega)
  have r6 := h.2.2 (8 * j + 6) (by omega)
  have r7 := h.2.2 (8 * j + 7) (by omega)
  omega
theorem bv_o {S : Int × (Int → Int)} {b j : Int} (hj : ¬ j = S.1 / 8) : bv_ (b1_ S b).2 j = bv_ S.2 j := by
  have o : ∀ i : Int, 0 ≤ i → i < 8 → (b1_ S b).2 (8 * j + i) = S.2 (8 * j + i) := fun i h0 h1 => if_neg (by omega)
  unfold bv_
  rw [o 0 (by omega) (by omega), o 1 (by omega) (by omega), o 2 (by omega) (by omega), o 3 (by omega) (by omega), o 4 (by omega) (by omega), o 5 (by omega) (by omega), o 6 (by omega) (by omega), o 7 (by omega) (by omega)]
theorem bv_n {S : Int × (Int → Int)} {b j : Int} (h : bw_ S) (hj : j = S.1 / 8) : 0 ≤ bv_ S.2 j ∧ bv_ S.2 j < p2 (S.1 % 8) ∧ bv_ (b1_ S b).2 j = bv_ S.2 j + b * p2 (S.1 % 8) := by
  have z : ∀ i : Int, S.1 % 8 ≤ i → S.2 (8 * j + i) = 0 := fun i hi => h.2.2 _ (by omega)
  have o : ∀ i : Int, ¬ i = S.1 % 8 → (b1_ S b).2 (8 * j + i) = S.2 (8 * j + i) := fun i hi => if_neg (by omega)
  have t : ∀ i : Int, i = S.1 % 8 → (b1_ S b).2 (8 * j + i) = b := fun i hi => if_pos (by omega)
  have r0 := h.2.1 (8 * j + 0)
  have r1 := h.2.1 (8 * j + 1)
  have r2 := h.2.1 (8 * j + 2)
  have r3 := h.2.1 (8 * j + 3)
  have r4 := h.2.1 (8 * j + 4)
  have r5 := h.2.1 (8 * j + 5)
  have r6 := h.2.1 (8 * j + 6)
  have r7 := h.2.1 (8 * j + 7)
  unfold bv_
  rcases (show S.1 % 8 = 0 ∨ S.1 % 8 = 1 ∨ S.1 % 8 = 2 ∨ S.1 % 8 = 3 ∨ S.1 % 8 = 4 ∨ S.1 % 8 = 5 ∨ S.1 % 8 = 6 ∨ S.1 % 8 = 7 by omega) with e | e | e | e | e | e | e | e
  · have o0 := t 0 e.symm
    have o1 := o 1 (by first | (rw [e] <;> decide) | omega)
    have o2 := o 2 (by first | (rw [e] <;> decide) | omega)
    have o3 := o 3 (by first | (rw [e] <;> decide) | omega)
    have o4 := o 4 (by first | (rw [e] <;> decide) | omega)
    have o5 := o 5 (by first | (rw [e] <;> decide) | omega)
    have o6 := o 6 (by first | (rw [e] <;> decide) | omega)
    have o7 := o 7 (by first | (rw [e] <;> decide) | omega)
    have z0 := z 0 (by first | (rw [e] <;> decide) | omega)
    have z1 := z 1 (by first | (rw [e] <;> decide) | omega)
    have z2 := z 2 (by first | (rw [e] <;> decide) | omega)
    have z3 := z 3 (by first | (rw [e] <;> decide) | omega)
    have z4 := z 4 (by first | (rw [e] <;> decide) | omega)
    have z5 := z 5 (by first | (rw [e] <;> decide) | omega)
    have z6 := z 6 (by first | (rw [e] <;> decide) | omega)
    have z7 := z 7 (by first | (rw [e] <;> decide) | omega)
    rw [e, show p2 0 = 1 from rfl]
    refine ⟨?_, ?_, ?_⟩ <;> first | (clear o t z h hj e; omega) | omega
  · have o0 := o 0 (by first | (rw [e] <;> decide) | omega)
    have o1 := t 1 e.symm
    have o2 := o 2 (by first | (rw [e] <;> decide) | omega)
    have o3 := o 3 (by first | (rw [e] <;> decide) | omega)
    have o4 := o 4 (by first | (rw [e] <;> decide) | omega)
    have o5 := o 5 (by first | (rw [e] <;> decide) | omega)
    have o6 := o 6 (by first | (rw [e] <;> decide) | omega)
    have o7 := o 7 (by first | (rw [e] <;> decide) | omega)
    have z1 := z 1 (by first | (rw [e] <;> decide) | omega)
    have z2 := z 2 (by first | (rw [e] <;> decide) | omega)
    have z3 := z 3 (by first | (rw [e] <;> decide) | omega)
    have z4 := z 4 (by first | (rw [e] <;> decide) | omega)
    have z5 := z 5 (by first | (rw [e] <;> decide) | omega)
    have z6 := z 6 (by first | (rw [e] <;> decide) | omega)
    have z7 := z 7 (by first | (rw [e] <;> decide) | omega)
    rw [e, show p2 1 = 2 from rfl]
    refine ⟨?_, ?_, ?_⟩ <;> first | (clear o t z h hj e; omega) | omega
  · have o0 := o 0 (by first | (rw [e] <;> decide) | omega)
    have o1 := o 1 (by first | (rw [e] <;> decide) | omega)
    have o2 := t 2 e.symm
    have o3 := o 3 (by first | (rw [e] <;> decide) | omega)
    have o4 := o 4 (by first | (rw [e] <;> decide) | omega)
    have o5 := o 5 (by first | (rw [e] <;> decide) | omega)
    have o6 := o 6 (by first | (rw [e] <;> decide) | omega)
    have o7 := o 7 (by first | (rw [e] <;> decide) | omega)
    have z2 := z 2 (by first | (rw [e] <;> decide) | omega)
    have z3 := z 3 (by first | (rw [e] <;> decide) | omega)
    have z4 := z 4 (by first | (rw [e] <;> decide) | omega)
    have z5 := z 5 (by first | (rw [e] <;> decide) | omega)
    have z6 := z 6 (by first | (rw [e] <;> decide) | omega)
    have z7 := z 7 (by first | (rw [e] <;> decide) | omega)
    rw [e, show p2 2 = 4 from rfl]
    refine ⟨?_, ?_, ?_⟩ <;> first | (clear o t z h hj e; omega) | omega
  · have o0 := o 0 (by first | (rw [e] <;> decide) | omega)
    have o1 := o 1 (by first | (rw [e] <;> decide) | omega)
    have o2 := o 2 (by first | (rw [e] <;> decide) | omega)
    have o3 := t 3 e.symm
    have o4 := o 4 (by first | (rw [e] <;> decide) | omega)
    have o5 := o 5 (by first | (rw [e] <;> decide) | omega)
    have o6 := o 6 (by first | (rw [e] <;> decide) | omega)
    have o7 := o 7 (by first | (rw [e] <;> decide) | omega)
    have z3 := z 3 (by first | (rw [e] <;> decide) | omega)
    have z4 := z 4 (by first | (rw [e] <;> decide) | omega)
    have z5 := z 5 (by first | (rw [e] <;> decide) | omega)
    have z6 := z 6 (by first | (rw [e] <;> decide) | omega)
    have z7 := z 7 (by first | (rw [e] <;> decide) | omega)
    rw [e, show p2 3 = 8 from rfl]
    refine ⟨?_, ?_, ?_⟩ <;> first | (clear o t z h hj e; omega) | omega
  · have o0 := o 0 (by first | (rw [e] <;> decide) | omega)
    have o1 := o 1 (by first | (rw [e] <;> decide) | omega)
    have o2 := o 2 (by first | (rw [e] <;> decide) | omega)
    have o3 := o 3 (by first | (rw [e] <;> decide) | omega)
    have o4 := t 4 e.symm
    have o5 := o 5 (by first | (rw [e] <;> decide) | omega)
    have o6 := o 6 (by first | (rw [e] <;> decide) | omega)
    have o7 := o 7 (by first | (rw [e] <;> decide) | omega)
    have z4 := z 4 (by first | (rw [e] <;> decide) | omega)
    have z5 := z 5 (by first | (rw [e] <;> decide) | omega)
    have z6 := z 6 (by first | (rw [e] <;> decide) | omega)
    have z7 := z 7 (by first | (rw [e] <;> decide) | omega)
    rw [e, show p2 4 = 16 from rfl]
    refine ⟨?_, ?_, ?_⟩ <;> first | (clear o t z h hj e; omega) | omega
  · have o0 := o 0 (by first | (rw [e] <;> decide) | omega)
    have o1 := o 1 (by first | (rw [e] <;> decide) | omega)
    have o2 := o 2 (by first | (rw [e] <;> decide) | omega)
    have o3 := o 3 (by first | (rw [e] <;> decide) | omega)
    have o4 := o 4 (by first | (rw [e] <;> decide) | omega)
    have o5 := t 5 e.symm
    have o6 := o 6 (by first | (rw [e] <;> decide) | omega)
    have o7 := o 7 (by first | (rw [e] <;> decide) | omega)
    have z5 := z 5 (by first | (rw [e] <;> decide) | omega)
    have z6 := z 6 (by first | (rw [e] <;> decide) | omega)
    have z7 := z 7 (by first | (rw [e] <;> decide) | omega)
    rw [e, show p2 5 = 32 from rfl]
    refine ⟨?_, ?_, ?_⟩ <;> first | (clear o t z h hj e; omega) | omega
  · have o0 := o 0 (by first | (rw [e] <;> decide) | omega)
    have o1 := o 1 (by first | (rw [e] <;> decide) | omega)
    have o2 := o 2 (by first | (rw [e] <;> decide) | omega)
    have o3 := o 3 (by first | (rw [e] <;> decide) | omega)
    have o4 := o 4 (by first | (rw [e] <;> decide) | omega)
    have o5 := o 5 (by first | (rw [e] <;> decide) | omega)
    have o6 := t 6 e.symm
    have o7 := o 7 (by first | (rw [e] <;> decide) | omega)
    have z6 := z 6 (by first | (rw [e] <;> decide) | omega)
    have z7 := z 7 (by first | (rw [e] <;> decide) | omega)
    rw [e, show p2 6 = 64 from rfl]
    refine ⟨?_, ?_, ?_⟩ <;> first | (clear o t z h hj e; omega) | omega
  · have o0 := o 0 (by first | (rw [e] <;> decide) | omega)
    have o1 := o 1 (by first | (rw [e] <;> decide) | omega)
    have o2 := o 2 (by first | (rw [e] <;> decide) | omega)
    have o3 := o 3 (by first | (rw [e] <;> decide) | omega)
    have o4 := o 4 (by first | (rw [e] <;> decide) | omega)
    have o5 := o 5 (by first | (rw [e] <;> decide) | omega)
    have o6 := o 6 (by first | (rw [e] <;> decide) | omega)
    have o7 := t 7 e.symm
    have z7 := z 7 (by first | (rw [e] <;> decide) | omega)
    rw [e, show p2 7 = 128 from rfl]
    refine ⟨?_, ?_, ?_⟩ <;> first | (clear o t z h hj e; (first | exact omg_3a34c98417 r0 r1 r2 r3 r4 r5 r6 z7 | exact omg_a36da587f6 r0 r1 r2 r3 r4 r5 r6 z7 | exact omg_8bb25932fa o0 o1 o2 o3 o4 o5 o6 o7 z7 | omega)) | omega
/-- n bits of a number, the lowest first; of a code, the highest first -/
def bn_ (S : Int × (Int → Int)) (x : Int) : Nat → Int × (Int → Int)
  | 0 => S
  | n + 1 => b1_ (bn_ S x n) (x / p2 (n : Int) % 2)
def bc_ (x : Int) : Nat → Int × (Int → Int) → Int × (Int → Int)
  | 0, S => S
  | n + 1, S => bc_ x n (b1_ S (x / p2 (n : Int) % 2))
theorem bt_rng (x y : Int) : 0 ≤ x / y % 2 ∧ x / y % 2 ≤ 1 := by
  generalize x / y = z
  omega
theorem bn_w {S : Int × (Int → Int)} {x : Int} (h : bw_ S) : ∀ n : Nat, bw_ (bn_ S x n)
  | 0 => h
  | n + 1 => bw_1 (bn_w h n) (bt_rng _ _)
theorem bc_w {x : Int} : ∀ (n : Nat) {S : Int × (Int → Int)}, bw_ S → bw_ (bc_ x n S)
  | 0, _, h => h
  | n + 1, _, h => bc_w n (bw_1 h (bt_rng _ _))
theorem bn_1 (S : Int × (Int → Int)) (x : Int) : ∀ n : Nat, (bn_ S x n).1 = S.1 + n
  | 0 => by show S.1 = S.1 + ((0 : Nat) : Int); omega
  | n + 1 => by
    have := bn_1 S x n
    show (bn_ S x n).1 + 1 = _
    omega
theorem bc_1 (x : Int) : ∀ (n : Nat) (S : Int × (Int → Int)), (bc_ x n S).1 = S.1 + n
  | 0, S => by show S.1 = S.1 + ((0 : Nat) : Int); omega
  | n + 1, S => by
    have := bc_1 x n (b1_ S (x / p2 (n : Int) % 2))
    show (bc_ x n (b1_ S (x / p2 (n : Int) % 2))).1 = _
    rw [this]
    show S.1 + 1 + (n : Int) = _
    omega
theorem p2_n (n : Nat) : p2 ((n + 1 : Nat) : Int) = 2 * p2 (n : Int) := p2_s (by omega) (by omega)
theorem bn_lo (S : Int × (Int → Int)) (y b : Int) (hb : 0 ≤ b ∧ b ≤ 1) : ∀ n : Nat, bn_ S (2 * y + b) (n + 1) = bn_ (b1_ S b) y n
  | 0 => by
    show b1_ S ((2 * y + b) / p2 ((0 : Nat) : Int) % 2) = b1_ S b
    rw [show (2 * y + b) / p2 ((0 : Nat) : Int) % 2 = b by rw [show p2 ((0 : Nat) : Int) = 1 from rfl]; omega]
  | n + 1 => by
    show b1_ (bn_ S (2 * y + b) (n + 1)) ((2 * y + b) / p2 ((n + 1 : Nat) : Int) % 2) = b1_ (bn_ (b1_ S b) y n) (y / p2 (n : Int) % 2)
    rw [bn_lo S y b hb n, p2_n, ← Int.ediv_ediv_of_nonneg (show (0 : Int) ≤ 2 by decide), show (2 * y + b) / 2 = y by omega]
/-- a code turned -/
def tu_ (x : Int) : Nat → Int
  | 0 => 0
  | k + 1 => 2 * tu_ x k + x / p2 (k : Int) % 2
theorem tu_rng (x : Int) : ∀ k : Nat, 0 ≤ tu_ x k ∧ tu_ x k < p2 (k : Int)
  | 0 => ⟨Int.le_refl _, (by decide : (0 : Int) < p2 ((0 : Nat) : Int))⟩
  | k + 1 => by
    have h := tu_rng x k
    have b := bt_rng x (p2 (k : Int))
    have e := p2_n k
    show 0 ≤ 2 * tu_ x k + x / p2 (k : Int) % 2 ∧ 2 * tu_ x k + x / p2 (k : Int) % 2 < _
    rw [e]
    generalize x / p2 (k : Int) % 2 = z at *
    omega
theorem tu_st {x k k2 v v2 b : Int} (h : v = tu_ x k.toNat) (hk : 0 ≤ k) (hk2 : k2 = k + 1) (hb : b = x / p2 k % 2) (hv : v2 = 2 * v + b) : v2 = tu_ x k2.toNat := by
  subst hk2 hv hb h
  rw [show (k + 1).toNat = k.toNat + 1 by omega]
  show _ = 2 * tu_ x k.toNat + x / p2 ((k.toNat : Nat) : Int) % 2
  rw [show ((k.toNat : Nat) : Int) = k by omega]
theorem bn_tu (x : Int) : ∀ (n : Nat) (S : Int × (Int → Int)), bn_ S (tu_ x n) n = bc_ x n S
  | 0, S => rfl
  | n + 1, S => by
    show bn_ S (2 * tu_ x n + x / p2 (n : Int) % 2) (n + 1) = bc_ x n (b1_ S (x / p2 (n : Int) % 2))
    rw [bn_lo S _ _ (bt_rng _ _) n, bn_tu x n]
theorem bn_st {S : Int × (Int → Int)} {x k k2 b : Int} (hk : 0 ≤ k) (hk2 : k2 = k + 1) (hb : b = x / p2 k % 2) : b1_ (bn_ S x k.toNat) b = bn_ S x k2.toNat := by
  subst hk2 hb
  rw [show (k + 1).toNat = k.toNat + 1 by omega]
  show _ = b1_ (bn_ S x k.toNat) (x / p2 ((k.toNat : Nat) : Int) % 2)
  rw [show ((k.toNat : Nat) : Int) = k by omega]
theorem bc_st {S R : Int × (Int → Int)} {x k k2 b : Int} (h : bc_ x (k + 1).toNat S = R) (hk : 0 ≤ k) (hk2 : k2 = k - 1) (hb : b = x / p2 k % 2) : bc_ x (k2 + 1).toNat (b1_ S b) = R := by
  subst hk2 hb
  rw [← h, show (k + 1).toNat = k.toNat + 1 by omega, show (k - 1 + 1).toNat = k.toNat by omega]
  show _ = bc_ x k.toNat (b1_ S (x / p2 ((k.toNat : Nat) : Int) % 2))
  rw [show ((k.toNat : Nat) : Int) = k by omega]
theorem bn_cong (S : Int × (Int → Int)) {x y : Int} : ∀ n : Nat, (∀ k : Nat, k < n → x / p2 (k : Int) % 2 = y / p2 (k : Int) % 2) → bn_ S x n = bn_ S y n
  | 0, _ => rfl
  | n + 1, h => by
    show b1_ (bn_ S x n) (x / p2 (n : Int) % 2) = b1_ (bn_ S y n) (y / p2 (n : Int) % 2)
    rw [bn_cong S n (fun k hk => h k (by omega)), h n (by omega)]
theorem p2_add (k d : Nat) : p2 ((k + d : Nat) : Int) = p2 (k : Int) * p2 (d : Int) := by
  unfold p2
  rw [show ((k + d : Nat) : Int).toNat = k + d by omega, show ((k : Nat) : Int).toNat = k by omega, show ((d : Nat) : Int).toNat = d by omega, Nat.pow_add, Int.natCast_mul]
theorem bn_mod (S : Int × (Int → Int)) {x y q : Int} {n : Nat} (h : x = y + q * p2 (n : Int)) : bn_ S x n = bn_ S y n := bn_cong S n (fun k hk => by
  have e : p2 (n : Int) = p2 (k : Int) * (2 * p2 ((n - k - 1 : Nat) : Int)) := by
    rw [← p2_n, ← p2_add, show k + (n - k - 1 + 1) = n by omega]
  have hp : p2 (k : Int) ≠ 0 := by
    have := p2_pos (k : Int)
    omega
  rw [h, e, show q * (p2 (k : Int) * (2 * p2 ((n - k - 1 : Nat) : Int))) = p2 (k : Int) * (2 * (q * p2 ((n - k - 1 : Nat) : Int))) by rw [Int.mul_left_comm, Int.mul_left_comm q 2], Int.add_mul_ediv_left _ _ hp]
  generalize q * p2 ((n - k - 1 : Nat) : Int) = w
  generalize y / p2 (k : Int) = z
  omega)
/-- a symbol, a length, a distance -/
def sb_ (S : Int × (Int → Int)) (s : Int) : Int × (Int → Int) := if s < 144 then bc_ (48 + s) 8 S else if s < 256 then bc_ (256 + s) 9 S else if s < 280 then bc_ (s - 256) 7 S else bc_ (s - 88) 8 S
theorem sb_w {S : Int × (Int → Int)} (s : Int) (h : bw_ S) : bw_ (sb_ S s) := by
  unfold sb_
  (repeat' split) <;> exact bc_w _ h
theorem sb_0 {S : Int × (Int → Int)} {s x : Int} (h : s < 144) (hx : x = 48 + s) : bc_ x 8 S = sb_ S s := by
  subst hx
  unfold sb_
  rw [if_pos h]
theorem sb_1 {S : Int × (Int → Int)} {s x : Int} (h : ¬ s < 144) (h2 : s < 256) (hx : x = 256 + s) : bc_ x 9 S = sb_ S s := by
  subst hx
  unfold sb_
  rw [if_neg h, if_pos h2]
theorem sb_2 {S : Int × (Int → Int)} {s x : Int} (h : ¬ s < 256) (h2 : s < 280) (hx : x = s - 256) : bc_ x 7 S = sb_ S s := by
  subst hx
  unfold sb_
  rw [if_neg (by omega), if_neg h, if_pos h2]
theorem sb_3 {S : Int × (Int → Int)} {s x : Int} (h : ¬ s < 280) (hx : x = s - 88) : bc_ x 8 S = sb_ S s := by
  subst hx
  unfold sb_
  rw [if_neg (by omega), if_neg (by omega), if_neg h]
def lm_ (L : Int) : Int := if L ≤ 10 ∨ L = 258 then 0 else if L ≤ 18 then 1 else if L ≤ 34 then 2 else if L ≤ 66 then 3 else if L ≤ 130 then 4 else 5
def lk_ (L : Int) : Int := if L = 258 then 28 else 4 * lm_ L + (L - 3) / p2 (lm_ L)
def lo_ (S : Int × (Int → Int)) (L : Int) : Int × (Int → Int) := bn_ (sb_ S (257 + lk_ L)) (L - 3) (lm_ L).toNat
def dm_ (D : Int) : Int := if D ≤ 4 then 0 else if D ≤ 8 then 1 else if D ≤ 16 then 2 else if D ≤ 32 then 3 else if D ≤ 64 then 4 else if D ≤ 128 then 5 else if D ≤ 256 then 6 else if D ≤ 512 then 7 else if D ≤ 1024 then 8 else if D ≤ 2048 then 9 else 10
def dj_ (D : Int) : Int := 2 * dm_ D + (D - 1) / p2 (dm_ D)
def do_ (S : Int × (Int → Int)) (D : Int) : Int × (Int → Int) := bn_ (bc_ (dj_ D) 5 S) (D - 1) (dm_ D).toNat
theorem lo_w {S : Int × (Int → Int)} (L : Int) (h : bw_ S) : bw_ (lo_ S L) := bn_w (sb_w _ h) _
theorem do_w {S : Int × (Int → Int)} (D : Int) (h : bw_ S) : bw_ (do_ S D) := bn_w (bc_w _ h) _
theorem lo_258 {S : Int × (Int → Int)} {L s : Int} (h : L = 258) (hs : s = 285) : sb_ S s = lo_ S L := by
  subst h hs
  rfl
/-- as the class finds it: m, and the rest; as the reference does: k -/
theorem lo_E {S : Int × (Int → Int)} {L m s v : Int} (h : ¬ L = 258) (hm : m = lm_ L) (hs : s = 257 + 4 * m + (L - 3) / p2 m) (hv : v = L - 3) : bn_ (sb_ S s) v m.toNat = lo_ S L := by
  unfold lo_ lk_
  rw [if_neg h, ← hm, hv, hs, Int.add_assoc]
theorem do_E {S : Int × (Int → Int)} {D m s v : Int} (hm : m = dm_ D) (hs : s = 2 * m + (D - 1) / p2 m) (hv : v = D - 1) : bn_ (bc_ s 5 S) v m.toNat = do_ S D := by
  unfold do_ dj_
  rw [← hm, hv, hs]
theorem lo_M {S : Int × (Int → Int)} {L m s v q : Int} (h : ¬ L = 258) (hm : m = lm_ L) (h0 : 0 ≤ m) (hs : s = 257 + 4 * m + (L - 3) / p2 m) (hv : v = L - 3 + q * p2 m) : bn_ (sb_ S s) v m.toNat = lo_ S L := by
  rw [← lo_E (S := S) h hm hs rfl]
  exact bn_mod _ (q := q) (by rw [hv, show ((m.toNat : Nat) : Int) = m by omega])
theorem do_M {S : Int × (Int → Int)} {D m s v q : Int} (hm : m = dm_ D) (h0 : 0 ≤ m) (hs : s = 2 * m + (D - 1) / p2 m) (hv : v = D - 1 + q * p2 m) : bn_ (bc_ s 5 S) v m.toNat = do_ S D := by
  rw [← do_E (S := S) hm hs rfl]
  exact bn_mod _ (q := q) (by rw [hv, show ((m.toNat : Nat) : Int) = m by omega])
/-- p2 at a small number -/
theorem p2_of {m : Int} : (m = 0 → p2 m = 1) ∧ (m = 1 → p2 m = 2) ∧ (m = 2 → p2 m = 4) ∧ (m = 3 → p2 m = 8) ∧ (m = 4 → p2 m = 16) ∧ (m = 5 → p2 m = 32) ∧ (m = 6 → p2 m = 64) ∧ (m = 7 → p2 m = 128) ∧ (m = 8 → p2 m = 256) ∧ (m = 9 → p2 m = 512) ∧ (m = 10 → p2 m = 1024) := by
  refine ⟨fun h => ?_, fun h => ?_, fun h => ?_, fun h => ?_, fun h => ?_, fun h => ?_, fun h => ?_, fun h => ?_, fun h => ?_, fun h => ?_, fun h => ?_⟩ <;> (subst h; rfl)
/-- a bit of a number -/
theorem sh_all : ∀ k : Nat, k < 32 → ((nI k &&& 31).toBitVec.smod 32).toNat = k := by decide +kernel
theorem sh_k {m : Int32} {k : Int} (h : m.toInt = k) (h0 : 0 ≤ k) (h1 : k < 32) : ((m &&& 31).toBitVec.smod 32).toNat = k.toNat := by
  obtain ⟨j, hj, rfl⟩ := ti_nat (x := m) (by omega)
  have e := nI_toInt hj
  rw [show k.toNat = j by omega]
  exact sh_all j (by omega)
theorem ti_and1 {x z : Int32} (e : z = x &&& 1) (h : 0 ≤ x.toInt) : z.toInt = x.toInt % 2 := by
  subst e
  obtain ⟨j, hj, rfl⟩ := ti_nat h
  have e1 := nI_toInt hj
  rw [pk_and _ 1 (by decide), pk_tn (by omega), nI_toInt (by omega), e1, show (2 : Nat) ^ 1 = 2 from rfl]
  omega
theorem bt_E {b q v k : Int32} (e1 : b = q &&& 1) (e2 : q = v >>> (k &&& 31)) (hv : 0 ≤ v.toInt) (h0 : 0 ≤ k.toInt) (h1 : k.toInt < 32) : b.toInt = v.toInt / p2 k.toInt % 2 := by
  have e := ti_shr (b := p2 k.toInt) e2 rfl k.toInt.toNat (sh_k rfl h0 h1) rfl
  have hq : 0 ≤ q.toInt := by
    rw [e]
    exact Int.ediv_nonneg hv (by have := p2_pos k.toInt; omega)
  rw [ti_and1 e1 hq, e]
/-- a bit set in a byte -/
theorem or_all : ∀ s : Nat, s < 8 → ∀ b : Nat, b < 2 → ∀ x : Nat, x < 128 → x < 2 ^ s → ((nI x).toInt8.toInt32 ||| (nI b <<< (nI s &&& 31)).toInt8.toInt32).toInt8.toInt32 = (nI (x + b * 2 ^ s)).toInt8.toInt32 := by decide +kernel
theorem or_E {w old u c b s : Int32} {y : Int} (e1 : w = old ||| u) (e2 : u = c.toInt8.toInt32) (e3 : c = b <<< (s &&& 31)) (hb : 0 ≤ b.toInt ∧ b.toInt ≤ 1) (hs : 0 ≤ s.toInt ∧ s.toInt ≤ 7) (ho : old = by_ y) (y0 : 0 ≤ y) (y1 : y < p2 s.toInt) : w.toInt8.toInt32 = by_ (y + b.toInt * p2 s.toInt) := by
  obtain ⟨i, hi, rfl⟩ := ti_nat hb.1
  obtain ⟨j, hj, rfl⟩ := ti_nat hs.1
  have a1 := nI_toInt hi
  have a2 := nI_toInt hj
  have p7 : p2 (nI j).toInt ≤ 128 := by
    rw [a2]
    unfold p2
    have : 2 ^ ((j : Nat) : Int).toNat ≤ 2 ^ 7 := Nat.pow_le_pow_right (by decide) (by omega)
    omega
  have a3 : p2 (nI j).toInt = ((2 ^ j : Nat) : Int) := by
    rw [a2]
    rfl
  obtain ⟨x, hx⟩ : ∃ x : Nat, (x : Int) = y := ⟨y.toNat, by omega⟩
  have hx2 : x < 128 := by omega
  have h := or_all j (by omega) i (by omega) x hx2 (by omega)
  have q1 : (nI x).toInt8.toInt32 = by_ y := by_E (by rw [nI_toInt (by omega), hx])
  have q2 : (nI (x + i * 2 ^ j)).toInt8.toInt32 = by_ (y + (nI i).toInt * p2 (nI j).toInt) := by_E (by
    have b1 : i * 2 ^ j ≤ 1 * 2 ^ j := Nat.mul_le_mul_right _ (by omega)
    rw [nI_toInt (by omega), a1, a3, ← hx, Int.natCast_add, Int.natCast_mul])
  rw [e1, e2, e3, ho, ← q1, h, q2]
theorem by_0 : by_ 0 = 0 := by decide
theorem by_v {y : Int} (h0 : 0 ≤ y) (h1 : y < 128) : (by_ y).toInt = y := by
  have a : ∀ n : Nat, n < 128 → ((nI n).toInt8.toInt32).toInt = (n : Int) := by decide +kernel
  obtain ⟨x, rfl⟩ : ∃ x : Nat, y = (x : Int) := ⟨y.toNat, by omega⟩
  rw [← by_E (i := nI x) (nI_toInt (by omega))]
  exact a x (by omega)
/-- the bytes that the class has, and the reference -/
def pC_ (f : Nat → Int32) (z t : Int) (S : Int × (Int → Int)) : Prop := bw_ S ∧ z = (S.1 + 7) / 8 ∧ (∀ j : Int, 0 ≤ j → j < z → gr f j = by_ (bv_ S.2 j)) ∧ t = S.1
def pD_ (f : Nat → Int32) (z t : Int) (S : Int × (Int → Int)) : Prop := bw_ S ∧ z = (S.1 + 8) / 8 ∧ (∀ j : Int, 0 ≤ j → j < z → gr f j = by_ (bv_ S.2 j)) ∧ t = S.1
def pM_ (f : Nat → Int32) (hb hc z : Int) (S : Int × (Int → Int)) : Prop := bw_ S ∧ S.1 = 8 * z + hc ∧ (0 ≤ hc ∧ hc < 8) ∧ hb = bv_ S.2 z ∧ ∀ j : Int, 0 ≤ j → j < z → gr f j = by_ (bv_ S.2 j)
theorem pC_0 {f : Nat → Int32} {z t : Int} (h : z = 0) (ht : t = 0) : pC_ f z t bz_ := by
  subst h ht
  exact ⟨bw_0, by decide, fun j h0 h1 => absurd h1 (by omega), rfl⟩
theorem pM_0 {f : Nat → Int32} {hb hc z : Int} (h : z = 0) (h1 : hc = 0) (h2 : hb = 0) : pM_ f hb hc z bz_ := by
  subst h h1 h2
  exact ⟨bw_0, rfl, by decide, rfl, fun j h0 h1 => absurd h1 (by omega)⟩
/-- the class opens a byte -/
theorem pD_new {f g : Nat → Int32} {z z2 t : Int} {v : Int32} {S : Int × (Int → Int)} (h : pC_ f z t S) (hr : t % 8 = 0) (hz : z2 = z + 1) (hg : ∀ j : Int, 0 ≤ j → gr g j = if j = z then v.toInt8.toInt32 else gr f j) (hv : v = 0) : pD_ g z2 t S := by
  obtain ⟨h1, h2, h3, h4⟩ := h
  refine ⟨h1, by omega, fun j h0 hj => ?_, h4⟩
  rw [hg j h0]
  by_cases c : j = z
  · rw [if_pos c, bv_z h1 (by omega), by_0, hv]
    decide
  · rw [if_neg c]
    exact h3 j h0 (by omega)
theorem pD_old {f : Nat → Int32} {z t : Int} {S : Int × (Int → Int)} (h : pC_ f z t S) (hr : ¬ t % 8 = 0) : pD_ f z t S := ⟨h.1, by have := h.2.1; have := h.2.2.2; omega, h.2.2⟩
/-- and sets a bit in it -/
theorem pC_st {f g : Nat → Int32} {z b t t2 : Int} {W : Int32} {S : Int × (Int → Int)} (h : pD_ f z t S) (hb : 0 ≤ b ∧ b ≤ 1) (hg : ∀ j : Int, 0 ≤ j → gr g j = if j = z - 1 then W else gr f j) (hW : W = by_ (bv_ S.2 (S.1 / 8) + b * p2 (S.1 % 8))) (ht : t2 = t + 1) : pC_ g z t2 (b1_ S b) := by
  obtain ⟨h1, h2, h3, h4⟩ := h
  refine ⟨bw_1 h1 hb, by show z = (S.1 + 1 + 7) / 8; omega, fun j h0 hj => ?_, by show t2 = S.1 + 1; omega⟩
  rw [hg j h0]
  by_cases c : j = z - 1
  · rw [if_pos c, hW, (bv_n (b := b) h1 (show j = S.1 / 8 by omega)).2.2, show j = S.1 / 8 by omega]
  · rw [if_neg c, bv_o (by omega)]
    exact h3 j h0 hj
theorem pD_at {f : Nat → Int32} {z j t : Int} {S : Int × (Int → Int)} (h : pD_ f z t S) (hj : j = z - 1) : gr f j = by_ (bv_ S.2 (S.1 / 8)) := by
  have h1 := h.1.1
  have h2 := h.2.1
  rw [h.2.2.1 j (by omega) (by omega), show j = S.1 / 8 by omega]
theorem pD_v {f : Nat → Int32} {z t : Int} {S : Int × (Int → Int)} (h : pD_ f z t S) : 0 ≤ bv_ S.2 (S.1 / 8) ∧ bv_ S.2 (S.1 / 8) < p2 (S.1 % 8) := by
  have a := bv_n (b := 0) h.1 (rfl : S.1 / 8 = S.1 / 8)
  exact ⟨a.1, a.2.1⟩
/-- the reference puts a bit: into what it holds; a byte is full -/
theorem pM_st {f : Nat → Int32} {hb hc z b hb2 hc2 : Int} {S : Int × (Int → Int)} (h : pM_ f hb hc z S) (h0 : 0 ≤ b ∧ b ≤ 1) (h1 : hc + 1 < 8) (e1 : hb2 = hb + b * p2 hc) (e2 : hc2 = hc + 1) : pM_ f hb2 hc2 z (b1_ S b) := by
  obtain ⟨a1, a2, a3, a4, a5⟩ := h
  subst e1 e2 a4
  have n := bv_n (b := b) a1 (show z = S.1 / 8 by omega)
  refine ⟨bw_1 a1 h0, by show S.1 + 1 = _; omega, by omega, ?_, fun j j0 j1 => ?_⟩
  · rw [n.2.2, show S.1 % 8 = hc by omega]
  · rw [bv_o (by omega)]
    exact a5 j j0 j1
theorem pM_fu {f g : Nat → Int32} {hb hc z b hb2 hc2 z2 : Int} {v : Int32} {S : Int × (Int → Int)} (h : pM_ f hb hc z S) (h0 : 0 ≤ b ∧ b ≤ 1) (h1 : hc + 1 = 8) (hv : v.toInt = hb + b * p2 hc) (hg : ∀ j : Int, 0 ≤ j → gr g j = if j = z then v.toInt8.toInt32 else gr f j) (e1 : hb2 = 0) (e2 : hc2 = 0) (e3 : z2 = z + 1) : pM_ g hb2 hc2 z2 (b1_ S b) := by
  obtain ⟨a1, a2, a3, a4, a5⟩ := h
  subst e1 e2 e3 a4
  have n := bv_n (b := b) a1 (show z = S.1 / 8 by omega)
  have w := bw_1 a1 h0
  refine ⟨w, by show S.1 + 1 = _; omega, by omega, (bv_z w (by show S.1 + 1 ≤ _; omega)).symm, fun j j0 j1 => ?_⟩
  rw [hg j j0]
  by_cases c : j = z
  · rw [if_pos c, c, n.2.2, show S.1 % 8 = hc by omega]
    exact by_E hv
  · rw [if_neg c, bv_o (by omega)]
    exact a5 j j0 (by omega)
theorem pM_hb {f : Nat → Int32} {hb hc z : Int} {S : Int × (Int → Int)} (h : pM_ f hb hc z S) : 0 ≤ hb ∧ hb < p2 hc := by
  obtain ⟨a1, a2, a3, a4, a5⟩ := h
  have n := bv_n (b := 0) a1 (show z = S.1 / 8 by omega)
  rw [a4, ← show S.1 % 8 = hc by omega]
  exact ⟨n.1, n.2.1⟩
/-- bits of 0 behind all others change nothing -/
theorem b1_z {S : Int × (Int → Int)} (h : bw_ S) : (b1_ S 0).2 = S.2 := by
  funext k
  show (if k = S.1 then 0 else S.2 k) = S.2 k
  split
  · rename_i c
    rw [c, h.2.2 S.1 (Int.le_refl _)]
  · rfl
def pE_ (f : Nat → Int32) (hb hc z : Int) (S : Int × (Int → Int)) : Prop := ∃ R : Int × (Int → Int), pM_ f hb hc z R ∧ R.2 = S.2 ∧ bw_ S ∧ S.1 ≤ R.1 ∧ R.1 ≤ (S.1 + 7) / 8 * 8
theorem pE_0 {f : Nat → Int32} {hb hc z : Int} {S : Int × (Int → Int)} (h : pM_ f hb hc z S) : pE_ f hb hc z S := ⟨S, h, rfl, h.1, Int.le_refl _, by omega⟩
theorem pE_end {f : Nat → Int32} {hb hc z : Int} {S : Int × (Int → Int)} (h : pE_ f hb hc z S) (hc0 : hc = 0) : pC_ f z S.1 S := by
  obtain ⟨R, ⟨a1, a2, a3, a4, a5⟩, e, w, l1, l2⟩ := h
  refine ⟨w, by omega, fun j j0 j1 => ?_, rfl⟩
  rw [a5 j j0 j1, e]
/-- what comes out -/
def tk_R (a : Int → Int32) (n p : Int) (S : Int × (Int → Int)) (q : Int) (S2 : Int × (Int → Int)) : Prop := p < n ∧ ((lb_N a n p ∧ q = p + 1 ∧ S2 = sb_ S ((a p) &&& 255).toInt) ∨ ∃ L W : Int, lb_S a n p L W ∧ q = p + L ∧ S2 = do_ (lo_ S L) (p - W))
theorem tk_uniq {a : Int → Int32} {n p q q' : Int} {S R R' : Int × (Int → Int)} (h : tk_R a n p S q R) (k : tk_R a n p S q' R') : q = q' ∧ R = R' := by
  obtain ⟨_, h1⟩ := h
  obtain ⟨_, k1⟩ := k
  rcases h1 with ⟨a1, a2, a3⟩ | ⟨L, W, a1, a2, a3⟩
  · rcases k1 with ⟨b1, b2, b3⟩ | ⟨L', W', b1, b2, b3⟩
    · exact ⟨by omega, a3.trans b3.symm⟩
    · exact (lb_not b1 a1).elim
  · rcases k1 with ⟨b1, b2, b3⟩ | ⟨L', W', b1, b2, b3⟩
    · exact (lb_not a1 b1).elim
    · obtain ⟨u, v⟩ := lb_uniq a1 b1
      subst u v
      exact ⟨by omega, a3.trans b3.symm⟩
noncomputable def tk_f (a : Int → Int32) (n : Int) (s : Int × (Int × (Int → Int))) : Int × (Int × (Int → Int)) := @dite (Int × (Int × (Int → Int))) (∃ t : Int × (Int × (Int → Int)), tk_R a n s.1 s.2 t.1 t.2) (Classical.propDecidable _) (fun h => Classical.choose h) (fun _ => s)
noncomputable def tk_i (a : Int → Int32) (n : Int) : Nat → Int × (Int × (Int → Int))
  | 0 => (0, bn_ bz_ 3 3)
  | k + 1 => tk_f a n (tk_i a n k)
theorem tk_pos {a : Int → Int32} {n p q : Int} {S R : Int × (Int → Int)} (h : tk_R a n p S q R) : tk_f a n (p, S) = (q, R) := by
  have hx : ∃ t : Int × (Int × (Int → Int)), tk_R a n (p, S).1 (p, S).2 t.1 t.2 := ⟨(q, R), h⟩
  have hs := Classical.choose_spec hx
  have e : tk_f a n (p, S) = Classical.choose hx := dif_pos hx
  rw [e]
  have u := tk_uniq hs h
  exact Prod.ext u.1 u.2
theorem tk_neg {a : Int → Int32} {n p : Int} {S : Int × (Int → Int)} (h : n ≤ p) : tk_f a n (p, S) = (p, S) := by
  have hx : ¬ ∃ t : Int × (Int × (Int → Int)), tk_R a n (p, S).1 (p, S).2 t.1 t.2 := fun ⟨t, ht⟩ => by
    have := ht.1
    have e2 : (p, S).1 = p := rfl
    omega
  exact dif_neg hx
def pS_R (a : Int → Int32) (n p : Int) (S : Int × (Int → Int)) : Prop := ∃ k : Nat, tk_i a n k = (p, S)
theorem pS_0 {a : Int → Int32} {n : Int} : pS_R a n 0 (bn_ bz_ 3 3) := ⟨0, rfl⟩
theorem bn_12 : bn_ (bn_ bz_ 1 1) 1 2 = bn_ bz_ 3 3 := by
  show b1_ (b1_ (b1_ bz_ (1 / p2 ((0 : Nat) : Int) % 2)) (1 / p2 ((0 : Nat) : Int) % 2)) (1 / p2 ((1 : Nat) : Int) % 2) = b1_ (b1_ (b1_ bz_ (3 / p2 ((0 : Nat) : Int) % 2)) (3 / p2 ((1 : Nat) : Int) % 2)) (3 / p2 ((2 : Nat) : Int) % 2)
  rfl
theorem pS_st {a : Int → Int32} {n p q : Int} {S R : Int × (Int → Int)} (h : pS_R a n p S) (k : tk_R a n p S q R) : pS_R a n q R := by
  obtain ⟨j, hj⟩ := h
  refine ⟨j + 1, ?_⟩
  show tk_f a n (tk_i a n j) = (q, R)
  rw [hj, tk_pos k]
theorem pS_stay {a : Int → Int32} {n : Int} {S : Int × (Int → Int)} {k : Nat} (h : tk_i a n k = (n, S)) : ∀ d : Nat, tk_i a n (k + d) = (n, S)
  | 0 => h
  | d + 1 => by
    show tk_f a n (tk_i a n (k + d)) = (n, S)
    rw [pS_stay h d, tk_neg (Int.le_refl n)]
theorem pS_uniq {a : Int → Int32} {n : Int} {S R : Int × (Int → Int)} (h : pS_R a n n S) (k : pS_R a n n R) : S = R := by
  obtain ⟨i, hi⟩ := h
  obtain ⟨j, hj⟩ := k
  rcases Nat.le_total i j with c | c
  · have e := pS_stay hi (j - i)
    rw [show i + (j - i) = j by omega, hj] at e
    exact (Prod.mk.inj e).2.symm
  · have e := pS_stay hj (i - j)
    rw [show j + (i - j) = i by omega, hi] at e
    exact (Prod.mk.inj e).2
theorem pS_eq {a : Int → Int32} {n p q : Int} {S : Int × (Int → Int)} (h : pS_R a n p S) (e : q = p) : pS_R a n q S := by
  subst e
  exact h
/-- all of it: z bytes f -/
def pF_ (a : Int → Int32) (n : Int) (f : Nat → Int32) (z : Int) : Prop := ∃ (S : Int × (Int → Int)) (t : Int), pS_R a n n S ∧ pC_ f z t (sb_ S 256)
theorem pF_u {a : Int → Int32} {n z y : Int} {f g : Nat → Int32} (h : pF_ a n f z) (k : pF_ a n g y) : z = y ∧ rl_B f g z := by
  obtain ⟨S, t, h1, h2⟩ := h
  obtain ⟨R, u, k1, k2⟩ := k
  have e := pS_uniq h1 k1
  subst e
  have e2 : z = y := h2.2.1.trans k2.2.1.symm
  subst e2
  exact ⟨rfl, fun j j0 j1 => (h2.2.2.1 j j0 j1).trans (k2.2.2.1 j j0 j1).symm⟩
theorem tk_li {a : Int → Int32} {n p q : Int} {S : Int × (Int → Int)} {s : Int} (h : lb_N a n p) (hp : p < n) (hq : q = p + 1) (hs : s = ((a p) &&& 255).toInt) : tk_R a n p S q (sb_ S s) := ⟨hp, Or.inl ⟨h, hq, by rw [hs]⟩⟩
theorem tk_ro {a : Int → Int32} {n p q L W D : Int} {S : Int × (Int → Int)} (h : lb_S a n p L W) (hp : p < n) (hq : q = p + L) (hD : D = p - W) : tk_R a n p S q (do_ (lo_ S L) D) := ⟨hp, Or.inr ⟨L, W, h, hq, by rw [hD]⟩⟩
theorem tk_fl {a : Int → Int32} {n p q l d s : Int} {S : Int × (Int → Int)} (h : fl_R a n p l d) (hl : l < 3) (hp : p < n) (hq : q = p + l) (hs : s = ((a p) &&& 255).toInt) : tk_R a n p S q (sb_ S s) := by
  rcases h with ⟨h1, h2⟩ | h1
  · exact tk_li h1 hp (by omega) hs
  · have := h1.1
    omega
theorem tk_fr {a : Int → Int32} {n p q l d : Int} {S : Int × (Int → Int)} (h : fl_R a n p l d) (hl : 3 ≤ l) (hp : p < n) (hq : q = p + l) : tk_R a n p S q (do_ (lo_ S l) d) := by
  rcases h with ⟨h1, h2⟩ | h1
  · omega
  · exact tk_ro h1 hp hq (by omega)
theorem sq_by {f : Nat → Int32} {b n p : Int} {v i : Int32} (e1 : v = i &&& 255) (e2 : i = gr f (b + p)) (h0 : 0 ≤ p) (h1 : p < n) : v.toInt = ((sq f b n p) &&& 255).toInt := by
  rw [sq_at h0 h1, e1, e2]
theorem pC_c {f : Nat → Int32} {z y t u : Int} {S R : Int × (Int → Int)} (h : pC_ f z t S) (e : y = z) (e1 : u = t) (e2 : S = R) : pC_ f y u R := by
  subst e e1 e2
  exact h
theorem pM_c {f : Nat → Int32} {hb hc z : Int} {S R : Int × (Int → Int)} (h : pM_ f hb hc z S) (e2 : S = R) : pM_ f hb hc z R := by
  subst e2
  exact h
/-- as the walker has it: a bit is put by the class -/
theorem pC_put {g3 g4 : Nat → Int32} {z z2 k k2 x t t2 ix : Int} {S : Int × (Int → Int)} {w w2 old u c b q v s kk : Int32} (h : pD_ g3 z t (bn_ S x k.toNat)) (hk : 0 ≤ k) (hk2 : k2 = k + 1) (hx : x = v.toInt) (hkk : kk.toInt = k) (h31 : k < 32) (v0 : 0 ≤ v.toInt) (e1 : w = old ||| u) (e2 : u = c.toInt8.toInt32) (e3 : c = b <<< (s &&& 31)) (e4 : b = q &&& 1) (e5 : q = v >>> (kk &&& 31)) (eo : old = gr g3 ix) (hix : ix = z - 1) (hs : s.toInt = t % 8) (hg : ∀ j : Int, 0 ≤ j → gr g4 j = if j = z - 1 then w2.toInt8.toInt32 else gr g3 j) (e6 : w2 = w.toInt8.toInt32) (hz : z2 = z) (ht : t2 = t + 1) : pC_ g4 z2 t2 (bn_ S x k2.toNat) := by
  have hb := bt_E e4 e5 v0 (by omega) (by omega)
  rw [hkk, ← hx] at hb
  have hb1 : 0 ≤ b.toInt ∧ b.toInt ≤ 1 := by
    rw [hb]
    exact bt_rng x (p2 k)
  have h4 := h.2.2.2
  have hs2 : s.toInt = (bn_ S x k.toNat).1 % 8 := by rw [← h4]; exact hs
  have W := or_E e1 e2 e3 hb1 (by omega) (eo.trans (pD_at h hix)) (pD_v h).1 (by rw [hs2]; exact (pD_v h).2)
  rw [hs2] at W
  subst hz
  rw [← bn_st hk hk2 hb]
  exact pC_st h hb1 (fun j j0 => by rw [hg j j0, e6, bz_nn, W]) rfl ht
theorem pC_sy {f : Nat → Int32} {z y x r t u : Int} {S R : Int × (Int → Int)} {n : Nat} (h : pC_ f z t (bn_ S r n)) (hr : r = tu_ x n) (hy : y = z) (hu : u = t) (e : bc_ x n S = R) : pC_ f y u R := by
  subst hr hy hu
  rw [bn_tu] at h
  rw [← e]
  exact h
theorem lm_rng (L : Int) : 0 ≤ lm_ L ∧ lm_ L ≤ 5 := by
  unfold lm_
  (repeat' split) <;> omega
theorem dm_rng (D : Int) : 0 ≤ dm_ D ∧ dm_ D ≤ 10 := by
  unfold dm_
  (repeat' split) <;> omega
theorem p2_7 {k : Int} (h : k ≤ 7) : p2 k ≤ 128 := by
  unfold p2
  have h1 : 2 ^ k.toNat ≤ 2 ^ 7 := Nat.pow_le_pow_right (by decide) (by omega)
  omega
theorem bsl_E {z b s : Int32} (e : z = b <<< (s &&& 31)) (hb : 0 ≤ b.toInt ∧ b.toInt ≤ 1) (h0 : 0 ≤ s.toInt) (h1 : s.toInt ≤ 7) : z.toInt = b.toInt * p2 s.toInt ∧ 0 ≤ z.toInt ∧ z.toInt ≤ 128 := by
  have p7 := p2_7 h1
  have pp := p2_pos s.toInt
  have r : 0 ≤ b.toInt * p2 s.toInt ∧ b.toInt * p2 s.toInt ≤ 128 := by
    rcases (show b.toInt = 0 ∨ b.toInt = 1 by omega) with q | q
    · rw [q]; omega
    · rw [q]; omega
  have h := ti_shl (b := p2 s.toInt) e rfl s.toInt.toNat (sh_k rfl h0 (by omega)) rfl hb.1 (by omega)
  rw [h]
  exact ⟨rfl, r⟩
theorem pM_n {g : Nat → Int32} {hb hc z x k k2 : Int} {S : Int × (Int → Int)} {b q v kk : Int32} (h : pM_ g hb hc z (b1_ (bn_ S x k.toNat) b.toInt)) (e1 : b = q &&& 1) (e2 : q = v >>> (kk &&& 31)) (hx : x = v.toInt) (hv : 0 ≤ v.toInt) (hk : kk.toInt = k) (h0 : 0 ≤ k) (h1 : k < 32) (hk2 : k2 = k + 1) : pM_ g hb hc z (bn_ S x k2.toNat) := by
  have e := bt_E e1 e2 hv (by omega) (by omega)
  rw [hk, ← hx] at e
  rw [← bn_st h0 hk2 e]
  exact h
theorem pM_d {g : Nat → Int32} {hb hc z x k k2 : Int} {S R : Int × (Int → Int)} {b q v kk : Int32} (h : pM_ g hb hc z (b1_ S b.toInt)) (eR : bc_ x (k + 1).toNat S = R) (e1 : b = q &&& 1) (e2 : q = v >>> (kk &&& 31)) (hx : x = v.toInt) (hv : 0 ≤ v.toInt) (hk : kk.toInt = k) (h0 : 0 ≤ k) (h1 : k < 32) (hk2 : k2 = k - 1) : ∃ S9 : Int × (Int → Int), pM_ g hb hc z S9 ∧ bc_ x (k2 + 1).toNat S9 = R := by
  have e := bt_E e1 e2 hv (by omega) (by omega)
  rw [hk, ← hx] at e
  exact ⟨_, h, bc_st eR h0 hk2 e⟩
theorem pE_st {f g : Nat → Int32} {hb hc z hb2 hc2 z2 b : Int} {S R : Int × (Int → Int)} (h : pM_ f hb hc z R) (e : R.2 = S.2) (w : bw_ S) (l1 : S.1 ≤ R.1) (l2 : R.1 ≤ (S.1 + 7) / 8 * 8) (hc0 : 0 < hc) (hb0 : b = 0) (k : pM_ g hb2 hc2 z2 (b1_ R b)) : pE_ g hb2 hc2 z2 S := by
  subst hb0
  have a2 := h.2.1
  have a3 := h.2.2.1
  exact ⟨b1_ R 0, k, (b1_z h.1).trans e, w, by show S.1 ≤ R.1 + 1; omega, by show R.1 + 1 ≤ _; omega⟩
theorem lo_M2 {S : Int × (Int → Int)} {L m s v : Int} (h : ¬ L = 258) (hm : m = lm_ L) (hd : m = 0 ∧ s = 257 + (L - 3) ∨ m = 1 ∧ s = 261 + (L - 3) / 2 ∧ (v - (L - 3)) % 2 = 0 ∨ m = 2 ∧ s = 265 + (L - 3) / 4 ∧ (v - (L - 3)) % 4 = 0 ∨ m = 3 ∧ s = 269 + (L - 3) / 8 ∧ (v - (L - 3)) % 8 = 0 ∨ m = 4 ∧ s = 273 + (L - 3) / 16 ∧ (v - (L - 3)) % 16 = 0 ∨ m = 5 ∧ s = 277 + (L - 3) / 32 ∧ (v - (L - 3)) % 32 = 0) : bn_ (sb_ S s) v m.toNat = lo_ S L := by
  rcases hd with ⟨q, e⟩ | ⟨q, e, e2⟩ | ⟨q, e, e2⟩ | ⟨q, e, e2⟩ | ⟨q, e, e2⟩ | ⟨q, e, e2⟩
  · subst q e
    rw [← lo_E (S := S) (m := 0) (s := 257 + (L - 3)) (v := L - 3) h hm (by rw [show p2 0 = 1 from rfl]; omega) rfl]
    rfl
  · subst q e
    exact lo_M (q := (v - (L - 3)) / 2) h hm (by decide) (by rw [show p2 1 = 2 from rfl]; omega) (by rw [show p2 1 = 2 from rfl]; omega)
  · subst q e
    exact lo_M (q := (v - (L - 3)) / 4) h hm (by decide) (by rw [show p2 2 = 4 from rfl]; omega) (by rw [show p2 2 = 4 from rfl]; omega)
  · subst q e
    exact lo_M (q := (v - (L - 3)) / 8) h hm (by decide) (by rw [show p2 3 = 8 from rfl]; omega) (by rw [show p2 3 = 8 from rfl]; omega)
  · subst q e
    exact lo_M (q := (v - (L - 3)) / 16) h hm (by decide) (by rw [show p2 4 = 16 from rfl]; omega) (by rw [show p2 4 = 16 from rfl]; omega)
  · subst q e
    exact lo_M (q := (v - (L - 3)) / 32) h hm (by decide) (by rw [show p2 5 = 32 from rfl]; omega) (by rw [show p2 5 = 32 from rfl]; omega)
theorem do_M2 {S : Int × (Int → Int)} {D m s v : Int} (hm : m = dm_ D) (hd : m = 0 ∧ s = D - 1 ∨ m = 1 ∧ s = 2 + (D - 1) / 2 ∧ (v - (D - 1)) % 2 = 0 ∨ m = 2 ∧ s = 4 + (D - 1) / 4 ∧ (v - (D - 1)) % 4 = 0 ∨ m = 3 ∧ s = 6 + (D - 1) / 8 ∧ (v - (D - 1)) % 8 = 0 ∨ m = 4 ∧ s = 8 + (D - 1) / 16 ∧ (v - (D - 1)) % 16 = 0 ∨ m = 5 ∧ s = 10 + (D - 1) / 32 ∧ (v - (D - 1)) % 32 = 0 ∨ m = 6 ∧ s = 12 + (D - 1) / 64 ∧ (v - (D - 1)) % 64 = 0 ∨ m = 7 ∧ s = 14 + (D - 1) / 128 ∧ (v - (D - 1)) % 128 = 0 ∨ m = 8 ∧ s = 16 + (D - 1) / 256 ∧ (v - (D - 1)) % 256 = 0 ∨ m = 9 ∧ s = 18 + (D - 1) / 512 ∧ (v - (D - 1)) % 512 = 0 ∨ m = 10 ∧ s = 20 + (D - 1) / 1024 ∧ (v - (D - 1)) % 1024 = 0) : bn_ (bc_ s 5 S) v m.toNat = do_ S D := by
  rcases hd with ⟨q, e⟩ | ⟨q, e, e2⟩ | ⟨q, e, e2⟩ | ⟨q, e, e2⟩ | ⟨q, e, e2⟩ | ⟨q, e, e2⟩ | ⟨q, e, e2⟩ | ⟨q, e, e2⟩ | ⟨q, e, e2⟩ | ⟨q, e, e2⟩ | ⟨q, e, e2⟩
  · subst q e
    rw [← do_E (S := S) (m := 0) (s := D - 1) (v := D - 1) hm (by rw [show p2 0 = 1 from rfl]; omega) rfl]
    rfl
  · subst q e
    exact do_M (q := (v - (D - 1)) / 2) hm (by decide) (by rw [show p2 1 = 2 from rfl]; omega) (by rw [show p2 1 = 2 from rfl]; omega)
  · subst q e
    exact do_M (q := (v - (D - 1)) / 4) hm (by decide) (by rw [show p2 2 = 4 from rfl]; omega) (by rw [show p2 2 = 4 from rfl]; omega)
  · subst q e
    exact do_M (q := (v - (D - 1)) / 8) hm (by decide) (by rw [show p2 3 = 8 from rfl]; omega) (by rw [show p2 3 = 8 from rfl]; omega)
  · subst q e
    exact do_M (q := (v - (D - 1)) / 16) hm (by decide) (by rw [show p2 4 = 16 from rfl]; omega) (by rw [show p2 4 = 16 from rfl]; omega)
  · subst q e
    exact do_M (q := (v - (D - 1)) / 32) hm (by decide) (by rw [show p2 5 = 32 from rfl]; omega) (by rw [show p2 5 = 32 from rfl]; omega)
  · subst q e
    exact do_M (q := (v - (D - 1)) / 64) hm (by decide) (by rw [show p2 6 = 64 from rfl]; omega) (by rw [show p2 6 = 64 from rfl]; omega)
  · subst q e
    exact do_M (q := (v - (D - 1)) / 128) hm (by decide) (by rw [show p2 7 = 128 from rfl]; omega) (by rw [show p2 7 = 128 from rfl]; omega)
  · subst q e
    exact do_M (q := (v - (D - 1)) / 256) hm (by decide) (by rw [show p2 8 = 256 from rfl]; omega) (by rw [show p2 8 = 256 from rfl]; omega)
  · subst q e
    exact do_M (q := (v - (D - 1)) / 512) hm (by decide) (by rw [show p2 9 = 512 from rfl]; omega) (by rw [show p2 9 = 512 from rfl]; omega)
  · subst q e
    exact do_M (q := (v - (D - 1)) / 1024) hm (by decide) (by rw [show p2 10 = 1024 from rfl]; omega) (by rw [show p2 10 = 1024 from rfl]; omega)
theorem pF_rl {a : Int → Int32} {n z y : Int} {f g : Nat → Int32} (h : pF_ a n f z) (e : y = z) (r : rl_B f g z) : pF_ a n g y := by
  subst e
  obtain ⟨S, t, h1, h2⟩ := h
  exact ⟨S, t, h1, h2.1, h2.2.1, fun j j0 j1 => (r j j0 j1).symm.trans (h2.2.2.1 j j0 j1), h2.2.2.2⟩
theorem po_law {f g cf of cf0 of0 : Nat → Int32} {s t k th c o c0 o0 : Int} (h : rl_B f g s) (e : s = t) (l : k = 0 → pF_ (sq f (0 : Int32).toInt s) s cf c) (l1 : k = 1 → c = c0 ∧ cf = cf0) (kk : k = 0 ∨ k = 1) (m : th = 0 → pF_ (sq g (0 : Int32).toInt t) t of o) (m1 : th = 1 → o = o0 ∧ of = of0) (th0 : k = th) (r0 : c0 = o0) (r1 : rl_B cf0 of0 c0) : c = o ∧ rl_B cf of c := by
  subst e
  rcases kk with q | q
  · have a := l q
    rw [sq_rl h] at a
    exact pF_u a (m (by omega))
  · obtain ⟨a1, a2⟩ := l1 q
    obtain ⟨b1, b2⟩ := m1 (by omega)
    subst a1 a2 b1 b2
    exact ⟨r0, r1⟩
/-- quotients by a power of two -/
theorem dv_ge {v p k : Int} (h : k ≤ v / p) (hp : 0 < p) : k * p ≤ v := Int.le_trans (Int.mul_le_mul_of_nonneg_right h (by omega)) (Int.ediv_mul_le v (by omega))
theorem dv_lt {v p k : Int} (h : v / p < k) (hp : 0 < p) : v < k * p := Int.lt_mul_of_ediv_lt hp h
theorem p2_nat (m : Int) : p2 m = ((2 ^ m.toNat : Nat) : Int) := rfl
theorem p2_9 {m : Int} (h : p2 m ≤ 1000) : m ≤ 9 := by
  by_cases c : m ≤ 9
  · exact c
  · have q : 2 ^ 10 ≤ 2 ^ m.toNat := Nat.pow_le_pow_right (by decide) (by omega)
    rw [p2_nat] at h
    omega
theorem p2_4 {m : Int} (h : p2 m ≤ 31) : m ≤ 4 := by
  by_cases c : m ≤ 4
  · exact c
  · have q : 2 ^ 5 ≤ 2 ^ m.toNat := Nat.pow_le_pow_right (by decide) (by omega)
    rw [p2_nat] at h
    omega
theorem dm_E {D m : Int} (h0 : 0 ≤ m) (h1 : m ≤ 10) (h2 : m = 0 ∨ 2 * p2 m ≤ D - 1) (h3 : D - 1 < 4 * p2 m) : m = dm_ D := by
  rcases (show m = 0 ∨ m = 1 ∨ m = 2 ∨ m = 3 ∨ m = 4 ∨ m = 5 ∨ m = 6 ∨ m = 7 ∨ m = 8 ∨ m = 9 ∨ m = 10 by (exact omg_377aec9634 h0 h1)) with e | e | e | e | e | e | e | e | e | e | e
  · subst e
    rw [show p2 0 = 1 from rfl] at h2 h3
    unfold dm_
    first | rw [if_pos (by omega)] | ((repeat' split) <;> omega)
  · subst e
    rw [show p2 1 = 2 from rfl] at h2 h3
    unfold dm_
    first | rw [if_neg (by omega), if_pos (by omega)] | ((repeat' split) <;> omega)
  · subst e
    rw [show p2 2 = 4 from rfl] at h2 h3
    unfold dm_
    first | rw [if_neg (by omega), if_neg (by omega), if_pos (by omega)] | ((repeat' split) <;> omega)
  · subst e
    rw [show p2 3 = 8 from rfl] at h2 h3
    unfold dm_
    first | rw [if_neg (by omega), if_neg (by omega), if_neg (by omega), if_pos (by omega)] | ((repeat' split) <;> omega)
  · subst e
    rw [show p2 4 = 16 from rfl] at h2 h3
    unfold dm_
    first | rw [if_neg (by omega), if_neg (by omega), if_neg (by omega), if_neg (by omega), if_pos (by omega)] | ((repeat' split) <;> omega)
  · subst e
    rw [show p2 5 = 32 from rfl] at h2 h3
    unfold dm_
    first | rw [if_neg (by omega), if_neg (by omega), if_neg (by omega), if_neg (by omega), if_neg (by omega), if_pos (by omega)] | ((repeat' split) <;> omega)
  · subst e
    rw [show p2 6 = 64 from rfl] at h2 h3
    unfold dm_
    first | rw [if_neg (by omega), if_neg (by omega), if_neg (by omega), if_neg (by omega), if_neg (by omega), if_neg (by omega), if_pos (by omega)] | ((repeat' split) <;> omega)
  · subst e
    rw [show p2 7 = 128 from rfl] at h2 h3
    unfold dm_
    first | rw [if_neg (by omega), if_neg (by omega), if_neg (by omega), if_neg (by omega), if_neg (by omega), if_neg (by omega), if_neg (by omega), if_pos (by omega)] | ((repeat' split) <;> omega)
  · subst e
    rw [show p2 8 = 256 from rfl] at h2 h3
    unfold dm_
    first | rw [if_neg (by omega), if_neg (by omega), if_neg (by omega), if_neg (by omega), if_neg (by omega), if_neg (by omega), if_neg (by omega), if_neg (by omega), if_pos (by omega)] | ((repeat' split) <;> omega)
  · subst e
    rw [show p2 9 = 512 from rfl] at h2 h3
    unfold dm_
    first | rw [if_neg (by omega), if_neg (by omega), if_neg (by omega), if_neg (by omega), if_neg (by omega), if_neg (by omega), if_neg (by omega), if_neg (by omega), if_neg (by omega), if_pos (by omega)] | ((repeat' split) <;> omega)
  · subst e
    rw [show p2 10 = 1024 from rfl] at h2 h3
    unfold dm_
    first | rw [if_neg (by omega), if_neg (by omega), if_neg (by omega), if_neg (by omega), if_neg (by omega), if_neg (by omega), if_neg (by omega), if_neg (by omega), if_neg (by omega), if_neg (by omega)] | ((repeat' split) <;> omega)
theorem lm_E {L m : Int} (h0 : 0 ≤ m) (h1 : m ≤ 5) (h2 : m = 0 ∨ 4 * p2 m ≤ L - 3) (h3 : m = 5 ∨ L - 3 < 8 * p2 m) (h4 : L ≤ 257) : m = lm_ L := by
  rcases (show m = 0 ∨ m = 1 ∨ m = 2 ∨ m = 3 ∨ m = 4 ∨ m = 5 by omega) with e | e | e | e | e | e
  · subst e
    rw [show p2 0 = 1 from rfl] at h2 h3
    unfold lm_
    first | rw [if_pos (by omega)] | ((repeat' split) <;> omega)
  · subst e
    rw [show p2 1 = 2 from rfl] at h2 h3
    unfold lm_
    first | rw [if_neg (by omega), if_pos (by omega)] | ((repeat' split) <;> omega)
  · subst e
    rw [show p2 2 = 4 from rfl] at h2 h3
    unfold lm_
    first | rw [if_neg (by omega), if_neg (by omega), if_pos (by omega)] | ((repeat' split) <;> omega)
  · subst e
    rw [show p2 3 = 8 from rfl] at h2 h3
    unfold lm_
    first | rw [if_neg (by omega), if_neg (by omega), if_neg (by omega), if_pos (by omega)] | ((repeat' split) <;> omega)
  · subst e
    rw [show p2 4 = 16 from rfl] at h2 h3
    unfold lm_
    first | rw [if_neg (by omega), if_neg (by omega), if_neg (by omega), if_neg (by omega), if_pos (by omega)] | ((repeat' split) <;> omega)
  · subst e
    rw [show p2 5 = 32 from rfl] at h2 h3
    unfold lm_
    first | rw [if_neg (by omega), if_neg (by omega), if_neg (by omega), if_neg (by omega), if_neg (by omega)] | ((repeat' split) <;> omega)
theorem di_dm {D : Int} (h : D ≤ 4096) : di_c D = 5 + dm_ D := by
  unfold di_c dm_
  first
  | (by_cases c0 : D ≤ 4
     · rw [if_pos c0, if_pos c0] <;> rfl
     rw [if_neg c0, if_neg c0]
     by_cases c1 : D ≤ 8
     · rw [if_pos c1, if_pos c1] <;> rfl
     rw [if_neg c1, if_neg c1]
     by_cases c2 : D ≤ 16
     · rw [if_pos c2, if_pos c2] <;> rfl
     rw [if_neg c2, if_neg c2]
     by_cases c3 : D ≤ 32
     · rw [if_pos c3, if_pos c3] <;> rfl
     rw [if_neg c3, if_neg c3]
     by_cases c4 : D ≤ 64
     · rw [if_pos c4, if_pos c4] <;> rfl
     rw [if_neg c4, if_neg c4]
     by_cases c5 : D ≤ 128
     · rw [if_pos c5, if_pos c5] <;> rfl
     rw [if_neg c5, if_neg c5]
     by_cases c6 : D ≤ 256
     · rw [if_pos c6, if_pos c6] <;> rfl
     rw [if_neg c6, if_neg c6]
     by_cases c7 : D ≤ 512
     · rw [if_pos c7, if_pos c7] <;> rfl
     rw [if_neg c7, if_neg c7]
     by_cases c8 : D ≤ 1024
     · rw [if_pos c8, if_pos c8] <;> rfl
     rw [if_neg c8, if_neg c8]
     by_cases c9 : D ≤ 2048
     · rw [if_pos c9, if_pos c9] <;> rfl
     rw [if_neg c9, if_neg c9] <;> rfl)
  | ((repeat' split) <;> omega)
theorem le_lm {L m s : Int} (h0 : 3 ≤ L) (h1 : L ≤ 257) (hm : m = lm_ L) (hs : s = 257 + 4 * m + (L - 3) / p2 m) : 257 ≤ s ∧ s ≤ 285 ∧ (s < 280 ∧ le_c L = 7 + m ∨ 280 ≤ s ∧ le_c L = 8 + m) := by
  have r := lm_rng L
  rcases (show m = 0 ∨ m = 1 ∨ m = 2 ∨ m = 3 ∨ m = 4 ∨ m = 5 by omega) with e | e | e | e | e | e
  · subst e
    rw [show p2 0 = 1 from rfl] at hs
    have b : 3 ≤ L ∧ L ≤ 10 := by
      unfold lm_ at hm
      (repeat' split at hm) <;> omega
    clear hm r
    unfold le_c
    (repeat' split) <;> omega
  · subst e
    rw [show p2 1 = 2 from rfl] at hs
    have b : 11 ≤ L ∧ L ≤ 18 := by
      unfold lm_ at hm
      (repeat' split at hm) <;> omega
    clear hm r
    unfold le_c
    (repeat' split) <;> omega
  · subst e
    rw [show p2 2 = 4 from rfl] at hs
    have b : 19 ≤ L ∧ L ≤ 34 := by
      unfold lm_ at hm
      (repeat' split at hm) <;> omega
    clear hm r
    unfold le_c
    (repeat' split) <;> omega
  · subst e
    rw [show p2 3 = 8 from rfl] at hs
    have b : 35 ≤ L ∧ L ≤ 66 := by
      unfold lm_ at hm
      (repeat' split at hm) <;> omega
    clear hm r
    unfold le_c
    (repeat' split) <;> omega
  · subst e
    rw [show p2 4 = 16 from rfl] at hs
    have b : 67 ≤ L ∧ L ≤ 130 := by
      unfold lm_ at hm
      (repeat' split at hm) <;> omega
    clear hm r
    unfold le_c
    (repeat' split) <;> omega
  · subst e
    rw [show p2 5 = 32 from rfl] at hs
    have b : 131 ≤ L ∧ L ≤ 257 := by
      unfold lm_ at hm
      (repeat' split at hm) <;> omega
    clear hm r
    unfold le_c
    (repeat' split) <;> omega
/-! ROWS OF NUMBERS -/
theorem omg_ad049e0dd8 {x0 : Int} {x1 : Int} {x2 : Int} {x3 : Int} {x4 : Int} (a0 : ((0 : Int) ≤ x0)) (a1 : ((0 : Int) ≤ x1)) (a2 : (x2 = (x0 + x1))) (a3 : (x3 = ((x2 + (8 : Int)) / (8 : Int)))) (a4 : (x4 = (x3 - (1 : Int)))) : ((0 : Int) ≤ x4) := by omega
theorem omg_d0d00eef2d {x0 : Int} {x1 : Int} {x2 : Int} {x3 : Int} {x4 : Int} {x5 : Int} (a0 : ((x0 + x1) ≤ (36016 : Int))) (a1 : (x2 = (x0 + x3))) (a2 : (¬ (x1 ≤ x3))) (a3 : (x4 = ((x2 + (8 : Int)) / (8 : Int)))) (a4 : (x5 = (x4 - (1 : Int)))) : (x5 < (((4502 : Nat) : Nat) : Int)) := by omega
theorem omg_02bf512842 {x0 : Int} {x1 : Int} {x2 : Int} {x3 : Int} (a0 : ((0 : Int) ≤ x0)) (a1 : ((0 : Int) ≤ x1)) (a2 : (x2 = (x0 + x1))) (a3 : (x3 = ((x2 + (8 : Int)) / (8 : Int)))) : ((0 : Int) ≤ (x3 - (1 : Int))) := by omega
theorem omg_2c0cb8f15e {x0 : Int} {x1 : Int} {x2 : Int} (a0 : (x0 = ((x1 + (8 : Int)) / (8 : Int)))) (a1 : (x2 = (x1 + (1 : Int)))) : (x0 = ((x2 + (7 : Int)) / (8 : Int))) := by omega
theorem omg_f49d898d2a {x0 : Int} {x1 : Int} {x2 : Int} {x3 : Int} {x4 : Int} (a0 : (x0 = (x1 + x2))) (a1 : (x3 = (x0 + (1 : Int)))) (a2 : (x4 = (x2 + (1 : Int)))) : (x3 = (x1 + x4)) := by omega
theorem omg_bf302c0ba1 {x0 : Int} {x1 : Int} {x2 : Int} (a0 : (x0 = ((x1 + (7 : Int)) / (8 : Int)))) (a1 : (x2 = (x1 % (8 : Int)))) (a2 : (¬ (x2 = (0 : Int)))) : (x0 = ((x1 + (8 : Int)) / (8 : Int))) := by omega
theorem omg_7f8289d8af {x0 : Int} {x1 : Int} {x2 : Int} {x3 : Int} (a0 : ((0 : Int) ≤ x0)) (a1 : ((0 : Int) ≤ x1)) (a2 : (x2 = (x0 + x1))) (a3 : (x3 = ((x2 + (7 : Int)) / (8 : Int)))) : ((0 : Int) ≤ x3) := by omega
theorem d_JArrays_fill_0 : decode prog_24_method_103_code 0 = .ok (.iconst 0, 1) := by decide +kernel
theorem d_JArrays_fill_1 : decode prog_24_method_103_code 1 = .ok (.istore_n 2, 1) := by decide +kernel
theorem d_JArrays_fill_2 : decode prog_24_method_103_code 2 = .ok (.aload_n 0, 1) := by decide +kernel
theorem d_JArrays_fill_3 : decode prog_24_method_103_code 3 = .ok (.arraylength, 1) := by decide +kernel
theorem d_JArrays_fill_4 : decode prog_24_method_103_code 4 = .ok (.istore_n 3, 1) := by decide +kernel
theorem d_JArrays_fill_5 : decode prog_24_method_103_code 5 = .ok (.iload_n 2, 1) := by decide +kernel
theorem d_JArrays_fill_6 : decode prog_24_method_103_code 6 = .ok (.iload_n 3, 1) := by decide +kernel
theorem d_JArrays_fill_7 : decode prog_24_method_103_code 7 = .ok (.if_icmp .ge 13, 3) := by decide +kernel
theorem d_JArrays_fill_20 : decode prog_24_method_103_code 20 = .ok (.return_, 1) := by decide +kernel
theorem d_JArrays_fill_10 : decode prog_24_method_103_code 10 = .ok (.aload_n 0, 1) := by decide +kernel
theorem d_JArrays_fill_11 : decode prog_24_method_103_code 11 = .ok (.iload_n 2, 1) := by decide +kernel
theorem d_JArrays_fill_12 : decode prog_24_method_103_code 12 = .ok (.iload_n 1, 1) := by decide +kernel
theorem d_JArrays_fill_13 : decode prog_24_method_103_code 13 = .ok (.iastore, 1) := by decide +kernel
theorem d_JArrays_fill_14 : decode prog_24_method_103_code 14 = .ok (.iinc 2 1, 3) := by decide +kernel
theorem d_JArrays_fill_17 : decode prog_24_method_103_code 17 = .ok (.goto (-12), 3) := by decide +kernel
abbrev y_JArrays_fill : MethodName := ⟨"java/util/Arrays", "fill", "([II)V"⟩
abbrev i_JArrays_fill : pb_I := (y_JArrays_fill, prog_24_method_103_code, 4, (Option.none : Option Jvm.ClassFile.FieldType), [], { frames := 0, cells := 0, slots := 0, locals := 0 })
set_option maxRecDepth 100000 in
set_option maxHeartbeats 4000000 in
theorem g_fill {l : Launch} (hl : l.stackTraces = false) (G : pb_G) (b : Nat) (N : Nat) (f : Nat → Int32) (vv : Int32) (hN : N ≤ 100000) : Cn l G i_JArrays_fill [.ref b, .int vv] [(b, .inl (G.2.2.1, N, .inl f))] (S := (Nat → Int32)) (fun rv_ u => rv_ = none ∧ (∀ x : Int, 0 ≤ x → x < N → gx u x = vv.toInt)) (fun u => [(b, .inl (G.2.2.1, N, .inl u))]) := by
  refine Cn.of hl (by decide +kernel) rfl (Nat.le_of_ble_eq_true rfl) (fun M hQ => ?_)
  refine pb_eq (pc' := 0) (lo' := [(0, .ref b), (1, .int vv)]) (rest' := []) (ws' := [(b, .inl (G.2.2.1, N, .inl f))]) ?_
  have zl0 : (0 : Int32).toInt = 0 := by decide
  have zl1 : (1 : Int32).toInt = 1 := by decide
  refine pb_iconst (pc := 0) (v := 0) d_JArrays_fill_0 (by decide) ?_
  refine pb_istore_n (pc := 1) (lo' := [(2, .int 0), (0, .ref b), (1, .int vv)]) d_JArrays_fill_1 rfl (by decide) rfl ?_
  refine pb_aload_n (pc := 2) d_JArrays_fill_2 1 rfl rfl ?_
  refine pb_alen (pc := 3) d_JArrays_fill_3 0 1 rfl rfl rfl ?_
  refine pb_topi (fun i1 ei1 => ?_)
  have ti1 : i1.toInt = (N : Int) := ti_ofNat ei1 (by omega)
  refine pb_istore_n (pc := 4) (lo' := [(3, .int i1), (2, .int 0), (0, .ref b), (1, .int vv)]) d_JArrays_fill_4 rfl (by decide) rfl ?_
  have hL5_2 : ∀ (N9 : Nat) (k : Int32) (L : Int32) (g : Nat → Int32), (0 ≤ k.toInt) → (L.toInt = N) → (∀ x : Int, 0 ≤ x → x < k.toInt → gx g x = vv.toInt) → (((N : Int) - k.toInt).toNat) < N9 → pb_P l G M i_JArrays_fill 5 [(3, .int L), (2, .int k), (0, .ref b), (1, .int vv)] [] [(b, .inl (G.2.2.1, N, .inl g))] 0 0 := by
    intro N9
    induction N9 with
    | zero => intro k L g hk hL hg hm9; exact absurd hm9 (Nat.not_lt_zero _)
    | succ N9 ih5 =>
      intro k L g hk hL hg hm9
      refine pb_iload_n (pc := 5) d_JArrays_fill_5 1 rfl rfl ?_
      refine pb_iload_n (pc := 6) d_JArrays_fill_6 0 rfl rfl ?_
      refine pb_icmp_ge (pc := 7) (tgt := 20) d_JArrays_fill_7 (by decide) (fun w3 => ?_) (fun w3 => ?_)
      · have tw3 : L.toInt ≤ k.toInt := (ti_le rfl rfl).mp w3
        exact pb_vret (pc := 20) hQ d_JArrays_fill_20 rfl (g) ⟨rfl, (show ∀ x : Int, 0 ≤ x → x < N → gx g x = vv.toInt from (fun x h0 h1 => hg x h0 (by omega)))⟩ [0] (by decide) rfl rfl (by decide) (by decide)
      · have tw3 : ¬ L.toInt ≤ k.toInt := fun z9 => w3 ((ti_le rfl rfl).mpr z9)
        refine pb_aload_n (pc := 10) d_JArrays_fill_10 2 rfl rfl ?_
        refine pb_iload_n (pc := 11) d_JArrays_fill_11 1 rfl rfl ?_
        refine pb_iload_n (pc := 12) d_JArrays_fill_12 3 rfl rfl ?_
        refine pb_iast (pc := 13) (ws' := [(b, .inl (G.2.2.1, N, .inl (upd g ((k : Int32).toNatClampNeg) vv)))]) d_JArrays_fill_13 0 rfl (vp_in_iff.mpr (by constructor <;> omega)) rfl ?_
        refine pb_iincN (pc := 14) (c := 1) d_JArrays_fill_14 1 rfl (by decide) (by decide) (fun i4 ei4 => ?_)
        have ti4 : i4.toInt = k.toInt + 1 := ti_add ei4 rfl (by decide) (by omega) (by omega)
        refine pb_eq (pc' := 17) (lo' := [(2, .int i4), (3, .int L), (0, .ref b), (1, .int vv)]) (rest' := []) (ws' := [(b, .inl (G.2.2.1, N, .inl (upd g ((k : Int32).toNatClampNeg) vv)))]) ?_
        refine pb_goto (pc := 17) (tgt := 5) d_JArrays_fill_17 (by decide) ?_
        refine pb_re (ws' := [(b, .inl (G.2.2.1, N, .inl (upd g ((k : Int32).toNatClampNeg) vv)))]) (lo' := [(3, .int L), (2, .int i4), (0, .ref b), (1, .int vv)]) [0] [1, 0, 2, 3] (by decide) rfl rfl rfl ?_
        exact ih5 i4 L (upd g ((k : Int32).toNatClampNeg) vv) (by first | (with_reducible assumption) | omega (splitDisjunctions := false) | assumption | omega | decide) (by first | (with_reducible assumption) | omega (splitDisjunctions := false) | assumption | omega | decide) (fun x h0 h1 => by rw [gx_upd rfl x (by omega) h0]; split <;> first | rfl | exact hg x h0 (by omega)) (by omega)
  exact hL5_2 _ 0 i1 f (by first | (with_reducible assumption) | omega (splitDisjunctions := false) | assumption | omega | decide) (by first | (with_reducible assumption) | omega (splitDisjunctions := false) | assumption | omega | decide) (fun x h0 h1 => absurd h1 (by omega)) (Nat.lt_succ_self _)

theorem d_Presser_turned_0 : decode prog_8_method_10_code 0 = .ok (.iconst 0, 1) := by decide +kernel
theorem d_Presser_turned_1 : decode prog_8_method_10_code 1 = .ok (.istore_n 2, 1) := by decide +kernel
theorem d_Presser_turned_2 : decode prog_8_method_10_code 2 = .ok (.iconst 0, 1) := by decide +kernel
theorem d_Presser_turned_3 : decode prog_8_method_10_code 3 = .ok (.istore_n 3, 1) := by decide +kernel
theorem d_Presser_turned_4 : decode prog_8_method_10_code 4 = .ok (.iload_n 3, 1) := by decide +kernel
theorem d_Presser_turned_5 : decode prog_8_method_10_code 5 = .ok (.iload_n 1, 1) := by decide +kernel
theorem d_Presser_turned_6 : decode prog_8_method_10_code 6 = .ok (.if_icmp .ge 19, 3) := by decide +kernel
theorem d_Presser_turned_25 : decode prog_8_method_10_code 25 = .ok (.iload_n 2, 1) := by decide +kernel
theorem d_Presser_turned_26 : decode prog_8_method_10_code 26 = .ok (.ireturn, 1) := by decide +kernel
theorem d_Presser_turned_9 : decode prog_8_method_10_code 9 = .ok (.iconst 2, 1) := by decide +kernel
theorem d_Presser_turned_10 : decode prog_8_method_10_code 10 = .ok (.iload_n 2, 1) := by decide +kernel
theorem d_Presser_turned_11 : decode prog_8_method_10_code 11 = .ok (.imul, 1) := by decide +kernel
theorem d_Presser_turned_12 : decode prog_8_method_10_code 12 = .ok (.iload_n 0, 1) := by decide +kernel
theorem d_Presser_turned_13 : decode prog_8_method_10_code 13 = .ok (.iload_n 3, 1) := by decide +kernel
theorem d_Presser_turned_14 : decode prog_8_method_10_code 14 = .ok (.ishr, 1) := by decide +kernel
theorem d_Presser_turned_15 : decode prog_8_method_10_code 15 = .ok (.iconst 1, 1) := by decide +kernel
theorem d_Presser_turned_16 : decode prog_8_method_10_code 16 = .ok (.iand, 1) := by decide +kernel
theorem d_Presser_turned_17 : decode prog_8_method_10_code 17 = .ok (.iadd, 1) := by decide +kernel
theorem d_Presser_turned_18 : decode prog_8_method_10_code 18 = .ok (.istore_n 2, 1) := by decide +kernel
theorem d_Presser_turned_19 : decode prog_8_method_10_code 19 = .ok (.iinc 3 1, 3) := by decide +kernel
theorem d_Presser_turned_22 : decode prog_8_method_10_code 22 = .ok (.goto (-18), 3) := by decide +kernel
abbrev y_Presser_turned : MethodName := ⟨"PackageBook$Presser", "turned", "(II)I"⟩
abbrev i_Presser_turned : pb_I := (y_Presser_turned, prog_8_method_10_code, 4, (some Jvm.ClassFile.FieldType.int), [], { frames := 0, cells := 0, slots := 0, locals := 0 })
set_option maxRecDepth 100000 in
set_option maxHeartbeats 4000000 in
theorem g_Pr_turned {l : Launch} (hl : l.stackTraces = false) (G : pb_G) (x : Int32) (n : Int32) (x0 : 0 ≤ x.toInt) (n0 : 0 ≤ n.toInt) (n1 : n.toInt ≤ 16) : Cn l G i_Presser_turned [.int x, .int n] [] (S := Int32) (fun rv_ u => rv_ = some (.int u) ∧ (u.toInt = tu_ x.toInt n.toInt.toNat)) (fun u => []) := by
  refine Cn.of hl (by decide +kernel) rfl (Nat.le_of_ble_eq_true rfl) (fun M hQ => ?_)
  refine pb_eq (pc' := 0) (lo' := [(0, .int x), (1, .int n)]) (rest' := []) (ws' := []) ?_
  have zl0 : (0 : Int32).toInt = 0 := by decide
  have zl1 : (1 : Int32).toInt = 1 := by decide
  have zl2 : (2 : Int32).toInt = 2 := by decide
  have rn := ti_rng n
  refine pb_iconst (pc := 0) (v := 0) d_Presser_turned_0 (by decide) ?_
  refine pb_istore_n (pc := 1) (lo' := [(2, .int 0), (0, .int x), (1, .int n)]) d_Presser_turned_1 rfl (by decide) rfl ?_
  refine pb_iconst (pc := 2) (v := 0) d_Presser_turned_2 (by decide) ?_
  refine pb_istore_n (pc := 3) (lo' := [(3, .int 0), (2, .int 0), (0, .int x), (1, .int n)]) d_Presser_turned_3 rfl (by decide) rfl ?_
  have hL4_1 : ∀ (N9 : Nat) (k : Int32) (v : Int32), (0 ≤ k.toInt) → (k.toInt ≤ n.toInt) → (v.toInt = tu_ x.toInt k.toInt.toNat) → ((n.toInt - k.toInt).toNat) < N9 → pb_P l G M i_Presser_turned 4 [(3, .int k), (2, .int v), (0, .int x), (1, .int n)] [] [] 0 0 := by
    intro N9
    induction N9 with
    | zero => intro k v hk hk2 hv hm9; exact absurd hm9 (Nat.not_lt_zero _)
    | succ N9 ih4 =>
      intro k v hk hk2 hv hm9
      have hvr := tu_rng x.toInt k.toInt.toNat
      have hpl := p2_le (k := ((k.toInt.toNat : Nat) : Int)) (by omega)
      refine pb_iload_n (pc := 4) d_Presser_turned_4 0 rfl rfl ?_
      refine pb_iload_n (pc := 5) d_Presser_turned_5 3 rfl rfl ?_
      refine pb_icmp_ge (pc := 6) (tgt := 25) d_Presser_turned_6 (by decide) (fun w2 => ?_) (fun w2 => ?_)
      · have tw2 : n.toInt ≤ k.toInt := (ti_le rfl rfl).mp w2
        refine pb_iload_n (pc := 25) d_Presser_turned_25 1 rfl rfl ?_
        exact pb_iret (pc := 26) hQ d_Presser_turned_26 rfl rfl (v) ⟨rfl, (show v.toInt = tu_ x.toInt n.toInt.toNat from (by rw [show n.toInt = k.toInt by omega]; exact hv))⟩ [] (by decide) rfl rfl (by decide) (by decide)
      · have tw2 : ¬ n.toInt ≤ k.toInt := fun z9 => w2 ((ti_le rfl rfl).mpr z9)
        refine pb_iconst (pc := 9) (v := 2) d_Presser_turned_9 (by decide) ?_
        refine pb_iload_n (pc := 10) d_Presser_turned_10 1 rfl rfl ?_
        refine pb_imul (pc := 11) d_Presser_turned_11 ?_
        refine pb_topi (fun i3 ei3 => ?_)
        try have ti3 : i3.toInt = 2 * v.toInt := ti_mul ei3 (by decide) rfl (by omega) (by omega)
        refine pb_iload_n (pc := 12) d_Presser_turned_12 2 rfl rfl ?_
        refine pb_iload_n (pc := 13) d_Presser_turned_13 0 rfl rfl ?_
        refine pb_ishr (pc := 14) d_Presser_turned_14 ?_
        refine pb_topi (fun i4 ei4 => ?_)
        have eQ := ei4
        refine pb_iconst (pc := 15) (v := 1) d_Presser_turned_15 (by decide) ?_
        refine pb_iand (pc := 16) d_Presser_turned_16 ?_
        refine pb_topi (fun i5 ei5 => ?_)
        have ti5 : 0 ≤ i5.toInt ∧ i5.toInt ≤ 1 := ti_and 1 ei5 (by decide) (by decide)
        have eB := ei5
        refine pb_iadd (pc := 17) d_Presser_turned_17 ?_
        refine pb_topi (fun i6 ei6 => ?_)
        try have ti6 : i6.toInt = i3.toInt + i5.toInt := ti_add ei6 rfl rfl (by omega) (by omega)
        refine pb_istore_n (pc := 18) (lo' := [(2, .int i6), (3, .int k), (0, .int x), (1, .int n)]) d_Presser_turned_18 rfl (by decide) rfl ?_
        refine pb_iincN (pc := 19) (c := 1) d_Presser_turned_19 1 rfl (by decide) (by decide) (fun i7 ei7 => ?_)
        have ti7 : i7.toInt = k.toInt + 1 := ti_add ei7 rfl (by decide) (by omega) (by omega)
        refine pb_eq (pc' := 22) (lo' := [(3, .int i7), (2, .int i6), (0, .int x), (1, .int n)]) (rest' := []) (ws' := []) ?_
        refine pb_goto (pc := 22) (tgt := 4) d_Presser_turned_22 (by decide) ?_
        exact ih4 i7 i6 (by first | (with_reducible assumption) | omega (splitDisjunctions := false) | assumption | omega | decide) (by first | (with_reducible assumption) | omega (splitDisjunctions := false) | assumption | omega | decide) (tu_st hv hk (by omega) (bt_E eB eQ x0 (by omega) (by omega)) (by omega)) (by omega)
  exact hL4_1 _ 0 0 (by first | (with_reducible assumption) | omega (splitDisjunctions := false) | assumption | omega | decide) (by first | (with_reducible assumption) | omega (splitDisjunctions := false) | assumption | omega | decide) (by rw [zl0]; rfl) (Nat.lt_succ_self _)

theorem d_Presser_putNumber_0 : decode prog_8_method_11_code 0 = .ok (.iconst 0, 1) := by decide +kernel
theorem d_Presser_putNumber_1 : decode prog_8_method_11_code 1 = .ok (.istore_n 3, 1) := by decide +kernel
theorem d_Presser_putNumber_2 : decode prog_8_method_11_code 2 = .ok (.iload_n 3, 1) := by decide +kernel
theorem d_Presser_putNumber_3 : decode prog_8_method_11_code 3 = .ok (.iload_n 2, 1) := by decide +kernel
theorem d_Presser_putNumber_4 : decode prog_8_method_11_code 4 = .ok (.if_icmp .ge 106, 3) := by decide +kernel
theorem d_Presser_putNumber_110 : decode prog_8_method_11_code 110 = .ok (.return_, 1) := by decide +kernel
theorem d_Presser_putNumber_59 : decode prog_8_method_11_code 59 = .ok (.aload_n 0, 1) := by decide +kernel
theorem d_Presser_putNumber_60 : decode prog_8_method_11_code 60 = .ok (.getfield 14, 3) := by decide +kernel
theorem d_Presser_putNumber_63 : decode prog_8_method_11_code 63 = .ok (.getfield 90, 3) := by decide +kernel
theorem k_161 : (Jvm.Cond.fieldLinkNest "PackageBook$Presser" (90 : Nat) "PackageBook$Row" "bytes" "[B" "PackageBook") ∈ uN := uN_c0 44 rfl (by decide +kernel)
theorem d_Presser_putNumber_66 : decode prog_8_method_11_code 66 = .ok (.aload_n 0, 1) := by decide +kernel
theorem d_Presser_putNumber_67 : decode prog_8_method_11_code 67 = .ok (.getfield 14, 3) := by decide +kernel
theorem d_Presser_putNumber_70 : decode prog_8_method_11_code 70 = .ok (.getfield 38, 3) := by decide +kernel
theorem k_164 : (Jvm.Cond.fieldLinkNest "PackageBook$Presser" (38 : Nat) "PackageBook$Row" "size" "I" "PackageBook") ∈ uN := uN_c0 47 rfl (by decide +kernel)
theorem d_Presser_putNumber_73 : decode prog_8_method_11_code 73 = .ok (.iconst 1, 1) := by decide +kernel
theorem d_Presser_putNumber_74 : decode prog_8_method_11_code 74 = .ok (.isub, 1) := by decide +kernel
theorem d_Presser_putNumber_75 : decode prog_8_method_11_code 75 = .ok (.dup2, 1) := by decide +kernel
theorem d_Presser_putNumber_76 : decode prog_8_method_11_code 76 = .ok (.baload, 1) := by decide +kernel
theorem d_Presser_putNumber_77 : decode prog_8_method_11_code 77 = .ok (.iload_n 1, 1) := by decide +kernel
theorem d_Presser_putNumber_78 : decode prog_8_method_11_code 78 = .ok (.iload_n 3, 1) := by decide +kernel
theorem d_Presser_putNumber_79 : decode prog_8_method_11_code 79 = .ok (.ishr, 1) := by decide +kernel
theorem d_Presser_putNumber_80 : decode prog_8_method_11_code 80 = .ok (.iconst 1, 1) := by decide +kernel
theorem d_Presser_putNumber_81 : decode prog_8_method_11_code 81 = .ok (.iand, 1) := by decide +kernel
theorem d_Presser_putNumber_82 : decode prog_8_method_11_code 82 = .ok (.aload_n 0, 1) := by decide +kernel
theorem d_Presser_putNumber_83 : decode prog_8_method_11_code 83 = .ok (.getfield 39, 3) := by decide +kernel
theorem k_189 : (Jvm.Cond.fieldLink "PackageBook$Presser" (39 : Nat) "PackageBook$Presser" "bits" "I") ∈ uW := uW_c0 72 rfl (by decide +kernel)
theorem d_Presser_putNumber_86 : decode prog_8_method_11_code 86 = .ok (.bipush 8, 2) := by decide +kernel
theorem d_Presser_putNumber_88 : decode prog_8_method_11_code 88 = .ok (.irem, 1) := by decide +kernel
theorem d_Presser_putNumber_89 : decode prog_8_method_11_code 89 = .ok (.ishl, 1) := by decide +kernel
theorem d_Presser_putNumber_90 : decode prog_8_method_11_code 90 = .ok (.i2b, 1) := by decide +kernel
theorem d_Presser_putNumber_91 : decode prog_8_method_11_code 91 = .ok (.ior, 1) := by decide +kernel
theorem d_Presser_putNumber_92 : decode prog_8_method_11_code 92 = .ok (.i2b, 1) := by decide +kernel
theorem d_Presser_putNumber_93 : decode prog_8_method_11_code 93 = .ok (.bastore, 1) := by decide +kernel
theorem d_Presser_putNumber_94 : decode prog_8_method_11_code 94 = .ok (.aload_n 0, 1) := by decide +kernel
theorem d_Presser_putNumber_95 : decode prog_8_method_11_code 95 = .ok (.dup, 1) := by decide +kernel
theorem d_Presser_putNumber_96 : decode prog_8_method_11_code 96 = .ok (.getfield 39, 3) := by decide +kernel
theorem d_Presser_putNumber_99 : decode prog_8_method_11_code 99 = .ok (.iconst 1, 1) := by decide +kernel
theorem d_Presser_putNumber_100 : decode prog_8_method_11_code 100 = .ok (.iadd, 1) := by decide +kernel
theorem d_Presser_putNumber_101 : decode prog_8_method_11_code 101 = .ok (.putfield 39, 3) := by decide +kernel
theorem d_Presser_putNumber_104 : decode prog_8_method_11_code 104 = .ok (.iinc 3 1, 3) := by decide +kernel
theorem d_Presser_putNumber_107 : decode prog_8_method_11_code 107 = .ok (.goto (-105), 3) := by decide +kernel
theorem d_Presser_putNumber_7 : decode prog_8_method_11_code 7 = .ok (.aload_n 0, 1) := by decide +kernel
theorem d_Presser_putNumber_8 : decode prog_8_method_11_code 8 = .ok (.getfield 39, 3) := by decide +kernel
theorem d_Presser_putNumber_11 : decode prog_8_method_11_code 11 = .ok (.bipush 8, 2) := by decide +kernel
theorem d_Presser_putNumber_13 : decode prog_8_method_11_code 13 = .ok (.irem, 1) := by decide +kernel
theorem d_Presser_putNumber_14 : decode prog_8_method_11_code 14 = .ok (.ifCond .ne 45, 3) := by decide +kernel
theorem d_Presser_putNumber_17 : decode prog_8_method_11_code 17 = .ok (.aload_n 0, 1) := by decide +kernel
theorem d_Presser_putNumber_18 : decode prog_8_method_11_code 18 = .ok (.getfield 14, 3) := by decide +kernel
theorem d_Presser_putNumber_21 : decode prog_8_method_11_code 21 = .ok (.getfield 38, 3) := by decide +kernel
theorem d_Presser_putNumber_24 : decode prog_8_method_11_code 24 = .ok (.sipush 4502, 3) := by decide +kernel
theorem d_Presser_putNumber_27 : decode prog_8_method_11_code 27 = .ok (.if_icmp .ge 32, 3) := by decide +kernel
theorem d_Presser_putNumber_30 : decode prog_8_method_11_code 30 = .ok (.aload_n 0, 1) := by decide +kernel
theorem d_Presser_putNumber_31 : decode prog_8_method_11_code 31 = .ok (.getfield 14, 3) := by decide +kernel
theorem d_Presser_putNumber_34 : decode prog_8_method_11_code 34 = .ok (.getfield 90, 3) := by decide +kernel
theorem d_Presser_putNumber_37 : decode prog_8_method_11_code 37 = .ok (.aload_n 0, 1) := by decide +kernel
theorem d_Presser_putNumber_38 : decode prog_8_method_11_code 38 = .ok (.getfield 14, 3) := by decide +kernel
theorem d_Presser_putNumber_41 : decode prog_8_method_11_code 41 = .ok (.getfield 38, 3) := by decide +kernel
theorem d_Presser_putNumber_44 : decode prog_8_method_11_code 44 = .ok (.iconst 0, 1) := by decide +kernel
theorem d_Presser_putNumber_45 : decode prog_8_method_11_code 45 = .ok (.bastore, 1) := by decide +kernel
theorem d_Presser_putNumber_46 : decode prog_8_method_11_code 46 = .ok (.aload_n 0, 1) := by decide +kernel
theorem d_Presser_putNumber_47 : decode prog_8_method_11_code 47 = .ok (.getfield 14, 3) := by decide +kernel
theorem d_Presser_putNumber_50 : decode prog_8_method_11_code 50 = .ok (.dup, 1) := by decide +kernel
theorem d_Presser_putNumber_51 : decode prog_8_method_11_code 51 = .ok (.getfield 38, 3) := by decide +kernel
theorem d_Presser_putNumber_54 : decode prog_8_method_11_code 54 = .ok (.iconst 1, 1) := by decide +kernel
theorem d_Presser_putNumber_55 : decode prog_8_method_11_code 55 = .ok (.iadd, 1) := by decide +kernel
theorem d_Presser_putNumber_56 : decode prog_8_method_11_code 56 = .ok (.putfield 38, 3) := by decide +kernel
abbrev y_Presser_putNumber : MethodName := ⟨"PackageBook$Presser", "putNumber", "(II)V"⟩
abbrev i_Presser_putNumber : pb_I := (y_Presser_putNumber, prog_8_method_11_code, 4, (Option.none : Option Jvm.ClassFile.FieldType), [], { frames := 0, cells := 0, slots := 0, locals := 0 })
set_option maxRecDepth 100000 in
set_option maxHeartbeats 4000000 in
theorem g_Pr_putNumber {l : Launch} (hl : l.stackTraces = false) (G : pb_G) (h : Nat) (pp : Nat) (pl : Nat) (pe : Nat) (pr : Nat) (pb : Nat) (bg : Int32) (sz : Int32) (bt : Int32) (ln : Int32) (ds : Int32) (f : Nat → Int32) (ps : Int32) (v : Int32) (n : Int32) (S : Int × (Int → Int)) (k0 : 0 ≤ bt.toInt) (k1 : bt.toInt + n.toInt ≤ 36016) (k5 : ps.toInt = (bt.toInt + 7) / 8) (n0 : 0 ≤ n.toInt) (n1 : n.toInt ≤ 100) (hS : pC_ f ps.toInt bt.toInt S) (v0 : 0 ≤ v.toInt) (n9 : n.toInt ≤ 30) (F_f : sb_Fit f) : Cn l G i_Presser_putNumber [.ref h, .int v, .int n] [(h, .inr (4, [.ref pp, .ref pl, .ref pe, .ref pr, .int bg, .int sz, .int bt, .int ln, .int ds])), (pp, .inr (0, [.ref pb, .int ps])), (pb, .inl (G.2.1, 4502, .inl f))] (S := Int32 × Int32 × (Nat → Int32)) (fun rv_ u => rv_ = none ∧ (u.1.toInt = bt.toInt + n.toInt) ∧ (u.2.1.toInt = (u.1.toInt + 7) / 8) ∧ (pC_ u.2.2 u.2.1.toInt u.1.toInt (bn_ S v.toInt n.toInt.toNat)) ∧ (sb_Fit u.2.2)) (fun u => [(h, .inr (4, [.ref pp, .ref pl, .ref pe, .ref pr, .int bg, .int sz, .int u.1, .int ln, .int ds])), (pp, .inr (0, [.ref pb, .int u.2.1])), (pb, .inl (G.2.1, 4502, .inl u.2.2))]) := by
  refine Cn.of hl (by decide +kernel) rfl (Nat.le_of_ble_eq_true rfl) (fun M hQ => ?_)
  refine pb_eq (pc' := 0) (lo' := [(0, .ref h), (1, .int v), (2, .int n)]) (rest' := []) (ws' := [(h, .inr (4, [.ref pp, .ref pl, .ref pe, .ref pr, .int bg, .int sz, .int bt, .int ln, .int ds])), (pp, .inr (0, [.ref pb, .int ps])), (pb, .inl (G.2.1, 4502, .inl f))]) ?_
  have zl0 : (0 : Int32).toInt = 0 := by decide
  have zl1 : (1 : Int32).toInt = 1 := by decide
  have zl8 : (8 : Int32).toInt = 8 := by decide
  have zl4502 : (4502 : Int32).toInt = 4502 := by decide
  refine pb_iconst (pc := 0) (v := 0) d_Presser_putNumber_0 (by decide) ?_
  refine pb_istore_n (pc := 1) (lo' := [(3, .int 0), (0, .ref h), (1, .int v), (2, .int n)]) d_Presser_putNumber_1 rfl (by decide) rfl ?_
  have hL2_1 : ∀ (N9 : Nat) (k : Int32) (b : Int32) (s : Int32) (g : Nat → Int32), (sb_Fit g) → (0 ≤ k.toInt) → (k.toInt ≤ n.toInt) → (b.toInt = bt.toInt + k.toInt) → (s.toInt = (b.toInt + 7) / 8) → (pC_ g s.toInt b.toInt (bn_ S v.toInt k.toInt.toNat)) → ((n.toInt - k.toInt).toNat) < N9 → pb_P l G M i_Presser_putNumber 2 [(3, .int k), (0, .ref h), (1, .int v), (2, .int n)] [] [(h, .inr (4, [.ref pp, .ref pl, .ref pe, .ref pr, .int bg, .int sz, .int b, .int ln, .int ds])), (pp, .inr (0, [.ref pb, .int s])), (pb, .inl (G.2.1, 4502, .inl g))] 0 0 := by
    intro N9
    induction N9 with
    | zero => intro k b s g F_g hk hk2 hb hz hS2 hm9; exact absurd hm9 (Nat.not_lt_zero _)
    | succ N9 ih2 =>
      intro k b s g F_g hk hk2 hb hz hS2 hm9
      refine pb_iload_n (pc := 2) d_Presser_putNumber_2 0 rfl rfl ?_
      refine pb_iload_n (pc := 3) d_Presser_putNumber_3 3 rfl rfl ?_
      refine pb_icmp_ge (pc := 4) (tgt := 110) d_Presser_putNumber_4 (by decide) (fun w2 => ?_) (fun w2 => ?_)
      · have tw2 : n.toInt ≤ k.toInt := (ti_le rfl rfl).mp w2
        exact pb_vret (pc := 110) hQ d_Presser_putNumber_110 rfl (b, s, g) ⟨rfl, (by (try dsimp only); first | done | (with_reducible assumption) | omega (splitDisjunctions := false) | assumption | omega | decide), (by (try dsimp only); first | done | (with_reducible assumption) | omega (splitDisjunctions := false) | assumption | omega | decide), (show pC_ g s.toInt b.toInt (bn_ S v.toInt n.toInt.toNat) from (by rw [show n.toInt = k.toInt by omega]; exact hS2)), F_g⟩ [0, 1, 2] (by decide) rfl rfl (by decide) (by decide)
      · have tw2 : ¬ n.toInt ≤ k.toInt := fun z9 => w2 ((ti_le rfl rfl).mpr z9)
        have hJ59_3 : ∀ (s3 : Int32) (g3 : Nat → Int32), (sb_Fit g3) → (s3.toInt = (b.toInt + 8) / 8) → (pD_ g3 s3.toInt b.toInt (bn_ S v.toInt k.toInt.toNat)) → pb_P l G M i_Presser_putNumber 59 [(3, .int k), (0, .ref h), (1, .int v), (2, .int n)] [] [(h, .inr (4, [.ref pp, .ref pl, .ref pe, .ref pr, .int bg, .int sz, .int b, .int ln, .int ds])), (pp, .inr (0, [.ref pb, .int s3])), (pb, .inl (G.2.1, 4502, .inl g3))] 0 0 := by
          intro s3 g3 F_g3 hq hD
          refine pb_aload_n (pc := 59) d_Presser_putNumber_59 1 rfl rfl ?_
          refine pb_get (pc := 60) d_Presser_putNumber_60 0 0 rfl rfl (by decide) in_Presser k_181 rfl ?_
          refine pb_getN (pc := 63) d_Presser_putNumber_63 1 0 rfl rfl (by decide) in_Row k_161 rfl ?_
          refine pb_aload_n (pc := 66) d_Presser_putNumber_66 1 rfl rfl ?_
          refine pb_get (pc := 67) d_Presser_putNumber_67 0 0 rfl rfl (by decide) in_Presser k_181 rfl ?_
          refine pb_getN (pc := 70) d_Presser_putNumber_70 1 1 rfl rfl (by decide) in_Row k_164 rfl ?_
          refine pb_iconst (pc := 73) (v := 1) d_Presser_putNumber_73 (by decide) ?_
          refine pb_isub (pc := 74) d_Presser_putNumber_74 ?_
          refine pb_topi (fun i4 ei4 => ?_)
          try have ti4 : i4.toInt = s3.toInt - 1 := ti_sub ei4 rfl (by decide) (by omega) (by omega)
          refine pb_dup2_11 (pc := 75) d_Presser_putNumber_75 rfl rfl ?_
          refine pb_bald (pc := 76) d_Presser_putNumber_76 2 rfl (vp_in_iff.mpr (by constructor <;> (first | exact omg_ad049e0dd8 k0 hk hb hq ti4 | exact omg_d0d00eef2d k1 hb tw2 hq ti4 | omega))) ?_
          refine pb_topi (fun i5 ei5 => ?_)
          have xi5 : i5 = gr g3 (s3.toInt - 1) := gr_ld ei5 (by omega)
          have yi5 : i5.toInt = gx g3 (s3.toInt - 1) := congrArg Int32.toInt xi5
          have ti5 : -128 ≤ i5.toInt ∧ i5.toInt ≤ 127 := ti_fit (F_g3 _) ei5
          refine pb_iload_n (pc := 77) d_Presser_putNumber_77 2 rfl rfl ?_
          refine pb_iload_n (pc := 78) d_Presser_putNumber_78 0 rfl rfl ?_
          refine pb_ishr (pc := 79) d_Presser_putNumber_79 ?_
          refine pb_topi (fun i6 ei6 => ?_)
          have eQ := ei6
          refine pb_iconst (pc := 80) (v := 1) d_Presser_putNumber_80 (by decide) ?_
          refine pb_iand (pc := 81) d_Presser_putNumber_81 ?_
          refine pb_topi (fun i7 ei7 => ?_)
          have ti7 : 0 ≤ i7.toInt ∧ i7.toInt ≤ 1 := ti_and 1 ei7 (by decide) (by decide)
          have eB := ei7
          refine pb_aload_n (pc := 82) d_Presser_putNumber_82 1 rfl rfl ?_
          refine pb_get (pc := 83) d_Presser_putNumber_83 0 6 rfl rfl (by decide) in_Presser k_189 rfl ?_
          refine pb_bipush (pc := 86) (v := 8) d_Presser_putNumber_86 (by decide) ?_
          refine pb_irem (pc := 88) d_Presser_putNumber_88 (by decide) ?_
          refine pb_topi (fun i8 ei8 => ?_)
          try have ti8 : i8.toInt = b.toInt % 8 := ti_rem 8 ei8 rfl (by decide) (by omega) (by decide)
          refine pb_ishl (pc := 89) d_Presser_putNumber_89 ?_
          refine pb_topi (fun i9 ei9 => ?_)
          have eC := ei9
          refine pb_i2b (pc := 90) d_Presser_putNumber_90 rfl ?_
          refine pb_topi (fun i10 ei10 => ?_)
          have ti10 : -128 ≤ i10.toInt ∧ i10.toInt ≤ 127 := ti_i2b ei10
          have eU := ei10
          have eO := xi5
          refine pb_ior (pc := 91) d_Presser_putNumber_91 ?_
          refine pb_topi (fun i11 ei11 => ?_)
          have eW := ei11
          refine pb_i2b (pc := 92) d_Presser_putNumber_92 rfl ?_
          refine pb_topi (fun i12 ei12 => ?_)
          have ti12 : -128 ≤ i12.toInt ∧ i12.toInt ≤ 127 := ti_i2b ei12
          have eV := ei12
          refine pb_bast (pc := 93) (ws' := [(h, .inr (4, [.ref pp, .ref pl, .ref pe, .ref pr, .int bg, .int sz, .int b, .int ln, .int ds])), (pp, .inr (0, [.ref pb, .int s3])), (pb, .inl (G.2.1, 4502, .inl (upd g3 ((i4 : Int32).toNatClampNeg) (vp_nar .byte i12))))]) d_Presser_putNumber_93 2 rfl (vp_in_iff.mpr (by constructor <;> (first | exact omg_ad049e0dd8 k0 hk hb hq ti4 | exact omg_d0d00eef2d k1 hb tw2 hq ti4 | omega))) rfl ?_
          refine pb_aload_n (pc := 94) d_Presser_putNumber_94 1 rfl rfl ?_
          refine pb_dup (pc := 95) d_Presser_putNumber_95 rfl ?_
          refine pb_get (pc := 96) d_Presser_putNumber_96 0 6 rfl rfl (by decide) in_Presser k_189 rfl ?_
          refine pb_iconst (pc := 99) (v := 1) d_Presser_putNumber_99 (by decide) ?_
          refine pb_iadd (pc := 100) d_Presser_putNumber_100 ?_
          refine pb_topi (fun i13 ei13 => ?_)
          try have ti13 : i13.toInt = b.toInt + 1 := ti_add ei13 rfl (by decide) (by omega) (by omega)
          refine pb_put (pc := 101) (ty := .int) (ws' := [(h, .inr (4, [.ref pp, .ref pl, .ref pe, .ref pr, .int bg, .int sz, .int i13, .int ln, .int ds])), (pp, .inr (0, [.ref pb, .int s3])), (pb, .inl (G.2.1, 4502, .inl (upd g3 ((i4 : Int32).toNatClampNeg) (vp_nar .byte i12))))]) d_Presser_putNumber_101 0 6 t_Presser t_Presser_ok n_Presser rfl rfl (by decide) in_Presser k_189 rfl (by decide +kernel) rfl rfl (Nat.le_of_ble_eq_true rfl) rfl ?_
          refine pb_iincN (pc := 104) (c := 1) d_Presser_putNumber_104 0 rfl (by decide) (by decide) (fun i14 ei14 => ?_)
          have ti14 : i14.toInt = k.toInt + 1 := ti_add ei14 rfl (by decide) (by omega) (by omega)
          refine pb_eq (pc' := 107) (lo' := [(3, .int i14), (0, .ref h), (1, .int v), (2, .int n)]) (rest' := []) (ws' := [(h, .inr (4, [.ref pp, .ref pl, .ref pe, .ref pr, .int bg, .int sz, .int i13, .int ln, .int ds])), (pp, .inr (0, [.ref pb, .int s3])), (pb, .inl (G.2.1, 4502, .inl (upd g3 ((i4 : Int32).toNatClampNeg) (vp_nar .byte i12))))]) ?_
          refine pb_goto (pc := 107) (tgt := 2) d_Presser_putNumber_107 (by decide) ?_
          exact ih2 i14 i13 s3 (upd g3 ((i4 : Int32).toNatClampNeg) (vp_nar .byte i12)) (sb_fitU F_g3 (fit_nar _)) (by first | (with_reducible assumption) | omega (splitDisjunctions := false) | assumption | omega | decide) (by first | (with_reducible assumption) | omega (splitDisjunctions := false) | assumption | omega | decide) (by first | (with_reducible assumption) | omega (splitDisjunctions := false) | assumption | (exact omg_f49d898d2a hb ti13 ti14) | decide) (by first | (with_reducible assumption) | omega (splitDisjunctions := false) | assumption | (exact omg_2c0cb8f15e hq ti13) | decide) (pC_put hD hk (by omega) rfl rfl (by omega) v0 eW eU eC eB eQ eO (by omega) (by omega) (fun j hj => gr_updb (by omega) j (by (exact omg_02bf512842 k0 hk hb hq)) hj) eV (by omega) (by omega)) (by (exact omg_7c8a06b1f5 hm9 tw2 ti14))
        refine pb_aload_n (pc := 7) d_Presser_putNumber_7 1 rfl rfl ?_
        refine pb_get (pc := 8) d_Presser_putNumber_8 0 6 rfl rfl (by decide) in_Presser k_189 rfl ?_
        refine pb_bipush (pc := 11) (v := 8) d_Presser_putNumber_11 (by decide) ?_
        refine pb_irem (pc := 13) d_Presser_putNumber_13 (by decide) ?_
        refine pb_topi (fun i15 ei15 => ?_)
        try have ti15 : i15.toInt = b.toInt % 8 := ti_rem 8 ei15 rfl (by decide) (by omega) (by decide)
        refine pb_if_ne (pc := 14) (tgt := 59) d_Presser_putNumber_14 (by decide) (fun w16 => ?_) (fun w16 => ?_)
        · have tw16 : ¬ i15.toInt = 0 := fun z9 => w16 ((ti_eq rfl (by decide)).mpr z9)
          exact hJ59_3 s g F_g (by first | (with_reducible assumption) | omega (splitDisjunctions := false) | assumption | (exact omg_bf302c0ba1 hz ti15 tw16) | decide) (by first | exact pD_old hS2 (by omega) | exact pD_new hS2 (by omega) (by omega) (fun j hj => gr_updb rfl j (by omega) hj) rfl)
        · have tw16 : i15.toInt = 0 := (ti_eq rfl (by decide)).mp w16
          refine pb_aload_n (pc := 17) d_Presser_putNumber_17 1 rfl rfl ?_
          refine pb_get (pc := 18) d_Presser_putNumber_18 0 0 rfl rfl (by decide) in_Presser k_181 rfl ?_
          refine pb_getN (pc := 21) d_Presser_putNumber_21 1 1 rfl rfl (by decide) in_Row k_164 rfl ?_
          refine pb_sipush (pc := 24) (v := 4502) d_Presser_putNumber_24 (by decide) ?_
          refine pb_icmp_ge (pc := 27) (tgt := 59) d_Presser_putNumber_27 (by decide) (fun w17 => ?_) (fun w17 => ?_)
          · have tw17 : 4502 ≤ s.toInt := (ti_le (by decide) rfl).mp w17
            exact hJ59_3 s g F_g (by first | (with_reducible assumption) | omega (splitDisjunctions := false) | assumption | omega | decide) (by first | exact pD_old hS2 (by omega) | exact pD_new hS2 (by omega) (by omega) (fun j hj => gr_updb rfl j (by omega) hj) rfl)
          · have tw17 : ¬ 4502 ≤ s.toInt := fun z9 => w17 ((ti_le (by decide) rfl).mpr z9)
            refine pb_aload_n (pc := 30) d_Presser_putNumber_30 1 rfl rfl ?_
            refine pb_get (pc := 31) d_Presser_putNumber_31 0 0 rfl rfl (by decide) in_Presser k_181 rfl ?_
            refine pb_getN (pc := 34) d_Presser_putNumber_34 1 0 rfl rfl (by decide) in_Row k_161 rfl ?_
            refine pb_aload_n (pc := 37) d_Presser_putNumber_37 1 rfl rfl ?_
            refine pb_get (pc := 38) d_Presser_putNumber_38 0 0 rfl rfl (by decide) in_Presser k_181 rfl ?_
            refine pb_getN (pc := 41) d_Presser_putNumber_41 1 1 rfl rfl (by decide) in_Row k_164 rfl ?_
            refine pb_iconst (pc := 44) (v := 0) d_Presser_putNumber_44 (by decide) ?_
            refine pb_bast (pc := 45) (ws' := [(h, .inr (4, [.ref pp, .ref pl, .ref pe, .ref pr, .int bg, .int sz, .int b, .int ln, .int ds])), (pp, .inr (0, [.ref pb, .int s])), (pb, .inl (G.2.1, 4502, .inl (upd g ((s : Int32).toNatClampNeg) (vp_nar .byte 0))))]) d_Presser_putNumber_45 2 rfl (vp_in_iff.mpr (by constructor <;> (first | exact omg_7f8289d8af k0 hk hb hz | omega))) rfl ?_
            refine pb_aload_n (pc := 46) d_Presser_putNumber_46 1 rfl rfl ?_
            refine pb_get (pc := 47) d_Presser_putNumber_47 0 0 rfl rfl (by decide) in_Presser k_181 rfl ?_
            refine pb_dup (pc := 50) d_Presser_putNumber_50 rfl ?_
            refine pb_getN (pc := 51) d_Presser_putNumber_51 1 1 rfl rfl (by decide) in_Row k_164 rfl ?_
            refine pb_iconst (pc := 54) (v := 1) d_Presser_putNumber_54 (by decide) ?_
            refine pb_iadd (pc := 55) d_Presser_putNumber_55 ?_
            refine pb_topi (fun i18 ei18 => ?_)
            try have ti18 : i18.toInt = s.toInt + 1 := ti_add ei18 rfl (by decide) (by omega) (by omega)
            refine pb_putN (pc := 56) (ty := .int) (ws' := [(h, .inr (4, [.ref pp, .ref pl, .ref pe, .ref pr, .int bg, .int sz, .int b, .int ln, .int ds])), (pp, .inr (0, [.ref pb, .int i18])), (pb, .inl (G.2.1, 4502, .inl (upd g ((s : Int32).toNatClampNeg) (vp_nar .byte 0))))]) d_Presser_putNumber_56 1 1 t_Row t_Row_ok n_Row rfl rfl (by decide) in_Row k_164 rfl (by decide +kernel) rfl rfl (Nat.le_of_ble_eq_true rfl) rfl ?_
            exact hJ59_3 i18 (upd g ((s : Int32).toNatClampNeg) (vp_nar .byte 0)) (sb_fitU F_g (fit_nar _)) (by first | (with_reducible assumption) | omega (splitDisjunctions := false) | assumption | omega | decide) (by first | exact pD_old hS2 (by omega) | exact pD_new hS2 (by omega) (by omega) (fun j hj => gr_updb rfl j (by (exact omg_7f8289d8af k0 hk hb hz)) hj) rfl)
  exact hL2_1 _ 0 bt ps f F_f (by first | (with_reducible assumption) | omega (splitDisjunctions := false) | assumption | omega | decide) (by first | (with_reducible assumption) | omega (splitDisjunctions := false) | assumption | omega | decide) (by first | (with_reducible assumption) | omega (splitDisjunctions := false) | assumption | omega | decide) (by first | (with_reducible assumption) | omega (splitDisjunctions := false) | assumption | omega | decide) (by rw [zl0]; exact hS) (Nat.lt_succ_self _)

theorem d_Presser_putSymbol_0 : decode prog_8_method_9_code 0 = .ok (.iload_n 1, 1) := by decide +kernel
theorem d_Presser_putSymbol_1 : decode prog_8_method_9_code 1 = .ok (.sipush 144, 3) := by decide +kernel
theorem d_Presser_putSymbol_4 : decode prog_8_method_9_code 4 = .ok (.if_icmp .ge 21, 3) := by decide +kernel
theorem d_Presser_putSymbol_25 : decode prog_8_method_9_code 25 = .ok (.iload_n 1, 1) := by decide +kernel
theorem d_Presser_putSymbol_26 : decode prog_8_method_9_code 26 = .ok (.sipush 256, 3) := by decide +kernel
theorem d_Presser_putSymbol_29 : decode prog_8_method_9_code 29 = .ok (.if_icmp .ge 26, 3) := by decide +kernel
theorem d_Presser_putSymbol_55 : decode prog_8_method_9_code 55 = .ok (.iload_n 1, 1) := by decide +kernel
theorem d_Presser_putSymbol_56 : decode prog_8_method_9_code 56 = .ok (.sipush 280, 3) := by decide +kernel
theorem d_Presser_putSymbol_59 : decode prog_8_method_9_code 59 = .ok (.if_icmp .ge 22, 3) := by decide +kernel
theorem d_Presser_putSymbol_81 : decode prog_8_method_9_code 81 = .ok (.aload_n 0, 1) := by decide +kernel
theorem d_Presser_putSymbol_82 : decode prog_8_method_9_code 82 = .ok (.sipush 192, 3) := by decide +kernel
theorem d_Presser_putSymbol_85 : decode prog_8_method_9_code 85 = .ok (.iload_n 1, 1) := by decide +kernel
theorem d_Presser_putSymbol_86 : decode prog_8_method_9_code 86 = .ok (.iadd, 1) := by decide +kernel
theorem d_Presser_putSymbol_87 : decode prog_8_method_9_code 87 = .ok (.sipush 280, 3) := by decide +kernel
theorem d_Presser_putSymbol_90 : decode prog_8_method_9_code 90 = .ok (.isub, 1) := by decide +kernel
theorem d_Presser_putSymbol_91 : decode prog_8_method_9_code 91 = .ok (.bipush 8, 2) := by decide +kernel
theorem d_Presser_putSymbol_93 : decode prog_8_method_9_code 93 = .ok (.invokestatic 87, 3) := by decide +kernel
theorem k_528 : (Jvm.Cond.methodLink "PackageBook$Presser" (87 : Nat) ({ cls := "PackageBook$Presser", name := "turned", desc := "(II)I" } : Jvm.MethodName)) ∈ uW := uW_c1 171 rfl (by decide +kernel)
theorem k_120 : (Jvm.Cond.initialized "PackageBook$Presser") ∈ uW := uW_c0 3 rfl (by decide +kernel)
theorem k_530 : (Jvm.Cond.code ({ cls := "PackageBook$Presser", name := "turned", desc := "(II)I" } : Jvm.MethodName) prog_8_method_10_code (4 : Nat) (Option.some Jvm.ClassFile.FieldType.int)) ∈ uW := uW_c1 173 rfl (by decide +kernel)
theorem k_529 : (Jvm.Cond.static ({ cls := "PackageBook$Presser", name := "turned", desc := "(II)I" } : Jvm.MethodName)) ∈ uW := uW_c1 172 rfl (by decide +kernel)
theorem hy_Presser_turned : (y_Presser_turned).cls ≠ "java/lang/invoke/MethodHandle" ∧ (y_Presser_turned).cls ≠ "java/lang/invoke/VarHandle" ∧ (parseMethodDescriptor (y_Presser_turned).desc).map (fun d => d.parameters.length) = some 2 := by decide +kernel
theorem d_Presser_putSymbol_96 : decode prog_8_method_9_code 96 = .ok (.bipush 8, 2) := by decide +kernel
theorem d_Presser_putSymbol_98 : decode prog_8_method_9_code 98 = .ok (.invokevirtual 48, 3) := by decide +kernel
theorem k_505 : (Jvm.Cond.methodLink "PackageBook$Presser" (48 : Nat) ({ cls := "PackageBook$Presser", name := "putNumber", desc := "(II)V" } : Jvm.MethodName)) ∈ uW := uW_c1 148 rfl (by decide +kernel)
theorem k_508 : (Jvm.Cond.code ({ cls := "PackageBook$Presser", name := "putNumber", desc := "(II)V" } : Jvm.MethodName) prog_8_method_11_code (4 : Nat) (Option.none : Option Jvm.ClassFile.FieldType)) ∈ uW := uW_c1 151 rfl (by decide +kernel)
theorem k_507 : (Jvm.Cond.instanceMethod ({ cls := "PackageBook$Presser", name := "putNumber", desc := "(II)V" } : Jvm.MethodName)) ∈ uW := uW_c1 150 rfl (by decide +kernel)
theorem k_2 : Cond.selects "PackageBook$Presser" ⟨"PackageBook$Presser", "putNumber", "(II)V"⟩ ⟨"PackageBook$Presser", "putNumber", "(II)V"⟩ ∈ uW := uW_of 2 (by decide +kernel) (by decide +kernel)
theorem hy_Presser_putNumber : (y_Presser_putNumber).cls ≠ "java/lang/invoke/MethodHandle" ∧ (y_Presser_putNumber).cls ≠ "java/lang/invoke/VarHandle" ∧ (parseMethodDescriptor (y_Presser_putNumber).desc).map (fun d => d.parameters.length) = some 2 := by decide +kernel
theorem d_Presser_putSymbol_101 : decode prog_8_method_9_code 101 = .ok (.return_, 1) := by decide +kernel
theorem d_Presser_putSymbol_62 : decode prog_8_method_9_code 62 = .ok (.aload_n 0, 1) := by decide +kernel
theorem d_Presser_putSymbol_63 : decode prog_8_method_9_code 63 = .ok (.iload_n 1, 1) := by decide +kernel
theorem d_Presser_putSymbol_64 : decode prog_8_method_9_code 64 = .ok (.sipush 256, 3) := by decide +kernel
theorem d_Presser_putSymbol_67 : decode prog_8_method_9_code 67 = .ok (.isub, 1) := by decide +kernel
theorem d_Presser_putSymbol_68 : decode prog_8_method_9_code 68 = .ok (.bipush 7, 2) := by decide +kernel
theorem d_Presser_putSymbol_70 : decode prog_8_method_9_code 70 = .ok (.invokestatic 87, 3) := by decide +kernel
theorem d_Presser_putSymbol_73 : decode prog_8_method_9_code 73 = .ok (.bipush 7, 2) := by decide +kernel
theorem d_Presser_putSymbol_75 : decode prog_8_method_9_code 75 = .ok (.invokevirtual 48, 3) := by decide +kernel
theorem d_Presser_putSymbol_78 : decode prog_8_method_9_code 78 = .ok (.goto 23, 3) := by decide +kernel
theorem d_Presser_putSymbol_32 : decode prog_8_method_9_code 32 = .ok (.aload_n 0, 1) := by decide +kernel
theorem d_Presser_putSymbol_33 : decode prog_8_method_9_code 33 = .ok (.sipush 400, 3) := by decide +kernel
theorem d_Presser_putSymbol_36 : decode prog_8_method_9_code 36 = .ok (.iload_n 1, 1) := by decide +kernel
theorem d_Presser_putSymbol_37 : decode prog_8_method_9_code 37 = .ok (.iadd, 1) := by decide +kernel
theorem d_Presser_putSymbol_38 : decode prog_8_method_9_code 38 = .ok (.sipush 144, 3) := by decide +kernel
theorem d_Presser_putSymbol_41 : decode prog_8_method_9_code 41 = .ok (.isub, 1) := by decide +kernel
theorem d_Presser_putSymbol_42 : decode prog_8_method_9_code 42 = .ok (.bipush 9, 2) := by decide +kernel
theorem d_Presser_putSymbol_44 : decode prog_8_method_9_code 44 = .ok (.invokestatic 87, 3) := by decide +kernel
theorem d_Presser_putSymbol_47 : decode prog_8_method_9_code 47 = .ok (.bipush 9, 2) := by decide +kernel
theorem d_Presser_putSymbol_49 : decode prog_8_method_9_code 49 = .ok (.invokevirtual 48, 3) := by decide +kernel
theorem d_Presser_putSymbol_52 : decode prog_8_method_9_code 52 = .ok (.goto 49, 3) := by decide +kernel
theorem d_Presser_putSymbol_7 : decode prog_8_method_9_code 7 = .ok (.aload_n 0, 1) := by decide +kernel
theorem d_Presser_putSymbol_8 : decode prog_8_method_9_code 8 = .ok (.bipush 48, 2) := by decide +kernel
theorem d_Presser_putSymbol_10 : decode prog_8_method_9_code 10 = .ok (.iload_n 1, 1) := by decide +kernel
theorem d_Presser_putSymbol_11 : decode prog_8_method_9_code 11 = .ok (.iadd, 1) := by decide +kernel
theorem d_Presser_putSymbol_12 : decode prog_8_method_9_code 12 = .ok (.bipush 8, 2) := by decide +kernel
theorem d_Presser_putSymbol_14 : decode prog_8_method_9_code 14 = .ok (.invokestatic 87, 3) := by decide +kernel
theorem d_Presser_putSymbol_17 : decode prog_8_method_9_code 17 = .ok (.bipush 8, 2) := by decide +kernel
theorem d_Presser_putSymbol_19 : decode prog_8_method_9_code 19 = .ok (.invokevirtual 48, 3) := by decide +kernel
theorem d_Presser_putSymbol_22 : decode prog_8_method_9_code 22 = .ok (.goto 79, 3) := by decide +kernel
abbrev y_Presser_putSymbol : MethodName := ⟨"PackageBook$Presser", "putSymbol", "(I)V"⟩
abbrev i_Presser_putSymbol : pb_I := (y_Presser_putSymbol, prog_8_method_9_code, 2, (Option.none : Option Jvm.ClassFile.FieldType), [], { frames := 1, cells := 0, slots := 0, locals := 23 })
set_option maxRecDepth 100000 in
set_option maxHeartbeats 4000000 in
theorem g_Pr_putSymbol {l : Launch} (hl : l.stackTraces = false) (G : pb_G) (h : Nat) (pp : Nat) (pl : Nat) (pe : Nat) (pr : Nat) (pb : Nat) (bg : Int32) (sz : Int32) (bt : Int32) (ln : Int32) (ds : Int32) (f : Nat → Int32) (ps : Int32) (v : Int32) (S : Int × (Int → Int)) (k0 : 0 ≤ bt.toInt) (k1 : bt.toInt + 9 ≤ 36016) (k5 : ps.toInt = (bt.toInt + 7) / 8) (hS : pC_ f ps.toInt bt.toInt S) (v0 : 0 ≤ v.toInt) (v1 : v.toInt ≤ 287) (F_f : sb_Fit f) : Cn l G i_Presser_putSymbol [.ref h, .int v] [(h, .inr (4, [.ref pp, .ref pl, .ref pe, .ref pr, .int bg, .int sz, .int bt, .int ln, .int ds])), (pp, .inr (0, [.ref pb, .int ps])), (pb, .inl (G.2.1, 4502, .inl f))] (S := Int32 × Int32 × (Nat → Int32)) (fun rv_ u => rv_ = none ∧ (v.toInt < 144 → u.1.toInt = bt.toInt + 8) ∧ (144 ≤ v.toInt → v.toInt < 256 → u.1.toInt = bt.toInt + 9) ∧ (256 ≤ v.toInt → v.toInt < 280 → u.1.toInt = bt.toInt + 7) ∧ (280 ≤ v.toInt → u.1.toInt = bt.toInt + 8) ∧ (u.2.1.toInt = (u.1.toInt + 7) / 8) ∧ (pC_ u.2.2 u.2.1.toInt u.1.toInt (sb_ S v.toInt)) ∧ (sb_Fit u.2.2)) (fun u => [(h, .inr (4, [.ref pp, .ref pl, .ref pe, .ref pr, .int bg, .int sz, .int u.1, .int ln, .int ds])), (pp, .inr (0, [.ref pb, .int u.2.1])), (pb, .inl (G.2.1, 4502, .inl u.2.2))]) := by
  refine Cn.of hl (by decide +kernel) rfl (Nat.le_of_ble_eq_true rfl) (fun M hQ => ?_)
  refine pb_eq (pc' := 0) (lo' := [(0, .ref h), (1, .int v)]) (rest' := []) (ws' := [(h, .inr (4, [.ref pp, .ref pl, .ref pe, .ref pr, .int bg, .int sz, .int bt, .int ln, .int ds])), (pp, .inr (0, [.ref pb, .int ps])), (pb, .inl (G.2.1, 4502, .inl f))]) ?_
  have zl0 : (0 : Int32).toInt = 0 := by decide
  have zl1 : (1 : Int32).toInt = 1 := by decide
  have zl7 : (7 : Int32).toInt = 7 := by decide
  have zl8 : (8 : Int32).toInt = 8 := by decide
  have zl9 : (9 : Int32).toInt = 9 := by decide
  have zl48 : (48 : Int32).toInt = 48 := by decide
  have zl144 : (144 : Int32).toInt = 144 := by decide
  have zl192 : (192 : Int32).toInt = 192 := by decide
  have zl256 : (256 : Int32).toInt = 256 := by decide
  have zl280 : (280 : Int32).toInt = 280 := by decide
  have zl400 : (400 : Int32).toInt = 400 := by decide
  refine pb_iload_n (pc := 0) d_Presser_putSymbol_0 1 rfl rfl ?_
  refine pb_sipush (pc := 1) (v := 144) d_Presser_putSymbol_1 (by decide) ?_
  refine pb_icmp_ge (pc := 4) (tgt := 25) d_Presser_putSymbol_4 (by decide) (fun w1 => ?_) (fun w1 => ?_)
  · have tw1 : 144 ≤ v.toInt := (ti_le (by decide) rfl).mp w1
    refine pb_iload_n (pc := 25) d_Presser_putSymbol_25 1 rfl rfl ?_
    refine pb_sipush (pc := 26) (v := 256) d_Presser_putSymbol_26 (by decide) ?_
    refine pb_icmp_ge (pc := 29) (tgt := 55) d_Presser_putSymbol_29 (by decide) (fun w2 => ?_) (fun w2 => ?_)
    · have tw2 : 256 ≤ v.toInt := (ti_le (by decide) rfl).mp w2
      refine pb_iload_n (pc := 55) d_Presser_putSymbol_55 1 rfl rfl ?_
      refine pb_sipush (pc := 56) (v := 280) d_Presser_putSymbol_56 (by decide) ?_
      refine pb_icmp_ge (pc := 59) (tgt := 81) d_Presser_putSymbol_59 (by decide) (fun w3 => ?_) (fun w3 => ?_)
      · have tw3 : 280 ≤ v.toInt := (ti_le (by decide) rfl).mp w3
        refine pb_aload_n (pc := 81) d_Presser_putSymbol_81 0 rfl rfl ?_
        refine pb_sipush (pc := 82) (v := 192) d_Presser_putSymbol_82 (by decide) ?_
        refine pb_iload_n (pc := 85) d_Presser_putSymbol_85 1 rfl rfl ?_
        refine pb_iadd (pc := 86) d_Presser_putSymbol_86 ?_
        refine pb_topi (fun i4 ei4 => ?_)
        try have ti4 : i4.toInt = 192 + v.toInt := ti_add ei4 (by decide) rfl (by omega) (by omega)
        refine pb_sipush (pc := 87) (v := 280) d_Presser_putSymbol_87 (by decide) ?_
        refine pb_isub (pc := 90) d_Presser_putSymbol_90 ?_
        refine pb_topi (fun i5 ei5 => ?_)
        try have ti5 : i5.toInt = i4.toInt - 280 := ti_sub ei5 rfl (by decide) (by omega) (by omega)
        refine pb_bipush (pc := 91) (v := 8) d_Presser_putSymbol_91 (by decide) ?_
        refine pb_callS (pc := 93) (I := i_Presser_putSymbol) (nA := 2) (rest := [.ref h]) (wr := [(h, .inr (4, [.ref pp, .ref pl, .ref pe, .ref pr, .int bg, .int sz, .int bt, .int ln, .int ds])), (pp, .inr (0, [.ref pb, .int ps])), (pb, .inl (G.2.1, 4502, .inl f))]) d_Presser_putSymbol_93 (g_Pr_turned hl G i5 8 (by first | (with_reducible assumption) | omega (splitDisjunctions := false) | assumption | omega | decide) (by first | (with_reducible assumption) | omega (splitDisjunctions := false) | assumption | omega | decide) (by first | (with_reducible assumption) | omega (splitDisjunctions := false) | assumption | omega | decide)) [] [0, 1, 2] (by decide) rfl rfl rfl (by decide) (by decide) k_530 rfl k_120 k_528 k_529 hy_Presser_turned (by decide) rfl rfl (Nat.le_of_ble_eq_true rfl) (by decide) (fun v9 u7 ch6 => ?_)
        obtain ⟨r_8, rfl⟩ : ∃ z9, z9 = u7 := ⟨_, rfl⟩
        obtain ⟨ech6, ch6⟩ := ch6
        have ech6 : v9 = some (.int r_8) := ech6
        subst ech6
        have fh9 : r_8.toInt = tu_ i5.toInt (8 : Int32).toInt.toNat := ch6
        have tuF := fh9
        rw [show (8 : Int32).toInt.toNat = 8 by decide] at tuF
        refine pb_eq (pc' := 96) (lo' := [(0, .ref h), (1, .int v)]) (rest' := [.int r_8, .ref h]) (ws' := [(h, .inr (4, [.ref pp, .ref pl, .ref pe, .ref pr, .int bg, .int sz, .int bt, .int ln, .int ds])), (pp, .inr (0, [.ref pb, .int ps])), (pb, .inl (G.2.1, 4502, .inl f))]) ?_
        refine pb_bipush (pc := 96) (v := 8) d_Presser_putSymbol_96 (by decide) ?_
        refine pb_callV (pc := 98) (I := i_Presser_putSymbol) (qb := 0) (ci := 4) (nA := 2) (rest := []) (wr := []) d_Presser_putSymbol_98 (g_Pr_putNumber hl G h pp pl pe pr pb bg sz bt ln ds f ps r_8 8 S (by first | (with_reducible assumption) | omega (splitDisjunctions := false) | assumption | omega | decide) (by first | (with_reducible assumption) | omega (splitDisjunctions := false) | assumption | omega | decide) (by first | (with_reducible assumption) | omega (splitDisjunctions := false) | assumption | omega | decide) (by first | (with_reducible assumption) | omega (splitDisjunctions := false) | assumption | omega | decide) (by first | (with_reducible assumption) | omega (splitDisjunctions := false) | assumption | omega | decide) (by first | (with_reducible assumption) | omega (splitDisjunctions := false) | assumption | omega | decide) (by rw [tuF]; exact (tu_rng _ _).1) (by first | (with_reducible assumption) | omega (splitDisjunctions := false) | assumption | omega | decide) F_f) rfl rfl [0, 1, 2] [] (by decide) rfl rfl rfl (by decide) (by decide) k_508 rfl k_120 k_505 k_507 k_2 ⟨rfl, hy_Presser_putNumber⟩ (by decide) rfl rfl (Nat.le_of_ble_eq_true rfl) (by decide) (fun v9 u11 ch10 => ?_)
        obtain ⟨b_12, p_13, f_14⟩ := u11
        obtain ⟨ech10, ch10⟩ := ch10
        have ech10 : v9 = none := ech10
        subst ech10
        obtain ⟨fh15, fh16, fh17, fh18⟩ : (b_12.toInt = bt.toInt + (8 : Int32).toInt) ∧ (p_13.toInt = (b_12.toInt + 7) / 8) ∧ (pC_ f_14 p_13.toInt b_12.toInt (bn_ S r_8.toInt (8 : Int32).toInt.toNat)) ∧ (sb_Fit f_14) := ch10
        have pnF := fh17
        rw [show (8 : Int32).toInt.toNat = 8 by decide] at pnF
        have kSF : pC_ _ _ _ (sb_ S v.toInt) := pC_sy (n := 8) pnF tuF rfl rfl (sb_3 (by omega) (by omega))
        refine pb_eq (pc' := 101) (lo' := [(0, .ref h), (1, .int v)]) (rest' := []) (ws' := [(h, .inr (4, [.ref pp, .ref pl, .ref pe, .ref pr, .int bg, .int sz, .int b_12, .int ln, .int ds])), (pp, .inr (0, [.ref pb, .int p_13])), (pb, .inl (G.2.1, 4502, .inl f_14))]) ?_
        exact pb_vret (pc := 101) hQ d_Presser_putSymbol_101 rfl (b_12, p_13, f_14) ⟨rfl, (by (try dsimp only); first | done | (with_reducible assumption) | omega (splitDisjunctions := false) | assumption | omega | decide), (by (try dsimp only); first | done | (with_reducible assumption) | omega (splitDisjunctions := false) | assumption | omega | decide), (by (try dsimp only); first | done | (with_reducible assumption) | omega (splitDisjunctions := false) | assumption | omega | decide), (by (try dsimp only); first | done | (with_reducible assumption) | omega (splitDisjunctions := false) | assumption | omega | decide), (by (try dsimp only); first | done | (with_reducible assumption) | omega (splitDisjunctions := false) | assumption | omega | decide), kSF, fh18⟩ [0, 1, 2] (by decide) rfl rfl (by decide) (by decide)
      · have tw3 : ¬ 280 ≤ v.toInt := fun z9 => w3 ((ti_le (by decide) rfl).mpr z9)
        refine pb_aload_n (pc := 62) d_Presser_putSymbol_62 0 rfl rfl ?_
        refine pb_iload_n (pc := 63) d_Presser_putSymbol_63 1 rfl rfl ?_
        refine pb_sipush (pc := 64) (v := 256) d_Presser_putSymbol_64 (by decide) ?_
        refine pb_isub (pc := 67) d_Presser_putSymbol_67 ?_
        refine pb_topi (fun i19 ei19 => ?_)
        try have ti19 : i19.toInt = v.toInt - 256 := ti_sub ei19 rfl (by decide) (by omega) (by omega)
        refine pb_bipush (pc := 68) (v := 7) d_Presser_putSymbol_68 (by decide) ?_
        refine pb_callS (pc := 70) (I := i_Presser_putSymbol) (nA := 2) (rest := [.ref h]) (wr := [(h, .inr (4, [.ref pp, .ref pl, .ref pe, .ref pr, .int bg, .int sz, .int bt, .int ln, .int ds])), (pp, .inr (0, [.ref pb, .int ps])), (pb, .inl (G.2.1, 4502, .inl f))]) d_Presser_putSymbol_70 (g_Pr_turned hl G i19 7 (by first | (with_reducible assumption) | omega (splitDisjunctions := false) | assumption | omega | decide) (by first | (with_reducible assumption) | omega (splitDisjunctions := false) | assumption | omega | decide) (by first | (with_reducible assumption) | omega (splitDisjunctions := false) | assumption | omega | decide)) [] [0, 1, 2] (by decide) rfl rfl rfl (by decide) (by decide) k_530 rfl k_120 k_528 k_529 hy_Presser_turned (by decide) rfl rfl (Nat.le_of_ble_eq_true rfl) (by decide) (fun v9 u21 ch20 => ?_)
        obtain ⟨r_22, rfl⟩ : ∃ z9, z9 = u21 := ⟨_, rfl⟩
        obtain ⟨ech20, ch20⟩ := ch20
        have ech20 : v9 = some (.int r_22) := ech20
        subst ech20
        have fh23 : r_22.toInt = tu_ i19.toInt (7 : Int32).toInt.toNat := ch20
        have tuF := fh23
        rw [show (7 : Int32).toInt.toNat = 7 by decide] at tuF
        refine pb_eq (pc' := 73) (lo' := [(0, .ref h), (1, .int v)]) (rest' := [.int r_22, .ref h]) (ws' := [(h, .inr (4, [.ref pp, .ref pl, .ref pe, .ref pr, .int bg, .int sz, .int bt, .int ln, .int ds])), (pp, .inr (0, [.ref pb, .int ps])), (pb, .inl (G.2.1, 4502, .inl f))]) ?_
        refine pb_bipush (pc := 73) (v := 7) d_Presser_putSymbol_73 (by decide) ?_
        refine pb_callV (pc := 75) (I := i_Presser_putSymbol) (qb := 0) (ci := 4) (nA := 2) (rest := []) (wr := []) d_Presser_putSymbol_75 (g_Pr_putNumber hl G h pp pl pe pr pb bg sz bt ln ds f ps r_22 7 S (by first | (with_reducible assumption) | omega (splitDisjunctions := false) | assumption | omega | decide) (by first | (with_reducible assumption) | omega (splitDisjunctions := false) | assumption | omega | decide) (by first | (with_reducible assumption) | omega (splitDisjunctions := false) | assumption | omega | decide) (by first | (with_reducible assumption) | omega (splitDisjunctions := false) | assumption | omega | decide) (by first | (with_reducible assumption) | omega (splitDisjunctions := false) | assumption | omega | decide) (by first | (with_reducible assumption) | omega (splitDisjunctions := false) | assumption | omega | decide) (by rw [tuF]; exact (tu_rng _ _).1) (by first | (with_reducible assumption) | omega (splitDisjunctions := false) | assumption | omega | decide) F_f) rfl rfl [0, 1, 2] [] (by decide) rfl rfl rfl (by decide) (by decide) k_508 rfl k_120 k_505 k_507 k_2 ⟨rfl, hy_Presser_putNumber⟩ (by decide) rfl rfl (Nat.le_of_ble_eq_true rfl) (by decide) (fun v9 u25 ch24 => ?_)
        obtain ⟨b_26, p_27, f_28⟩ := u25
        obtain ⟨ech24, ch24⟩ := ch24
        have ech24 : v9 = none := ech24
        subst ech24
        obtain ⟨fh29, fh30, fh31, fh32⟩ : (b_26.toInt = bt.toInt + (7 : Int32).toInt) ∧ (p_27.toInt = (b_26.toInt + 7) / 8) ∧ (pC_ f_28 p_27.toInt b_26.toInt (bn_ S r_22.toInt (7 : Int32).toInt.toNat)) ∧ (sb_Fit f_28) := ch24
        have pnF := fh31
        rw [show (7 : Int32).toInt.toNat = 7 by decide] at pnF
        have kSF : pC_ _ _ _ (sb_ S v.toInt) := pC_sy (n := 7) pnF tuF rfl rfl (sb_2 (by omega) (by omega) (by omega))
        refine pb_eq (pc' := 78) (lo' := [(0, .ref h), (1, .int v)]) (rest' := []) (ws' := [(h, .inr (4, [.ref pp, .ref pl, .ref pe, .ref pr, .int bg, .int sz, .int b_26, .int ln, .int ds])), (pp, .inr (0, [.ref pb, .int p_27])), (pb, .inl (G.2.1, 4502, .inl f_28))]) ?_
        refine pb_goto (pc := 78) (tgt := 101) d_Presser_putSymbol_78 (by decide) ?_
        exact pb_vret (pc := 101) hQ d_Presser_putSymbol_101 rfl (b_26, p_27, f_28) ⟨rfl, (by (try dsimp only); first | done | (with_reducible assumption) | omega (splitDisjunctions := false) | assumption | omega | decide), (by (try dsimp only); first | done | (with_reducible assumption) | omega (splitDisjunctions := false) | assumption | omega | decide), (by (try dsimp only); first | done | (with_reducible assumption) | omega (splitDisjunctions := false) | assumption | omega | decide), (by (try dsimp only); first | done | (with_reducible assumption) | omega (splitDisjunctions := false) | assumption | omega | decide), (by (try dsimp only); first | done | (with_reducible assumption) | omega (splitDisjunctions := false) | assumption | omega | decide), kSF, fh32⟩ [0, 1, 2] (by decide) rfl rfl (by decide) (by decide)
    · have tw2 : ¬ 256 ≤ v.toInt := fun z9 => w2 ((ti_le (by decide) rfl).mpr z9)
      refine pb_aload_n (pc := 32) d_Presser_putSymbol_32 0 rfl rfl ?_
      refine pb_sipush (pc := 33) (v := 400) d_Presser_putSymbol_33 (by decide) ?_
      refine pb_iload_n (pc := 36) d_Presser_putSymbol_36 1 rfl rfl ?_
      refine pb_iadd (pc := 37) d_Presser_putSymbol_37 ?_
      refine pb_topi (fun i33 ei33 => ?_)
      try have ti33 : i33.toInt = 400 + v.toInt := ti_add ei33 (by decide) rfl (by omega) (by omega)
      refine pb_sipush (pc := 38) (v := 144) d_Presser_putSymbol_38 (by decide) ?_
      refine pb_isub (pc := 41) d_Presser_putSymbol_41 ?_
      refine pb_topi (fun i34 ei34 => ?_)
      try have ti34 : i34.toInt = i33.toInt - 144 := ti_sub ei34 rfl (by decide) (by omega) (by omega)
      refine pb_bipush (pc := 42) (v := 9) d_Presser_putSymbol_42 (by decide) ?_
      refine pb_callS (pc := 44) (I := i_Presser_putSymbol) (nA := 2) (rest := [.ref h]) (wr := [(h, .inr (4, [.ref pp, .ref pl, .ref pe, .ref pr, .int bg, .int sz, .int bt, .int ln, .int ds])), (pp, .inr (0, [.ref pb, .int ps])), (pb, .inl (G.2.1, 4502, .inl f))]) d_Presser_putSymbol_44 (g_Pr_turned hl G i34 9 (by first | (with_reducible assumption) | omega (splitDisjunctions := false) | assumption | omega | decide) (by first | (with_reducible assumption) | omega (splitDisjunctions := false) | assumption | omega | decide) (by first | (with_reducible assumption) | omega (splitDisjunctions := false) | assumption | omega | decide)) [] [0, 1, 2] (by decide) rfl rfl rfl (by decide) (by decide) k_530 rfl k_120 k_528 k_529 hy_Presser_turned (by decide) rfl rfl (Nat.le_of_ble_eq_true rfl) (by decide) (fun v9 u36 ch35 => ?_)
      obtain ⟨r_37, rfl⟩ : ∃ z9, z9 = u36 := ⟨_, rfl⟩
      obtain ⟨ech35, ch35⟩ := ch35
      have ech35 : v9 = some (.int r_37) := ech35
      subst ech35
      have fh38 : r_37.toInt = tu_ i34.toInt (9 : Int32).toInt.toNat := ch35
      have tuF := fh38
      rw [show (9 : Int32).toInt.toNat = 9 by decide] at tuF
      refine pb_eq (pc' := 47) (lo' := [(0, .ref h), (1, .int v)]) (rest' := [.int r_37, .ref h]) (ws' := [(h, .inr (4, [.ref pp, .ref pl, .ref pe, .ref pr, .int bg, .int sz, .int bt, .int ln, .int ds])), (pp, .inr (0, [.ref pb, .int ps])), (pb, .inl (G.2.1, 4502, .inl f))]) ?_
      refine pb_bipush (pc := 47) (v := 9) d_Presser_putSymbol_47 (by decide) ?_
      refine pb_callV (pc := 49) (I := i_Presser_putSymbol) (qb := 0) (ci := 4) (nA := 2) (rest := []) (wr := []) d_Presser_putSymbol_49 (g_Pr_putNumber hl G h pp pl pe pr pb bg sz bt ln ds f ps r_37 9 S (by first | (with_reducible assumption) | omega (splitDisjunctions := false) | assumption | omega | decide) (by first | (with_reducible assumption) | omega (splitDisjunctions := false) | assumption | omega | decide) (by first | (with_reducible assumption) | omega (splitDisjunctions := false) | assumption | omega | decide) (by first | (with_reducible assumption) | omega (splitDisjunctions := false) | assumption | omega | decide) (by first | (with_reducible assumption) | omega (splitDisjunctions := false) | assumption | omega | decide) (by first | (with_reducible assumption) | omega (splitDisjunctions := false) | assumption | omega | decide) (by rw [tuF]; exact (tu_rng _ _).1) (by first | (with_reducible assumption) | omega (splitDisjunctions := false) | assumption | omega | decide) F_f) rfl rfl [0, 1, 2] [] (by decide) rfl rfl rfl (by decide) (by decide) k_508 rfl k_120 k_505 k_507 k_2 ⟨rfl, hy_Presser_putNumber⟩ (by decide) rfl rfl (Nat.le_of_ble_eq_true rfl) (by decide) (fun v9 u40 ch39 => ?_)
      obtain ⟨b_41, p_42, f_43⟩ := u40
      obtain ⟨ech39, ch39⟩ := ch39
      have ech39 : v9 = none := ech39
      subst ech39
      obtain ⟨fh44, fh45, fh46, fh47⟩ : (b_41.toInt = bt.toInt + (9 : Int32).toInt) ∧ (p_42.toInt = (b_41.toInt + 7) / 8) ∧ (pC_ f_43 p_42.toInt b_41.toInt (bn_ S r_37.toInt (9 : Int32).toInt.toNat)) ∧ (sb_Fit f_43) := ch39
      have pnF := fh46
      rw [show (9 : Int32).toInt.toNat = 9 by decide] at pnF
      have kSF : pC_ _ _ _ (sb_ S v.toInt) := pC_sy (n := 9) pnF tuF rfl rfl (sb_1 (by omega) (by omega) (by omega))
      refine pb_eq (pc' := 52) (lo' := [(0, .ref h), (1, .int v)]) (rest' := []) (ws' := [(h, .inr (4, [.ref pp, .ref pl, .ref pe, .ref pr, .int bg, .int sz, .int b_41, .int ln, .int ds])), (pp, .inr (0, [.ref pb, .int p_42])), (pb, .inl (G.2.1, 4502, .inl f_43))]) ?_
      refine pb_goto (pc := 52) (tgt := 101) d_Presser_putSymbol_52 (by decide) ?_
      exact pb_vret (pc := 101) hQ d_Presser_putSymbol_101 rfl (b_41, p_42, f_43) ⟨rfl, (by (try dsimp only); first | done | (with_reducible assumption) | omega (splitDisjunctions := false) | assumption | omega | decide), (by (try dsimp only); first | done | (with_reducible assumption) | omega (splitDisjunctions := false) | assumption | omega | decide), (by (try dsimp only); first | done | (with_reducible assumption) | omega (splitDisjunctions := false) | assumption | omega | decide), (by (try dsimp only); first | done | (with_reducible assumption) | omega (splitDisjunctions := false) | assumption | omega | decide), (by (try dsimp only); first | done | (with_reducible assumption) | omega (splitDisjunctions := false) | assumption | omega | decide), kSF, fh47⟩ [0, 1, 2] (by decide) rfl rfl (by decide) (by decide)
  · have tw1 : ¬ 144 ≤ v.toInt := fun z9 => w1 ((ti_le (by decide) rfl).mpr z9)
    refine pb_aload_n (pc := 7) d_Presser_putSymbol_7 0 rfl rfl ?_
    refine pb_bipush (pc := 8) (v := 48) d_Presser_putSymbol_8 (by decide) ?_
    refine pb_iload_n (pc := 10) d_Presser_putSymbol_10 1 rfl rfl ?_
    refine pb_iadd (pc := 11) d_Presser_putSymbol_11 ?_
    refine pb_topi (fun i48 ei48 => ?_)
    try have ti48 : i48.toInt = 48 + v.toInt := ti_add ei48 (by decide) rfl (by omega) (by omega)
    refine pb_bipush (pc := 12) (v := 8) d_Presser_putSymbol_12 (by decide) ?_
    refine pb_callS (pc := 14) (I := i_Presser_putSymbol) (nA := 2) (rest := [.ref h]) (wr := [(h, .inr (4, [.ref pp, .ref pl, .ref pe, .ref pr, .int bg, .int sz, .int bt, .int ln, .int ds])), (pp, .inr (0, [.ref pb, .int ps])), (pb, .inl (G.2.1, 4502, .inl f))]) d_Presser_putSymbol_14 (g_Pr_turned hl G i48 8 (by first | (with_reducible assumption) | omega (splitDisjunctions := false) | assumption | omega | decide) (by first | (with_reducible assumption) | omega (splitDisjunctions := false) | assumption | omega | decide) (by first | (with_reducible assumption) | omega (splitDisjunctions := false) | assumption | omega | decide)) [] [0, 1, 2] (by decide) rfl rfl rfl (by decide) (by decide) k_530 rfl k_120 k_528 k_529 hy_Presser_turned (by decide) rfl rfl (Nat.le_of_ble_eq_true rfl) (by decide) (fun v9 u50 ch49 => ?_)
    obtain ⟨r_51, rfl⟩ : ∃ z9, z9 = u50 := ⟨_, rfl⟩
    obtain ⟨ech49, ch49⟩ := ch49
    have ech49 : v9 = some (.int r_51) := ech49
    subst ech49
    have fh52 : r_51.toInt = tu_ i48.toInt (8 : Int32).toInt.toNat := ch49
    have tuF := fh52
    rw [show (8 : Int32).toInt.toNat = 8 by decide] at tuF
    refine pb_eq (pc' := 17) (lo' := [(0, .ref h), (1, .int v)]) (rest' := [.int r_51, .ref h]) (ws' := [(h, .inr (4, [.ref pp, .ref pl, .ref pe, .ref pr, .int bg, .int sz, .int bt, .int ln, .int ds])), (pp, .inr (0, [.ref pb, .int ps])), (pb, .inl (G.2.1, 4502, .inl f))]) ?_
    refine pb_bipush (pc := 17) (v := 8) d_Presser_putSymbol_17 (by decide) ?_
    refine pb_callV (pc := 19) (I := i_Presser_putSymbol) (qb := 0) (ci := 4) (nA := 2) (rest := []) (wr := []) d_Presser_putSymbol_19 (g_Pr_putNumber hl G h pp pl pe pr pb bg sz bt ln ds f ps r_51 8 S (by first | (with_reducible assumption) | omega (splitDisjunctions := false) | assumption | omega | decide) (by first | (with_reducible assumption) | omega (splitDisjunctions := false) | assumption | omega | decide) (by first | (with_reducible assumption) | omega (splitDisjunctions := false) | assumption | omega | decide) (by first | (with_reducible assumption) | omega (splitDisjunctions := false) | assumption | omega | decide) (by first | (with_reducible assumption) | omega (splitDisjunctions := false) | assumption | omega | decide) (by first | (with_reducible assumption) | omega (splitDisjunctions := false) | assumption | omega | decide) (by rw [tuF]; exact (tu_rng _ _).1) (by first | (with_reducible assumption) | omega (splitDisjunctions := false) | assumption | omega | decide) F_f) rfl rfl [0, 1, 2] [] (by decide) rfl rfl rfl (by decide) (by decide) k_508 rfl k_120 k_505 k_507 k_2 ⟨rfl, hy_Presser_putNumber⟩ (by decide) rfl rfl (Nat.le_of_ble_eq_true rfl) (by decide) (fun v9 u54 ch53 => ?_)
    obtain ⟨b_55, p_56, f_57⟩ := u54
    obtain ⟨ech53, ch53⟩ := ch53
    have ech53 : v9 = none := ech53
    subst ech53
    obtain ⟨fh58, fh59, fh60, fh61⟩ : (b_55.toInt = bt.toInt + (8 : Int32).toInt) ∧ (p_56.toInt = (b_55.toInt + 7) / 8) ∧ (pC_ f_57 p_56.toInt b_55.toInt (bn_ S r_51.toInt (8 : Int32).toInt.toNat)) ∧ (sb_Fit f_57) := ch53
    have pnF := fh60
    rw [show (8 : Int32).toInt.toNat = 8 by decide] at pnF
    have kSF : pC_ _ _ _ (sb_ S v.toInt) := pC_sy (n := 8) pnF tuF rfl rfl (sb_0 (by omega) (by omega))
    refine pb_eq (pc' := 22) (lo' := [(0, .ref h), (1, .int v)]) (rest' := []) (ws' := [(h, .inr (4, [.ref pp, .ref pl, .ref pe, .ref pr, .int bg, .int sz, .int b_55, .int ln, .int ds])), (pp, .inr (0, [.ref pb, .int p_56])), (pb, .inl (G.2.1, 4502, .inl f_57))]) ?_
    refine pb_goto (pc := 22) (tgt := 101) d_Presser_putSymbol_22 (by decide) ?_
    exact pb_vret (pc := 101) hQ d_Presser_putSymbol_101 rfl (b_55, p_56, f_57) ⟨rfl, (by (try dsimp only); first | done | (with_reducible assumption) | omega (splitDisjunctions := false) | assumption | omega | decide), (by (try dsimp only); first | done | (with_reducible assumption) | omega (splitDisjunctions := false) | assumption | omega | decide), (by (try dsimp only); first | done | (with_reducible assumption) | omega (splitDisjunctions := false) | assumption | omega | decide), (by (try dsimp only); first | done | (with_reducible assumption) | omega (splitDisjunctions := false) | assumption | omega | decide), (by (try dsimp only); first | done | (with_reducible assumption) | omega (splitDisjunctions := false) | assumption | omega | decide), kSF, fh61⟩ [0, 1, 2] (by decide) rfl rfl (by decide) (by decide)
/-! ROWS OF NUMBERS -/
theorem omg_b113f97746 {x0 : Int} {x1 : Int} {x2 : Int} {x3 : Int} (a0 : (x0 = (x1 - (3 : Int)))) (a1 : ((x2 = (0 : Int)) ∨ (((4 : Int) * x3) ≤ x0))) : ((x2 = (0 : Int)) ∨ (((4 : Int) * x3) ≤ (x1 - (3 : Int)))) := by omega
theorem omg_833592dccf {x0 : Int} {x1 : Int} {x2 : Int} {x3 : Int} {x4 : Int} {x5 : Int} {x6 : Int} (a0 : (x0 = ((4 : Int) * x1))) (a1 : (x2 = ((257 : Int) + x0))) (a2 : (x3 = ((x4 - (3 : Int)) / x5))) (a3 : (x6 = (x2 + x3))) : (x6 = (((257 : Int) + ((4 : Int) * x1)) + ((x4 - (3 : Int)) / x5))) := by omega
theorem omg_166ac5ba6a {x0 : Int} {x1 : Int} {x2 : Int} {x3 : Int} {x4 : Int} (a0 : ((x0 + (14 : Int)) ≤ (36016 : Int))) (a1 : (x1 ≤ (5 : Int))) (a2 : (((257 : Int) ≤ x2) ∧ ((x2 ≤ (285 : Int)) ∧ (((x2 < (280 : Int)) ∧ (x3 = ((7 : Int) + x1))) ∨ (((280 : Int) ≤ x2) ∧ (x3 = ((8 : Int) + x1))))))) (a3 : (((256 : Int) ≤ x2) → ((x2 < (280 : Int)) → (x4 = (x0 + (7 : Int)))))) (a4 : (((280 : Int) ≤ x2) → (x4 = (x0 + (8 : Int))))) : ((x4 + x1) ≤ (36016 : Int)) := by omega
theorem omg_65389cbed0 {x0 : Int} {x1 : Int} {x2 : Int} {x3 : Int} {x4 : Int} {x5 : Int} (a0 : (((257 : Int) ≤ x0) ∧ ((x0 ≤ (285 : Int)) ∧ (((x0 < (280 : Int)) ∧ (x1 = ((7 : Int) + x2))) ∨ (((280 : Int) ≤ x0) ∧ (x1 = ((8 : Int) + x2))))))) (a1 : (((256 : Int) ≤ x0) → ((x0 < (280 : Int)) → (x3 = (x4 + (7 : Int)))))) (a2 : (((280 : Int) ≤ x0) → (x3 = (x4 + (8 : Int))))) (a3 : (x5 = (x3 + x2))) : (x5 = (x4 + x1)) := by omega
theorem omg_4f6aa606d0 {x0 : Int} {x1 : Nat} {x2 : Int} (a0 : ((Int.toNat ((5 : Int) - x0)) < (x1 + (1 : Nat)))) (a1 : (¬ ((5 : Int) ≤ x0))) (a2 : (x2 = (x0 + (1 : Int)))) : ((Int.toNat ((5 : Int) - x2)) < x1) := by omega
theorem d_Presser_putLength_0 : decode prog_8_method_7_code 0 = .ok (.aload_n 0, 1) := by decide +kernel
theorem d_Presser_putLength_1 : decode prog_8_method_7_code 1 = .ok (.getfield 55, 3) := by decide +kernel
theorem k_190 : (Jvm.Cond.fieldLink "PackageBook$Presser" (55 : Nat) "PackageBook$Presser" "length" "I") ∈ uW := uW_c0 73 rfl (by decide +kernel)
theorem d_Presser_putLength_4 : decode prog_8_method_7_code 4 = .ok (.sipush 258, 3) := by decide +kernel
theorem d_Presser_putLength_7 : decode prog_8_method_7_code 7 = .ok (.if_icmp .ne 11, 3) := by decide +kernel
theorem d_Presser_putLength_18 : decode prog_8_method_7_code 18 = .ok (.aload_n 0, 1) := by decide +kernel
theorem d_Presser_putLength_19 : decode prog_8_method_7_code 19 = .ok (.getfield 55, 3) := by decide +kernel
theorem d_Presser_putLength_22 : decode prog_8_method_7_code 22 = .ok (.iconst 3, 1) := by decide +kernel
theorem d_Presser_putLength_23 : decode prog_8_method_7_code 23 = .ok (.isub, 1) := by decide +kernel
theorem d_Presser_putLength_24 : decode prog_8_method_7_code 24 = .ok (.istore_n 1, 1) := by decide +kernel
theorem d_Presser_putLength_25 : decode prog_8_method_7_code 25 = .ok (.iconst 0, 1) := by decide +kernel
theorem d_Presser_putLength_26 : decode prog_8_method_7_code 26 = .ok (.istore_n 2, 1) := by decide +kernel
theorem d_Presser_putLength_27 : decode prog_8_method_7_code 27 = .ok (.iload_n 2, 1) := by decide +kernel
theorem d_Presser_putLength_28 : decode prog_8_method_7_code 28 = .ok (.iconst 5, 1) := by decide +kernel
theorem d_Presser_putLength_29 : decode prog_8_method_7_code 29 = .ok (.if_icmp .ge 17, 3) := by decide +kernel
theorem d_Presser_putLength_46 : decode prog_8_method_7_code 46 = .ok (.aload_n 0, 1) := by decide +kernel
theorem d_Presser_putLength_47 : decode prog_8_method_7_code 47 = .ok (.sipush 257, 3) := by decide +kernel
theorem d_Presser_putLength_50 : decode prog_8_method_7_code 50 = .ok (.iconst 4, 1) := by decide +kernel
theorem d_Presser_putLength_51 : decode prog_8_method_7_code 51 = .ok (.iload_n 2, 1) := by decide +kernel
theorem d_Presser_putLength_52 : decode prog_8_method_7_code 52 = .ok (.imul, 1) := by decide +kernel
theorem d_Presser_putLength_53 : decode prog_8_method_7_code 53 = .ok (.iadd, 1) := by decide +kernel
theorem d_Presser_putLength_54 : decode prog_8_method_7_code 54 = .ok (.iload_n 1, 1) := by decide +kernel
theorem d_Presser_putLength_55 : decode prog_8_method_7_code 55 = .ok (.iload_n 2, 1) := by decide +kernel
theorem d_Presser_putLength_56 : decode prog_8_method_7_code 56 = .ok (.ishr, 1) := by decide +kernel
theorem d_Presser_putLength_57 : decode prog_8_method_7_code 57 = .ok (.iadd, 1) := by decide +kernel
theorem d_Presser_putLength_58 : decode prog_8_method_7_code 58 = .ok (.invokevirtual 58, 3) := by decide +kernel
theorem k_524 : (Jvm.Cond.methodLink "PackageBook$Presser" (58 : Nat) ({ cls := "PackageBook$Presser", name := "putSymbol", desc := "(I)V" } : Jvm.MethodName)) ∈ uW := uW_c1 167 rfl (by decide +kernel)
theorem k_527 : (Jvm.Cond.code ({ cls := "PackageBook$Presser", name := "putSymbol", desc := "(I)V" } : Jvm.MethodName) prog_8_method_9_code (2 : Nat) (Option.none : Option Jvm.ClassFile.FieldType)) ∈ uW := uW_c1 170 rfl (by decide +kernel)
theorem k_526 : (Jvm.Cond.instanceMethod ({ cls := "PackageBook$Presser", name := "putSymbol", desc := "(I)V" } : Jvm.MethodName)) ∈ uW := uW_c1 169 rfl (by decide +kernel)
theorem k_6 : Cond.selects "PackageBook$Presser" ⟨"PackageBook$Presser", "putSymbol", "(I)V"⟩ ⟨"PackageBook$Presser", "putSymbol", "(I)V"⟩ ∈ uW := uW_of 6 (by decide +kernel) (by decide +kernel)
theorem hy_Presser_putSymbol : (y_Presser_putSymbol).cls ≠ "java/lang/invoke/MethodHandle" ∧ (y_Presser_putSymbol).cls ≠ "java/lang/invoke/VarHandle" ∧ (parseMethodDescriptor (y_Presser_putSymbol).desc).map (fun d => d.parameters.length) = some 1 := by decide +kernel
theorem d_Presser_putLength_61 : decode prog_8_method_7_code 61 = .ok (.aload_n 0, 1) := by decide +kernel
theorem d_Presser_putLength_62 : decode prog_8_method_7_code 62 = .ok (.iload_n 1, 1) := by decide +kernel
theorem d_Presser_putLength_63 : decode prog_8_method_7_code 63 = .ok (.iload_n 2, 1) := by decide +kernel
theorem d_Presser_putLength_64 : decode prog_8_method_7_code 64 = .ok (.invokevirtual 48, 3) := by decide +kernel
theorem d_Presser_putLength_67 : decode prog_8_method_7_code 67 = .ok (.return_, 1) := by decide +kernel
theorem d_Presser_putLength_32 : decode prog_8_method_7_code 32 = .ok (.iload_n 1, 1) := by decide +kernel
theorem d_Presser_putLength_33 : decode prog_8_method_7_code 33 = .ok (.iload_n 2, 1) := by decide +kernel
theorem d_Presser_putLength_34 : decode prog_8_method_7_code 34 = .ok (.ishr, 1) := by decide +kernel
theorem d_Presser_putLength_35 : decode prog_8_method_7_code 35 = .ok (.bipush 8, 2) := by decide +kernel
theorem d_Presser_putLength_37 : decode prog_8_method_7_code 37 = .ok (.if_icmp .lt 9, 3) := by decide +kernel
theorem d_Presser_putLength_40 : decode prog_8_method_7_code 40 = .ok (.iinc 2 1, 3) := by decide +kernel
theorem d_Presser_putLength_43 : decode prog_8_method_7_code 43 = .ok (.goto (-16), 3) := by decide +kernel
theorem d_Presser_putLength_10 : decode prog_8_method_7_code 10 = .ok (.aload_n 0, 1) := by decide +kernel
theorem d_Presser_putLength_11 : decode prog_8_method_7_code 11 = .ok (.sipush 285, 3) := by decide +kernel
theorem d_Presser_putLength_14 : decode prog_8_method_7_code 14 = .ok (.invokevirtual 58, 3) := by decide +kernel
theorem d_Presser_putLength_17 : decode prog_8_method_7_code 17 = .ok (.return_, 1) := by decide +kernel
abbrev y_Presser_putLength : MethodName := ⟨"PackageBook$Presser", "putLength", "()V"⟩
abbrev i_Presser_putLength : pb_I := (y_Presser_putLength, prog_8_method_7_code, 3, (Option.none : Option Jvm.ClassFile.FieldType), [], { frames := 2, cells := 0, slots := 0, locals := 44 })
set_option maxRecDepth 100000 in
set_option maxHeartbeats 4000000 in
theorem g_Pr_putLength {l : Launch} (hl : l.stackTraces = false) (G : pb_G) (h : Nat) (pp : Nat) (pl : Nat) (pe : Nat) (pr : Nat) (pb : Nat) (bg : Int32) (sz : Int32) (bt : Int32) (ln : Int32) (ds : Int32) (f : Nat → Int32) (ps : Int32) (S : Int × (Int → Int)) (k0 : 0 ≤ bt.toInt) (k1 : bt.toInt + 14 ≤ 36016) (k5 : ps.toInt = (bt.toInt + 7) / 8) (l0 : 3 ≤ ln.toInt) (l1 : ln.toInt ≤ 258) (hS : pC_ f ps.toInt bt.toInt S) (F_f : sb_Fit f) : Cn l G i_Presser_putLength [.ref h] [(h, .inr (4, [.ref pp, .ref pl, .ref pe, .ref pr, .int bg, .int sz, .int bt, .int ln, .int ds])), (pp, .inr (0, [.ref pb, .int ps])), (pb, .inl (G.2.1, 4502, .inl f))] (S := Int32 × Int32 × (Nat → Int32)) (fun rv_ u => rv_ = none ∧ (u.1.toInt = bt.toInt + le_c ln.toInt) ∧ (u.2.1.toInt = (u.1.toInt + 7) / 8) ∧ (pC_ u.2.2 u.2.1.toInt u.1.toInt (lo_ S ln.toInt)) ∧ (sb_Fit u.2.2)) (fun u => [(h, .inr (4, [.ref pp, .ref pl, .ref pe, .ref pr, .int bg, .int sz, .int u.1, .int ln, .int ds])), (pp, .inr (0, [.ref pb, .int u.2.1])), (pb, .inl (G.2.1, 4502, .inl u.2.2))]) := by
  refine Cn.of hl (by decide +kernel) rfl (Nat.le_of_ble_eq_true rfl) (fun M hQ => ?_)
  refine pb_eq (pc' := 0) (lo' := [(0, .ref h)]) (rest' := []) (ws' := [(h, .inr (4, [.ref pp, .ref pl, .ref pe, .ref pr, .int bg, .int sz, .int bt, .int ln, .int ds])), (pp, .inr (0, [.ref pb, .int ps])), (pb, .inl (G.2.1, 4502, .inl f))]) ?_
  have zl0 : (0 : Int32).toInt = 0 := by decide
  have zl1 : (1 : Int32).toInt = 1 := by decide
  have zl3 : (3 : Int32).toInt = 3 := by decide
  have zl4 : (4 : Int32).toInt = 4 := by decide
  have zl5 : (5 : Int32).toInt = 5 := by decide
  have zl8 : (8 : Int32).toInt = 8 := by decide
  have zl257 : (257 : Int32).toInt = 257 := by decide
  have zl258 : (258 : Int32).toInt = 258 := by decide
  have zl285 : (285 : Int32).toInt = 285 := by decide
  refine pb_aload_n (pc := 0) d_Presser_putLength_0 0 rfl rfl ?_
  refine pb_get (pc := 1) d_Presser_putLength_1 0 7 rfl rfl (by decide) in_Presser k_190 rfl ?_
  refine pb_sipush (pc := 4) (v := 258) d_Presser_putLength_4 (by decide) ?_
  refine pb_icmp_ne (pc := 7) (tgt := 18) d_Presser_putLength_7 (by decide) (fun w1 => ?_) (fun w1 => ?_)
  · have tw1 : ¬ ln.toInt = 258 := fun z9 => w1 ((ti_eq rfl (by decide)).mpr z9)
    refine pb_aload_n (pc := 18) d_Presser_putLength_18 0 rfl rfl ?_
    refine pb_get (pc := 19) d_Presser_putLength_19 0 7 rfl rfl (by decide) in_Presser k_190 rfl ?_
    refine pb_iconst (pc := 22) (v := 3) d_Presser_putLength_22 (by decide) ?_
    refine pb_isub (pc := 23) d_Presser_putLength_23 ?_
    refine pb_topi (fun i2 ei2 => ?_)
    try have ti2 : i2.toInt = ln.toInt - 3 := ti_sub ei2 rfl (by decide) (by omega) (by omega)
    refine pb_istore_n (pc := 24) (lo' := [(1, .int i2), (0, .ref h)]) d_Presser_putLength_24 rfl (by decide) rfl ?_
    refine pb_iconst (pc := 25) (v := 0) d_Presser_putLength_25 (by decide) ?_
    refine pb_istore_n (pc := 26) (lo' := [(2, .int 0), (1, .int i2), (0, .ref h)]) d_Presser_putLength_26 rfl (by decide) rfl ?_
    have hL27_3 : ∀ (N9 : Nat) (v : Int32) (m : Int32), (v.toInt = ln.toInt - 3) → (ln.toInt ≤ 257) → (0 ≤ m.toInt) → (m.toInt ≤ 5) → (m.toInt = 0 ∨ 4 * p2 m.toInt ≤ v.toInt) → ((5 - m.toInt).toNat) < N9 → pb_P l G M i_Presser_putLength 27 [(1, .int v), (2, .int m), (0, .ref h)] [] [(h, .inr (4, [.ref pp, .ref pl, .ref pe, .ref pr, .int bg, .int sz, .int bt, .int ln, .int ds])), (pp, .inr (0, [.ref pb, .int ps])), (pb, .inl (G.2.1, 4502, .inl f))] 0 0 := by
      intro N9
      induction N9 with
      | zero => intro v m hv0 hle hm0 hm1 hmp hm9; exact absurd hm9 (Nat.not_lt_zero _)
      | succ N9 ih27 =>
        intro v m hv0 hle hm0 hm1 hmp hm9
        refine pb_iload_n (pc := 27) d_Presser_putLength_27 1 rfl rfl ?_
        refine pb_iconst (pc := 28) (v := 5) d_Presser_putLength_28 (by decide) ?_
        refine pb_icmp_ge (pc := 29) (tgt := 46) d_Presser_putLength_29 (by decide) (fun w4 => ?_) (fun w4 => ?_)
        · have tw4 : 5 ≤ m.toInt := (ti_le (by decide) rfl).mp w4
          have pPn := p2_pos m.toInt
          have mD : m.toInt = lm_ ln.toInt := lm_E hm0 hm1 (by (exact omg_b113f97746 hv0 hmp)) (by first | exact Or.inl (by omega) | exact Or.inr (by have q9 := dv_lt (k := 8) (show v.toInt / p2 m.toInt < 8 by omega) (by omega); omega)) (by omega)
          clear hmp
          refine pb_aload_n (pc := 46) d_Presser_putLength_46 2 rfl rfl ?_
          refine pb_sipush (pc := 47) (v := 257) d_Presser_putLength_47 (by decide) ?_
          refine pb_iconst (pc := 50) (v := 4) d_Presser_putLength_50 (by decide) ?_
          refine pb_iload_n (pc := 51) d_Presser_putLength_51 1 rfl rfl ?_
          refine pb_imul (pc := 52) d_Presser_putLength_52 ?_
          refine pb_topi (fun i5 ei5 => ?_)
          try have ti5 : i5.toInt = 4 * m.toInt := ti_mul ei5 (by decide) rfl (by omega) (by omega)
          refine pb_iadd (pc := 53) d_Presser_putLength_53 ?_
          refine pb_topi (fun i6 ei6 => ?_)
          try have ti6 : i6.toInt = 257 + i5.toInt := ti_add ei6 (by decide) rfl (by omega) (by omega)
          refine pb_iload_n (pc := 54) d_Presser_putLength_54 0 rfl rfl ?_
          refine pb_iload_n (pc := 55) d_Presser_putLength_55 1 rfl rfl ?_
          refine pb_ishr (pc := 56) d_Presser_putLength_56 ?_
          refine pb_topi (fun i7 ei7 => ?_)
          have shF : i7.toInt = v.toInt / p2 m.toInt := ti_shr (b := p2 m.toInt) ei7 rfl m.toInt.toNat (sh_k rfl (by omega) (by omega)) rfl
          have shB1 : 0 ≤ i7.toInt := by rw [shF]; exact Int.ediv_nonneg (by omega) (by omega)
          have shB2 : i7.toInt ≤ 4000 := by rw [shF]; exact Int.le_trans (Int.ediv_le_self _ (by omega)) (by omega)
          rw [hv0] at shF
          refine pb_iadd (pc := 57) d_Presser_putLength_57 ?_
          refine pb_topi (fun i8 ei8 => ?_)
          try have ti8 : i8.toInt = i6.toInt + i7.toInt := ti_add ei8 rfl rfl (by omega) (by omega)
          have sR := le_lm (s := i8.toInt) l0 (by omega) mD (by (exact omg_833592dccf ti5 ti6 shF ti8))
          refine pb_callV (pc := 58) (I := i_Presser_putLength) (qb := 0) (ci := 4) (nA := 1) (rest := []) (wr := []) d_Presser_putLength_58 (g_Pr_putSymbol hl G h pp pl pe pr pb bg sz bt ln ds f ps i8 S (by first | (with_reducible assumption) | omega (splitDisjunctions := false) | assumption | omega | decide) (by first | (with_reducible assumption) | omega (splitDisjunctions := false) | assumption | omega | decide) (by first | (with_reducible assumption) | omega (splitDisjunctions := false) | assumption | omega | decide) (by first | (with_reducible assumption) | omega (splitDisjunctions := false) | assumption | omega | decide) (by first | (with_reducible assumption) | omega (splitDisjunctions := false) | assumption | omega | decide) (by first | (with_reducible assumption) | omega (splitDisjunctions := false) | assumption | omega | decide) F_f) rfl rfl [0, 1, 2] [] (by decide) rfl rfl rfl (by decide) (by decide) k_527 rfl k_120 k_524 k_526 k_6 ⟨rfl, hy_Presser_putSymbol⟩ (by decide) rfl rfl (Nat.le_of_ble_eq_true rfl) (by decide) (fun v9 u10 ch9 => ?_)
          obtain ⟨b_11, p_12, f_13⟩ := u10
          obtain ⟨ech9, ch9⟩ := ch9
          have ech9 : v9 = none := ech9
          subst ech9
          obtain ⟨fh14, fh15, fh16, fh17, fh18, fh19, fh20⟩ : (i8.toInt < 144 → b_11.toInt = bt.toInt + 8) ∧ (144 ≤ i8.toInt → i8.toInt < 256 → b_11.toInt = bt.toInt + 9) ∧ (256 ≤ i8.toInt → i8.toInt < 280 → b_11.toInt = bt.toInt + 7) ∧ (280 ≤ i8.toInt → b_11.toInt = bt.toInt + 8) ∧ (p_12.toInt = (b_11.toInt + 7) / 8) ∧ (pC_ f_13 p_12.toInt b_11.toInt (sb_ S i8.toInt)) ∧ (sb_Fit f_13) := ch9
          have syF := fh19
          have syF := fh19
          obtain ⟨R, eR, rF⟩ : ∃ R : Int × (Int → Int), R = sb_ S i8.toInt ∧ pC_ _ _ _ R := ⟨_, rfl, syF⟩
          refine pb_eq (pc' := 61) (lo' := [(1, .int v), (2, .int m), (0, .ref h)]) (rest' := []) (ws' := [(h, .inr (4, [.ref pp, .ref pl, .ref pe, .ref pr, .int bg, .int sz, .int b_11, .int ln, .int ds])), (pp, .inr (0, [.ref pb, .int p_12])), (pb, .inl (G.2.1, 4502, .inl f_13))]) ?_
          refine pb_aload_n (pc := 61) d_Presser_putLength_61 2 rfl rfl ?_
          refine pb_iload_n (pc := 62) d_Presser_putLength_62 0 rfl rfl ?_
          refine pb_iload_n (pc := 63) d_Presser_putLength_63 1 rfl rfl ?_
          refine pb_callV (pc := 64) (I := i_Presser_putLength) (qb := 0) (ci := 4) (nA := 2) (rest := []) (wr := []) d_Presser_putLength_64 (g_Pr_putNumber hl G h pp pl pe pr pb bg sz b_11 ln ds f_13 p_12 v m R (by first | (with_reducible assumption) | omega (splitDisjunctions := false) | assumption | omega | decide) (by first | (with_reducible assumption) | omega (splitDisjunctions := false) | assumption | (exact omg_166ac5ba6a k1 hm1 sR fh16 fh17) | decide) (by first | (with_reducible assumption) | omega (splitDisjunctions := false) | assumption | omega | decide) (by first | (with_reducible assumption) | omega (splitDisjunctions := false) | assumption | omega | decide) (by first | (with_reducible assumption) | omega (splitDisjunctions := false) | assumption | omega | decide) rF (by first | (with_reducible assumption) | omega (splitDisjunctions := false) | assumption | omega | decide) (by first | (with_reducible assumption) | omega (splitDisjunctions := false) | assumption | omega | decide) fh20) rfl rfl [0, 1, 2] [] (by decide) rfl rfl rfl (by decide) (by decide) k_508 rfl k_120 k_505 k_507 k_2 ⟨rfl, hy_Presser_putNumber⟩ (by decide) rfl rfl (Nat.le_of_ble_eq_true rfl) (by decide) (fun v9 u22 ch21 => ?_)
          obtain ⟨b_23, p_24, f_25⟩ := u22
          obtain ⟨ech21, ch21⟩ := ch21
          have ech21 : v9 = none := ech21
          subst ech21
          obtain ⟨fh26, fh27, fh28, fh29⟩ : (b_23.toInt = b_11.toInt + m.toInt) ∧ (p_24.toInt = (b_23.toInt + 7) / 8) ∧ (pC_ f_25 p_24.toInt b_23.toInt (bn_ R v.toInt m.toInt.toNat)) ∧ (sb_Fit f_25) := ch21
          have nmF := fh28
          refine pb_eq (pc' := 67) (lo' := [(1, .int v), (2, .int m), (0, .ref h)]) (rest' := []) (ws' := [(h, .inr (4, [.ref pp, .ref pl, .ref pe, .ref pr, .int bg, .int sz, .int b_23, .int ln, .int ds])), (pp, .inr (0, [.ref pb, .int p_24])), (pb, .inl (G.2.1, 4502, .inl f_25))]) ?_
          exact pb_vret (pc := 67) hQ d_Presser_putLength_67 rfl (b_23, p_24, f_25) ⟨rfl, (show b_23.toInt = bt.toInt + le_c ln.toInt from (by (exact omg_65389cbed0 sR fh16 fh17 fh26))), (by (try dsimp only); first | done | (with_reducible assumption) | omega (splitDisjunctions := false) | assumption | omega | decide), (show pC_ f_25 p_24.toInt b_23.toInt (lo_ S ln.toInt) from (pC_c nmF rfl rfl (by rw [eR]; exact lo_E (by omega) mD (by (exact omg_833592dccf ti5 ti6 shF ti8)) (by omega)))), fh29⟩ [0, 1, 2] (by decide) rfl rfl (by decide) (by decide)
        · have tw4 : ¬ 5 ≤ m.toInt := fun z9 => w4 ((ti_le (by decide) rfl).mpr z9)
          refine pb_iload_n (pc := 32) d_Presser_putLength_32 0 rfl rfl ?_
          refine pb_iload_n (pc := 33) d_Presser_putLength_33 1 rfl rfl ?_
          refine pb_ishr (pc := 34) d_Presser_putLength_34 ?_
          refine pb_topi (fun i30 ei30 => ?_)
          have shE : i30.toInt = v.toInt / p2 m.toInt := ti_shr (b := p2 m.toInt) ei30 rfl m.toInt.toNat (sh_k rfl (by omega) (by omega)) rfl
          have pPm := p2_pos m.toInt
          refine pb_bipush (pc := 35) (v := 8) d_Presser_putLength_35 (by decide) ?_
          refine pb_icmp_lt (pc := 37) (tgt := 46) d_Presser_putLength_37 (by decide) (fun w31 => ?_) (fun w31 => ?_)
          · have tw31 : i30.toInt < 8 := (ti_lt rfl (by decide)).mp w31
            have pPn := p2_pos m.toInt
            have mD : m.toInt = lm_ ln.toInt := lm_E hm0 hm1 (by (exact omg_b113f97746 hv0 hmp)) (by first | exact Or.inl (by omega) | exact Or.inr (by have q9 := dv_lt (k := 8) (show v.toInt / p2 m.toInt < 8 by omega) (by omega); omega)) (by omega)
            clear hmp
            refine pb_aload_n (pc := 46) d_Presser_putLength_46 2 rfl rfl ?_
            refine pb_sipush (pc := 47) (v := 257) d_Presser_putLength_47 (by decide) ?_
            refine pb_iconst (pc := 50) (v := 4) d_Presser_putLength_50 (by decide) ?_
            refine pb_iload_n (pc := 51) d_Presser_putLength_51 1 rfl rfl ?_
            refine pb_imul (pc := 52) d_Presser_putLength_52 ?_
            refine pb_topi (fun i32 ei32 => ?_)
            try have ti32 : i32.toInt = 4 * m.toInt := ti_mul ei32 (by decide) rfl (by omega) (by omega)
            refine pb_iadd (pc := 53) d_Presser_putLength_53 ?_
            refine pb_topi (fun i33 ei33 => ?_)
            try have ti33 : i33.toInt = 257 + i32.toInt := ti_add ei33 (by decide) rfl (by omega) (by omega)
            refine pb_iload_n (pc := 54) d_Presser_putLength_54 0 rfl rfl ?_
            refine pb_iload_n (pc := 55) d_Presser_putLength_55 1 rfl rfl ?_
            refine pb_ishr (pc := 56) d_Presser_putLength_56 ?_
            refine pb_topi (fun i34 ei34 => ?_)
            have shF : i34.toInt = v.toInt / p2 m.toInt := ti_shr (b := p2 m.toInt) ei34 rfl m.toInt.toNat (sh_k rfl (by omega) (by omega)) rfl
            have shB1 : 0 ≤ i34.toInt := by rw [shF]; exact Int.ediv_nonneg (by omega) (by omega)
            have shB2 : i34.toInt ≤ 4000 := by rw [shF]; exact Int.le_trans (Int.ediv_le_self _ (by omega)) (by omega)
            rw [hv0] at shF
            refine pb_iadd (pc := 57) d_Presser_putLength_57 ?_
            refine pb_topi (fun i35 ei35 => ?_)
            try have ti35 : i35.toInt = i33.toInt + i34.toInt := ti_add ei35 rfl rfl (by omega) (by omega)
            have sR := le_lm (s := i35.toInt) l0 (by omega) mD (by (exact omg_833592dccf ti32 ti33 shF ti35))
            refine pb_callV (pc := 58) (I := i_Presser_putLength) (qb := 0) (ci := 4) (nA := 1) (rest := []) (wr := []) d_Presser_putLength_58 (g_Pr_putSymbol hl G h pp pl pe pr pb bg sz bt ln ds f ps i35 S (by first | (with_reducible assumption) | omega (splitDisjunctions := false) | assumption | omega | decide) (by first | (with_reducible assumption) | omega (splitDisjunctions := false) | assumption | omega | decide) (by first | (with_reducible assumption) | omega (splitDisjunctions := false) | assumption | omega | decide) (by first | (with_reducible assumption) | omega (splitDisjunctions := false) | assumption | omega | decide) (by first | (with_reducible assumption) | omega (splitDisjunctions := false) | assumption | omega | decide) (by first | (with_reducible assumption) | omega (splitDisjunctions := false) | assumption | omega | decide) F_f) rfl rfl [0, 1, 2] [] (by decide) rfl rfl rfl (by decide) (by decide) k_527 rfl k_120 k_524 k_526 k_6 ⟨rfl, hy_Presser_putSymbol⟩ (by decide) rfl rfl (Nat.le_of_ble_eq_true rfl) (by decide) (fun v9 u37 ch36 => ?_)
            obtain ⟨b_38, p_39, f_40⟩ := u37
            obtain ⟨ech36, ch36⟩ := ch36
            have ech36 : v9 = none := ech36
            subst ech36
            obtain ⟨fh41, fh42, fh43, fh44, fh45, fh46, fh47⟩ : (i35.toInt < 144 → b_38.toInt = bt.toInt + 8) ∧ (144 ≤ i35.toInt → i35.toInt < 256 → b_38.toInt = bt.toInt + 9) ∧ (256 ≤ i35.toInt → i35.toInt < 280 → b_38.toInt = bt.toInt + 7) ∧ (280 ≤ i35.toInt → b_38.toInt = bt.toInt + 8) ∧ (p_39.toInt = (b_38.toInt + 7) / 8) ∧ (pC_ f_40 p_39.toInt b_38.toInt (sb_ S i35.toInt)) ∧ (sb_Fit f_40) := ch36
            have syF := fh46
            have syF := fh46
            obtain ⟨R, eR, rF⟩ : ∃ R : Int × (Int → Int), R = sb_ S i35.toInt ∧ pC_ _ _ _ R := ⟨_, rfl, syF⟩
            refine pb_eq (pc' := 61) (lo' := [(1, .int v), (2, .int m), (0, .ref h)]) (rest' := []) (ws' := [(h, .inr (4, [.ref pp, .ref pl, .ref pe, .ref pr, .int bg, .int sz, .int b_38, .int ln, .int ds])), (pp, .inr (0, [.ref pb, .int p_39])), (pb, .inl (G.2.1, 4502, .inl f_40))]) ?_
            refine pb_aload_n (pc := 61) d_Presser_putLength_61 2 rfl rfl ?_
            refine pb_iload_n (pc := 62) d_Presser_putLength_62 0 rfl rfl ?_
            refine pb_iload_n (pc := 63) d_Presser_putLength_63 1 rfl rfl ?_
            refine pb_callV (pc := 64) (I := i_Presser_putLength) (qb := 0) (ci := 4) (nA := 2) (rest := []) (wr := []) d_Presser_putLength_64 (g_Pr_putNumber hl G h pp pl pe pr pb bg sz b_38 ln ds f_40 p_39 v m R (by first | (with_reducible assumption) | omega (splitDisjunctions := false) | assumption | omega | decide) (by first | (with_reducible assumption) | omega (splitDisjunctions := false) | assumption | (exact omg_166ac5ba6a k1 hm1 sR fh43 fh44) | decide) (by first | (with_reducible assumption) | omega (splitDisjunctions := false) | assumption | omega | decide) (by first | (with_reducible assumption) | omega (splitDisjunctions := false) | assumption | omega | decide) (by first | (with_reducible assumption) | omega (splitDisjunctions := false) | assumption | omega | decide) rF (by first | (with_reducible assumption) | omega (splitDisjunctions := false) | assumption | omega | decide) (by first | (with_reducible assumption) | omega (splitDisjunctions := false) | assumption | omega | decide) fh47) rfl rfl [0, 1, 2] [] (by decide) rfl rfl rfl (by decide) (by decide) k_508 rfl k_120 k_505 k_507 k_2 ⟨rfl, hy_Presser_putNumber⟩ (by decide) rfl rfl (Nat.le_of_ble_eq_true rfl) (by decide) (fun v9 u49 ch48 => ?_)
            obtain ⟨b_50, p_51, f_52⟩ := u49
            obtain ⟨ech48, ch48⟩ := ch48
            have ech48 : v9 = none := ech48
            subst ech48
            obtain ⟨fh53, fh54, fh55, fh56⟩ : (b_50.toInt = b_38.toInt + m.toInt) ∧ (p_51.toInt = (b_50.toInt + 7) / 8) ∧ (pC_ f_52 p_51.toInt b_50.toInt (bn_ R v.toInt m.toInt.toNat)) ∧ (sb_Fit f_52) := ch48
            have nmF := fh55
            refine pb_eq (pc' := 67) (lo' := [(1, .int v), (2, .int m), (0, .ref h)]) (rest' := []) (ws' := [(h, .inr (4, [.ref pp, .ref pl, .ref pe, .ref pr, .int bg, .int sz, .int b_50, .int ln, .int ds])), (pp, .inr (0, [.ref pb, .int p_51])), (pb, .inl (G.2.1, 4502, .inl f_52))]) ?_
            exact pb_vret (pc := 67) hQ d_Presser_putLength_67 rfl (b_50, p_51, f_52) ⟨rfl, (show b_50.toInt = bt.toInt + le_c ln.toInt from (by (exact omg_65389cbed0 sR fh43 fh44 fh53))), (by (try dsimp only); first | done | (with_reducible assumption) | omega (splitDisjunctions := false) | assumption | omega | decide), (show pC_ f_52 p_51.toInt b_50.toInt (lo_ S ln.toInt) from (pC_c nmF rfl rfl (by rw [eR]; exact lo_E (by omega) mD (by (exact omg_833592dccf ti32 ti33 shF ti35)) (by omega)))), fh56⟩ [0, 1, 2] (by decide) rfl rfl (by decide) (by decide)
          · have tw31 : ¬ i30.toInt < 8 := fun z9 => w31 ((ti_lt rfl (by decide)).mpr z9)
            refine pb_iincN (pc := 40) (c := 1) d_Presser_putLength_40 1 rfl (by decide) (by decide) (fun i57 ei57 => ?_)
            have ti57 : i57.toInt = m.toInt + 1 := ti_add ei57 rfl (by decide) (by omega) (by omega)
            refine pb_eq (pc' := 43) (lo' := [(2, .int i57), (1, .int v), (0, .ref h)]) (rest' := []) (ws' := [(h, .inr (4, [.ref pp, .ref pl, .ref pe, .ref pr, .int bg, .int sz, .int bt, .int ln, .int ds])), (pp, .inr (0, [.ref pb, .int ps])), (pb, .inl (G.2.1, 4502, .inl f))]) ?_
            refine pb_goto (pc := 43) (tgt := 27) d_Presser_putLength_43 (by decide) ?_
            refine pb_re (ws' := [(h, .inr (4, [.ref pp, .ref pl, .ref pe, .ref pr, .int bg, .int sz, .int bt, .int ln, .int ds])), (pp, .inr (0, [.ref pb, .int ps])), (pb, .inl (G.2.1, 4502, .inl f))]) (lo' := [(1, .int v), (2, .int i57), (0, .ref h)]) [0, 1, 2] [1, 0, 2] (by decide) rfl rfl rfl ?_
            exact ih27 v i57 (by first | (with_reducible assumption) | omega (splitDisjunctions := false) | assumption | omega | decide) (by first | (with_reducible assumption) | omega (splitDisjunctions := false) | assumption | omega | decide) (by first | (with_reducible assumption) | omega (splitDisjunctions := false) | assumption | omega | decide) (by omega) (Or.inr (by have q9 := dv_ge (k := 8) (show (8 : Int) ≤ v.toInt / p2 m.toInt by omega) (by omega); have q8 := p2_s (k := m.toInt) (m := i57.toInt) hm0 (by omega); omega)) (by (exact omg_4f6aa606d0 hm9 tw4 ti57))
    refine pb_re (ws' := [(h, .inr (4, [.ref pp, .ref pl, .ref pe, .ref pr, .int bg, .int sz, .int bt, .int ln, .int ds])), (pp, .inr (0, [.ref pb, .int ps])), (pb, .inl (G.2.1, 4502, .inl f))]) (lo' := [(1, .int i2), (2, .int 0), (0, .ref h)]) [0, 1, 2] [1, 0, 2] (by decide) rfl rfl rfl ?_
    exact hL27_3 _ i2 0 (by first | (with_reducible assumption) | omega (splitDisjunctions := false) | assumption | omega | decide) (by first | (with_reducible assumption) | omega (splitDisjunctions := false) | assumption | omega | decide) (by first | (with_reducible assumption) | omega (splitDisjunctions := false) | assumption | omega | decide) (by first | (with_reducible assumption) | omega (splitDisjunctions := false) | assumption | omega | decide) (by first | (with_reducible assumption) | omega (splitDisjunctions := false) | assumption | omega | decide) (Nat.lt_succ_self _)
  · have tw1 : ln.toInt = 258 := (ti_eq rfl (by decide)).mp w1
    refine pb_aload_n (pc := 10) d_Presser_putLength_10 0 rfl rfl ?_
    refine pb_sipush (pc := 11) (v := 285) d_Presser_putLength_11 (by decide) ?_
    refine pb_callV (pc := 14) (I := i_Presser_putLength) (qb := 0) (ci := 4) (nA := 1) (rest := []) (wr := []) d_Presser_putLength_14 (g_Pr_putSymbol hl G h pp pl pe pr pb bg sz bt ln ds f ps 285 S (by first | (with_reducible assumption) | omega (splitDisjunctions := false) | assumption | omega | decide) (by first | (with_reducible assumption) | omega (splitDisjunctions := false) | assumption | omega | decide) (by first | (with_reducible assumption) | omega (splitDisjunctions := false) | assumption | omega | decide) (by first | (with_reducible assumption) | omega (splitDisjunctions := false) | assumption | omega | decide) (by first | (with_reducible assumption) | omega (splitDisjunctions := false) | assumption | omega | decide) (by first | (with_reducible assumption) | omega (splitDisjunctions := false) | assumption | omega | decide) F_f) rfl rfl [0, 1, 2] [] (by decide) rfl rfl rfl (by decide) (by decide) k_527 rfl k_120 k_524 k_526 k_6 ⟨rfl, hy_Presser_putSymbol⟩ (by decide) rfl rfl (Nat.le_of_ble_eq_true rfl) (by decide) (fun v9 u59 ch58 => ?_)
    obtain ⟨b_60, p_61, f_62⟩ := u59
    obtain ⟨ech58, ch58⟩ := ch58
    have ech58 : v9 = none := ech58
    subst ech58
    obtain ⟨fh63, fh64, fh65, fh66, fh67, fh68, fh69⟩ : ((285 : Int32).toInt < 144 → b_60.toInt = bt.toInt + 8) ∧ (144 ≤ (285 : Int32).toInt → (285 : Int32).toInt < 256 → b_60.toInt = bt.toInt + 9) ∧ (256 ≤ (285 : Int32).toInt → (285 : Int32).toInt < 280 → b_60.toInt = bt.toInt + 7) ∧ (280 ≤ (285 : Int32).toInt → b_60.toInt = bt.toInt + 8) ∧ (p_61.toInt = (b_60.toInt + 7) / 8) ∧ (pC_ f_62 p_61.toInt b_60.toInt (sb_ S (285 : Int32).toInt)) ∧ (sb_Fit f_62) := ch58
    have syF := fh68
    refine pb_eq (pc' := 17) (lo' := [(0, .ref h)]) (rest' := []) (ws' := [(h, .inr (4, [.ref pp, .ref pl, .ref pe, .ref pr, .int bg, .int sz, .int b_60, .int ln, .int ds])), (pp, .inr (0, [.ref pb, .int p_61])), (pb, .inl (G.2.1, 4502, .inl f_62))]) ?_
    exact pb_vret (pc := 17) hQ d_Presser_putLength_17 rfl (b_60, p_61, f_62) ⟨rfl, (show b_60.toInt = bt.toInt + le_c ln.toInt from (by have q9 : le_c ln.toInt = 8 := (by rw [show ln.toInt = 258 by omega]; decide); omega)), (by (try dsimp only); first | done | (with_reducible assumption) | omega (splitDisjunctions := false) | assumption | omega | decide), (show pC_ f_62 p_61.toInt b_60.toInt (lo_ S ln.toInt) from (pC_c syF rfl rfl (lo_258 (by omega) (by decide)))), fh69⟩ [0, 1, 2] (by decide) rfl rfl (by decide) (by decide)

theorem d_Presser_putDistance_0 : decode prog_8_method_8_code 0 = .ok (.aload_n 0, 1) := by decide +kernel
theorem d_Presser_putDistance_1 : decode prog_8_method_8_code 1 = .ok (.getfield 84, 3) := by decide +kernel
theorem k_191 : (Jvm.Cond.fieldLink "PackageBook$Presser" (84 : Nat) "PackageBook$Presser" "distance" "I") ∈ uW := uW_c0 74 rfl (by decide +kernel)
theorem d_Presser_putDistance_4 : decode prog_8_method_8_code 4 = .ok (.iconst 1, 1) := by decide +kernel
theorem d_Presser_putDistance_5 : decode prog_8_method_8_code 5 = .ok (.isub, 1) := by decide +kernel
theorem d_Presser_putDistance_6 : decode prog_8_method_8_code 6 = .ok (.istore_n 1, 1) := by decide +kernel
theorem d_Presser_putDistance_7 : decode prog_8_method_8_code 7 = .ok (.iconst 0, 1) := by decide +kernel
theorem d_Presser_putDistance_8 : decode prog_8_method_8_code 8 = .ok (.istore_n 2, 1) := by decide +kernel
theorem d_Presser_putDistance_9 : decode prog_8_method_8_code 9 = .ok (.iload_n 2, 1) := by decide +kernel
theorem d_Presser_putDistance_10 : decode prog_8_method_8_code 10 = .ok (.bipush 13, 2) := by decide +kernel
theorem d_Presser_putDistance_12 : decode prog_8_method_8_code 12 = .ok (.if_icmp .ge 16, 3) := by decide +kernel
theorem d_Presser_putDistance_15 : decode prog_8_method_8_code 15 = .ok (.iload_n 1, 1) := by decide +kernel
theorem d_Presser_putDistance_16 : decode prog_8_method_8_code 16 = .ok (.iload_n 2, 1) := by decide +kernel
theorem d_Presser_putDistance_17 : decode prog_8_method_8_code 17 = .ok (.ishr, 1) := by decide +kernel
theorem d_Presser_putDistance_18 : decode prog_8_method_8_code 18 = .ok (.iconst 4, 1) := by decide +kernel
theorem d_Presser_putDistance_19 : decode prog_8_method_8_code 19 = .ok (.if_icmp .lt 9, 3) := by decide +kernel
theorem d_Presser_putDistance_28 : decode prog_8_method_8_code 28 = .ok (.aload_n 0, 1) := by decide +kernel
theorem d_Presser_putDistance_29 : decode prog_8_method_8_code 29 = .ok (.iconst 2, 1) := by decide +kernel
theorem d_Presser_putDistance_30 : decode prog_8_method_8_code 30 = .ok (.iload_n 2, 1) := by decide +kernel
theorem d_Presser_putDistance_31 : decode prog_8_method_8_code 31 = .ok (.imul, 1) := by decide +kernel
theorem d_Presser_putDistance_32 : decode prog_8_method_8_code 32 = .ok (.iload_n 1, 1) := by decide +kernel
theorem d_Presser_putDistance_33 : decode prog_8_method_8_code 33 = .ok (.iload_n 2, 1) := by decide +kernel
theorem d_Presser_putDistance_34 : decode prog_8_method_8_code 34 = .ok (.ishr, 1) := by decide +kernel
theorem d_Presser_putDistance_35 : decode prog_8_method_8_code 35 = .ok (.iadd, 1) := by decide +kernel
theorem d_Presser_putDistance_36 : decode prog_8_method_8_code 36 = .ok (.iconst 5, 1) := by decide +kernel
theorem d_Presser_putDistance_37 : decode prog_8_method_8_code 37 = .ok (.invokestatic 87, 3) := by decide +kernel
theorem d_Presser_putDistance_40 : decode prog_8_method_8_code 40 = .ok (.iconst 5, 1) := by decide +kernel
theorem d_Presser_putDistance_41 : decode prog_8_method_8_code 41 = .ok (.invokevirtual 48, 3) := by decide +kernel
theorem d_Presser_putDistance_44 : decode prog_8_method_8_code 44 = .ok (.aload_n 0, 1) := by decide +kernel
theorem d_Presser_putDistance_45 : decode prog_8_method_8_code 45 = .ok (.iload_n 1, 1) := by decide +kernel
theorem d_Presser_putDistance_46 : decode prog_8_method_8_code 46 = .ok (.iload_n 2, 1) := by decide +kernel
theorem d_Presser_putDistance_47 : decode prog_8_method_8_code 47 = .ok (.invokevirtual 48, 3) := by decide +kernel
theorem d_Presser_putDistance_50 : decode prog_8_method_8_code 50 = .ok (.return_, 1) := by decide +kernel
theorem d_Presser_putDistance_22 : decode prog_8_method_8_code 22 = .ok (.iinc 2 1, 3) := by decide +kernel
theorem d_Presser_putDistance_25 : decode prog_8_method_8_code 25 = .ok (.goto (-16), 3) := by decide +kernel
abbrev y_Presser_putDistance : MethodName := ⟨"PackageBook$Presser", "putDistance", "()V"⟩
abbrev i_Presser_putDistance : pb_I := (y_Presser_putDistance, prog_8_method_8_code, 3, (Option.none : Option Jvm.ClassFile.FieldType), [], { frames := 1, cells := 0, slots := 0, locals := 23 })
set_option maxRecDepth 100000 in
set_option maxHeartbeats 4000000 in
theorem g_Pr_putDistance {l : Launch} (hl : l.stackTraces = false) (G : pb_G) (h : Nat) (pp : Nat) (pl : Nat) (pe : Nat) (pr : Nat) (pb : Nat) (bg : Int32) (sz : Int32) (bt : Int32) (ln : Int32) (ds : Int32) (f : Nat → Int32) (ps : Int32) (S : Int × (Int → Int)) (k0 : 0 ≤ bt.toInt) (k1 : bt.toInt + 15 ≤ 36016) (k5 : ps.toInt = (bt.toInt + 7) / 8) (l0 : 1 ≤ ds.toInt) (l1 : ds.toInt ≤ 4000) (hS : pC_ f ps.toInt bt.toInt S) (F_f : sb_Fit f) : Cn l G i_Presser_putDistance [.ref h] [(h, .inr (4, [.ref pp, .ref pl, .ref pe, .ref pr, .int bg, .int sz, .int bt, .int ln, .int ds])), (pp, .inr (0, [.ref pb, .int ps])), (pb, .inl (G.2.1, 4502, .inl f))] (S := Int32 × Int32 × (Nat → Int32)) (fun rv_ u => rv_ = none ∧ (u.1.toInt = bt.toInt + di_c ds.toInt) ∧ (u.2.1.toInt = (u.1.toInt + 7) / 8) ∧ (pC_ u.2.2 u.2.1.toInt u.1.toInt (do_ S ds.toInt)) ∧ (sb_Fit u.2.2)) (fun u => [(h, .inr (4, [.ref pp, .ref pl, .ref pe, .ref pr, .int bg, .int sz, .int u.1, .int ln, .int ds])), (pp, .inr (0, [.ref pb, .int u.2.1])), (pb, .inl (G.2.1, 4502, .inl u.2.2))]) := by
  refine Cn.of hl (by decide +kernel) rfl (Nat.le_of_ble_eq_true rfl) (fun M hQ => ?_)
  refine pb_eq (pc' := 0) (lo' := [(0, .ref h)]) (rest' := []) (ws' := [(h, .inr (4, [.ref pp, .ref pl, .ref pe, .ref pr, .int bg, .int sz, .int bt, .int ln, .int ds])), (pp, .inr (0, [.ref pb, .int ps])), (pb, .inl (G.2.1, 4502, .inl f))]) ?_
  have zl0 : (0 : Int32).toInt = 0 := by decide
  have zl1 : (1 : Int32).toInt = 1 := by decide
  have zl2 : (2 : Int32).toInt = 2 := by decide
  have zl4 : (4 : Int32).toInt = 4 := by decide
  have zl5 : (5 : Int32).toInt = 5 := by decide
  have zl13 : (13 : Int32).toInt = 13 := by decide
  refine pb_aload_n (pc := 0) d_Presser_putDistance_0 0 rfl rfl ?_
  refine pb_get (pc := 1) d_Presser_putDistance_1 0 8 rfl rfl (by decide) in_Presser k_191 rfl ?_
  refine pb_iconst (pc := 4) (v := 1) d_Presser_putDistance_4 (by decide) ?_
  refine pb_isub (pc := 5) d_Presser_putDistance_5 ?_
  refine pb_topi (fun i1 ei1 => ?_)
  try have ti1 : i1.toInt = ds.toInt - 1 := ti_sub ei1 rfl (by decide) (by omega) (by omega)
  refine pb_istore_n (pc := 6) (lo' := [(1, .int i1), (0, .ref h)]) d_Presser_putDistance_6 rfl (by decide) rfl ?_
  refine pb_iconst (pc := 7) (v := 0) d_Presser_putDistance_7 (by decide) ?_
  refine pb_istore_n (pc := 8) (lo' := [(2, .int 0), (1, .int i1), (0, .ref h)]) d_Presser_putDistance_8 rfl (by decide) rfl ?_
  have hL9_2 : ∀ (N9 : Nat) (v : Int32) (m : Int32), (v.toInt = ds.toInt - 1) → (0 ≤ m.toInt) → (m.toInt ≤ 10) → (m.toInt = 0 ∨ 2 * p2 m.toInt ≤ v.toInt) → ((13 - m.toInt).toNat) < N9 → pb_P l G M i_Presser_putDistance 9 [(1, .int v), (2, .int m), (0, .ref h)] [] [(h, .inr (4, [.ref pp, .ref pl, .ref pe, .ref pr, .int bg, .int sz, .int bt, .int ln, .int ds])), (pp, .inr (0, [.ref pb, .int ps])), (pb, .inl (G.2.1, 4502, .inl f))] 0 0 := by
    intro N9
    induction N9 with
    | zero => intro v m hv0 hm0 hm1 hmp hm9; exact absurd hm9 (Nat.not_lt_zero _)
    | succ N9 ih9 =>
      intro v m hv0 hm0 hm1 hmp hm9
      refine pb_iload_n (pc := 9) d_Presser_putDistance_9 1 rfl rfl ?_
      refine pb_bipush (pc := 10) (v := 13) d_Presser_putDistance_10 (by decide) ?_
      refine pb_icmp_ge (pc := 12) (tgt := 28) d_Presser_putDistance_12 (by decide) (fun h9 => False.elim (by have t9 : 13 ≤ m.toInt := (ti_le (by decide) rfl).mp h9; omega)) (fun w3 => ?_)
      have tw3 : ¬ 13 ≤ m.toInt := fun z9 => w3 ((ti_le (by decide) rfl).mpr z9)
      refine pb_iload_n (pc := 15) d_Presser_putDistance_15 0 rfl rfl ?_
      refine pb_iload_n (pc := 16) d_Presser_putDistance_16 1 rfl rfl ?_
      refine pb_ishr (pc := 17) d_Presser_putDistance_17 ?_
      refine pb_topi (fun i4 ei4 => ?_)
      have shE : i4.toInt = v.toInt / p2 m.toInt := ti_shr (b := p2 m.toInt) ei4 rfl m.toInt.toNat (sh_k rfl (by omega) (by omega)) rfl
      have pPm := p2_pos m.toInt
      refine pb_iconst (pc := 18) (v := 4) d_Presser_putDistance_18 (by decide) ?_
      refine pb_icmp_lt (pc := 19) (tgt := 28) d_Presser_putDistance_19 (by decide) (fun w5 => ?_) (fun w5 => ?_)
      · have tw5 : i4.toInt < 4 := (ti_lt rfl (by decide)).mp w5
        have mD : m.toInt = dm_ ds.toInt := dm_E hm0 hm1 (by omega) (by have q9 := dv_lt (k := 4) (show v.toInt / p2 m.toInt < 4 by omega) (by omega); omega)
        clear hmp
        refine pb_aload_n (pc := 28) d_Presser_putDistance_28 2 rfl rfl ?_
        refine pb_iconst (pc := 29) (v := 2) d_Presser_putDistance_29 (by decide) ?_
        refine pb_iload_n (pc := 30) d_Presser_putDistance_30 1 rfl rfl ?_
        refine pb_imul (pc := 31) d_Presser_putDistance_31 ?_
        refine pb_topi (fun i6 ei6 => ?_)
        try have ti6 : i6.toInt = 2 * m.toInt := ti_mul ei6 (by decide) rfl (by omega) (by omega)
        refine pb_iload_n (pc := 32) d_Presser_putDistance_32 0 rfl rfl ?_
        refine pb_iload_n (pc := 33) d_Presser_putDistance_33 1 rfl rfl ?_
        refine pb_ishr (pc := 34) d_Presser_putDistance_34 ?_
        refine pb_topi (fun i7 ei7 => ?_)
        have shF : i7.toInt = v.toInt / p2 m.toInt := ti_shr (b := p2 m.toInt) ei7 rfl m.toInt.toNat (sh_k rfl (by omega) (by omega)) rfl
        have shB1 : 0 ≤ i7.toInt := by rw [shF]; exact Int.ediv_nonneg (by omega) (by omega)
        have shB2 : i7.toInt ≤ 4000 := by rw [shF]; exact Int.le_trans (Int.ediv_le_self _ (by omega)) (by omega)
        rw [hv0] at shF
        refine pb_iadd (pc := 35) d_Presser_putDistance_35 ?_
        refine pb_topi (fun i8 ei8 => ?_)
        try have ti8 : i8.toInt = i6.toInt + i7.toInt := ti_add ei8 rfl rfl (by omega) (by omega)
        have sX : 0 ≤ i8.toInt ∧ i8.toInt ≤ 30 := by have q9 : 0 ≤ (ds.toInt - 1) / p2 m.toInt := Int.ediv_nonneg (by omega) (by omega); have q8 : (ds.toInt - 1) / p2 m.toInt < 4 := (by rw [← hv0]; omega); omega
        refine pb_iconst (pc := 36) (v := 5) d_Presser_putDistance_36 (by decide) ?_
        refine pb_callS (pc := 37) (I := i_Presser_putDistance) (nA := 2) (rest := [.ref h]) (wr := [(h, .inr (4, [.ref pp, .ref pl, .ref pe, .ref pr, .int bg, .int sz, .int bt, .int ln, .int ds])), (pp, .inr (0, [.ref pb, .int ps])), (pb, .inl (G.2.1, 4502, .inl f))]) d_Presser_putDistance_37 (g_Pr_turned hl G i8 5 (by first | (with_reducible assumption) | omega (splitDisjunctions := false) | assumption | omega | decide) (by first | (with_reducible assumption) | omega (splitDisjunctions := false) | assumption | omega | decide) (by first | (with_reducible assumption) | omega (splitDisjunctions := false) | assumption | omega | decide)) [] [0, 1, 2] (by decide) rfl rfl rfl (by decide) (by decide) k_530 rfl k_120 k_528 k_529 hy_Presser_turned (by decide) rfl rfl (Nat.le_of_ble_eq_true rfl) (by decide) (fun v9 u10 ch9 => ?_)
        obtain ⟨r_11, rfl⟩ : ∃ z9, z9 = u10 := ⟨_, rfl⟩
        obtain ⟨ech9, ch9⟩ := ch9
        have ech9 : v9 = some (.int r_11) := ech9
        subst ech9
        have fh12 : r_11.toInt = tu_ i8.toInt (5 : Int32).toInt.toNat := ch9
        have tuF := fh12
        rw [show (5 : Int32).toInt.toNat = 5 by decide] at tuF
        refine pb_eq (pc' := 40) (lo' := [(1, .int v), (2, .int m), (0, .ref h)]) (rest' := [.int r_11, .ref h]) (ws' := [(h, .inr (4, [.ref pp, .ref pl, .ref pe, .ref pr, .int bg, .int sz, .int bt, .int ln, .int ds])), (pp, .inr (0, [.ref pb, .int ps])), (pb, .inl (G.2.1, 4502, .inl f))]) ?_
        refine pb_iconst (pc := 40) (v := 5) d_Presser_putDistance_40 (by decide) ?_
        refine pb_callV (pc := 41) (I := i_Presser_putDistance) (qb := 0) (ci := 4) (nA := 2) (rest := []) (wr := []) d_Presser_putDistance_41 (g_Pr_putNumber hl G h pp pl pe pr pb bg sz bt ln ds f ps r_11 5 S (by first | (with_reducible assumption) | omega (splitDisjunctions := false) | assumption | omega | decide) (by first | (with_reducible assumption) | omega (splitDisjunctions := false) | assumption | omega | decide) (by first | (with_reducible assumption) | omega (splitDisjunctions := false) | assumption | omega | decide) (by first | (with_reducible assumption) | omega (splitDisjunctions := false) | assumption | omega | decide) (by first | (with_reducible assumption) | omega (splitDisjunctions := false) | assumption | omega | decide) (by first | (with_reducible assumption) | omega (splitDisjunctions := false) | assumption | omega | decide) (by rw [tuF]; exact (tu_rng _ _).1) (by first | (with_reducible assumption) | omega (splitDisjunctions := false) | assumption | omega | decide) F_f) rfl rfl [0, 1, 2] [] (by decide) rfl rfl rfl (by decide) (by decide) k_508 rfl k_120 k_505 k_507 k_2 ⟨rfl, hy_Presser_putNumber⟩ (by decide) rfl rfl (Nat.le_of_ble_eq_true rfl) (by decide) (fun v9 u14 ch13 => ?_)
        obtain ⟨b_15, p_16, f_17⟩ := u14
        obtain ⟨ech13, ch13⟩ := ch13
        have ech13 : v9 = none := ech13
        subst ech13
        obtain ⟨fh18, fh19, fh20, fh21⟩ : (b_15.toInt = bt.toInt + (5 : Int32).toInt) ∧ (p_16.toInt = (b_15.toInt + 7) / 8) ∧ (pC_ f_17 p_16.toInt b_15.toInt (bn_ S r_11.toInt (5 : Int32).toInt.toNat)) ∧ (sb_Fit f_17) := ch13
        have pnF := fh20
        rw [show (5 : Int32).toInt.toNat = 5 by decide] at pnF
        obtain ⟨R, eR, rF⟩ : ∃ R : Int × (Int → Int), R = bc_ _ 5 S ∧ pC_ _ _ _ R := ⟨_, rfl, pC_sy (n := 5) pnF tuF rfl rfl rfl⟩
        refine pb_eq (pc' := 44) (lo' := [(1, .int v), (2, .int m), (0, .ref h)]) (rest' := []) (ws' := [(h, .inr (4, [.ref pp, .ref pl, .ref pe, .ref pr, .int bg, .int sz, .int b_15, .int ln, .int ds])), (pp, .inr (0, [.ref pb, .int p_16])), (pb, .inl (G.2.1, 4502, .inl f_17))]) ?_
        refine pb_aload_n (pc := 44) d_Presser_putDistance_44 2 rfl rfl ?_
        refine pb_iload_n (pc := 45) d_Presser_putDistance_45 0 rfl rfl ?_
        refine pb_iload_n (pc := 46) d_Presser_putDistance_46 1 rfl rfl ?_
        refine pb_callV (pc := 47) (I := i_Presser_putDistance) (qb := 0) (ci := 4) (nA := 2) (rest := []) (wr := []) d_Presser_putDistance_47 (g_Pr_putNumber hl G h pp pl pe pr pb bg sz b_15 ln ds f_17 p_16 v m R (by first | (with_reducible assumption) | omega (splitDisjunctions := false) | assumption | omega | decide) (by first | (with_reducible assumption) | omega (splitDisjunctions := false) | assumption | omega | decide) (by first | (with_reducible assumption) | omega (splitDisjunctions := false) | assumption | omega | decide) (by first | (with_reducible assumption) | omega (splitDisjunctions := false) | assumption | omega | decide) (by first | (with_reducible assumption) | omega (splitDisjunctions := false) | assumption | omega | decide) rF (by first | (with_reducible assumption) | omega (splitDisjunctions := false) | assumption | omega | decide) (by first | (with_reducible assumption) | omega (splitDisjunctions := false) | assumption | omega | decide) fh21) rfl rfl [0, 1, 2] [] (by decide) rfl rfl rfl (by decide) (by decide) k_508 rfl k_120 k_505 k_507 k_2 ⟨rfl, hy_Presser_putNumber⟩ (by decide) rfl rfl (Nat.le_of_ble_eq_true rfl) (by decide) (fun v9 u23 ch22 => ?_)
        obtain ⟨b_24, p_25, f_26⟩ := u23
        obtain ⟨ech22, ch22⟩ := ch22
        have ech22 : v9 = none := ech22
        subst ech22
        obtain ⟨fh27, fh28, fh29, fh30⟩ : (b_24.toInt = b_15.toInt + m.toInt) ∧ (p_25.toInt = (b_24.toInt + 7) / 8) ∧ (pC_ f_26 p_25.toInt b_24.toInt (bn_ R v.toInt m.toInt.toNat)) ∧ (sb_Fit f_26) := ch22
        have nmF := fh29
        refine pb_eq (pc' := 50) (lo' := [(1, .int v), (2, .int m), (0, .ref h)]) (rest' := []) (ws' := [(h, .inr (4, [.ref pp, .ref pl, .ref pe, .ref pr, .int bg, .int sz, .int b_24, .int ln, .int ds])), (pp, .inr (0, [.ref pb, .int p_25])), (pb, .inl (G.2.1, 4502, .inl f_26))]) ?_
        exact pb_vret (pc := 50) hQ d_Presser_putDistance_50 rfl (b_24, p_25, f_26) ⟨rfl, (show b_24.toInt = bt.toInt + di_c ds.toInt from (by rw [di_dm (by omega)]; omega)), (by (try dsimp only); first | done | (with_reducible assumption) | omega (splitDisjunctions := false) | assumption | omega | decide), (show pC_ f_26 p_25.toInt b_24.toInt (do_ S ds.toInt) from (pC_c nmF rfl rfl (by rw [eR]; exact do_E mD (by omega) (by omega)))), fh30⟩ [0, 1, 2] (by decide) rfl rfl (by decide) (by decide)
      · have tw5 : ¬ i4.toInt < 4 := fun z9 => w5 ((ti_lt rfl (by decide)).mpr z9)
        refine pb_iincN (pc := 22) (c := 1) d_Presser_putDistance_22 1 rfl (by decide) (by decide) (fun i31 ei31 => ?_)
        have ti31 : i31.toInt = m.toInt + 1 := ti_add ei31 rfl (by decide) (by omega) (by omega)
        refine pb_eq (pc' := 25) (lo' := [(2, .int i31), (1, .int v), (0, .ref h)]) (rest' := []) (ws' := [(h, .inr (4, [.ref pp, .ref pl, .ref pe, .ref pr, .int bg, .int sz, .int bt, .int ln, .int ds])), (pp, .inr (0, [.ref pb, .int ps])), (pb, .inl (G.2.1, 4502, .inl f))]) ?_
        refine pb_goto (pc := 25) (tgt := 9) d_Presser_putDistance_25 (by decide) ?_
        refine pb_re (ws' := [(h, .inr (4, [.ref pp, .ref pl, .ref pe, .ref pr, .int bg, .int sz, .int bt, .int ln, .int ds])), (pp, .inr (0, [.ref pb, .int ps])), (pb, .inl (G.2.1, 4502, .inl f))]) (lo' := [(1, .int v), (2, .int i31), (0, .ref h)]) [0, 1, 2] [1, 0, 2] (by decide) rfl rfl rfl ?_
        exact ih9 v i31 (by first | (with_reducible assumption) | omega (splitDisjunctions := false) | assumption | omega | decide) (by first | (with_reducible assumption) | omega (splitDisjunctions := false) | assumption | omega | decide) (by have q9 := dv_ge (k := 4) (show (4 : Int) ≤ v.toInt / p2 m.toInt by omega) (by omega); have q8 := p2_9 (m := m.toInt) (by omega); omega) (Or.inr (by have q9 := dv_ge (k := 4) (show (4 : Int) ≤ v.toInt / p2 m.toInt by omega) (by omega); have q8 := p2_s (k := m.toInt) (m := i31.toInt) hm0 (by omega); omega)) (by omega)
  refine pb_re (ws' := [(h, .inr (4, [.ref pp, .ref pl, .ref pe, .ref pr, .int bg, .int sz, .int bt, .int ln, .int ds])), (pp, .inr (0, [.ref pb, .int ps])), (pb, .inl (G.2.1, 4502, .inl f))]) (lo' := [(1, .int i1), (2, .int 0), (0, .ref h)]) [0, 1, 2] [1, 0, 2] (by decide) rfl rfl rfl ?_
  exact hL9_2 _ i1 0 (by first | (with_reducible assumption) | omega (splitDisjunctions := false) | assumption | omega | decide) (by first | (with_reducible assumption) | omega (splitDisjunctions := false) | assumption | omega | decide) (by first | (with_reducible assumption) | omega (splitDisjunctions := false) | assumption | omega | decide) (by first | (with_reducible assumption) | omega (splitDisjunctions := false) | assumption | omega | decide) (Nat.lt_succ_self _)
theorem d_Presser_mixAt_0 : decode prog_8_method_6_code 0 = .ok (.aload_n 0, 1) := by decide +kernel
theorem d_Presser_mixAt_1 : decode prog_8_method_6_code 1 = .ok (.getfield 31, 3) := by decide +kernel
theorem k_187 : (Jvm.Cond.fieldLink "PackageBook$Presser" (31 : Nat) "PackageBook$Presser" "begin" "I") ∈ uW := uW_c0 70 rfl (by decide +kernel)
theorem d_Presser_mixAt_4 : decode prog_8_method_6_code 4 = .ok (.iload_n 1, 1) := by decide +kernel
theorem d_Presser_mixAt_5 : decode prog_8_method_6_code 5 = .ok (.iadd, 1) := by decide +kernel
theorem d_Presser_mixAt_6 : decode prog_8_method_6_code 6 = .ok (.istore_n 2, 1) := by decide +kernel
theorem d_Presser_mixAt_7 : decode prog_8_method_6_code 7 = .ok (.aload_n 0, 1) := by decide +kernel
theorem d_Presser_mixAt_8 : decode prog_8_method_6_code 8 = .ok (.getfield 27, 3) := by decide +kernel
theorem d_Presser_mixAt_11 : decode prog_8_method_6_code 11 = .ok (.iload_n 2, 1) := by decide +kernel
theorem d_Presser_mixAt_12 : decode prog_8_method_6_code 12 = .ok (.baload, 1) := by decide +kernel
theorem d_Presser_mixAt_13 : decode prog_8_method_6_code 13 = .ok (.bipush 6, 2) := by decide +kernel
theorem d_Presser_mixAt_15 : decode prog_8_method_6_code 15 = .ok (.ishl, 1) := by decide +kernel
theorem d_Presser_mixAt_16 : decode prog_8_method_6_code 16 = .ok (.aload_n 0, 1) := by decide +kernel
theorem d_Presser_mixAt_17 : decode prog_8_method_6_code 17 = .ok (.getfield 27, 3) := by decide +kernel
theorem d_Presser_mixAt_20 : decode prog_8_method_6_code 20 = .ok (.iload_n 2, 1) := by decide +kernel
theorem d_Presser_mixAt_21 : decode prog_8_method_6_code 21 = .ok (.iconst 1, 1) := by decide +kernel
theorem d_Presser_mixAt_22 : decode prog_8_method_6_code 22 = .ok (.iadd, 1) := by decide +kernel
theorem d_Presser_mixAt_23 : decode prog_8_method_6_code 23 = .ok (.baload, 1) := by decide +kernel
theorem d_Presser_mixAt_24 : decode prog_8_method_6_code 24 = .ok (.iconst 3, 1) := by decide +kernel
theorem d_Presser_mixAt_25 : decode prog_8_method_6_code 25 = .ok (.ishl, 1) := by decide +kernel
theorem d_Presser_mixAt_26 : decode prog_8_method_6_code 26 = .ok (.ixor, 1) := by decide +kernel
theorem d_Presser_mixAt_27 : decode prog_8_method_6_code 27 = .ok (.aload_n 0, 1) := by decide +kernel
theorem d_Presser_mixAt_28 : decode prog_8_method_6_code 28 = .ok (.getfield 27, 3) := by decide +kernel
theorem d_Presser_mixAt_31 : decode prog_8_method_6_code 31 = .ok (.iload_n 2, 1) := by decide +kernel
theorem d_Presser_mixAt_32 : decode prog_8_method_6_code 32 = .ok (.iconst 2, 1) := by decide +kernel
theorem d_Presser_mixAt_33 : decode prog_8_method_6_code 33 = .ok (.iadd, 1) := by decide +kernel
theorem d_Presser_mixAt_34 : decode prog_8_method_6_code 34 = .ok (.baload, 1) := by decide +kernel
theorem d_Presser_mixAt_35 : decode prog_8_method_6_code 35 = .ok (.ixor, 1) := by decide +kernel
theorem d_Presser_mixAt_36 : decode prog_8_method_6_code 36 = .ok (.sipush 1023, 3) := by decide +kernel
theorem d_Presser_mixAt_39 : decode prog_8_method_6_code 39 = .ok (.iand, 1) := by decide +kernel
theorem d_Presser_mixAt_40 : decode prog_8_method_6_code 40 = .ok (.ireturn, 1) := by decide +kernel
abbrev y_Presser_mixAt : MethodName := ⟨"PackageBook$Presser", "mixAt", "(I)I"⟩
abbrev i_Presser_mixAt : pb_I := (y_Presser_mixAt, prog_8_method_6_code, 3, (some Jvm.ClassFile.FieldType.int), [], { frames := 0, cells := 0, slots := 0, locals := 0 })
set_option maxRecDepth 100000 in
set_option maxHeartbeats 4000000 in
theorem g_Pr_mixAt {l : Launch} (hl : l.stackTraces = false) (G : pb_G) (h : Nat) (pp : Nat) (pl : Nat) (pe : Nat) (pr : Nat) (pb : Nat) (bg : Int32) (sz : Int32) (bt : Int32) (ln : Int32) (ds : Int32) (N : Nat) (fr : Nat → Int32) (x : Int32) (r0 : 0 ≤ bg.toInt) (r1 : bg.toInt + sz.toInt ≤ N) (r2 : N ≤ 100000) (r3 : sz.toInt ≤ 4000) (r4 : 0 ≤ sz.toInt) (x0 : 0 ≤ x.toInt) (x1 : x.toInt + 3 ≤ sz.toInt) (F_fr : sb_Fit fr) : Cn l G i_Presser_mixAt [.ref h, .int x] [(h, .inr (4, [.ref pp, .ref pl, .ref pe, .ref pr, .int bg, .int sz, .int bt, .int ln, .int ds])), (pr, .inl (G.2.1, N, .inl fr))] (S := Int32) (fun rv_ u => rv_ = some (.int u) ∧ (0 ≤ u.toInt) ∧ (u.toInt ≤ 1023) ∧ (u.toInt = mx_ (sq fr bg.toInt sz.toInt) x.toInt)) (fun u => [(h, .inr (4, [.ref pp, .ref pl, .ref pe, .ref pr, .int bg, .int sz, .int bt, .int ln, .int ds])), (pr, .inl (G.2.1, N, .inl fr))]) := by
  refine Cn.of hl (by decide +kernel) rfl (Nat.le_of_ble_eq_true rfl) (fun M hQ => ?_)
  refine pb_eq (pc' := 0) (lo' := [(0, .ref h), (1, .int x)]) (rest' := []) (ws' := [(h, .inr (4, [.ref pp, .ref pl, .ref pe, .ref pr, .int bg, .int sz, .int bt, .int ln, .int ds])), (pr, .inl (G.2.1, N, .inl fr))]) ?_
  have zl0 : (0 : Int32).toInt = 0 := by decide
  have zl1 : (1 : Int32).toInt = 1 := by decide
  have zl2 : (2 : Int32).toInt = 2 := by decide
  have zl3 : (3 : Int32).toInt = 3 := by decide
  have zl6 : (6 : Int32).toInt = 6 := by decide
  have zl1023 : (1023 : Int32).toInt = 1023 := by decide
  refine pb_aload_n (pc := 0) d_Presser_mixAt_0 0 rfl rfl ?_
  refine pb_get (pc := 1) d_Presser_mixAt_1 0 4 rfl rfl (by decide) in_Presser k_187 rfl ?_
  refine pb_iload_n (pc := 4) d_Presser_mixAt_4 1 rfl rfl ?_
  refine pb_iadd (pc := 5) d_Presser_mixAt_5 ?_
  refine pb_topi (fun i1 ei1 => ?_)
  try have ti1 : i1.toInt = bg.toInt + x.toInt := ti_add ei1 rfl rfl (by omega) (by omega)
  refine pb_istore_n (pc := 6) (lo' := [(2, .int i1), (0, .ref h), (1, .int x)]) d_Presser_mixAt_6 rfl (by decide) rfl ?_
  refine pb_aload_n (pc := 7) d_Presser_mixAt_7 1 rfl rfl ?_
  refine pb_get (pc := 8) d_Presser_mixAt_8 0 3 rfl rfl (by decide) in_Presser k_186 rfl ?_
  refine pb_iload_n (pc := 11) d_Presser_mixAt_11 0 rfl rfl ?_
  refine pb_bald (pc := 12) d_Presser_mixAt_12 1 rfl (vp_in_iff.mpr (by constructor <;> omega)) ?_
  refine pb_topi (fun i2 ei2 => ?_)
  have xi2 : i2 = gr fr (bg.toInt + x.toInt) := gr_ld ei2 (by omega)
  have yi2 : i2.toInt = gx fr (bg.toInt + x.toInt) := congrArg Int32.toInt xi2
  have ti2 : -128 ≤ i2.toInt ∧ i2.toInt ≤ 127 := ti_fit (F_fr _) ei2
  refine pb_bipush (pc := 13) (v := 6) d_Presser_mixAt_13 (by decide) ?_
  refine pb_ishl (pc := 15) d_Presser_mixAt_15 ?_
  refine pb_topi (fun i3 ei3 => ?_)
  try have ti3 : i3.toInt = i2.toInt * 64 := ti_shl ei3 rfl 6 (by decide) (by decide) (by omega) (by omega)
  refine pb_aload_n (pc := 16) d_Presser_mixAt_16 1 rfl rfl ?_
  refine pb_get (pc := 17) d_Presser_mixAt_17 0 3 rfl rfl (by decide) in_Presser k_186 rfl ?_
  refine pb_iload_n (pc := 20) d_Presser_mixAt_20 0 rfl rfl ?_
  refine pb_iconst (pc := 21) (v := 1) d_Presser_mixAt_21 (by decide) ?_
  refine pb_iadd (pc := 22) d_Presser_mixAt_22 ?_
  refine pb_topi (fun i4 ei4 => ?_)
  try have ti4 : i4.toInt = i1.toInt + 1 := ti_add ei4 rfl (by decide) (by omega) (by omega)
  refine pb_bald (pc := 23) d_Presser_mixAt_23 1 rfl (vp_in_iff.mpr (by constructor <;> omega)) ?_
  refine pb_topi (fun i5 ei5 => ?_)
  have xi5 : i5 = gr fr (bg.toInt + (x.toInt + 1)) := gr_ld ei5 (by omega)
  have yi5 : i5.toInt = gx fr (bg.toInt + (x.toInt + 1)) := congrArg Int32.toInt xi5
  have ti5 : -128 ≤ i5.toInt ∧ i5.toInt ≤ 127 := ti_fit (F_fr _) ei5
  refine pb_iconst (pc := 24) (v := 3) d_Presser_mixAt_24 (by decide) ?_
  refine pb_ishl (pc := 25) d_Presser_mixAt_25 ?_
  refine pb_topi (fun i6 ei6 => ?_)
  try have ti6 : i6.toInt = i5.toInt * 8 := ti_shl ei6 rfl 3 (by decide) (by decide) (by omega) (by omega)
  refine pb_ixor (pc := 26) d_Presser_mixAt_26 ?_
  refine pb_topi (fun i7 ei7 => ?_)
  refine pb_aload_n (pc := 27) d_Presser_mixAt_27 1 rfl rfl ?_
  refine pb_get (pc := 28) d_Presser_mixAt_28 0 3 rfl rfl (by decide) in_Presser k_186 rfl ?_
  refine pb_iload_n (pc := 31) d_Presser_mixAt_31 0 rfl rfl ?_
  refine pb_iconst (pc := 32) (v := 2) d_Presser_mixAt_32 (by decide) ?_
  refine pb_iadd (pc := 33) d_Presser_mixAt_33 ?_
  refine pb_topi (fun i8 ei8 => ?_)
  try have ti8 : i8.toInt = i1.toInt + 2 := ti_add ei8 rfl (by decide) (by omega) (by omega)
  refine pb_bald (pc := 34) d_Presser_mixAt_34 1 rfl (vp_in_iff.mpr (by constructor <;> omega)) ?_
  refine pb_topi (fun i9 ei9 => ?_)
  have xi9 : i9 = gr fr (bg.toInt + (x.toInt + 2)) := gr_ld ei9 (by omega)
  have yi9 : i9.toInt = gx fr (bg.toInt + (x.toInt + 2)) := congrArg Int32.toInt xi9
  have ti9 : -128 ≤ i9.toInt ∧ i9.toInt ≤ 127 := ti_fit (F_fr _) ei9
  refine pb_ixor (pc := 35) d_Presser_mixAt_35 ?_
  refine pb_topi (fun i10 ei10 => ?_)
  refine pb_sipush (pc := 36) (v := 1023) d_Presser_mixAt_36 (by decide) ?_
  refine pb_iand (pc := 39) d_Presser_mixAt_39 ?_
  refine pb_topi (fun i11 ei11 => ?_)
  have ti11 : 0 ≤ i11.toInt ∧ i11.toInt ≤ 1023 := ti_and 10 ei11 (by decide) (by decide)
  exact pb_iret (pc := 40) hQ d_Presser_mixAt_40 rfl rfl (i11) ⟨rfl, (by (try dsimp only); first | done | (with_reducible assumption) | omega (splitDisjunctions := false) | assumption | omega | decide), (by (try dsimp only); first | done | (with_reducible assumption) | omega (splitDisjunctions := false) | assumption | omega | decide), (show i11.toInt = mx_ (sq fr bg.toInt sz.toInt) x.toInt from (by unfold mx_; rw [sq_at (by omega) (by omega), sq_at (by omega) (by omega), sq_at (by omega) (by omega)]; exact congrArg Int32.toInt (by simp only [ei1, xi2, ei3, ei4, xi5, ei6, ei7, ei8, xi9, ei10, ei11])))⟩ [0, 1] (by decide) rfl rfl (by decide) (by decide)

theorem d_Presser_remember_0 : decode prog_8_method_5_code 0 = .ok (.aload_n 0, 1) := by decide +kernel
theorem d_Presser_remember_1 : decode prog_8_method_5_code 1 = .ok (.getfield 35, 3) := by decide +kernel
theorem k_188 : (Jvm.Cond.fieldLink "PackageBook$Presser" (35 : Nat) "PackageBook$Presser" "size" "I") ∈ uW := uW_c0 71 rfl (by decide +kernel)
theorem d_Presser_remember_4 : decode prog_8_method_5_code 4 = .ok (.iload_n 1, 1) := by decide +kernel
theorem d_Presser_remember_5 : decode prog_8_method_5_code 5 = .ok (.isub, 1) := by decide +kernel
theorem d_Presser_remember_6 : decode prog_8_method_5_code 6 = .ok (.iconst 3, 1) := by decide +kernel
theorem d_Presser_remember_7 : decode prog_8_method_5_code 7 = .ok (.if_icmp .lt 28, 3) := by decide +kernel
theorem d_Presser_remember_35 : decode prog_8_method_5_code 35 = .ok (.return_, 1) := by decide +kernel
theorem d_Presser_remember_10 : decode prog_8_method_5_code 10 = .ok (.aload_n 0, 1) := by decide +kernel
theorem d_Presser_remember_11 : decode prog_8_method_5_code 11 = .ok (.iload_n 1, 1) := by decide +kernel
theorem d_Presser_remember_12 : decode prog_8_method_5_code 12 = .ok (.invokevirtual 76, 3) := by decide +kernel
theorem k_516 : (Jvm.Cond.methodLink "PackageBook$Presser" (76 : Nat) ({ cls := "PackageBook$Presser", name := "mixAt", desc := "(I)I" } : Jvm.MethodName)) ∈ uW := uW_c1 159 rfl (by decide +kernel)
theorem k_519 : (Jvm.Cond.code ({ cls := "PackageBook$Presser", name := "mixAt", desc := "(I)I" } : Jvm.MethodName) prog_8_method_6_code (3 : Nat) (Option.some Jvm.ClassFile.FieldType.int)) ∈ uW := uW_c1 162 rfl (by decide +kernel)
theorem k_518 : (Jvm.Cond.instanceMethod ({ cls := "PackageBook$Presser", name := "mixAt", desc := "(I)I" } : Jvm.MethodName)) ∈ uW := uW_c1 161 rfl (by decide +kernel)
theorem k_4 : Cond.selects "PackageBook$Presser" ⟨"PackageBook$Presser", "mixAt", "(I)I"⟩ ⟨"PackageBook$Presser", "mixAt", "(I)I"⟩ ∈ uW := uW_of 4 (by decide +kernel) (by decide +kernel)
theorem hy_Presser_mixAt : (y_Presser_mixAt).cls ≠ "java/lang/invoke/MethodHandle" ∧ (y_Presser_mixAt).cls ≠ "java/lang/invoke/VarHandle" ∧ (parseMethodDescriptor (y_Presser_mixAt).desc).map (fun d => d.parameters.length) = some 1 := by decide +kernel
theorem d_Presser_remember_15 : decode prog_8_method_5_code 15 = .ok (.istore_n 2, 1) := by decide +kernel
theorem d_Presser_remember_16 : decode prog_8_method_5_code 16 = .ok (.aload_n 0, 1) := by decide +kernel
theorem d_Presser_remember_17 : decode prog_8_method_5_code 17 = .ok (.getfield 24, 3) := by decide +kernel
theorem d_Presser_remember_20 : decode prog_8_method_5_code 20 = .ok (.iload_n 1, 1) := by decide +kernel
theorem d_Presser_remember_21 : decode prog_8_method_5_code 21 = .ok (.aload_n 0, 1) := by decide +kernel
theorem d_Presser_remember_22 : decode prog_8_method_5_code 22 = .ok (.getfield 20, 3) := by decide +kernel
theorem d_Presser_remember_25 : decode prog_8_method_5_code 25 = .ok (.iload_n 2, 1) := by decide +kernel
theorem d_Presser_remember_26 : decode prog_8_method_5_code 26 = .ok (.iaload, 1) := by decide +kernel
theorem d_Presser_remember_27 : decode prog_8_method_5_code 27 = .ok (.iastore, 1) := by decide +kernel
theorem d_Presser_remember_28 : decode prog_8_method_5_code 28 = .ok (.aload_n 0, 1) := by decide +kernel
theorem d_Presser_remember_29 : decode prog_8_method_5_code 29 = .ok (.getfield 20, 3) := by decide +kernel
theorem d_Presser_remember_32 : decode prog_8_method_5_code 32 = .ok (.iload_n 2, 1) := by decide +kernel
theorem d_Presser_remember_33 : decode prog_8_method_5_code 33 = .ok (.iload_n 1, 1) := by decide +kernel
theorem d_Presser_remember_34 : decode prog_8_method_5_code 34 = .ok (.iastore, 1) := by decide +kernel
abbrev y_Presser_remember : MethodName := ⟨"PackageBook$Presser", "remember", "(I)V"⟩
abbrev i_Presser_remember : pb_I := (y_Presser_remember, prog_8_method_5_code, 3, (Option.none : Option Jvm.ClassFile.FieldType), [], { frames := 1, cells := 0, slots := 0, locals := 22 })
set_option maxRecDepth 100000 in
set_option maxHeartbeats 4000000 in
theorem g_Pr_remember {l : Launch} (hl : l.stackTraces = false) (G : pb_G) (h : Nat) (pp : Nat) (pl : Nat) (pe : Nat) (pr : Nat) (pb : Nat) (bg : Int32) (sz : Int32) (bt : Int32) (ln : Int32) (ds : Int32) (N : Nat) (fr : Nat → Int32) (fl : Nat → Int32) (fe : Nat → Int32) (x : Int32) (r0 : 0 ≤ bg.toInt) (r1 : bg.toInt + sz.toInt ≤ N) (r2 : N ≤ 100000) (r3 : sz.toInt ≤ 4000) (r4 : 0 ≤ sz.toInt) (x0 : 0 ≤ x.toInt) (x1 : x.toInt < sz.toInt) (I : ch_I (sq fr bg.toInt sz.toInt) sz.toInt x.toInt fl fe) (F_fr : sb_Fit fr) : Cn l G i_Presser_remember [.ref h, .int x] [(h, .inr (4, [.ref pp, .ref pl, .ref pe, .ref pr, .int bg, .int sz, .int bt, .int ln, .int ds])), (pr, .inl (G.2.1, N, .inl fr)), (pl, .inl (G.2.2.1, 1024, .inl fl)), (pe, .inl (G.2.2.1, 4000, .inl fe))] (S := (Nat → Int32) × (Nat → Int32)) (fun rv_ u => rv_ = none ∧ (ch_I (sq fr bg.toInt sz.toInt) sz.toInt (x.toInt + 1) u.1 u.2)) (fun u => [(h, .inr (4, [.ref pp, .ref pl, .ref pe, .ref pr, .int bg, .int sz, .int bt, .int ln, .int ds])), (pr, .inl (G.2.1, N, .inl fr)), (pl, .inl (G.2.2.1, 1024, .inl u.1)), (pe, .inl (G.2.2.1, 4000, .inl u.2))]) := by
  refine Cn.of hl (by decide +kernel) rfl (Nat.le_of_ble_eq_true rfl) (fun M hQ => ?_)
  refine pb_eq (pc' := 0) (lo' := [(0, .ref h), (1, .int x)]) (rest' := []) (ws' := [(h, .inr (4, [.ref pp, .ref pl, .ref pe, .ref pr, .int bg, .int sz, .int bt, .int ln, .int ds])), (pr, .inl (G.2.1, N, .inl fr)), (pl, .inl (G.2.2.1, 1024, .inl fl)), (pe, .inl (G.2.2.1, 4000, .inl fe))]) ?_
  have zl0 : (0 : Int32).toInt = 0 := by decide
  have zl1 : (1 : Int32).toInt = 1 := by decide
  have zl3 : (3 : Int32).toInt = 3 := by decide
  refine pb_aload_n (pc := 0) d_Presser_remember_0 0 rfl rfl ?_
  refine pb_get (pc := 1) d_Presser_remember_1 0 5 rfl rfl (by decide) in_Presser k_188 rfl ?_
  refine pb_iload_n (pc := 4) d_Presser_remember_4 1 rfl rfl ?_
  refine pb_isub (pc := 5) d_Presser_remember_5 ?_
  refine pb_topi (fun i1 ei1 => ?_)
  try have ti1 : i1.toInt = sz.toInt - x.toInt := ti_sub ei1 rfl rfl (by omega) (by omega)
  refine pb_iconst (pc := 6) (v := 3) d_Presser_remember_6 (by decide) ?_
  refine pb_icmp_lt (pc := 7) (tgt := 35) d_Presser_remember_7 (by decide) (fun w2 => ?_) (fun w2 => ?_)
  · have tw2 : i1.toInt < 3 := (ti_lt rfl (by decide)).mp w2
    exact pb_vret (pc := 35) hQ d_Presser_remember_35 rfl (fl, fe) ⟨rfl, (show ch_I (sq fr bg.toInt sz.toInt) sz.toInt (x.toInt + 1) fl fe from (by first | exact ch_skip I (by omega) rfl | exact ch_step I (by omega) (by omega) (by assumption) rfl rfl (by omega) (by omega) (by omega) rfl rfl))⟩ [0, 1, 2, 3] (by decide) rfl rfl (by decide) (by decide)
  · have tw2 : ¬ i1.toInt < 3 := fun z9 => w2 ((ti_lt rfl (by decide)).mpr z9)
    refine pb_aload_n (pc := 10) d_Presser_remember_10 0 rfl rfl ?_
    refine pb_iload_n (pc := 11) d_Presser_remember_11 1 rfl rfl ?_
    refine pb_callV (pc := 12) (I := i_Presser_remember) (qb := 0) (ci := 4) (nA := 1) (rest := []) (wr := [(pl, .inl (G.2.2.1, 1024, .inl fl)), (pe, .inl (G.2.2.1, 4000, .inl fe))]) d_Presser_remember_12 (g_Pr_mixAt hl G h pp pl pe pr pb bg sz bt ln ds N fr x (by first | (with_reducible assumption) | omega (splitDisjunctions := false) | assumption | omega | decide) (by first | (with_reducible assumption) | omega (splitDisjunctions := false) | assumption | omega | decide) (by first | (with_reducible assumption) | omega (splitDisjunctions := false) | assumption | omega | decide) (by first | (with_reducible assumption) | omega (splitDisjunctions := false) | assumption | omega | decide) (by first | (with_reducible assumption) | omega (splitDisjunctions := false) | assumption | omega | decide) (by first | (with_reducible assumption) | omega (splitDisjunctions := false) | assumption | omega | decide) (by first | (with_reducible assumption) | omega (splitDisjunctions := false) | assumption | omega | decide) F_fr) rfl rfl [0, 1] [2, 3] (by decide) rfl rfl rfl (by decide) (by decide) k_519 rfl k_120 k_516 k_518 k_4 ⟨rfl, hy_Presser_mixAt⟩ (by decide) rfl rfl (Nat.le_of_ble_eq_true rfl) (by decide) (fun v9 u4 ch3 => ?_)
    obtain ⟨r_5, rfl⟩ : ∃ z9, z9 = u4 := ⟨_, rfl⟩
    obtain ⟨ech3, ch3⟩ := ch3
    have ech3 : v9 = some (.int r_5) := ech3
    subst ech3
    obtain ⟨fh6, fh7, fh8⟩ : (0 ≤ r_5.toInt) ∧ (r_5.toInt ≤ 1023) ∧ (r_5.toInt = mx_ (sq fr bg.toInt sz.toInt) x.toInt) := ch3
    refine pb_eq (pc' := 15) (lo' := [(0, .ref h), (1, .int x)]) (rest' := [.int r_5]) (ws' := [(pl, .inl (G.2.2.1, 1024, .inl fl)), (pe, .inl (G.2.2.1, 4000, .inl fe)), (h, .inr (4, [.ref pp, .ref pl, .ref pe, .ref pr, .int bg, .int sz, .int bt, .int ln, .int ds])), (pr, .inl (G.2.1, N, .inl fr))]) ?_
    refine pb_istore_n (pc := 15) (lo' := [(2, .int r_5), (0, .ref h), (1, .int x)]) d_Presser_remember_15 rfl (by decide) rfl ?_
    refine pb_aload_n (pc := 16) d_Presser_remember_16 1 rfl rfl ?_
    refine pb_get (pc := 17) d_Presser_remember_17 2 2 rfl rfl (by decide) in_Presser k_185 rfl ?_
    refine pb_iload_n (pc := 20) d_Presser_remember_20 2 rfl rfl ?_
    refine pb_aload_n (pc := 21) d_Presser_remember_21 1 rfl rfl ?_
    refine pb_get (pc := 22) d_Presser_remember_22 2 1 rfl rfl (by decide) in_Presser k_184 rfl ?_
    refine pb_iload_n (pc := 25) d_Presser_remember_25 0 rfl rfl ?_
    refine pb_iald (pc := 26) d_Presser_remember_26 0 rfl (vp_in_iff.mpr (by constructor <;> omega)) ?_
    refine pb_topi (fun i9 ei9 => ?_)
    have ti9 : i9.toInt = gx fl (r_5.toInt) := gx_ld ei9 rfl
    refine pb_iast (pc := 27) (ws' := [(pl, .inl (G.2.2.1, 1024, .inl fl)), (pe, .inl (G.2.2.1, 4000, .inl (upd fe ((x : Int32).toNatClampNeg) i9))), (h, .inr (4, [.ref pp, .ref pl, .ref pe, .ref pr, .int bg, .int sz, .int bt, .int ln, .int ds])), (pr, .inl (G.2.1, N, .inl fr))]) d_Presser_remember_27 1 rfl (vp_in_iff.mpr (by constructor <;> omega)) rfl ?_
    refine pb_aload_n (pc := 28) d_Presser_remember_28 1 rfl rfl ?_
    refine pb_get (pc := 29) d_Presser_remember_29 2 1 rfl rfl (by decide) in_Presser k_184 rfl ?_
    refine pb_iload_n (pc := 32) d_Presser_remember_32 0 rfl rfl ?_
    refine pb_iload_n (pc := 33) d_Presser_remember_33 2 rfl rfl ?_
    refine pb_iast (pc := 34) (ws' := [(pl, .inl (G.2.2.1, 1024, .inl (upd fl ((r_5 : Int32).toNatClampNeg) x))), (pe, .inl (G.2.2.1, 4000, .inl (upd fe ((x : Int32).toNatClampNeg) i9))), (h, .inr (4, [.ref pp, .ref pl, .ref pe, .ref pr, .int bg, .int sz, .int bt, .int ln, .int ds])), (pr, .inl (G.2.1, N, .inl fr))]) d_Presser_remember_34 0 rfl (vp_in_iff.mpr (by constructor <;> omega)) rfl ?_
    exact pb_vret (pc := 35) hQ d_Presser_remember_35 rfl ((upd fl ((r_5 : Int32).toNatClampNeg) x), (upd fe ((x : Int32).toNatClampNeg) i9)) ⟨rfl, (show ch_I (sq fr bg.toInt sz.toInt) sz.toInt (x.toInt + 1) (upd fl ((r_5 : Int32).toNatClampNeg) x) (upd fe ((x : Int32).toNatClampNeg) i9) from (by first | exact ch_skip I (by omega) rfl | exact ch_step I (by omega) (by omega) (by assumption) rfl rfl (by omega) (by omega) (by omega) rfl rfl))⟩ [2, 3, 0, 1] (by decide) rfl rfl (by decide) (by decide)

theorem d_Presser_sameFrom_0 : decode prog_8_method_4_code 0 = .ok (.iconst 0, 1) := by decide +kernel
theorem d_Presser_sameFrom_1 : decode prog_8_method_4_code 1 = .ok (.istore 4, 2) := by decide +kernel
theorem d_Presser_sameFrom_3 : decode prog_8_method_4_code 3 = .ok (.iload 4, 2) := by decide +kernel
theorem d_Presser_sameFrom_5 : decode prog_8_method_4_code 5 = .ok (.iload_n 3, 1) := by decide +kernel
theorem d_Presser_sameFrom_6 : decode prog_8_method_4_code 6 = .ok (.if_icmp .ge 40, 3) := by decide +kernel
theorem d_Presser_sameFrom_46 : decode prog_8_method_4_code 46 = .ok (.iload 4, 2) := by decide +kernel
theorem d_Presser_sameFrom_48 : decode prog_8_method_4_code 48 = .ok (.ireturn, 1) := by decide +kernel
theorem d_Presser_sameFrom_9 : decode prog_8_method_4_code 9 = .ok (.aload_n 0, 1) := by decide +kernel
theorem d_Presser_sameFrom_10 : decode prog_8_method_4_code 10 = .ok (.getfield 27, 3) := by decide +kernel
theorem d_Presser_sameFrom_13 : decode prog_8_method_4_code 13 = .ok (.aload_n 0, 1) := by decide +kernel
theorem d_Presser_sameFrom_14 : decode prog_8_method_4_code 14 = .ok (.getfield 31, 3) := by decide +kernel
theorem d_Presser_sameFrom_17 : decode prog_8_method_4_code 17 = .ok (.iload_n 1, 1) := by decide +kernel
theorem d_Presser_sameFrom_18 : decode prog_8_method_4_code 18 = .ok (.iadd, 1) := by decide +kernel
theorem d_Presser_sameFrom_19 : decode prog_8_method_4_code 19 = .ok (.iload 4, 2) := by decide +kernel
theorem d_Presser_sameFrom_21 : decode prog_8_method_4_code 21 = .ok (.iadd, 1) := by decide +kernel
theorem d_Presser_sameFrom_22 : decode prog_8_method_4_code 22 = .ok (.baload, 1) := by decide +kernel
theorem d_Presser_sameFrom_23 : decode prog_8_method_4_code 23 = .ok (.aload_n 0, 1) := by decide +kernel
theorem d_Presser_sameFrom_24 : decode prog_8_method_4_code 24 = .ok (.getfield 27, 3) := by decide +kernel
theorem d_Presser_sameFrom_27 : decode prog_8_method_4_code 27 = .ok (.aload_n 0, 1) := by decide +kernel
theorem d_Presser_sameFrom_28 : decode prog_8_method_4_code 28 = .ok (.getfield 31, 3) := by decide +kernel
theorem d_Presser_sameFrom_31 : decode prog_8_method_4_code 31 = .ok (.iload_n 2, 1) := by decide +kernel
theorem d_Presser_sameFrom_32 : decode prog_8_method_4_code 32 = .ok (.iadd, 1) := by decide +kernel
theorem d_Presser_sameFrom_33 : decode prog_8_method_4_code 33 = .ok (.iload 4, 2) := by decide +kernel
theorem d_Presser_sameFrom_35 : decode prog_8_method_4_code 35 = .ok (.iadd, 1) := by decide +kernel
theorem d_Presser_sameFrom_36 : decode prog_8_method_4_code 36 = .ok (.baload, 1) := by decide +kernel
theorem d_Presser_sameFrom_37 : decode prog_8_method_4_code 37 = .ok (.if_icmp .ne 9, 3) := by decide +kernel
theorem d_Presser_sameFrom_40 : decode prog_8_method_4_code 40 = .ok (.iinc 4 1, 3) := by decide +kernel
theorem d_Presser_sameFrom_43 : decode prog_8_method_4_code 43 = .ok (.goto (-40), 3) := by decide +kernel
abbrev y_Presser_sameFrom : MethodName := ⟨"PackageBook$Presser", "sameFrom", "(III)I"⟩
abbrev i_Presser_sameFrom : pb_I := (y_Presser_sameFrom, prog_8_method_4_code, 5, (some Jvm.ClassFile.FieldType.int), [], { frames := 0, cells := 0, slots := 0, locals := 0 })
set_option maxRecDepth 100000 in
set_option maxHeartbeats 4000000 in
theorem g_Pr_sameFrom {l : Launch} (hl : l.stackTraces = false) (G : pb_G) (h : Nat) (pp : Nat) (pl : Nat) (pe : Nat) (pr : Nat) (pb : Nat) (bg : Int32) (sz : Int32) (bt : Int32) (ln : Int32) (ds : Int32) (N : Nat) (fr : Nat → Int32) (x : Int32) (y : Int32) (n : Int32) (r0 : 0 ≤ bg.toInt) (r1 : bg.toInt + sz.toInt ≤ N) (r2 : N ≤ 100000) (r3 : sz.toInt ≤ 4000) (r4 : 0 ≤ sz.toInt) (x0 : 0 ≤ x.toInt) (x1 : x.toInt ≤ y.toInt) (x2 : y.toInt + n.toInt ≤ sz.toInt) (x3 : 0 ≤ n.toInt) (F_fr : sb_Fit fr) : Cn l G i_Presser_sameFrom [.ref h, .int x, .int y, .int n] [(h, .inr (4, [.ref pp, .ref pl, .ref pe, .ref pr, .int bg, .int sz, .int bt, .int ln, .int ds])), (pr, .inl (G.2.1, N, .inl fr))] (S := Int32) (fun rv_ u => rv_ = some (.int u) ∧ (sm_R (sq fr bg.toInt sz.toInt) x.toInt y.toInt n.toInt u.toInt)) (fun u => [(h, .inr (4, [.ref pp, .ref pl, .ref pe, .ref pr, .int bg, .int sz, .int bt, .int ln, .int ds])), (pr, .inl (G.2.1, N, .inl fr))]) := by
  refine Cn.of hl (by decide +kernel) rfl (Nat.le_of_ble_eq_true rfl) (fun M hQ => ?_)
  refine pb_eq (pc' := 0) (lo' := [(0, .ref h), (1, .int x), (2, .int y), (3, .int n)]) (rest' := []) (ws' := [(h, .inr (4, [.ref pp, .ref pl, .ref pe, .ref pr, .int bg, .int sz, .int bt, .int ln, .int ds])), (pr, .inl (G.2.1, N, .inl fr))]) ?_
  have zl0 : (0 : Int32).toInt = 0 := by decide
  have zl1 : (1 : Int32).toInt = 1 := by decide
  refine pb_iconst (pc := 0) (v := 0) d_Presser_sameFrom_0 (by decide) ?_
  refine pb_istore (pc := 1) (lo' := [(4, .int 0), (0, .ref h), (1, .int x), (2, .int y), (3, .int n)]) d_Presser_sameFrom_1 (by decide) rfl ?_
  have hL3_1 : ∀ (N9 : Nat) (k : Int32), (0 ≤ k.toInt) → (k.toInt ≤ n.toInt) → (∀ j : Int, 0 ≤ j → j < k.toInt → gr fr (bg.toInt + x.toInt + j) = gr fr (bg.toInt + y.toInt + j)) → ((n.toInt - k.toInt).toNat) < N9 → pb_P l G M i_Presser_sameFrom 3 [(4, .int k), (0, .ref h), (1, .int x), (2, .int y), (3, .int n)] [] [(h, .inr (4, [.ref pp, .ref pl, .ref pe, .ref pr, .int bg, .int sz, .int bt, .int ln, .int ds])), (pr, .inl (G.2.1, N, .inl fr))] 0 0 := by
    intro N9
    induction N9 with
    | zero => intro k hk hk2 hg hm9; exact absurd hm9 (Nat.not_lt_zero _)
    | succ N9 ih3 =>
      intro k hk hk2 hg hm9
      refine pb_iload (pc := 3) d_Presser_sameFrom_3 0 rfl ?_
      refine pb_iload_n (pc := 5) d_Presser_sameFrom_5 4 rfl rfl ?_
      refine pb_icmp_ge (pc := 6) (tgt := 46) d_Presser_sameFrom_6 (by decide) (fun w2 => ?_) (fun w2 => ?_)
      · have tw2 : n.toInt ≤ k.toInt := (ti_le rfl rfl).mp w2
        refine pb_iload (pc := 46) d_Presser_sameFrom_46 0 rfl ?_
        exact pb_iret (pc := 48) hQ d_Presser_sameFrom_48 rfl rfl (k) ⟨rfl, (show sm_R (sq fr bg.toInt sz.toInt) x.toInt y.toInt n.toInt k.toInt from (sm_of hk hk2 x0 x1 x2 rfl rfl hg (by first | exact fun q9 => absurd q9 (by omega) | exact fun _ => nb_ne (by assumption) (by assumption) (by assumption))))⟩ [0, 1] (by decide) rfl rfl (by decide) (by decide)
      · have tw2 : ¬ n.toInt ≤ k.toInt := fun z9 => w2 ((ti_le rfl rfl).mpr z9)
        refine pb_aload_n (pc := 9) d_Presser_sameFrom_9 1 rfl rfl ?_
        refine pb_get (pc := 10) d_Presser_sameFrom_10 0 3 rfl rfl (by decide) in_Presser k_186 rfl ?_
        refine pb_aload_n (pc := 13) d_Presser_sameFrom_13 1 rfl rfl ?_
        refine pb_get (pc := 14) d_Presser_sameFrom_14 0 4 rfl rfl (by decide) in_Presser k_187 rfl ?_
        refine pb_iload_n (pc := 17) d_Presser_sameFrom_17 2 rfl rfl ?_
        refine pb_iadd (pc := 18) d_Presser_sameFrom_18 ?_
        refine pb_topi (fun i3 ei3 => ?_)
        try have ti3 : i3.toInt = bg.toInt + x.toInt := ti_add ei3 rfl rfl (by omega) (by omega)
        refine pb_iload (pc := 19) d_Presser_sameFrom_19 0 rfl ?_
        refine pb_iadd (pc := 21) d_Presser_sameFrom_21 ?_
        refine pb_topi (fun i4 ei4 => ?_)
        try have ti4 : i4.toInt = i3.toInt + k.toInt := ti_add ei4 rfl rfl (by omega) (by omega)
        refine pb_bald (pc := 22) d_Presser_sameFrom_22 1 rfl (vp_in_iff.mpr (by constructor <;> omega)) ?_
        refine pb_topi (fun i5 ei5 => ?_)
        have xi5 : i5 = gr fr (bg.toInt + x.toInt + k.toInt) := gr_ld ei5 (by omega)
        have yi5 : i5.toInt = gx fr (bg.toInt + x.toInt + k.toInt) := congrArg Int32.toInt xi5
        have ti5 : -128 ≤ i5.toInt ∧ i5.toInt ≤ 127 := ti_fit (F_fr _) ei5
        refine pb_aload_n (pc := 23) d_Presser_sameFrom_23 1 rfl rfl ?_
        refine pb_get (pc := 24) d_Presser_sameFrom_24 0 3 rfl rfl (by decide) in_Presser k_186 rfl ?_
        refine pb_aload_n (pc := 27) d_Presser_sameFrom_27 1 rfl rfl ?_
        refine pb_get (pc := 28) d_Presser_sameFrom_28 0 4 rfl rfl (by decide) in_Presser k_187 rfl ?_
        refine pb_iload_n (pc := 31) d_Presser_sameFrom_31 3 rfl rfl ?_
        refine pb_iadd (pc := 32) d_Presser_sameFrom_32 ?_
        refine pb_topi (fun i6 ei6 => ?_)
        try have ti6 : i6.toInt = bg.toInt + y.toInt := ti_add ei6 rfl rfl (by omega) (by omega)
        refine pb_iload (pc := 33) d_Presser_sameFrom_33 0 rfl ?_
        refine pb_iadd (pc := 35) d_Presser_sameFrom_35 ?_
        refine pb_topi (fun i7 ei7 => ?_)
        try have ti7 : i7.toInt = i6.toInt + k.toInt := ti_add ei7 rfl rfl (by omega) (by omega)
        refine pb_bald (pc := 36) d_Presser_sameFrom_36 1 rfl (vp_in_iff.mpr (by constructor <;> omega)) ?_
        refine pb_topi (fun i8 ei8 => ?_)
        have xi8 : i8 = gr fr (bg.toInt + y.toInt + k.toInt) := gr_ld ei8 (by omega)
        have yi8 : i8.toInt = gx fr (bg.toInt + y.toInt + k.toInt) := congrArg Int32.toInt xi8
        have ti8 : -128 ≤ i8.toInt ∧ i8.toInt ≤ 127 := ti_fit (F_fr _) ei8
        refine pb_icmp_ne (pc := 37) (tgt := 46) d_Presser_sameFrom_37 (by decide) (fun w9 => ?_) (fun w9 => ?_)
        · have tw9 : ¬ i5.toInt = i8.toInt := fun z9 => w9 ((ti_eq rfl rfl).mpr z9)
          refine pb_iload (pc := 46) d_Presser_sameFrom_46 0 rfl ?_
          exact pb_iret (pc := 48) hQ d_Presser_sameFrom_48 rfl rfl (k) ⟨rfl, (show sm_R (sq fr bg.toInt sz.toInt) x.toInt y.toInt n.toInt k.toInt from (sm_of hk hk2 x0 x1 x2 rfl rfl hg (by first | exact fun q9 => absurd q9 (by omega) | exact fun _ => nb_ne (by assumption) (by assumption) (by assumption))))⟩ [0, 1] (by decide) rfl rfl (by decide) (by decide)
        · have tw9 : i5.toInt = i8.toInt := (ti_eq rfl rfl).mp w9
          refine pb_iincN (pc := 40) (c := 1) d_Presser_sameFrom_40 0 rfl (by decide) (by decide) (fun i10 ei10 => ?_)
          have ti10 : i10.toInt = k.toInt + 1 := ti_add ei10 rfl (by decide) (by omega) (by omega)
          refine pb_eq (pc' := 43) (lo' := [(4, .int i10), (0, .ref h), (1, .int x), (2, .int y), (3, .int n)]) (rest' := []) (ws' := [(h, .inr (4, [.ref pp, .ref pl, .ref pe, .ref pr, .int bg, .int sz, .int bt, .int ln, .int ds])), (pr, .inl (G.2.1, N, .inl fr))]) ?_
          refine pb_goto (pc := 43) (tgt := 3) d_Presser_sameFrom_43 (by decide) ?_
          exact ih3 i10 (by first | (with_reducible assumption) | omega (splitDisjunctions := false) | assumption | omega | decide) (by first | (with_reducible assumption) | omega (splitDisjunctions := false) | assumption | omega | decide) (nb_st hg (by omega) (nb_eq (by assumption) (by assumption) (by assumption))) (by (exact omg_7c8a06b1f5 hm9 tw2 ti10))
  exact hL3_1 _ 0 (by first | (with_reducible assumption) | omega (splitDisjunctions := false) | assumption | omega | decide) (by first | (with_reducible assumption) | omega (splitDisjunctions := false) | assumption | omega | decide) (fun j h0 h1 => absurd h1 (by omega)) (Nat.lt_succ_self _)

theorem d_Presser_findLongest_0 : decode prog_8_method_3_code 0 = .ok (.sipush 258, 3) := by decide +kernel
theorem d_Presser_findLongest_3 : decode prog_8_method_3_code 3 = .ok (.aload_n 0, 1) := by decide +kernel
theorem d_Presser_findLongest_4 : decode prog_8_method_3_code 4 = .ok (.getfield 35, 3) := by decide +kernel
theorem d_Presser_findLongest_7 : decode prog_8_method_3_code 7 = .ok (.iload_n 1, 1) := by decide +kernel
theorem d_Presser_findLongest_8 : decode prog_8_method_3_code 8 = .ok (.isub, 1) := by decide +kernel
theorem d_Presser_findLongest_9 : decode prog_8_method_3_code 9 = .ok (.invokestatic 70, 3) := by decide +kernel
theorem k_513 : (Jvm.Cond.methodLink "PackageBook$Presser" (70 : Nat) ({ cls := "java/lang/Math", name := "min", desc := "(II)I" } : Jvm.MethodName)) ∈ uW := uW_c1 156 rfl (by decide +kernel)
theorem k_514 : (Jvm.Cond.static ({ cls := "java/lang/Math", name := "min", desc := "(II)I" } : Jvm.MethodName)) ∈ uW := uW_c1 157 rfl (by decide +kernel)
theorem k_137 : (Jvm.Cond.initialized "java/lang/Math") ∈ uW := uW_c0 20 rfl (by decide +kernel)
theorem k_515 : (Jvm.Cond.code ({ cls := "java/lang/Math", name := "min", desc := "(II)I" } : Jvm.MethodName) prog_16_method_69_code (2 : Nat) (Option.some Jvm.ClassFile.FieldType.int)) ∈ uW := uW_c1 158 rfl (by decide +kernel)
theorem d_Presser_findLongest_12 : decode prog_8_method_3_code 12 = .ok (.istore_n 2, 1) := by decide +kernel
theorem d_Presser_findLongest_13 : decode prog_8_method_3_code 13 = .ok (.aload_n 0, 1) := by decide +kernel
theorem d_Presser_findLongest_14 : decode prog_8_method_3_code 14 = .ok (.iconst 1, 1) := by decide +kernel
theorem d_Presser_findLongest_15 : decode prog_8_method_3_code 15 = .ok (.putfield 55, 3) := by decide +kernel
theorem d_Presser_findLongest_18 : decode prog_8_method_3_code 18 = .ok (.iload_n 2, 1) := by decide +kernel
theorem d_Presser_findLongest_19 : decode prog_8_method_3_code 19 = .ok (.iconst 3, 1) := by decide +kernel
theorem d_Presser_findLongest_20 : decode prog_8_method_3_code 20 = .ok (.if_icmp .ge 4, 3) := by decide +kernel
theorem d_Presser_findLongest_24 : decode prog_8_method_3_code 24 = .ok (.aload_n 0, 1) := by decide +kernel
theorem d_Presser_findLongest_25 : decode prog_8_method_3_code 25 = .ok (.getfield 20, 3) := by decide +kernel
theorem d_Presser_findLongest_28 : decode prog_8_method_3_code 28 = .ok (.aload_n 0, 1) := by decide +kernel
theorem d_Presser_findLongest_29 : decode prog_8_method_3_code 29 = .ok (.iload_n 1, 1) := by decide +kernel
theorem d_Presser_findLongest_30 : decode prog_8_method_3_code 30 = .ok (.invokevirtual 76, 3) := by decide +kernel
theorem d_Presser_findLongest_33 : decode prog_8_method_3_code 33 = .ok (.iaload, 1) := by decide +kernel
theorem d_Presser_findLongest_34 : decode prog_8_method_3_code 34 = .ok (.istore_n 3, 1) := by decide +kernel
theorem d_Presser_findLongest_35 : decode prog_8_method_3_code 35 = .ok (.iconst 0, 1) := by decide +kernel
theorem d_Presser_findLongest_36 : decode prog_8_method_3_code 36 = .ok (.istore 4, 2) := by decide +kernel
theorem d_Presser_findLongest_38 : decode prog_8_method_3_code 38 = .ok (.iload 4, 2) := by decide +kernel
theorem d_Presser_findLongest_40 : decode prog_8_method_3_code 40 = .ok (.iload_n 1, 1) := by decide +kernel
theorem d_Presser_findLongest_41 : decode prog_8_method_3_code 41 = .ok (.if_icmp .ge 65, 3) := by decide +kernel
theorem d_Presser_findLongest_106 : decode prog_8_method_3_code 106 = .ok (.return_, 1) := by decide +kernel
theorem d_Presser_findLongest_44 : decode prog_8_method_3_code 44 = .ok (.iload_n 3, 1) := by decide +kernel
theorem d_Presser_findLongest_45 : decode prog_8_method_3_code 45 = .ok (.ifCond .lt 61, 3) := by decide +kernel
theorem d_Presser_findLongest_48 : decode prog_8_method_3_code 48 = .ok (.aload_n 0, 1) := by decide +kernel
theorem d_Presser_findLongest_49 : decode prog_8_method_3_code 49 = .ok (.getfield 55, 3) := by decide +kernel
theorem d_Presser_findLongest_52 : decode prog_8_method_3_code 52 = .ok (.iload_n 2, 1) := by decide +kernel
theorem d_Presser_findLongest_53 : decode prog_8_method_3_code 53 = .ok (.if_icmp .ge 53, 3) := by decide +kernel
theorem d_Presser_findLongest_56 : decode prog_8_method_3_code 56 = .ok (.aload_n 0, 1) := by decide +kernel
theorem d_Presser_findLongest_57 : decode prog_8_method_3_code 57 = .ok (.iload_n 3, 1) := by decide +kernel
theorem d_Presser_findLongest_58 : decode prog_8_method_3_code 58 = .ok (.iload_n 1, 1) := by decide +kernel
theorem d_Presser_findLongest_59 : decode prog_8_method_3_code 59 = .ok (.iload_n 2, 1) := by decide +kernel
theorem d_Presser_findLongest_60 : decode prog_8_method_3_code 60 = .ok (.invokevirtual 80, 3) := by decide +kernel
theorem k_520 : (Jvm.Cond.methodLink "PackageBook$Presser" (80 : Nat) ({ cls := "PackageBook$Presser", name := "sameFrom", desc := "(III)I" } : Jvm.MethodName)) ∈ uW := uW_c1 163 rfl (by decide +kernel)
theorem k_523 : (Jvm.Cond.code ({ cls := "PackageBook$Presser", name := "sameFrom", desc := "(III)I" } : Jvm.MethodName) prog_8_method_4_code (5 : Nat) (Option.some Jvm.ClassFile.FieldType.int)) ∈ uW := uW_c1 166 rfl (by decide +kernel)
theorem k_522 : (Jvm.Cond.instanceMethod ({ cls := "PackageBook$Presser", name := "sameFrom", desc := "(III)I" } : Jvm.MethodName)) ∈ uW := uW_c1 165 rfl (by decide +kernel)
theorem k_5 : Cond.selects "PackageBook$Presser" ⟨"PackageBook$Presser", "sameFrom", "(III)I"⟩ ⟨"PackageBook$Presser", "sameFrom", "(III)I"⟩ ∈ uW := uW_of 5 (by decide +kernel) (by decide +kernel)
theorem hy_Presser_sameFrom : (y_Presser_sameFrom).cls ≠ "java/lang/invoke/MethodHandle" ∧ (y_Presser_sameFrom).cls ≠ "java/lang/invoke/VarHandle" ∧ (parseMethodDescriptor (y_Presser_sameFrom).desc).map (fun d => d.parameters.length) = some 3 := by decide +kernel
theorem d_Presser_findLongest_63 : decode prog_8_method_3_code 63 = .ok (.istore 5, 2) := by decide +kernel
theorem d_Presser_findLongest_93 : decode prog_8_method_3_code 93 = .ok (.aload_n 0, 1) := by decide +kernel
theorem d_Presser_findLongest_94 : decode prog_8_method_3_code 94 = .ok (.getfield 24, 3) := by decide +kernel
theorem d_Presser_findLongest_97 : decode prog_8_method_3_code 97 = .ok (.iload_n 3, 1) := by decide +kernel
theorem d_Presser_findLongest_98 : decode prog_8_method_3_code 98 = .ok (.iaload, 1) := by decide +kernel
theorem d_Presser_findLongest_99 : decode prog_8_method_3_code 99 = .ok (.istore_n 3, 1) := by decide +kernel
theorem d_Presser_findLongest_100 : decode prog_8_method_3_code 100 = .ok (.iinc 4 1, 3) := by decide +kernel
theorem d_Presser_findLongest_103 : decode prog_8_method_3_code 103 = .ok (.goto (-65), 3) := by decide +kernel
theorem d_Presser_findLongest_65 : decode prog_8_method_3_code 65 = .ok (.iload 5, 2) := by decide +kernel
theorem d_Presser_findLongest_67 : decode prog_8_method_3_code 67 = .ok (.iconst 3, 1) := by decide +kernel
theorem d_Presser_findLongest_68 : decode prog_8_method_3_code 68 = .ok (.if_icmp .lt 25, 3) := by decide +kernel
theorem d_Presser_findLongest_71 : decode prog_8_method_3_code 71 = .ok (.iload 5, 2) := by decide +kernel
theorem d_Presser_findLongest_73 : decode prog_8_method_3_code 73 = .ok (.aload_n 0, 1) := by decide +kernel
theorem d_Presser_findLongest_74 : decode prog_8_method_3_code 74 = .ok (.getfield 55, 3) := by decide +kernel
theorem d_Presser_findLongest_77 : decode prog_8_method_3_code 77 = .ok (.if_icmp .le 16, 3) := by decide +kernel
theorem d_Presser_findLongest_80 : decode prog_8_method_3_code 80 = .ok (.aload_n 0, 1) := by decide +kernel
theorem d_Presser_findLongest_81 : decode prog_8_method_3_code 81 = .ok (.iload 5, 2) := by decide +kernel
theorem d_Presser_findLongest_83 : decode prog_8_method_3_code 83 = .ok (.putfield 55, 3) := by decide +kernel
theorem d_Presser_findLongest_86 : decode prog_8_method_3_code 86 = .ok (.aload_n 0, 1) := by decide +kernel
theorem d_Presser_findLongest_87 : decode prog_8_method_3_code 87 = .ok (.iload_n 1, 1) := by decide +kernel
theorem d_Presser_findLongest_88 : decode prog_8_method_3_code 88 = .ok (.iload_n 3, 1) := by decide +kernel
theorem d_Presser_findLongest_89 : decode prog_8_method_3_code 89 = .ok (.isub, 1) := by decide +kernel
theorem d_Presser_findLongest_90 : decode prog_8_method_3_code 90 = .ok (.putfield 84, 3) := by decide +kernel
theorem d_Presser_findLongest_23 : decode prog_8_method_3_code 23 = .ok (.return_, 1) := by decide +kernel
abbrev y_Presser_findLongest : MethodName := ⟨"PackageBook$Presser", "findLongest", "(I)V"⟩
abbrev i_Presser_findLongest : pb_I := (y_Presser_findLongest, prog_8_method_3_code, 6, (Option.none : Option Jvm.ClassFile.FieldType), [], { frames := 1, cells := 0, slots := 0, locals := 40 })
set_option maxRecDepth 100000 in
set_option maxHeartbeats 4000000 in
theorem g_Pr_findLongest {l : Launch} (hl : l.stackTraces = false) (G : pb_G) (h : Nat) (pp : Nat) (pl : Nat) (pe : Nat) (pr : Nat) (pb : Nat) (bg : Int32) (sz : Int32) (bt : Int32) (ln : Int32) (ds : Int32) (N : Nat) (fr : Nat → Int32) (fl : Nat → Int32) (fe : Nat → Int32) (x : Int32) (r0 : 0 ≤ bg.toInt) (r1 : bg.toInt + sz.toInt ≤ N) (r2 : N ≤ 100000) (r3 : sz.toInt ≤ 4000) (r4 : 0 ≤ sz.toInt) (x0 : 0 ≤ x.toInt) (x1 : x.toInt < sz.toInt) (I : ch_I (sq fr bg.toInt sz.toInt) sz.toInt x.toInt fl fe) (F_fr : sb_Fit fr) : Cn l G i_Presser_findLongest [.ref h, .int x] [(h, .inr (4, [.ref pp, .ref pl, .ref pe, .ref pr, .int bg, .int sz, .int bt, .int ln, .int ds])), (pr, .inl (G.2.1, N, .inl fr)), (pl, .inl (G.2.2.1, 1024, .inl fl)), (pe, .inl (G.2.2.1, 4000, .inl fe))] (S := Int32 × Int32) (fun rv_ u => rv_ = none ∧ (fl_R (sq fr bg.toInt sz.toInt) sz.toInt x.toInt u.1.toInt u.2.toInt)) (fun u => [(h, .inr (4, [.ref pp, .ref pl, .ref pe, .ref pr, .int bg, .int sz, .int bt, .int u.1, .int u.2])), (pr, .inl (G.2.1, N, .inl fr)), (pl, .inl (G.2.2.1, 1024, .inl fl)), (pe, .inl (G.2.2.1, 4000, .inl fe))]) := by
  refine Cn.of hl (by decide +kernel) rfl (Nat.le_of_ble_eq_true rfl) (fun M hQ => ?_)
  refine pb_eq (pc' := 0) (lo' := [(0, .ref h), (1, .int x)]) (rest' := []) (ws' := [(h, .inr (4, [.ref pp, .ref pl, .ref pe, .ref pr, .int bg, .int sz, .int bt, .int ln, .int ds])), (pr, .inl (G.2.1, N, .inl fr)), (pl, .inl (G.2.2.1, 1024, .inl fl)), (pe, .inl (G.2.2.1, 4000, .inl fe))]) ?_
  have zl0 : (0 : Int32).toInt = 0 := by decide
  have zl1 : (1 : Int32).toInt = 1 := by decide
  have zl3 : (3 : Int32).toInt = 3 := by decide
  have zl258 : (258 : Int32).toInt = 258 := by decide
  refine pb_sipush (pc := 0) (v := 258) d_Presser_findLongest_0 (by decide) ?_
  refine pb_aload_n (pc := 3) d_Presser_findLongest_3 0 rfl rfl ?_
  refine pb_get (pc := 4) d_Presser_findLongest_4 0 5 rfl rfl (by decide) in_Presser k_188 rfl ?_
  refine pb_iload_n (pc := 7) d_Presser_findLongest_7 1 rfl rfl ?_
  refine pb_isub (pc := 8) d_Presser_findLongest_8 ?_
  refine pb_topi (fun i1 ei1 => ?_)
  try have ti1 : i1.toInt = sz.toInt - x.toInt := ti_sub ei1 rfl rfl (by omega) (by omega)
  refine pb_mmin (pc := 9) d_Presser_findLongest_9 k_513 k_514 k_137 k_515 (by decide) (Nat.le_of_ble_eq_true rfl) (by decide) (by decide) (fun i2 m0i2 m1i2 m2i2 => ?_)
  refine pb_istore_n (pc := 12) (lo' := [(2, .int i2), (0, .ref h), (1, .int x)]) d_Presser_findLongest_12 rfl (by decide) rfl ?_
  refine pb_aload_n (pc := 13) d_Presser_findLongest_13 1 rfl rfl ?_
  refine pb_iconst (pc := 14) (v := 1) d_Presser_findLongest_14 (by decide) ?_
  refine pb_put (pc := 15) (ty := .int) (ws' := [(h, .inr (4, [.ref pp, .ref pl, .ref pe, .ref pr, .int bg, .int sz, .int bt, .int 1, .int ds])), (pr, .inl (G.2.1, N, .inl fr)), (pl, .inl (G.2.2.1, 1024, .inl fl)), (pe, .inl (G.2.2.1, 4000, .inl fe))]) d_Presser_findLongest_15 0 7 t_Presser t_Presser_ok n_Presser rfl rfl (by decide) in_Presser k_190 rfl (by decide +kernel) rfl rfl (Nat.le_of_ble_eq_true rfl) rfl ?_
  refine pb_iload_n (pc := 18) d_Presser_findLongest_18 0 rfl rfl ?_
  refine pb_iconst (pc := 19) (v := 3) d_Presser_findLongest_19 (by decide) ?_
  refine pb_icmp_ge (pc := 20) (tgt := 24) d_Presser_findLongest_20 (by decide) (fun w3 => ?_) (fun w3 => ?_)
  · have tw3 : 3 ≤ i2.toInt := (ti_le (by decide) rfl).mp w3
    refine pb_aload_n (pc := 24) d_Presser_findLongest_24 1 rfl rfl ?_
    refine pb_get (pc := 25) d_Presser_findLongest_25 0 1 rfl rfl (by decide) in_Presser k_184 rfl ?_
    refine pb_aload_n (pc := 28) d_Presser_findLongest_28 1 rfl rfl ?_
    refine pb_iload_n (pc := 29) d_Presser_findLongest_29 2 rfl rfl ?_
    refine pb_callV (pc := 30) (I := i_Presser_findLongest) (qb := 0) (ci := 4) (nA := 1) (rest := [.ref pl]) (wr := [(pl, .inl (G.2.2.1, 1024, .inl fl)), (pe, .inl (G.2.2.1, 4000, .inl fe))]) d_Presser_findLongest_30 (g_Pr_mixAt hl G h pp pl pe pr pb bg sz bt 1 ds N fr x (by first | (with_reducible assumption) | omega (splitDisjunctions := false) | assumption | omega | decide) (by first | (with_reducible assumption) | omega (splitDisjunctions := false) | assumption | omega | decide) (by first | (with_reducible assumption) | omega (splitDisjunctions := false) | assumption | omega | decide) (by first | (with_reducible assumption) | omega (splitDisjunctions := false) | assumption | omega | decide) (by first | (with_reducible assumption) | omega (splitDisjunctions := false) | assumption | omega | decide) (by first | (with_reducible assumption) | omega (splitDisjunctions := false) | assumption | omega | decide) (by first | (with_reducible assumption) | omega (splitDisjunctions := false) | assumption | omega | decide) F_fr) rfl rfl [0, 1] [2, 3] (by decide) rfl rfl rfl (by decide) (by decide) k_519 rfl k_120 k_516 k_518 k_4 ⟨rfl, hy_Presser_mixAt⟩ (by decide) rfl rfl (Nat.le_of_ble_eq_true rfl) (by decide) (fun v9 u5 ch4 => ?_)
    obtain ⟨r_6, rfl⟩ : ∃ z9, z9 = u5 := ⟨_, rfl⟩
    obtain ⟨ech4, ch4⟩ := ch4
    have ech4 : v9 = some (.int r_6) := ech4
    subst ech4
    obtain ⟨fh7, fh8, fh9⟩ : (0 ≤ r_6.toInt) ∧ (r_6.toInt ≤ 1023) ∧ (r_6.toInt = mx_ (sq fr bg.toInt sz.toInt) x.toInt) := ch4
    have y0 := fh9
    have y1 := I.1 r_6.toInt (by omega) (by omega)
    have y2 := la_rng y1 x0
    refine pb_eq (pc' := 33) (lo' := [(2, .int i2), (0, .ref h), (1, .int x)]) (rest' := [.int r_6, .ref pl]) (ws' := [(pl, .inl (G.2.2.1, 1024, .inl fl)), (pe, .inl (G.2.2.1, 4000, .inl fe)), (h, .inr (4, [.ref pp, .ref pl, .ref pe, .ref pr, .int bg, .int sz, .int bt, .int 1, .int ds])), (pr, .inl (G.2.1, N, .inl fr))]) ?_
    refine pb_iald (pc := 33) d_Presser_findLongest_33 0 rfl (vp_in_iff.mpr (by constructor <;> omega)) ?_
    refine pb_topi (fun i10 ei10 => ?_)
    have ti10 : i10.toInt = gx fl (r_6.toInt) := gx_ld ei10 rfl
    have y3 : la_R (sq fr bg.toInt sz.toInt) sz.toInt x.toInt (mx_ (sq fr bg.toInt sz.toInt) x.toInt) i10.toInt := by rw [← y0, ti10]; exact y1
    refine pb_istore_n (pc := 34) (lo' := [(3, .int i10), (2, .int i2), (0, .ref h), (1, .int x)]) d_Presser_findLongest_34 rfl (by decide) rfl ?_
    refine pb_iconst (pc := 35) (v := 0) d_Presser_findLongest_35 (by decide) ?_
    refine pb_istore (pc := 36) (lo' := [(4, .int 0), (3, .int i10), (2, .int i2), (0, .ref h), (1, .int x)]) d_Presser_findLongest_36 (by decide) rfl ?_
    have hL38_11 : ∀ (N9 : Nat) (sn : Int32) (o : Int32) (ms : Int32) (l3 : Int32) (d3 : Int32), (0 ≤ sn.toInt) → (-1 ≤ o.toInt) → (o.toInt + sn.toInt < x.toInt) → (3 ≤ ms.toInt) → (ms.toInt ≤ sz.toInt - x.toInt) → (ms.toInt = mm_ sz.toInt x.toInt) → (0 ≤ o.toInt → o.toInt + 3 ≤ sz.toInt ∧ mx_ (sq fr bg.toInt sz.toInt) o.toInt = mx_ (sq fr bg.toInt sz.toInt) x.toInt) → (bs_R (sq fr bg.toInt sz.toInt) sz.toInt x.toInt o.toInt l3.toInt d3.toInt) → ((x.toInt - sn.toInt).toNat) < N9 → pb_P l G M i_Presser_findLongest 38 [(4, .int sn), (3, .int o), (2, .int ms), (0, .ref h), (1, .int x)] [] [(h, .inr (4, [.ref pp, .ref pl, .ref pe, .ref pr, .int bg, .int sz, .int bt, .int l3, .int d3])), (pr, .inl (G.2.1, N, .inl fr)), (pl, .inl (G.2.2.1, 1024, .inl fl)), (pe, .inl (G.2.2.1, 4000, .inl fe))] 0 0 := by
      intro N9
      induction N9 with
      | zero => intro sn o ms l3 d3 hs ho ho2 hm hm2 hmm ho3 hB hm9; exact absurd hm9 (Nat.not_lt_zero _)
      | succ N9 ih38 =>
        intro sn o ms l3 d3 hs ho ho2 hm hm2 hmm ho3 hB hm9
        refine pb_iload (pc := 38) d_Presser_findLongest_38 0 rfl ?_
        refine pb_iload_n (pc := 40) d_Presser_findLongest_40 4 rfl rfl ?_
        refine pb_icmp_ge (pc := 41) (tgt := 106) d_Presser_findLongest_41 (by decide) (fun w12 => ?_) (fun w12 => ?_)
        · have tw12 : x.toInt ≤ sn.toInt := (ti_le rfl rfl).mp w12
          exact pb_vret (pc := 106) hQ d_Presser_findLongest_106 rfl (l3, d3) ⟨rfl, (show fl_R (sq fr bg.toInt sz.toInt) sz.toInt x.toInt l3.toInt d3.toInt from (fl_bs hB (by omega) (by omega)))⟩ [0, 1, 2, 3] (by decide) rfl rfl (by decide) (by decide)
        · have tw12 : ¬ x.toInt ≤ sn.toInt := fun z9 => w12 ((ti_le rfl rfl).mpr z9)
          refine pb_iload_n (pc := 44) d_Presser_findLongest_44 1 rfl rfl ?_
          refine pb_if_lt (pc := 45) (tgt := 106) d_Presser_findLongest_45 (by decide) (fun w13 => ?_) (fun w13 => ?_)
          · have tw13 : o.toInt < 0 := (ti_lt rfl (by decide)).mp w13
            exact pb_vret (pc := 106) hQ d_Presser_findLongest_106 rfl (l3, d3) ⟨rfl, (show fl_R (sq fr bg.toInt sz.toInt) sz.toInt x.toInt l3.toInt d3.toInt from (fl_bs hB (by omega) (by omega)))⟩ [0, 1, 2, 3] (by decide) rfl rfl (by decide) (by decide)
          · have tw13 : ¬ o.toInt < 0 := fun z9 => w13 ((ti_lt rfl (by decide)).mpr z9)
            refine pb_aload_n (pc := 48) d_Presser_findLongest_48 3 rfl rfl ?_
            refine pb_get (pc := 49) d_Presser_findLongest_49 0 7 rfl rfl (by decide) in_Presser k_190 rfl ?_
            refine pb_iload_n (pc := 52) d_Presser_findLongest_52 2 rfl rfl ?_
            refine pb_icmp_ge (pc := 53) (tgt := 106) d_Presser_findLongest_53 (by decide) (fun w14 => ?_) (fun w14 => ?_)
            · have tw14 : ms.toInt ≤ l3.toInt := (ti_le rfl rfl).mp w14
              exact pb_vret (pc := 106) hQ d_Presser_findLongest_106 rfl (l3, d3) ⟨rfl, (show fl_R (sq fr bg.toInt sz.toInt) sz.toInt x.toInt l3.toInt d3.toInt from (fl_bs hB (by omega) (by omega)))⟩ [0, 1, 2, 3] (by decide) rfl rfl (by decide) (by decide)
            · have tw14 : ¬ ms.toInt ≤ l3.toInt := fun z9 => w14 ((ti_le rfl rfl).mpr z9)
              refine pb_aload_n (pc := 56) d_Presser_findLongest_56 3 rfl rfl ?_
              refine pb_iload_n (pc := 57) d_Presser_findLongest_57 1 rfl rfl ?_
              refine pb_iload_n (pc := 58) d_Presser_findLongest_58 4 rfl rfl ?_
              refine pb_iload_n (pc := 59) d_Presser_findLongest_59 2 rfl rfl ?_
              refine pb_callV (pc := 60) (I := i_Presser_findLongest) (qb := 0) (ci := 4) (nA := 3) (rest := []) (wr := [(pl, .inl (G.2.2.1, 1024, .inl fl)), (pe, .inl (G.2.2.1, 4000, .inl fe))]) d_Presser_findLongest_60 (g_Pr_sameFrom hl G h pp pl pe pr pb bg sz bt l3 d3 N fr o x ms (by first | (with_reducible assumption) | omega (splitDisjunctions := false) | assumption | omega | decide) (by first | (with_reducible assumption) | omega (splitDisjunctions := false) | assumption | omega | decide) (by first | (with_reducible assumption) | omega (splitDisjunctions := false) | assumption | omega | decide) (by first | (with_reducible assumption) | omega (splitDisjunctions := false) | assumption | omega | decide) (by first | (with_reducible assumption) | omega (splitDisjunctions := false) | assumption | omega | decide) (by first | (with_reducible assumption) | omega (splitDisjunctions := false) | assumption | omega | decide) (by first | (with_reducible assumption) | omega (splitDisjunctions := false) | assumption | omega | decide) (by first | (with_reducible assumption) | omega (splitDisjunctions := false) | assumption | omega | decide) (by first | (with_reducible assumption) | omega (splitDisjunctions := false) | assumption | omega | decide) F_fr) rfl rfl [0, 1] [2, 3] (by decide) rfl rfl rfl (by decide) (by decide) k_523 rfl k_120 k_520 k_522 k_5 ⟨rfl, hy_Presser_sameFrom⟩ (by decide) rfl rfl (Nat.le_of_ble_eq_true rfl) (by decide) (fun v9 u16 ch15 => ?_)
              obtain ⟨r_17, rfl⟩ : ∃ z9, z9 = u16 := ⟨_, rfl⟩
              obtain ⟨ech15, ch15⟩ := ch15
              have ech15 : v9 = some (.int r_17) := ech15
              subst ech15
              have fh18 : sm_R (sq fr bg.toInt sz.toInt) o.toInt x.toInt ms.toInt r_17.toInt := ch15
              have y5 : sm_R (sq fr bg.toInt sz.toInt) o.toInt x.toInt (mm_ sz.toInt x.toInt) r_17.toInt := by rw [← hmm]; exact fh18
              have y6 := y5.1
              refine pb_eq (pc' := 63) (lo' := [(4, .int sn), (3, .int o), (2, .int ms), (0, .ref h), (1, .int x)]) (rest' := [.int r_17]) (ws' := [(pl, .inl (G.2.2.1, 1024, .inl fl)), (pe, .inl (G.2.2.1, 4000, .inl fe)), (h, .inr (4, [.ref pp, .ref pl, .ref pe, .ref pr, .int bg, .int sz, .int bt, .int l3, .int d3])), (pr, .inl (G.2.1, N, .inl fr))]) ?_
              refine pb_istore (pc := 63) (lo' := [(5, .int r_17), (4, .int sn), (3, .int o), (2, .int ms), (0, .ref h), (1, .int x)]) d_Presser_findLongest_63 (by decide) rfl ?_
              have hJ93_19 : ∀ (l4 : Int32) (d4 : Int32), (∀ v : Int, la_R (sq fr bg.toInt sz.toInt) sz.toInt o.toInt (mx_ (sq fr bg.toInt sz.toInt) o.toInt) v → bs_R (sq fr bg.toInt sz.toInt) sz.toInt x.toInt v l4.toInt d4.toInt) → pb_P l G M i_Presser_findLongest 93 [(4, .int sn), (3, .int o), (2, .int ms), (0, .ref h), (1, .int x)] [] [(h, .inr (4, [.ref pp, .ref pl, .ref pe, .ref pr, .int bg, .int sz, .int bt, .int l4, .int d4])), (pr, .inl (G.2.1, N, .inl fr)), (pl, .inl (G.2.2.1, 1024, .inl fl)), (pe, .inl (G.2.2.1, 4000, .inl fe))] 0 0 := by
                intro l4 d4 hj
                refine pb_aload_n (pc := 93) d_Presser_findLongest_93 3 rfl rfl ?_
                refine pb_get (pc := 94) d_Presser_findLongest_94 0 2 rfl rfl (by decide) in_Presser k_185 rfl ?_
                refine pb_iload_n (pc := 97) d_Presser_findLongest_97 1 rfl rfl ?_
                have y7 := I.2 o.toInt (by omega) (by omega) (ho3 (by omega)).1
                have y8 := la_rng y7 (by omega)
                refine pb_iald (pc := 98) d_Presser_findLongest_98 3 rfl (vp_in_iff.mpr (by constructor <;> omega)) ?_
                refine pb_topi (fun i20 ei20 => ?_)
                have ti20 : i20.toInt = gx fe (o.toInt) := gx_ld ei20 rfl
                have y9 : la_R (sq fr bg.toInt sz.toInt) sz.toInt o.toInt (mx_ (sq fr bg.toInt sz.toInt) o.toInt) i20.toInt := by rw [ti20]; exact y7
                refine pb_istore_n (pc := 99) (lo' := [(3, .int i20), (4, .int sn), (2, .int ms), (0, .ref h), (1, .int x)]) d_Presser_findLongest_99 rfl (by decide) rfl ?_
                refine pb_iincN (pc := 100) (c := 1) d_Presser_findLongest_100 1 rfl (by decide) (by decide) (fun i21 ei21 => ?_)
                have ti21 : i21.toInt = sn.toInt + 1 := ti_add ei21 rfl (by decide) (by omega) (by omega)
                refine pb_eq (pc' := 103) (lo' := [(4, .int i21), (3, .int i20), (2, .int ms), (0, .ref h), (1, .int x)]) (rest' := []) (ws' := [(h, .inr (4, [.ref pp, .ref pl, .ref pe, .ref pr, .int bg, .int sz, .int bt, .int l4, .int d4])), (pr, .inl (G.2.1, N, .inl fr)), (pl, .inl (G.2.2.1, 1024, .inl fl)), (pe, .inl (G.2.2.1, 4000, .inl fe))]) ?_
                refine pb_goto (pc := 103) (tgt := 38) d_Presser_findLongest_103 (by decide) ?_
                exact ih38 i21 i20 ms l4 d4 (by first | (with_reducible assumption) | omega (splitDisjunctions := false) | assumption | omega | decide) (by first | (with_reducible assumption) | omega (splitDisjunctions := false) | assumption | omega | decide) (by first | (with_reducible assumption) | omega (splitDisjunctions := false) | assumption | omega | decide) (by first | (with_reducible assumption) | omega (splitDisjunctions := false) | assumption | omega | decide) (by first | (with_reducible assumption) | omega (splitDisjunctions := false) | assumption | omega | decide) (by first | (with_reducible assumption) | omega (splitDisjunctions := false) | assumption | omega | decide) (fun q9 => ⟨(la_mx y9 q9).1, (la_mx y9 q9).2.trans (ho3 (by omega)).2⟩) (hj _ y9) (by (exact omg_7c8a06b1f5 hm9 tw12 ti21))
              refine pb_iload (pc := 65) d_Presser_findLongest_65 0 rfl ?_
              refine pb_iconst (pc := 67) (v := 3) d_Presser_findLongest_67 (by decide) ?_
              refine pb_icmp_lt (pc := 68) (tgt := 93) d_Presser_findLongest_68 (by decide) (fun w22 => ?_) (fun w22 => ?_)
              · have tw22 : r_17.toInt < 3 := (ti_lt rfl (by decide)).mp w22
                refine pb_re (ws' := [(h, .inr (4, [.ref pp, .ref pl, .ref pe, .ref pr, .int bg, .int sz, .int bt, .int l3, .int d3])), (pr, .inl (G.2.1, N, .inl fr)), (pl, .inl (G.2.2.1, 1024, .inl fl)), (pe, .inl (G.2.2.1, 4000, .inl fe))]) (lo' := [(4, .int sn), (3, .int o), (2, .int ms), (0, .ref h), (1, .int x)]) [2, 3, 0, 1] [1, 2, 3, 4, 5] (by decide) rfl rfl rfl ?_
                exact hJ93_19 l3 d3 (fun v9 hv9 => by first | exact bs_keep hB (by omega) (by omega) (by omega) (ho3 (by omega)).2 hv9 y5 (by omega) | exact bs_take hB (by omega) (by omega) (by omega) (ho3 (by omega)).2 hv9 y5 (by omega) (by omega) (by omega))
              · have tw22 : ¬ r_17.toInt < 3 := fun z9 => w22 ((ti_lt rfl (by decide)).mpr z9)
                refine pb_iload (pc := 71) d_Presser_findLongest_71 0 rfl ?_
                refine pb_aload_n (pc := 73) d_Presser_findLongest_73 4 rfl rfl ?_
                refine pb_get (pc := 74) d_Presser_findLongest_74 2 7 rfl rfl (by decide) in_Presser k_190 rfl ?_
                refine pb_icmp_le (pc := 77) (tgt := 93) d_Presser_findLongest_77 (by decide) (fun w23 => ?_) (fun w23 => ?_)
                · have tw23 : r_17.toInt ≤ l3.toInt := (ti_le rfl rfl).mp w23
                  refine pb_re (ws' := [(h, .inr (4, [.ref pp, .ref pl, .ref pe, .ref pr, .int bg, .int sz, .int bt, .int l3, .int d3])), (pr, .inl (G.2.1, N, .inl fr)), (pl, .inl (G.2.2.1, 1024, .inl fl)), (pe, .inl (G.2.2.1, 4000, .inl fe))]) (lo' := [(4, .int sn), (3, .int o), (2, .int ms), (0, .ref h), (1, .int x)]) [2, 3, 0, 1] [1, 2, 3, 4, 5] (by decide) rfl rfl rfl ?_
                  exact hJ93_19 l3 d3 (fun v9 hv9 => by first | exact bs_keep hB (by omega) (by omega) (by omega) (ho3 (by omega)).2 hv9 y5 (by omega) | exact bs_take hB (by omega) (by omega) (by omega) (ho3 (by omega)).2 hv9 y5 (by omega) (by omega) (by omega))
                · have tw23 : ¬ r_17.toInt ≤ l3.toInt := fun z9 => w23 ((ti_le rfl rfl).mpr z9)
                  refine pb_aload_n (pc := 80) d_Presser_findLongest_80 4 rfl rfl ?_
                  refine pb_iload (pc := 81) d_Presser_findLongest_81 0 rfl ?_
                  refine pb_put (pc := 83) (ty := .int) (ws' := [(pl, .inl (G.2.2.1, 1024, .inl fl)), (pe, .inl (G.2.2.1, 4000, .inl fe)), (h, .inr (4, [.ref pp, .ref pl, .ref pe, .ref pr, .int bg, .int sz, .int bt, .int r_17, .int d3])), (pr, .inl (G.2.1, N, .inl fr))]) d_Presser_findLongest_83 2 7 t_Presser t_Presser_ok n_Presser rfl rfl (by decide) in_Presser k_190 rfl (by decide +kernel) rfl rfl (Nat.le_of_ble_eq_true rfl) rfl ?_
                  refine pb_aload_n (pc := 86) d_Presser_findLongest_86 4 rfl rfl ?_
                  refine pb_iload_n (pc := 87) d_Presser_findLongest_87 5 rfl rfl ?_
                  refine pb_iload_n (pc := 88) d_Presser_findLongest_88 2 rfl rfl ?_
                  refine pb_isub (pc := 89) d_Presser_findLongest_89 ?_
                  refine pb_topi (fun i24 ei24 => ?_)
                  try have ti24 : i24.toInt = x.toInt - o.toInt := ti_sub ei24 rfl rfl (by omega) (by omega)
                  refine pb_put (pc := 90) (ty := .int) (ws' := [(pl, .inl (G.2.2.1, 1024, .inl fl)), (pe, .inl (G.2.2.1, 4000, .inl fe)), (h, .inr (4, [.ref pp, .ref pl, .ref pe, .ref pr, .int bg, .int sz, .int bt, .int r_17, .int i24])), (pr, .inl (G.2.1, N, .inl fr))]) d_Presser_findLongest_90 2 8 t_Presser t_Presser_ok n_Presser rfl rfl (by decide) in_Presser k_191 rfl (by decide +kernel) rfl rfl (Nat.le_of_ble_eq_true rfl) rfl ?_
                  refine pb_re (ws' := [(h, .inr (4, [.ref pp, .ref pl, .ref pe, .ref pr, .int bg, .int sz, .int bt, .int r_17, .int i24])), (pr, .inl (G.2.1, N, .inl fr)), (pl, .inl (G.2.2.1, 1024, .inl fl)), (pe, .inl (G.2.2.1, 4000, .inl fe))]) (lo' := [(4, .int sn), (3, .int o), (2, .int ms), (0, .ref h), (1, .int x)]) [2, 3, 0, 1] [1, 2, 3, 4, 5] (by decide) rfl rfl rfl ?_
                  exact hJ93_19 r_17 i24 (fun v9 hv9 => by first | exact bs_keep hB (by omega) (by omega) (by omega) (ho3 (by omega)).2 hv9 y5 (by omega) | exact bs_take hB (by omega) (by omega) (by omega) (ho3 (by omega)).2 hv9 y5 (by omega) (by omega) (by omega))
    refine pb_re (ws' := [(h, .inr (4, [.ref pp, .ref pl, .ref pe, .ref pr, .int bg, .int sz, .int bt, .int 1, .int ds])), (pr, .inl (G.2.1, N, .inl fr)), (pl, .inl (G.2.2.1, 1024, .inl fl)), (pe, .inl (G.2.2.1, 4000, .inl fe))]) (lo' := [(4, .int 0), (3, .int i10), (2, .int i2), (0, .ref h), (1, .int x)]) [2, 3, 0, 1] [0, 1, 2, 3, 4] (by decide) rfl rfl rfl ?_
    exact hL38_11 _ 0 i10 i2 1 ds (by first | (with_reducible assumption) | omega (splitDisjunctions := false) | assumption | omega | decide) (by first | (with_reducible assumption) | omega (splitDisjunctions := false) | assumption | omega | decide) (by first | (with_reducible assumption) | omega (splitDisjunctions := false) | assumption | omega | decide) (by first | (with_reducible assumption) | omega (splitDisjunctions := false) | assumption | omega | decide) (by first | (with_reducible assumption) | omega (splitDisjunctions := false) | assumption | omega | decide) (by unfold mm_; split <;> omega) (fun q9 => la_mx y3 q9) (by rw [zl1]; exact bs_0 (by omega) y3) (Nat.lt_succ_self _)
  · have tw3 : ¬ 3 ≤ i2.toInt := fun z9 => w3 ((ti_le (by decide) rfl).mpr z9)
    exact pb_vret (pc := 23) hQ d_Presser_findLongest_23 rfl (1, ds) ⟨rfl, (show fl_R (sq fr bg.toInt sz.toInt) sz.toInt x.toInt (1 : Int32).toInt ds.toInt from (by rw [zl1]; exact fl_few (by unfold mm_; split <;> omega)))⟩ [0, 1, 2, 3] (by decide) rfl rfl (by decide) (by decide)
/-! ROWS OF NUMBERS -/
theorem omg_42e92a79db {x0 : Int} {x1 : Int} {x2 : Int} {x3 : Int} (a0 : (x0 = (256 : Int))) (a1 : (((256 : Int) ≤ x0) → ((x0 < (280 : Int)) → (x1 = (x2 + (7 : Int)))))) (a2 : (x3 = ((x1 + (7 : Int)) / (8 : Int)))) : (x3 = ((x2 + (14 : Int)) / (8 : Int))) := by omega
theorem omg_985cf73b4f {x0 : Int} {x1 : Int} {x2 : Int} {x3 : Int} {x4 : Int} {x5 : Int} (a0 : (x0 ≤ (4000 : Int))) (a1 : (x1 = (256 : Int))) (a2 : (((0 : Int) ≤ x2) ∧ ((x2 ≤ x0) ∧ (((3 : Int) ≤ x3) ∧ (x3 ≤ ((3 : Int) + ((9 : Int) * x2))))))) (a3 : (((256 : Int) ≤ x1) → ((x1 < (280 : Int)) → (x4 = (x3 + (7 : Int)))))) (a4 : (x5 = ((x4 + (7 : Int)) / (8 : Int)))) : (x5 ≤ (4502 : Int)) := by omega
theorem omg_54e905f47a {x0 : Int} {x1 : Int} {x2 : Int} {x3 : Int} {x4 : Int} {x5 : Int} (a0 : (x0 = (256 : Int))) (a1 : (((0 : Int) ≤ x1) ∧ ((x1 ≤ x2) ∧ (((3 : Int) ≤ x3) ∧ (x3 ≤ ((3 : Int) + ((9 : Int) * x1))))))) (a2 : (((256 : Int) ≤ x0) → ((x0 < (280 : Int)) → (x4 = (x3 + (7 : Int)))))) (a3 : (x5 = ((x4 + (7 : Int)) / (8 : Int)))) : ((0 : Int) ≤ x5) := by omega
theorem omg_450c441d63 {x0 : Int} {x1 : Int} {x2 : Int} {x3 : Int} (a0 : (x0 ≤ (4000 : Int))) (a1 : (((1 : Int) ≤ x1) ∧ ((x1 ≤ (258 : Int)) ∧ (((x2 + x1) ≤ x0) ∧ ((((3 : Int) ≤ x1) → (((1 : Int) ≤ x3) ∧ (x3 ≤ x2))) ∧ ((x1 < (3 : Int)) → (x1 = (1 : Int)))))))) (a2 : ((3 : Int) ≤ x1)) : (x3 ≤ (4000 : Int)) := by omega
theorem omg_945d6f3e9b {x0 : Int} {x1 : Int} {x2 : Int} {x3 : Int} {x4 : Int} {x5 : Int} {x6 : Int} {x7 : Int} (a0 : (x0 ≤ (4000 : Int))) (a1 : (((0 : Int) ≤ x1) ∧ ((x1 ≤ x0) ∧ (((3 : Int) ≤ x2) ∧ (x2 ≤ ((3 : Int) + ((9 : Int) * x1))))))) (a2 : (x3 = x1)) (a3 : (((1 : Int) ≤ x4) ∧ ((x4 ≤ (258 : Int)) ∧ (((x3 + x4) ≤ x0) ∧ ((((3 : Int) ≤ x4) → (((1 : Int) ≤ x5) ∧ (x5 ≤ x3))) ∧ ((x4 < (3 : Int)) → (x4 = (1 : Int)))))))) (a4 : (((3 : Int) ≤ x4) → (((x6 + (15 : Int)) ≤ ((9 : Int) * x4)) ∧ ((7 : Int) ≤ x6)))) (a5 : ((3 : Int) ≤ x4)) (a6 : (x7 = (x2 + x6))) : ((x7 + (15 : Int)) ≤ (36016 : Int)) := by omega
theorem omg_d427a7eb2d {x0 : Int} {x1 : Int} {x2 : Int} (a0 : (((0 : Int) ≤ x0) ∧ (x0 ≤ (255 : Int)))) (a1 : ((x0 < (144 : Int)) → (x1 = (x2 + (8 : Int))))) (a2 : (((144 : Int) ≤ x0) → ((x0 < (256 : Int)) → (x1 = (x2 + (9 : Int)))))) : (((x0 < (144 : Int)) ∧ ((x1 - x2) = (8 : Int))) ∨ (((144 : Int) ≤ x0) ∧ ((x1 - x2) = (9 : Int)))) := by omega
theorem d_Presser_run_0 : decode prog_8_method_2_code 0 = .ok (.aload_n 0, 1) := by decide +kernel
theorem d_Presser_run_1 : decode prog_8_method_2_code 1 = .ok (.aload_n 1, 1) := by decide +kernel
theorem d_Presser_run_2 : decode prog_8_method_2_code 2 = .ok (.putfield 27, 3) := by decide +kernel
theorem d_Presser_run_5 : decode prog_8_method_2_code 5 = .ok (.aload_n 0, 1) := by decide +kernel
theorem d_Presser_run_6 : decode prog_8_method_2_code 6 = .ok (.iload_n 2, 1) := by decide +kernel
theorem d_Presser_run_7 : decode prog_8_method_2_code 7 = .ok (.putfield 31, 3) := by decide +kernel
theorem d_Presser_run_10 : decode prog_8_method_2_code 10 = .ok (.aload_n 0, 1) := by decide +kernel
theorem d_Presser_run_11 : decode prog_8_method_2_code 11 = .ok (.iload_n 3, 1) := by decide +kernel
theorem d_Presser_run_12 : decode prog_8_method_2_code 12 = .ok (.putfield 35, 3) := by decide +kernel
theorem d_Presser_run_15 : decode prog_8_method_2_code 15 = .ok (.aload_n 0, 1) := by decide +kernel
theorem d_Presser_run_16 : decode prog_8_method_2_code 16 = .ok (.getfield 14, 3) := by decide +kernel
theorem d_Presser_run_19 : decode prog_8_method_2_code 19 = .ok (.iconst 0, 1) := by decide +kernel
theorem d_Presser_run_20 : decode prog_8_method_2_code 20 = .ok (.putfield 38, 3) := by decide +kernel
theorem d_Presser_run_23 : decode prog_8_method_2_code 23 = .ok (.aload_n 0, 1) := by decide +kernel
theorem d_Presser_run_24 : decode prog_8_method_2_code 24 = .ok (.iconst 0, 1) := by decide +kernel
theorem d_Presser_run_25 : decode prog_8_method_2_code 25 = .ok (.putfield 39, 3) := by decide +kernel
theorem d_Presser_run_28 : decode prog_8_method_2_code 28 = .ok (.aload_n 0, 1) := by decide +kernel
theorem d_Presser_run_29 : decode prog_8_method_2_code 29 = .ok (.getfield 20, 3) := by decide +kernel
theorem d_Presser_run_32 : decode prog_8_method_2_code 32 = .ok (.iconst (-1), 1) := by decide +kernel
theorem d_Presser_run_33 : decode prog_8_method_2_code 33 = .ok (.invokestatic 42, 3) := by decide +kernel
theorem k_502 : (Jvm.Cond.methodLink "PackageBook$Presser" (42 : Nat) ({ cls := "java/util/Arrays", name := "fill", desc := "([II)V" } : Jvm.MethodName)) ∈ uW := uW_c1 145 rfl (by decide +kernel)
theorem k_136 : (Jvm.Cond.initialized "java/util/Arrays") ∈ uW := uW_c0 19 rfl (by decide +kernel)
theorem k_504 : (Jvm.Cond.code ({ cls := "java/util/Arrays", name := "fill", desc := "([II)V" } : Jvm.MethodName) prog_24_method_103_code (4 : Nat) (Option.none : Option Jvm.ClassFile.FieldType)) ∈ uW := uW_c1 147 rfl (by decide +kernel)
theorem k_503 : (Jvm.Cond.static ({ cls := "java/util/Arrays", name := "fill", desc := "([II)V" } : Jvm.MethodName)) ∈ uW := uW_c1 146 rfl (by decide +kernel)
theorem hy_JArrays_fill : (y_JArrays_fill).cls ≠ "java/lang/invoke/MethodHandle" ∧ (y_JArrays_fill).cls ≠ "java/lang/invoke/VarHandle" ∧ (parseMethodDescriptor (y_JArrays_fill).desc).map (fun d => d.parameters.length) = some 2 := by decide +kernel
theorem d_Presser_run_36 : decode prog_8_method_2_code 36 = .ok (.aload_n 0, 1) := by decide +kernel
theorem d_Presser_run_37 : decode prog_8_method_2_code 37 = .ok (.iconst 1, 1) := by decide +kernel
theorem d_Presser_run_38 : decode prog_8_method_2_code 38 = .ok (.iconst 1, 1) := by decide +kernel
theorem d_Presser_run_39 : decode prog_8_method_2_code 39 = .ok (.invokevirtual 48, 3) := by decide +kernel
theorem d_Presser_run_42 : decode prog_8_method_2_code 42 = .ok (.aload_n 0, 1) := by decide +kernel
theorem d_Presser_run_43 : decode prog_8_method_2_code 43 = .ok (.iconst 1, 1) := by decide +kernel
theorem d_Presser_run_44 : decode prog_8_method_2_code 44 = .ok (.iconst 2, 1) := by decide +kernel
theorem d_Presser_run_45 : decode prog_8_method_2_code 45 = .ok (.invokevirtual 48, 3) := by decide +kernel
theorem d_Presser_run_48 : decode prog_8_method_2_code 48 = .ok (.iconst 0, 1) := by decide +kernel
theorem d_Presser_run_49 : decode prog_8_method_2_code 49 = .ok (.istore 4, 2) := by decide +kernel
theorem d_Presser_run_51 : decode prog_8_method_2_code 51 = .ok (.iconst 0, 1) := by decide +kernel
theorem d_Presser_run_52 : decode prog_8_method_2_code 52 = .ok (.istore 5, 2) := by decide +kernel
theorem d_Presser_run_54 : decode prog_8_method_2_code 54 = .ok (.iload 5, 2) := by decide +kernel
theorem d_Presser_run_56 : decode prog_8_method_2_code 56 = .ok (.aload_n 0, 1) := by decide +kernel
theorem d_Presser_run_57 : decode prog_8_method_2_code 57 = .ok (.getfield 35, 3) := by decide +kernel
theorem d_Presser_run_60 : decode prog_8_method_2_code 60 = .ok (.if_icmp .ge 76, 3) := by decide +kernel
theorem d_Presser_run_136 : decode prog_8_method_2_code 136 = .ok (.aload_n 0, 1) := by decide +kernel
theorem d_Presser_run_137 : decode prog_8_method_2_code 137 = .ok (.sipush 256, 3) := by decide +kernel
theorem d_Presser_run_140 : decode prog_8_method_2_code 140 = .ok (.invokevirtual 58, 3) := by decide +kernel
theorem d_Presser_run_143 : decode prog_8_method_2_code 143 = .ok (.return_, 1) := by decide +kernel
theorem d_Presser_run_124 : decode prog_8_method_2_code 124 = .ok (.aload_n 0, 1) := by decide +kernel
theorem d_Presser_run_125 : decode prog_8_method_2_code 125 = .ok (.iload 5, 2) := by decide +kernel
theorem d_Presser_run_127 : decode prog_8_method_2_code 127 = .ok (.invokevirtual 67, 3) := by decide +kernel
theorem k_539 : (Jvm.Cond.methodLink "PackageBook$Presser" (67 : Nat) ({ cls := "PackageBook$Presser", name := "remember", desc := "(I)V" } : Jvm.MethodName)) ∈ uW := uW_c1 182 rfl (by decide +kernel)
theorem k_542 : (Jvm.Cond.code ({ cls := "PackageBook$Presser", name := "remember", desc := "(I)V" } : Jvm.MethodName) prog_8_method_5_code (3 : Nat) (Option.none : Option Jvm.ClassFile.FieldType)) ∈ uW := uW_c1 185 rfl (by decide +kernel)
theorem k_541 : (Jvm.Cond.instanceMethod ({ cls := "PackageBook$Presser", name := "remember", desc := "(I)V" } : Jvm.MethodName)) ∈ uW := uW_c1 184 rfl (by decide +kernel)
theorem k_9 : Cond.selects "PackageBook$Presser" ⟨"PackageBook$Presser", "remember", "(I)V"⟩ ⟨"PackageBook$Presser", "remember", "(I)V"⟩ ∈ uW := uW_of 9 (by decide +kernel) (by decide +kernel)
theorem hy_Presser_remember : (y_Presser_remember).cls ≠ "java/lang/invoke/MethodHandle" ∧ (y_Presser_remember).cls ≠ "java/lang/invoke/VarHandle" ∧ (parseMethodDescriptor (y_Presser_remember).desc).map (fun d => d.parameters.length) = some 1 := by decide +kernel
theorem d_Presser_run_130 : decode prog_8_method_2_code 130 = .ok (.iinc 5 1, 3) := by decide +kernel
theorem d_Presser_run_133 : decode prog_8_method_2_code 133 = .ok (.goto (-79), 3) := by decide +kernel
theorem d_Presser_run_63 : decode prog_8_method_2_code 63 = .ok (.iload 5, 2) := by decide +kernel
theorem d_Presser_run_65 : decode prog_8_method_2_code 65 = .ok (.iload 4, 2) := by decide +kernel
theorem d_Presser_run_67 : decode prog_8_method_2_code 67 = .ok (.if_icmp .ne 57, 3) := by decide +kernel
theorem d_Presser_run_70 : decode prog_8_method_2_code 70 = .ok (.aload_n 0, 1) := by decide +kernel
theorem d_Presser_run_71 : decode prog_8_method_2_code 71 = .ok (.iload 5, 2) := by decide +kernel
theorem d_Presser_run_73 : decode prog_8_method_2_code 73 = .ok (.invokevirtual 52, 3) := by decide +kernel
theorem k_509 : (Jvm.Cond.methodLink "PackageBook$Presser" (52 : Nat) ({ cls := "PackageBook$Presser", name := "findLongest", desc := "(I)V" } : Jvm.MethodName)) ∈ uW := uW_c1 152 rfl (by decide +kernel)
theorem k_512 : (Jvm.Cond.code ({ cls := "PackageBook$Presser", name := "findLongest", desc := "(I)V" } : Jvm.MethodName) prog_8_method_3_code (6 : Nat) (Option.none : Option Jvm.ClassFile.FieldType)) ∈ uW := uW_c1 155 rfl (by decide +kernel)
theorem k_511 : (Jvm.Cond.instanceMethod ({ cls := "PackageBook$Presser", name := "findLongest", desc := "(I)V" } : Jvm.MethodName)) ∈ uW := uW_c1 154 rfl (by decide +kernel)
theorem k_3 : Cond.selects "PackageBook$Presser" ⟨"PackageBook$Presser", "findLongest", "(I)V"⟩ ⟨"PackageBook$Presser", "findLongest", "(I)V"⟩ ∈ uW := uW_of 3 (by decide +kernel) (by decide +kernel)
theorem hy_Presser_findLongest : (y_Presser_findLongest).cls ≠ "java/lang/invoke/MethodHandle" ∧ (y_Presser_findLongest).cls ≠ "java/lang/invoke/VarHandle" ∧ (parseMethodDescriptor (y_Presser_findLongest).desc).map (fun d => d.parameters.length) = some 1 := by decide +kernel
theorem d_Presser_run_76 : decode prog_8_method_2_code 76 = .ok (.aload_n 0, 1) := by decide +kernel
theorem d_Presser_run_77 : decode prog_8_method_2_code 77 = .ok (.getfield 55, 3) := by decide +kernel
theorem d_Presser_run_80 : decode prog_8_method_2_code 80 = .ok (.iconst 3, 1) := by decide +kernel
theorem d_Presser_run_81 : decode prog_8_method_2_code 81 = .ok (.if_icmp .ge 26, 3) := by decide +kernel
theorem d_Presser_run_107 : decode prog_8_method_2_code 107 = .ok (.aload_n 0, 1) := by decide +kernel
theorem d_Presser_run_108 : decode prog_8_method_2_code 108 = .ok (.invokevirtual 61, 3) := by decide +kernel
theorem k_531 : (Jvm.Cond.methodLink "PackageBook$Presser" (61 : Nat) ({ cls := "PackageBook$Presser", name := "putLength", desc := "()V" } : Jvm.MethodName)) ∈ uW := uW_c1 174 rfl (by decide +kernel)
theorem k_534 : (Jvm.Cond.code ({ cls := "PackageBook$Presser", name := "putLength", desc := "()V" } : Jvm.MethodName) prog_8_method_7_code (3 : Nat) (Option.none : Option Jvm.ClassFile.FieldType)) ∈ uW := uW_c1 177 rfl (by decide +kernel)
theorem k_533 : (Jvm.Cond.instanceMethod ({ cls := "PackageBook$Presser", name := "putLength", desc := "()V" } : Jvm.MethodName)) ∈ uW := uW_c1 176 rfl (by decide +kernel)
theorem k_7 : Cond.selects "PackageBook$Presser" ⟨"PackageBook$Presser", "putLength", "()V"⟩ ⟨"PackageBook$Presser", "putLength", "()V"⟩ ∈ uW := uW_of 7 (by decide +kernel) (by decide +kernel)
theorem hy_Presser_putLength : (y_Presser_putLength).cls ≠ "java/lang/invoke/MethodHandle" ∧ (y_Presser_putLength).cls ≠ "java/lang/invoke/VarHandle" ∧ (parseMethodDescriptor (y_Presser_putLength).desc).map (fun d => d.parameters.length) = some 0 := by decide +kernel
theorem d_Presser_run_111 : decode prog_8_method_2_code 111 = .ok (.aload_n 0, 1) := by decide +kernel
theorem d_Presser_run_112 : decode prog_8_method_2_code 112 = .ok (.invokevirtual 64, 3) := by decide +kernel
theorem k_535 : (Jvm.Cond.methodLink "PackageBook$Presser" (64 : Nat) ({ cls := "PackageBook$Presser", name := "putDistance", desc := "()V" } : Jvm.MethodName)) ∈ uW := uW_c1 178 rfl (by decide +kernel)
theorem k_538 : (Jvm.Cond.code ({ cls := "PackageBook$Presser", name := "putDistance", desc := "()V" } : Jvm.MethodName) prog_8_method_8_code (3 : Nat) (Option.none : Option Jvm.ClassFile.FieldType)) ∈ uW := uW_c1 181 rfl (by decide +kernel)
theorem k_537 : (Jvm.Cond.instanceMethod ({ cls := "PackageBook$Presser", name := "putDistance", desc := "()V" } : Jvm.MethodName)) ∈ uW := uW_c1 180 rfl (by decide +kernel)
theorem k_8 : Cond.selects "PackageBook$Presser" ⟨"PackageBook$Presser", "putDistance", "()V"⟩ ⟨"PackageBook$Presser", "putDistance", "()V"⟩ ∈ uW := uW_of 8 (by decide +kernel) (by decide +kernel)
theorem hy_Presser_putDistance : (y_Presser_putDistance).cls ≠ "java/lang/invoke/MethodHandle" ∧ (y_Presser_putDistance).cls ≠ "java/lang/invoke/VarHandle" ∧ (parseMethodDescriptor (y_Presser_putDistance).desc).map (fun d => d.parameters.length) = some 0 := by decide +kernel
theorem d_Presser_run_115 : decode prog_8_method_2_code 115 = .ok (.iload 4, 2) := by decide +kernel
theorem d_Presser_run_117 : decode prog_8_method_2_code 117 = .ok (.aload_n 0, 1) := by decide +kernel
theorem d_Presser_run_118 : decode prog_8_method_2_code 118 = .ok (.getfield 55, 3) := by decide +kernel
theorem d_Presser_run_121 : decode prog_8_method_2_code 121 = .ok (.iadd, 1) := by decide +kernel
theorem d_Presser_run_122 : decode prog_8_method_2_code 122 = .ok (.istore 4, 2) := by decide +kernel
theorem d_Presser_run_84 : decode prog_8_method_2_code 84 = .ok (.aload_n 0, 1) := by decide +kernel
theorem d_Presser_run_85 : decode prog_8_method_2_code 85 = .ok (.aload_n 0, 1) := by decide +kernel
theorem d_Presser_run_86 : decode prog_8_method_2_code 86 = .ok (.getfield 27, 3) := by decide +kernel
theorem d_Presser_run_89 : decode prog_8_method_2_code 89 = .ok (.aload_n 0, 1) := by decide +kernel
theorem d_Presser_run_90 : decode prog_8_method_2_code 90 = .ok (.getfield 31, 3) := by decide +kernel
theorem d_Presser_run_93 : decode prog_8_method_2_code 93 = .ok (.iload 5, 2) := by decide +kernel
theorem d_Presser_run_95 : decode prog_8_method_2_code 95 = .ok (.iadd, 1) := by decide +kernel
theorem d_Presser_run_96 : decode prog_8_method_2_code 96 = .ok (.baload, 1) := by decide +kernel
theorem d_Presser_run_97 : decode prog_8_method_2_code 97 = .ok (.sipush 255, 3) := by decide +kernel
theorem d_Presser_run_100 : decode prog_8_method_2_code 100 = .ok (.iand, 1) := by decide +kernel
theorem d_Presser_run_101 : decode prog_8_method_2_code 101 = .ok (.invokevirtual 58, 3) := by decide +kernel
theorem d_Presser_run_104 : decode prog_8_method_2_code 104 = .ok (.goto 11, 3) := by decide +kernel
abbrev y_Presser_run : MethodName := ⟨"PackageBook$Presser", "run", "([BII)V"⟩
abbrev i_Presser_run : pb_I := (y_Presser_run, prog_8_method_2_code, 6, (Option.none : Option Jvm.ClassFile.FieldType), [], { frames := 3, cells := 0, slots := 0, locals := 66 })
set_option maxRecDepth 100000 in
set_option maxHeartbeats 4000000 in
theorem g_Pr_run {l : Launch} (hl : l.stackTraces = false) (G : pb_G) (h : Nat) (pp : Nat) (pl : Nat) (pe : Nat) (pr : Nat) (pb : Nat) (bg : Int32) (sz : Int32) (bt : Int32) (ln : Int32) (ds : Int32) (b : Nat) (N : Nat) (f : Nat → Int32) (fr : Nat → Int32) (fl : Nat → Int32) (fe : Nat → Int32) (ps : Int32) (x : Int32) (n : Int32) (x0 : 0 ≤ x.toInt) (x1 : 0 ≤ n.toInt) (x2 : n.toInt ≤ 4000) (x3 : x.toInt + n.toInt ≤ N) (x4 : N ≤ 100000) (F_f : sb_Fit f) (F_fr : sb_Fit fr) : Cn l G i_Presser_run [.ref h, .ref b, .int x, .int n] [(h, .inr (4, [.ref pp, .ref pl, .ref pe, .ref pr, .int bg, .int sz, .int bt, .int ln, .int ds])), (pp, .inr (0, [.ref pb, .int ps])), (pb, .inl (G.2.1, 4502, .inl f)), (pl, .inl (G.2.2.1, 1024, .inl fl)), (pe, .inl (G.2.2.1, 4000, .inl fe)), (b, .inl (G.2.1, N, .inl fr))] (S := Int32 × Int32 × Int32 × Int32 × (Nat → Int32) × (Nat → Int32) × (Nat → Int32)) (fun rv_ u => rv_ = none ∧ (0 ≤ u.2.2.2.1.toInt) ∧ (u.2.2.2.1.toInt ≤ 4502) ∧ (pt_F (sq fr x.toInt n.toInt) n.toInt u.2.2.2.1.toInt) ∧ (pF_ (sq fr x.toInt n.toInt) n.toInt u.2.2.2.2.1 u.2.2.2.1.toInt) ∧ (sb_Fit u.2.2.2.2.1)) (fun u => [(h, .inr (4, [.ref pp, .ref pl, .ref pe, .ref b, .int x, .int n, .int u.1, .int u.2.1, .int u.2.2.1])), (pp, .inr (0, [.ref pb, .int u.2.2.2.1])), (pb, .inl (G.2.1, 4502, .inl u.2.2.2.2.1)), (pl, .inl (G.2.2.1, 1024, .inl u.2.2.2.2.2.1)), (pe, .inl (G.2.2.1, 4000, .inl u.2.2.2.2.2.2)), (b, .inl (G.2.1, N, .inl fr))]) := by
  refine Cn.of hl (by decide +kernel) rfl (Nat.le_of_ble_eq_true rfl) (fun M hQ => ?_)
  refine pb_eq (pc' := 0) (lo' := [(0, .ref h), (1, .ref b), (2, .int x), (3, .int n)]) (rest' := []) (ws' := [(h, .inr (4, [.ref pp, .ref pl, .ref pe, .ref pr, .int bg, .int sz, .int bt, .int ln, .int ds])), (pp, .inr (0, [.ref pb, .int ps])), (pb, .inl (G.2.1, 4502, .inl f)), (pl, .inl (G.2.2.1, 1024, .inl fl)), (pe, .inl (G.2.2.1, 4000, .inl fe)), (b, .inl (G.2.1, N, .inl fr))]) ?_
  have zm1 : ((-1) : Int32).toInt = (-1) := by decide
  have zl0 : (0 : Int32).toInt = 0 := by decide
  have zl1 : (1 : Int32).toInt = 1 := by decide
  have zl2 : (2 : Int32).toInt = 2 := by decide
  have zl3 : (3 : Int32).toInt = 3 := by decide
  have zl255 : (255 : Int32).toInt = 255 := by decide
  have zl256 : (256 : Int32).toInt = 256 := by decide
  refine pb_aload_n (pc := 0) d_Presser_run_0 0 rfl rfl ?_
  refine pb_aload_n (pc := 1) d_Presser_run_1 1 rfl rfl ?_
  refine pb_put (pc := 2) (ty := (.array .byte)) (ws' := [(h, .inr (4, [.ref pp, .ref pl, .ref pe, .ref b, .int bg, .int sz, .int bt, .int ln, .int ds])), (pp, .inr (0, [.ref pb, .int ps])), (pb, .inl (G.2.1, 4502, .inl f)), (pl, .inl (G.2.2.1, 1024, .inl fl)), (pe, .inl (G.2.2.1, 4000, .inl fe)), (b, .inl (G.2.1, N, .inl fr))]) d_Presser_run_2 0 3 t_Presser t_Presser_ok n_Presser rfl rfl (by decide) in_Presser k_186 rfl (by decide +kernel) rfl rfl (Nat.le_of_ble_eq_true rfl) rfl ?_
  refine pb_aload_n (pc := 5) d_Presser_run_5 0 rfl rfl ?_
  refine pb_iload_n (pc := 6) d_Presser_run_6 2 rfl rfl ?_
  refine pb_put (pc := 7) (ty := .int) (ws' := [(h, .inr (4, [.ref pp, .ref pl, .ref pe, .ref b, .int x, .int sz, .int bt, .int ln, .int ds])), (pp, .inr (0, [.ref pb, .int ps])), (pb, .inl (G.2.1, 4502, .inl f)), (pl, .inl (G.2.2.1, 1024, .inl fl)), (pe, .inl (G.2.2.1, 4000, .inl fe)), (b, .inl (G.2.1, N, .inl fr))]) d_Presser_run_7 0 4 t_Presser t_Presser_ok n_Presser rfl rfl (by decide) in_Presser k_187 rfl (by decide +kernel) rfl rfl (Nat.le_of_ble_eq_true rfl) rfl ?_
  refine pb_aload_n (pc := 10) d_Presser_run_10 0 rfl rfl ?_
  refine pb_iload_n (pc := 11) d_Presser_run_11 3 rfl rfl ?_
  refine pb_put (pc := 12) (ty := .int) (ws' := [(h, .inr (4, [.ref pp, .ref pl, .ref pe, .ref b, .int x, .int n, .int bt, .int ln, .int ds])), (pp, .inr (0, [.ref pb, .int ps])), (pb, .inl (G.2.1, 4502, .inl f)), (pl, .inl (G.2.2.1, 1024, .inl fl)), (pe, .inl (G.2.2.1, 4000, .inl fe)), (b, .inl (G.2.1, N, .inl fr))]) d_Presser_run_12 0 5 t_Presser t_Presser_ok n_Presser rfl rfl (by decide) in_Presser k_188 rfl (by decide +kernel) rfl rfl (Nat.le_of_ble_eq_true rfl) rfl ?_
  refine pb_aload_n (pc := 15) d_Presser_run_15 0 rfl rfl ?_
  refine pb_get (pc := 16) d_Presser_run_16 0 0 rfl rfl (by decide) in_Presser k_181 rfl ?_
  refine pb_iconst (pc := 19) (v := 0) d_Presser_run_19 (by decide) ?_
  refine pb_putN (pc := 20) (ty := .int) (ws' := [(h, .inr (4, [.ref pp, .ref pl, .ref pe, .ref b, .int x, .int n, .int bt, .int ln, .int ds])), (pp, .inr (0, [.ref pb, .int 0])), (pb, .inl (G.2.1, 4502, .inl f)), (pl, .inl (G.2.2.1, 1024, .inl fl)), (pe, .inl (G.2.2.1, 4000, .inl fe)), (b, .inl (G.2.1, N, .inl fr))]) d_Presser_run_20 1 1 t_Row t_Row_ok n_Row rfl rfl (by decide) in_Row k_164 rfl (by decide +kernel) rfl rfl (Nat.le_of_ble_eq_true rfl) rfl ?_
  refine pb_aload_n (pc := 23) d_Presser_run_23 0 rfl rfl ?_
  refine pb_iconst (pc := 24) (v := 0) d_Presser_run_24 (by decide) ?_
  refine pb_put (pc := 25) (ty := .int) (ws' := [(h, .inr (4, [.ref pp, .ref pl, .ref pe, .ref b, .int x, .int n, .int 0, .int ln, .int ds])), (pp, .inr (0, [.ref pb, .int 0])), (pb, .inl (G.2.1, 4502, .inl f)), (pl, .inl (G.2.2.1, 1024, .inl fl)), (pe, .inl (G.2.2.1, 4000, .inl fe)), (b, .inl (G.2.1, N, .inl fr))]) d_Presser_run_25 0 6 t_Presser t_Presser_ok n_Presser rfl rfl (by decide) in_Presser k_189 rfl (by decide +kernel) rfl rfl (Nat.le_of_ble_eq_true rfl) rfl ?_
  refine pb_aload_n (pc := 28) d_Presser_run_28 0 rfl rfl ?_
  refine pb_get (pc := 29) d_Presser_run_29 0 1 rfl rfl (by decide) in_Presser k_184 rfl ?_
  refine pb_iconst (pc := 32) (v := (-1)) d_Presser_run_32 (by decide) ?_
  refine pb_callS (pc := 33) (I := i_Presser_run) (nA := 2) (rest := []) (wr := [(h, .inr (4, [.ref pp, .ref pl, .ref pe, .ref b, .int x, .int n, .int 0, .int ln, .int ds])), (pp, .inr (0, [.ref pb, .int 0])), (pb, .inl (G.2.1, 4502, .inl f)), (pe, .inl (G.2.2.1, 4000, .inl fe)), (b, .inl (G.2.1, N, .inl fr))]) d_Presser_run_33 (g_fill hl G pl 1024 fl (-1) (by first | (with_reducible assumption) | omega (splitDisjunctions := false) | assumption | omega | decide)) [3] [0, 1, 2, 4, 5] (by decide) rfl rfl rfl (by decide) (by decide) k_504 rfl k_136 k_502 k_503 hy_JArrays_fill (by decide) rfl rfl (Nat.le_of_ble_eq_true rfl) (by decide) (fun v9 u2 ch1 => ?_)
  obtain ⟨f_3, rfl⟩ : ∃ z9, z9 = u2 := ⟨_, rfl⟩
  obtain ⟨ech1, ch1⟩ := ch1
  have ech1 : v9 = none := ech1
  subst ech1
  have fh4 : ∀ x : Int, 0 ≤ x → x < 1024 → gx f_3 x = ((-1) : Int32).toInt := ch1
  have fillF := fh4
  refine pb_eq (pc' := 36) (lo' := [(0, .ref h), (1, .ref b), (2, .int x), (3, .int n)]) (rest' := []) (ws' := [(h, .inr (4, [.ref pp, .ref pl, .ref pe, .ref b, .int x, .int n, .int 0, .int ln, .int ds])), (pp, .inr (0, [.ref pb, .int 0])), (pb, .inl (G.2.1, 4502, .inl f)), (pe, .inl (G.2.2.1, 4000, .inl fe)), (b, .inl (G.2.1, N, .inl fr)), (pl, .inl (G.2.2.1, 1024, .inl f_3))]) ?_
  refine pb_aload_n (pc := 36) d_Presser_run_36 0 rfl rfl ?_
  refine pb_iconst (pc := 37) (v := 1) d_Presser_run_37 (by decide) ?_
  refine pb_iconst (pc := 38) (v := 1) d_Presser_run_38 (by decide) ?_
  refine pb_callV (pc := 39) (I := i_Presser_run) (qb := 0) (ci := 4) (nA := 2) (rest := []) (wr := [(pe, .inl (G.2.2.1, 4000, .inl fe)), (b, .inl (G.2.1, N, .inl fr)), (pl, .inl (G.2.2.1, 1024, .inl f_3))]) d_Presser_run_39 (g_Pr_putNumber hl G h pp pl pe b pb x n 0 ln ds f 0 1 1 bz_ (by first | (with_reducible assumption) | omega (splitDisjunctions := false) | assumption | omega | decide) (by first | (with_reducible assumption) | omega (splitDisjunctions := false) | assumption | omega | decide) (by first | (with_reducible assumption) | omega (splitDisjunctions := false) | assumption | omega | decide) (by first | (with_reducible assumption) | omega (splitDisjunctions := false) | assumption | omega | decide) (by first | (with_reducible assumption) | omega (splitDisjunctions := false) | assumption | omega | decide) (pC_0 zl0 zl0) (by first | (with_reducible assumption) | omega (splitDisjunctions := false) | assumption | omega | decide) (by first | (with_reducible assumption) | omega (splitDisjunctions := false) | assumption | omega | decide) F_f) rfl rfl [0, 1, 2] [3, 4, 5] (by decide) rfl rfl rfl (by decide) (by decide) k_508 rfl k_120 k_505 k_507 k_2 ⟨rfl, hy_Presser_putNumber⟩ (by decide) rfl rfl (Nat.le_of_ble_eq_true rfl) (by decide) (fun v9 u6 ch5 => ?_)
  obtain ⟨b_7, p_8, f_9⟩ := u6
  obtain ⟨ech5, ch5⟩ := ch5
  have ech5 : v9 = none := ech5
  subst ech5
  obtain ⟨fh10, fh11, fh12, fh13⟩ : (b_7.toInt = (0 : Int32).toInt + (1 : Int32).toInt) ∧ (p_8.toInt = (b_7.toInt + 7) / 8) ∧ (pC_ f_9 p_8.toInt b_7.toInt (bn_ bz_ (1 : Int32).toInt (1 : Int32).toInt.toNat)) ∧ (sb_Fit f_9) := ch5
  have p1F := fh12
  rw [zl1] at p1F
  refine pb_eq (pc' := 42) (lo' := [(0, .ref h), (1, .ref b), (2, .int x), (3, .int n)]) (rest' := []) (ws' := [(pe, .inl (G.2.2.1, 4000, .inl fe)), (b, .inl (G.2.1, N, .inl fr)), (pl, .inl (G.2.2.1, 1024, .inl f_3)), (h, .inr (4, [.ref pp, .ref pl, .ref pe, .ref b, .int x, .int n, .int b_7, .int ln, .int ds])), (pp, .inr (0, [.ref pb, .int p_8])), (pb, .inl (G.2.1, 4502, .inl f_9))]) ?_
  refine pb_aload_n (pc := 42) d_Presser_run_42 0 rfl rfl ?_
  refine pb_iconst (pc := 43) (v := 1) d_Presser_run_43 (by decide) ?_
  refine pb_iconst (pc := 44) (v := 2) d_Presser_run_44 (by decide) ?_
  refine pb_callV (pc := 45) (I := i_Presser_run) (qb := 3) (ci := 4) (nA := 2) (rest := []) (wr := [(pe, .inl (G.2.2.1, 4000, .inl fe)), (b, .inl (G.2.1, N, .inl fr)), (pl, .inl (G.2.2.1, 1024, .inl f_3))]) d_Presser_run_45 (g_Pr_putNumber hl G h pp pl pe b pb x n b_7 ln ds f_9 p_8 1 2 (bn_ bz_ 1 (1 : Int).toNat) (by first | (with_reducible assumption) | omega (splitDisjunctions := false) | assumption | omega | decide) (by first | (with_reducible assumption) | omega (splitDisjunctions := false) | assumption | omega | decide) (by first | (with_reducible assumption) | omega (splitDisjunctions := false) | assumption | omega | decide) (by first | (with_reducible assumption) | omega (splitDisjunctions := false) | assumption | omega | decide) (by first | (with_reducible assumption) | omega (splitDisjunctions := false) | assumption | omega | decide) p1F (by first | (with_reducible assumption) | omega (splitDisjunctions := false) | assumption | omega | decide) (by first | (with_reducible assumption) | omega (splitDisjunctions := false) | assumption | omega | decide) fh13) rfl rfl [3, 4, 5] [0, 1, 2] (by decide) rfl rfl rfl (by decide) (by decide) k_508 rfl k_120 k_505 k_507 k_2 ⟨rfl, hy_Presser_putNumber⟩ (by decide) rfl rfl (Nat.le_of_ble_eq_true rfl) (by decide) (fun v9 u15 ch14 => ?_)
  obtain ⟨b_16, p_17, f_18⟩ := u15
  obtain ⟨ech14, ch14⟩ := ch14
  have ech14 : v9 = none := ech14
  subst ech14
  obtain ⟨fh19, fh20, fh21, fh22⟩ : (b_16.toInt = b_7.toInt + (2 : Int32).toInt) ∧ (p_17.toInt = (b_16.toInt + 7) / 8) ∧ (pC_ f_18 p_17.toInt b_16.toInt (bn_ (bn_ bz_ 1 (1 : Int).toNat) (1 : Int32).toInt (2 : Int32).toInt.toNat)) ∧ (sb_Fit f_18) := ch14
  have p2F := fh21
  rw [zl1, show (2 : Int32).toInt = 2 by decide] at p2F
  refine pb_eq (pc' := 48) (lo' := [(0, .ref h), (1, .ref b), (2, .int x), (3, .int n)]) (rest' := []) (ws' := [(pe, .inl (G.2.2.1, 4000, .inl fe)), (b, .inl (G.2.1, N, .inl fr)), (pl, .inl (G.2.2.1, 1024, .inl f_3)), (h, .inr (4, [.ref pp, .ref pl, .ref pe, .ref b, .int x, .int n, .int b_16, .int ln, .int ds])), (pp, .inr (0, [.ref pb, .int p_17])), (pb, .inl (G.2.1, 4502, .inl f_18))]) ?_
  refine pb_iconst (pc := 48) (v := 0) d_Presser_run_48 (by decide) ?_
  refine pb_istore (pc := 49) (lo' := [(4, .int 0), (0, .ref h), (1, .ref b), (2, .int x), (3, .int n)]) d_Presser_run_49 (by decide) rfl ?_
  refine pb_iconst (pc := 51) (v := 0) d_Presser_run_51 (by decide) ?_
  refine pb_istore (pc := 52) (lo' := [(5, .int 0), (4, .int 0), (0, .ref h), (1, .ref b), (2, .int x), (3, .int n)]) d_Presser_run_52 (by decide) rfl ?_
  have hL54_23 : ∀ (N9 : Nat) (pl_ : Int32) (nx : Int32) (bt_ : Int32) (ln_ : Int32) (ds_ : Int32) (ps_ : Int32) (f_ : Nat → Int32) (fl_ : Nat → Int32) (fe_ : Nat → Int32), (sb_Fit f_) → (0 ≤ pl_.toInt) → (pl_.toInt ≤ n.toInt) → (pl_.toInt ≤ nx.toInt) → (pt_R (sq fr x.toInt n.toInt) n.toInt nx.toInt bt_.toInt) → (ps_.toInt = (bt_.toInt + 7) / 8) → (ch_I (sq fr x.toInt n.toInt) n.toInt pl_.toInt fl_ fe_) → (hid_ (∃ S9 : Int × (Int → Int), pS_R (sq fr x.toInt n.toInt) n.toInt nx.toInt S9 ∧ pC_ f_ ps_.toInt bt_.toInt S9)) → ((n.toInt - pl_.toInt).toNat) < N9 → pb_P l G M i_Presser_run 54 [(5, .int pl_), (4, .int nx), (0, .ref h), (1, .ref b), (2, .int x), (3, .int n)] [] [(h, .inr (4, [.ref pp, .ref pl, .ref pe, .ref b, .int x, .int n, .int bt_, .int ln_, .int ds_])), (pp, .inr (0, [.ref pb, .int ps_])), (pb, .inl (G.2.1, 4502, .inl f_)), (pl, .inl (G.2.2.1, 1024, .inl fl_)), (pe, .inl (G.2.2.1, 4000, .inl fe_)), (b, .inl (G.2.1, N, .inl fr))] 0 0 := by
    intro N9
    induction N9 with
    | zero => intro pl_ nx bt_ ln_ ds_ ps_ f_ fl_ fe_ F_f_ hpl hpl2 hnx hT hz hI hB hm9; exact absurd hm9 (Nat.not_lt_zero _)
    | succ N9 ih54 =>
      intro pl_ nx bt_ ln_ ds_ ps_ f_ fl_ fe_ F_f_ hpl hpl2 hnx hT hz hI hB hm9
      have hTr := pt_rng x1 hT
      refine pb_iload (pc := 54) d_Presser_run_54 0 rfl ?_
      refine pb_aload_n (pc := 56) d_Presser_run_56 2 rfl rfl ?_
      refine pb_get (pc := 57) d_Presser_run_57 0 5 rfl rfl (by decide) in_Presser k_188 rfl ?_
      refine pb_icmp_ge (pc := 60) (tgt := 136) d_Presser_run_60 (by decide) (fun w24 => ?_) (fun w24 => ?_)
      · have tw24 : n.toInt ≤ pl_.toInt := (ti_le rfl rfl).mp w24
        obtain ⟨S9, hS9, hC9⟩ := hid_o hB
        refine pb_aload_n (pc := 136) d_Presser_run_136 2 rfl rfl ?_
        refine pb_sipush (pc := 137) (v := 256) d_Presser_run_137 (by decide) ?_
        refine pb_callV (pc := 140) (I := i_Presser_run) (qb := 0) (ci := 4) (nA := 1) (rest := []) (wr := [(pl, .inl (G.2.2.1, 1024, .inl fl_)), (pe, .inl (G.2.2.1, 4000, .inl fe_)), (b, .inl (G.2.1, N, .inl fr))]) d_Presser_run_140 (g_Pr_putSymbol hl G h pp pl pe b pb x n bt_ ln_ ds_ f_ ps_ 256 S9 (by first | (with_reducible assumption) | omega (splitDisjunctions := false) | assumption | omega | decide) (by first | (with_reducible assumption) | omega (splitDisjunctions := false) | assumption | omega | decide) (by first | (with_reducible assumption) | omega (splitDisjunctions := false) | assumption | omega | decide) hC9 (by first | (with_reducible assumption) | omega (splitDisjunctions := false) | assumption | omega | decide) (by first | (with_reducible assumption) | omega (splitDisjunctions := false) | assumption | omega | decide) F_f_) rfl rfl [0, 1, 2] [3, 4, 5] (by decide) rfl rfl rfl (by decide) (by decide) k_527 rfl k_120 k_524 k_526 k_6 ⟨rfl, hy_Presser_putSymbol⟩ (by decide) rfl rfl (Nat.le_of_ble_eq_true rfl) (by decide) (fun v9 u26 ch25 => ?_)
        obtain ⟨b_27, p_28, f_29⟩ := u26
        obtain ⟨ech25, ch25⟩ := ch25
        have ech25 : v9 = none := ech25
        subst ech25
        obtain ⟨fh30, fh31, fh32, fh33, fh34, fh35, fh36⟩ : ((256 : Int32).toInt < 144 → b_27.toInt = bt_.toInt + 8) ∧ (144 ≤ (256 : Int32).toInt → (256 : Int32).toInt < 256 → b_27.toInt = bt_.toInt + 9) ∧ (256 ≤ (256 : Int32).toInt → (256 : Int32).toInt < 280 → b_27.toInt = bt_.toInt + 7) ∧ (280 ≤ (256 : Int32).toInt → b_27.toInt = bt_.toInt + 8) ∧ (p_28.toInt = (b_27.toInt + 7) / 8) ∧ (pC_ f_29 p_28.toInt b_27.toInt (sb_ S9 (256 : Int32).toInt)) ∧ (sb_Fit f_29) := ch25
        have enF := fh35
        rw [show (256 : Int32).toInt = 256 by decide] at enF
        refine pb_eq (pc' := 143) (lo' := [(5, .int pl_), (4, .int nx), (0, .ref h), (1, .ref b), (2, .int x), (3, .int n)]) (rest' := []) (ws' := [(pl, .inl (G.2.2.1, 1024, .inl fl_)), (pe, .inl (G.2.2.1, 4000, .inl fe_)), (b, .inl (G.2.1, N, .inl fr)), (h, .inr (4, [.ref pp, .ref pl, .ref pe, .ref b, .int x, .int n, .int b_27, .int ln_, .int ds_])), (pp, .inr (0, [.ref pb, .int p_28])), (pb, .inl (G.2.1, 4502, .inl f_29))]) ?_
        exact pb_vret (pc := 143) hQ d_Presser_run_143 rfl (b_27, ln_, ds_, p_28, f_29, fl_, fe_) ⟨rfl, (by (try dsimp only); first | done | (with_reducible assumption) | omega (splitDisjunctions := false) | assumption | (exact omg_54e905f47a zl256 hTr fh32 fh34) | decide), (by (try dsimp only); first | done | (with_reducible assumption) | omega (splitDisjunctions := false) | assumption | (exact omg_985cf73b4f x2 zl256 hTr fh32 fh34) | decide), (show pt_F (sq fr x.toInt n.toInt) n.toInt p_28.toInt from (pt_Fi hT (by omega) (by (exact omg_42e92a79db zl256 fh32 fh34)))), (show pF_ (sq fr x.toInt n.toInt) n.toInt f_29 p_28.toInt from ⟨S9, _, pS_eq hS9 (by omega), enF⟩), fh36⟩ [3, 4, 5, 0, 1, 2] (by decide) rfl rfl (by decide) (by decide)
      · have tw24 : ¬ n.toInt ≤ pl_.toInt := fun z9 => w24 ((ti_le rfl rfl).mpr z9)
        have hJ124_37 : ∀ (nx4 : Int32) (bt4 : Int32) (ln4 : Int32) (ds4 : Int32) (ps4 : Int32) (f4 : Nat → Int32), (sb_Fit f4) → (pl_.toInt < nx4.toInt) → (pt_R (sq fr x.toInt n.toInt) n.toInt nx4.toInt bt4.toInt) → (ps4.toInt = (bt4.toInt + 7) / 8) → (hid_ (∃ S9 : Int × (Int → Int), pS_R (sq fr x.toInt n.toInt) n.toInt nx4.toInt S9 ∧ pC_ f4 ps4.toInt bt4.toInt S9)) → pb_P l G M i_Presser_run 124 [(5, .int pl_), (4, .int nx4), (0, .ref h), (1, .ref b), (2, .int x), (3, .int n)] [] [(h, .inr (4, [.ref pp, .ref pl, .ref pe, .ref b, .int x, .int n, .int bt4, .int ln4, .int ds4])), (pp, .inr (0, [.ref pb, .int ps4])), (pb, .inl (G.2.1, 4502, .inl f4)), (pl, .inl (G.2.2.1, 1024, .inl fl_)), (pe, .inl (G.2.2.1, 4000, .inl fe_)), (b, .inl (G.2.1, N, .inl fr))] 0 0 := by
          intro nx4 bt4 ln4 ds4 ps4 f4 F_f4 j1 j2 j3 hB4
          refine pb_aload_n (pc := 124) d_Presser_run_124 2 rfl rfl ?_
          refine pb_iload (pc := 125) d_Presser_run_125 0 rfl ?_
          refine pb_callV (pc := 127) (I := i_Presser_run) (qb := 0) (ci := 4) (nA := 1) (rest := []) (wr := [(pp, .inr (0, [.ref pb, .int ps4])), (pb, .inl (G.2.1, 4502, .inl f4))]) d_Presser_run_127 (g_Pr_remember hl G h pp pl pe b pb x n bt4 ln4 ds4 N fr fl_ fe_ pl_ (by first | (with_reducible assumption) | omega (splitDisjunctions := false) | assumption | omega | decide) (by first | (with_reducible assumption) | omega (splitDisjunctions := false) | assumption | omega | decide) (by first | (with_reducible assumption) | omega (splitDisjunctions := false) | assumption | omega | decide) (by first | (with_reducible assumption) | omega (splitDisjunctions := false) | assumption | omega | decide) (by first | (with_reducible assumption) | omega (splitDisjunctions := false) | assumption | omega | decide) (by first | (with_reducible assumption) | omega (splitDisjunctions := false) | assumption | omega | decide) (by first | (with_reducible assumption) | omega (splitDisjunctions := false) | assumption | omega | decide) (by first | (with_reducible assumption) | omega (splitDisjunctions := false) | assumption | omega | decide) (by first | (with_reducible assumption) | omega (splitDisjunctions := false) | assumption | omega | decide)) rfl rfl [0, 5, 3, 4] [1, 2] (by decide) rfl rfl rfl (by decide) (by decide) k_542 rfl k_120 k_539 k_541 k_9 ⟨rfl, hy_Presser_remember⟩ (by decide) rfl rfl (Nat.le_of_ble_eq_true rfl) (by decide) (fun v9 u39 ch38 => ?_)
          obtain ⟨fl_40, fe_41⟩ := u39
          obtain ⟨ech38, ch38⟩ := ch38
          have ech38 : v9 = none := ech38
          subst ech38
          have fh42 : ch_I (sq fr x.toInt n.toInt) n.toInt (pl_.toInt + 1) fl_40 fe_41 := ch38
          refine pb_eq (pc' := 130) (lo' := [(5, .int pl_), (4, .int nx4), (0, .ref h), (1, .ref b), (2, .int x), (3, .int n)]) (rest' := []) (ws' := [(pp, .inr (0, [.ref pb, .int ps4])), (pb, .inl (G.2.1, 4502, .inl f4)), (h, .inr (4, [.ref pp, .ref pl, .ref pe, .ref b, .int x, .int n, .int bt4, .int ln4, .int ds4])), (b, .inl (G.2.1, N, .inl fr)), (pl, .inl (G.2.2.1, 1024, .inl fl_40)), (pe, .inl (G.2.2.1, 4000, .inl fe_41))]) ?_
          refine pb_iincN (pc := 130) (c := 1) d_Presser_run_130 0 rfl (by decide) (by decide) (fun i43 ei43 => ?_)
          have ti43 : i43.toInt = pl_.toInt + 1 := ti_add ei43 rfl (by decide) (by omega) (by omega)
          refine pb_eq (pc' := 133) (lo' := [(5, .int i43), (4, .int nx4), (0, .ref h), (1, .ref b), (2, .int x), (3, .int n)]) (rest' := []) (ws' := [(pp, .inr (0, [.ref pb, .int ps4])), (pb, .inl (G.2.1, 4502, .inl f4)), (h, .inr (4, [.ref pp, .ref pl, .ref pe, .ref b, .int x, .int n, .int bt4, .int ln4, .int ds4])), (b, .inl (G.2.1, N, .inl fr)), (pl, .inl (G.2.2.1, 1024, .inl fl_40)), (pe, .inl (G.2.2.1, 4000, .inl fe_41))]) ?_
          refine pb_goto (pc := 133) (tgt := 54) d_Presser_run_133 (by decide) ?_
          refine pb_re (ws' := [(h, .inr (4, [.ref pp, .ref pl, .ref pe, .ref b, .int x, .int n, .int bt4, .int ln4, .int ds4])), (pp, .inr (0, [.ref pb, .int ps4])), (pb, .inl (G.2.1, 4502, .inl f4)), (pl, .inl (G.2.2.1, 1024, .inl fl_40)), (pe, .inl (G.2.2.1, 4000, .inl fe_41)), (b, .inl (G.2.1, N, .inl fr))]) (lo' := [(5, .int i43), (4, .int nx4), (0, .ref h), (1, .ref b), (2, .int x), (3, .int n)]) [2, 0, 1, 4, 5, 3] [0, 1, 2, 3, 4, 5] (by decide) rfl rfl rfl ?_
          exact ih54 i43 nx4 bt4 ln4 ds4 ps4 f4 fl_40 fe_41 F_f4 (by first | (with_reducible assumption) | omega (splitDisjunctions := false) | assumption | omega | decide) (by first | (with_reducible assumption) | omega (splitDisjunctions := false) | assumption | omega | decide) (by first | (with_reducible assumption) | omega (splitDisjunctions := false) | assumption | omega | decide) j2 (by first | (with_reducible assumption) | omega (splitDisjunctions := false) | assumption | omega | decide) (by have hE : i43.toInt = pl_.toInt + 1 := (by omega); rw [hE]; assumption) hB4 (by (exact omg_7c8a06b1f5 hm9 tw24 ti43))
        obtain ⟨S9, hS9, hC9⟩ := hid_o hB
        refine pb_iload (pc := 63) d_Presser_run_63 0 rfl ?_
        refine pb_iload (pc := 65) d_Presser_run_65 1 rfl ?_
        refine pb_icmp_ne (pc := 67) (tgt := 124) d_Presser_run_67 (by decide) (fun w44 => ?_) (fun w44 => ?_)
        · have tw44 : ¬ pl_.toInt = nx.toInt := fun z9 => w44 ((ti_eq rfl rfl).mpr z9)
          exact hJ124_37 nx bt_ ln_ ds_ ps_ f_ F_f_ (by first | (with_reducible assumption) | omega (splitDisjunctions := false) | assumption | omega | decide) (by first | assumption | exact pt_st hT2 (fl_lit y1 (by omega) (by omega) (by omega) (li_sq (c := bt_.toInt - bt_.toInt) (by assumption) (by assumption) (by omega) (by omega) (by omega))) (by omega) | exact pt_st hT2 (fl_row (c := bt_.toInt - bt_.toInt) y1 (by omega) (by omega) (by omega) (by omega)) (by omega)) (by first | (with_reducible assumption) | omega (splitDisjunctions := false) | assumption | omega | decide) (by first | exact hid_i ⟨S9, pS_eq hS9 (by omega), hC9⟩ | exact hid_i ⟨_, pS_st (pS_eq hS9 (by omega)) (tk_fl y1 (by omega) (by omega) (by omega) (sq_by eA eI (by omega) (by omega))), syF⟩ | exact hid_i ⟨_, pS_st (pS_eq hS9 (by omega)) (tk_fr y1 (by omega) (by omega) (by omega)), dsF⟩)
        · have tw44 : pl_.toInt = nx.toInt := (ti_eq rfl rfl).mp w44
          refine pb_aload_n (pc := 70) d_Presser_run_70 2 rfl rfl ?_
          refine pb_iload (pc := 71) d_Presser_run_71 0 rfl ?_
          refine pb_callV (pc := 73) (I := i_Presser_run) (qb := 0) (ci := 4) (nA := 1) (rest := []) (wr := [(pp, .inr (0, [.ref pb, .int ps_])), (pb, .inl (G.2.1, 4502, .inl f_))]) d_Presser_run_73 (g_Pr_findLongest hl G h pp pl pe b pb x n bt_ ln_ ds_ N fr fl_ fe_ pl_ (by first | (with_reducible assumption) | omega (splitDisjunctions := false) | assumption | omega | decide) (by first | (with_reducible assumption) | omega (splitDisjunctions := false) | assumption | omega | decide) (by first | (with_reducible assumption) | omega (splitDisjunctions := false) | assumption | omega | decide) (by first | (with_reducible assumption) | omega (splitDisjunctions := false) | assumption | omega | decide) (by first | (with_reducible assumption) | omega (splitDisjunctions := false) | assumption | omega | decide) (by first | (with_reducible assumption) | omega (splitDisjunctions := false) | assumption | omega | decide) (by first | (with_reducible assumption) | omega (splitDisjunctions := false) | assumption | omega | decide) (by first | (with_reducible assumption) | omega (splitDisjunctions := false) | assumption | omega | decide) F_fr) rfl rfl [0, 5, 3, 4] [1, 2] (by decide) rfl rfl rfl (by decide) (by decide) k_512 rfl k_120 k_509 k_511 k_3 ⟨rfl, hy_Presser_findLongest⟩ (by decide) rfl rfl (Nat.le_of_ble_eq_true rfl) (by decide) (fun v9 u46 ch45 => ?_)
          obtain ⟨ln_47, ds_48⟩ := u46
          obtain ⟨ech45, ch45⟩ := ch45
          have ech45 : v9 = none := ech45
          subst ech45
          have fh49 : fl_R (sq fr x.toInt n.toInt) n.toInt pl_.toInt ln_47.toInt ds_48.toInt := ch45
          have y1 := fh49
          have y2 := fl_rng y1 (by omega)
          have y4 : 3 ≤ ln_47.toInt → le_c ln_47.toInt + 15 ≤ 9 * ln_47.toInt ∧ 7 ≤ le_c ln_47.toInt := fun q9 => ⟨(le_cb _ q9).2.2, (le_cb _ q9).1⟩
          have y5 := di_cb ds_48.toInt
          have hT2 : pt_R (sq fr x.toInt n.toInt) n.toInt pl_.toInt bt_.toInt := pt_eq hT (by omega) rfl
          refine pb_eq (pc' := 76) (lo' := [(5, .int pl_), (4, .int nx), (0, .ref h), (1, .ref b), (2, .int x), (3, .int n)]) (rest' := []) (ws' := [(pp, .inr (0, [.ref pb, .int ps_])), (pb, .inl (G.2.1, 4502, .inl f_)), (h, .inr (4, [.ref pp, .ref pl, .ref pe, .ref b, .int x, .int n, .int bt_, .int ln_47, .int ds_48])), (b, .inl (G.2.1, N, .inl fr)), (pl, .inl (G.2.2.1, 1024, .inl fl_)), (pe, .inl (G.2.2.1, 4000, .inl fe_))]) ?_
          refine pb_aload_n (pc := 76) d_Presser_run_76 2 rfl rfl ?_
          refine pb_get (pc := 77) d_Presser_run_77 2 7 rfl rfl (by decide) in_Presser k_190 rfl ?_
          refine pb_iconst (pc := 80) (v := 3) d_Presser_run_80 (by decide) ?_
          refine pb_icmp_ge (pc := 81) (tgt := 107) d_Presser_run_81 (by decide) (fun w50 => ?_) (fun w50 => ?_)
          · have tw50 : 3 ≤ ln_47.toInt := (ti_le (by decide) rfl).mp w50
            refine pb_aload_n (pc := 107) d_Presser_run_107 2 rfl rfl ?_
            refine pb_callV (pc := 108) (I := i_Presser_run) (qb := 2) (ci := 4) (nA := 0) (rest := []) (wr := [(b, .inl (G.2.1, N, .inl fr)), (pl, .inl (G.2.2.1, 1024, .inl fl_)), (pe, .inl (G.2.2.1, 4000, .inl fe_))]) d_Presser_run_108 (g_Pr_putLength hl G h pp pl pe b pb x n bt_ ln_47 ds_48 f_ ps_ S9 (by first | (with_reducible assumption) | omega (splitDisjunctions := false) | assumption | omega | decide) (by first | (with_reducible assumption) | omega (splitDisjunctions := false) | assumption | omega | decide) (by first | (with_reducible assumption) | omega (splitDisjunctions := false) | assumption | omega | decide) (by first | (with_reducible assumption) | omega (splitDisjunctions := false) | assumption | omega | decide) (by first | (with_reducible assumption) | omega (splitDisjunctions := false) | assumption | omega | decide) hC9 F_f_) rfl rfl [2, 0, 1] [3, 4, 5] (by decide) rfl rfl rfl (by decide) (by decide) k_534 rfl k_120 k_531 k_533 k_7 ⟨rfl, hy_Presser_putLength⟩ (by decide) rfl rfl (Nat.le_of_ble_eq_true rfl) (by decide) (fun v9 u52 ch51 => ?_)
            obtain ⟨b_53, p_54, f_55⟩ := u52
            obtain ⟨ech51, ch51⟩ := ch51
            have ech51 : v9 = none := ech51
            subst ech51
            obtain ⟨fh56, fh57, fh58, fh59⟩ : (b_53.toInt = bt_.toInt + le_c ln_47.toInt) ∧ (p_54.toInt = (b_53.toInt + 7) / 8) ∧ (pC_ f_55 p_54.toInt b_53.toInt (lo_ S9 ln_47.toInt)) ∧ (sb_Fit f_55) := ch51
            have leF := fh58
            refine pb_eq (pc' := 111) (lo' := [(5, .int pl_), (4, .int nx), (0, .ref h), (1, .ref b), (2, .int x), (3, .int n)]) (rest' := []) (ws' := [(b, .inl (G.2.1, N, .inl fr)), (pl, .inl (G.2.2.1, 1024, .inl fl_)), (pe, .inl (G.2.2.1, 4000, .inl fe_)), (h, .inr (4, [.ref pp, .ref pl, .ref pe, .ref b, .int x, .int n, .int b_53, .int ln_47, .int ds_48])), (pp, .inr (0, [.ref pb, .int p_54])), (pb, .inl (G.2.1, 4502, .inl f_55))]) ?_
            refine pb_aload_n (pc := 111) d_Presser_run_111 2 rfl rfl ?_
            refine pb_callV (pc := 112) (I := i_Presser_run) (qb := 3) (ci := 4) (nA := 0) (rest := []) (wr := [(b, .inl (G.2.1, N, .inl fr)), (pl, .inl (G.2.2.1, 1024, .inl fl_)), (pe, .inl (G.2.2.1, 4000, .inl fe_))]) d_Presser_run_112 (g_Pr_putDistance hl G h pp pl pe b pb x n b_53 ln_47 ds_48 f_55 p_54 (lo_ S9 ln_47.toInt) (by first | (with_reducible assumption) | omega (splitDisjunctions := false) | assumption | omega | decide) (by first | (with_reducible assumption) | omega (splitDisjunctions := false) | assumption | (exact omg_945d6f3e9b x2 hTr tw44 y2 y4 tw50 fh56) | decide) (by first | (with_reducible assumption) | omega (splitDisjunctions := false) | assumption | omega | decide) (by first | (with_reducible assumption) | omega (splitDisjunctions := false) | assumption | omega | decide) (by first | (with_reducible assumption) | omega (splitDisjunctions := false) | assumption | (exact omg_450c441d63 x2 y2 tw50) | decide) leF fh59) rfl rfl [3, 4, 5] [0, 1, 2] (by decide) rfl rfl rfl (by decide) (by decide) k_538 rfl k_120 k_535 k_537 k_8 ⟨rfl, hy_Presser_putDistance⟩ (by decide) rfl rfl (Nat.le_of_ble_eq_true rfl) (by decide) (fun v9 u61 ch60 => ?_)
            obtain ⟨b_62, p_63, f_64⟩ := u61
            obtain ⟨ech60, ch60⟩ := ch60
            have ech60 : v9 = none := ech60
            subst ech60
            obtain ⟨fh65, fh66, fh67, fh68⟩ : (b_62.toInt = b_53.toInt + di_c ds_48.toInt) ∧ (p_63.toInt = (b_62.toInt + 7) / 8) ∧ (pC_ f_64 p_63.toInt b_62.toInt (do_ (lo_ S9 ln_47.toInt) ds_48.toInt)) ∧ (sb_Fit f_64) := ch60
            have dsF := fh67
            refine pb_eq (pc' := 115) (lo' := [(5, .int pl_), (4, .int nx), (0, .ref h), (1, .ref b), (2, .int x), (3, .int n)]) (rest' := []) (ws' := [(b, .inl (G.2.1, N, .inl fr)), (pl, .inl (G.2.2.1, 1024, .inl fl_)), (pe, .inl (G.2.2.1, 4000, .inl fe_)), (h, .inr (4, [.ref pp, .ref pl, .ref pe, .ref b, .int x, .int n, .int b_62, .int ln_47, .int ds_48])), (pp, .inr (0, [.ref pb, .int p_63])), (pb, .inl (G.2.1, 4502, .inl f_64))]) ?_
            refine pb_iload (pc := 115) d_Presser_run_115 1 rfl ?_
            refine pb_aload_n (pc := 117) d_Presser_run_117 2 rfl rfl ?_
            refine pb_get (pc := 118) d_Presser_run_118 3 7 rfl rfl (by decide) in_Presser k_190 rfl ?_
            refine pb_iadd (pc := 121) d_Presser_run_121 ?_
            refine pb_topi (fun i69 ei69 => ?_)
            try have ti69 : i69.toInt = nx.toInt + ln_47.toInt := ti_add ei69 rfl rfl (by omega) (by omega)
            refine pb_istore (pc := 122) (lo' := [(4, .int i69), (5, .int pl_), (0, .ref h), (1, .ref b), (2, .int x), (3, .int n)]) d_Presser_run_122 (by decide) rfl ?_
            refine pb_re (ws' := [(h, .inr (4, [.ref pp, .ref pl, .ref pe, .ref b, .int x, .int n, .int b_62, .int ln_47, .int ds_48])), (pp, .inr (0, [.ref pb, .int p_63])), (pb, .inl (G.2.1, 4502, .inl f_64)), (pl, .inl (G.2.2.1, 1024, .inl fl_)), (pe, .inl (G.2.2.1, 4000, .inl fe_)), (b, .inl (G.2.1, N, .inl fr))]) (lo' := [(5, .int pl_), (4, .int i69), (0, .ref h), (1, .ref b), (2, .int x), (3, .int n)]) [3, 4, 5, 1, 2, 0] [1, 0, 2, 3, 4, 5] (by decide) rfl rfl rfl ?_
            exact hJ124_37 i69 b_62 ln_47 ds_48 p_63 f_64 fh68 (by first | (with_reducible assumption) | omega (splitDisjunctions := false) | assumption | omega | decide) (by first | assumption | exact pt_st hT2 (fl_lit y1 (by omega) (by omega) (by omega) (li_sq (c := b_62.toInt - bt_.toInt) (by assumption) (by assumption) (by omega) (by omega) (by omega))) (by omega) | exact pt_st hT2 (fl_row (c := b_62.toInt - bt_.toInt) y1 (by omega) (by omega) (by omega) (by omega)) (by omega)) (by first | (with_reducible assumption) | omega (splitDisjunctions := false) | assumption | omega | decide) (by first | exact hid_i ⟨S9, pS_eq hS9 (by omega), hC9⟩ | exact hid_i ⟨_, pS_st (pS_eq hS9 (by omega)) (tk_fl y1 (by omega) (by omega) (by omega) (sq_by eA eI (by omega) (by omega))), syF⟩ | exact hid_i ⟨_, pS_st (pS_eq hS9 (by omega)) (tk_fr y1 (by omega) (by omega) (by omega)), dsF⟩)
          · have tw50 : ¬ 3 ≤ ln_47.toInt := fun z9 => w50 ((ti_le (by decide) rfl).mpr z9)
            refine pb_aload_n (pc := 84) d_Presser_run_84 2 rfl rfl ?_
            refine pb_aload_n (pc := 85) d_Presser_run_85 2 rfl rfl ?_
            refine pb_get (pc := 86) d_Presser_run_86 2 3 rfl rfl (by decide) in_Presser k_186 rfl ?_
            refine pb_aload_n (pc := 89) d_Presser_run_89 2 rfl rfl ?_
            refine pb_get (pc := 90) d_Presser_run_90 2 4 rfl rfl (by decide) in_Presser k_187 rfl ?_
            refine pb_iload (pc := 93) d_Presser_run_93 0 rfl ?_
            refine pb_iadd (pc := 95) d_Presser_run_95 ?_
            refine pb_topi (fun i70 ei70 => ?_)
            try have ti70 : i70.toInt = x.toInt + pl_.toInt := ti_add ei70 rfl rfl (by omega) (by omega)
            refine pb_bald (pc := 96) d_Presser_run_96 3 rfl (vp_in_iff.mpr (by constructor <;> (first | exact omg_5e255a2854 x0 hpl ti70 | omega))) ?_
            refine pb_topi (fun i71 ei71 => ?_)
            have xi71 : i71 = gr fr (x.toInt + pl_.toInt) := gr_ld ei71 (by omega)
            have yi71 : i71.toInt = gx fr (x.toInt + pl_.toInt) := congrArg Int32.toInt xi71
            have ti71 : -128 ≤ i71.toInt ∧ i71.toInt ≤ 127 := ti_fit (F_fr _) ei71
            have eI := xi71
            refine pb_sipush (pc := 97) (v := 255) d_Presser_run_97 (by decide) ?_
            refine pb_iand (pc := 100) d_Presser_run_100 ?_
            refine pb_topi (fun i72 ei72 => ?_)
            have ti72 : 0 ≤ i72.toInt ∧ i72.toInt ≤ 255 := ti_and 8 ei72 (by decide) (by decide)
            have eA := ei72
            refine pb_callV (pc := 101) (I := i_Presser_run) (qb := 2) (ci := 4) (nA := 1) (rest := []) (wr := [(b, .inl (G.2.1, N, .inl fr)), (pl, .inl (G.2.2.1, 1024, .inl fl_)), (pe, .inl (G.2.2.1, 4000, .inl fe_))]) d_Presser_run_101 (g_Pr_putSymbol hl G h pp pl pe b pb x n bt_ ln_47 ds_48 f_ ps_ i72 S9 (by first | (with_reducible assumption) | omega (splitDisjunctions := false) | assumption | omega | decide) (by first | (with_reducible assumption) | omega (splitDisjunctions := false) | assumption | omega | decide) (by first | (with_reducible assumption) | omega (splitDisjunctions := false) | assumption | omega | decide) hC9 (by first | (with_reducible assumption) | omega (splitDisjunctions := false) | assumption | omega | decide) (by first | (with_reducible assumption) | omega (splitDisjunctions := false) | assumption | omega | decide) F_f_) rfl rfl [2, 0, 1] [3, 4, 5] (by decide) rfl rfl rfl (by decide) (by decide) k_527 rfl k_120 k_524 k_526 k_6 ⟨rfl, hy_Presser_putSymbol⟩ (by decide) rfl rfl (Nat.le_of_ble_eq_true rfl) (by decide) (fun v9 u74 ch73 => ?_)
            obtain ⟨b_75, p_76, f_77⟩ := u74
            obtain ⟨ech73, ch73⟩ := ch73
            have ech73 : v9 = none := ech73
            subst ech73
            obtain ⟨fh78, fh79, fh80, fh81, fh82, fh83, fh84⟩ : (i72.toInt < 144 → b_75.toInt = bt_.toInt + 8) ∧ (144 ≤ i72.toInt → i72.toInt < 256 → b_75.toInt = bt_.toInt + 9) ∧ (256 ≤ i72.toInt → i72.toInt < 280 → b_75.toInt = bt_.toInt + 7) ∧ (280 ≤ i72.toInt → b_75.toInt = bt_.toInt + 8) ∧ (p_76.toInt = (b_75.toInt + 7) / 8) ∧ (pC_ f_77 p_76.toInt b_75.toInt (sb_ S9 i72.toInt)) ∧ (sb_Fit f_77) := ch73
            have syF := fh83
            refine pb_eq (pc' := 104) (lo' := [(5, .int pl_), (4, .int nx), (0, .ref h), (1, .ref b), (2, .int x), (3, .int n)]) (rest' := []) (ws' := [(b, .inl (G.2.1, N, .inl fr)), (pl, .inl (G.2.2.1, 1024, .inl fl_)), (pe, .inl (G.2.2.1, 4000, .inl fe_)), (h, .inr (4, [.ref pp, .ref pl, .ref pe, .ref b, .int x, .int n, .int b_75, .int ln_47, .int ds_48])), (pp, .inr (0, [.ref pb, .int p_76])), (pb, .inl (G.2.1, 4502, .inl f_77))]) ?_
            refine pb_goto (pc := 104) (tgt := 115) d_Presser_run_104 (by decide) ?_
            refine pb_iload (pc := 115) d_Presser_run_115 1 rfl ?_
            refine pb_aload_n (pc := 117) d_Presser_run_117 2 rfl rfl ?_
            refine pb_get (pc := 118) d_Presser_run_118 3 7 rfl rfl (by decide) in_Presser k_190 rfl ?_
            refine pb_iadd (pc := 121) d_Presser_run_121 ?_
            refine pb_topi (fun i85 ei85 => ?_)
            try have ti85 : i85.toInt = nx.toInt + ln_47.toInt := ti_add ei85 rfl rfl (by omega) (by omega)
            refine pb_istore (pc := 122) (lo' := [(4, .int i85), (5, .int pl_), (0, .ref h), (1, .ref b), (2, .int x), (3, .int n)]) d_Presser_run_122 (by decide) rfl ?_
            refine pb_re (ws' := [(h, .inr (4, [.ref pp, .ref pl, .ref pe, .ref b, .int x, .int n, .int b_75, .int ln_47, .int ds_48])), (pp, .inr (0, [.ref pb, .int p_76])), (pb, .inl (G.2.1, 4502, .inl f_77)), (pl, .inl (G.2.2.1, 1024, .inl fl_)), (pe, .inl (G.2.2.1, 4000, .inl fe_)), (b, .inl (G.2.1, N, .inl fr))]) (lo' := [(5, .int pl_), (4, .int i85), (0, .ref h), (1, .ref b), (2, .int x), (3, .int n)]) [3, 4, 5, 1, 2, 0] [1, 0, 2, 3, 4, 5] (by decide) rfl rfl rfl ?_
            exact hJ124_37 i85 b_75 ln_47 ds_48 p_76 f_77 fh84 (by first | (with_reducible assumption) | omega (splitDisjunctions := false) | assumption | omega | decide) (by first | assumption | exact pt_st hT2 (fl_lit y1 (by omega) (by omega) (by omega) (li_sq (c := b_75.toInt - bt_.toInt) (by assumption) (by assumption) (by omega) (by omega) (by (exact omg_d427a7eb2d ti72 fh78 fh79)))) (by omega) | exact pt_st hT2 (fl_row (c := b_75.toInt - bt_.toInt) y1 (by omega) (by omega) (by omega) (by omega)) (by omega)) (by first | (with_reducible assumption) | omega (splitDisjunctions := false) | assumption | omega | decide) (by first | exact hid_i ⟨S9, pS_eq hS9 (by omega), hC9⟩ | exact hid_i ⟨_, pS_st (pS_eq hS9 (by omega)) (tk_fl y1 (by omega) (by omega) (by omega) (sq_by eA eI (by omega) (by omega))), syF⟩ | exact hid_i ⟨_, pS_st (pS_eq hS9 (by omega)) (tk_fr y1 (by omega) (by omega) (by omega)), dsF⟩)
  refine pb_re (ws' := [(h, .inr (4, [.ref pp, .ref pl, .ref pe, .ref b, .int x, .int n, .int b_16, .int ln, .int ds])), (pp, .inr (0, [.ref pb, .int p_17])), (pb, .inl (G.2.1, 4502, .inl f_18)), (pl, .inl (G.2.2.1, 1024, .inl f_3)), (pe, .inl (G.2.2.1, 4000, .inl fe)), (b, .inl (G.2.1, N, .inl fr))]) (lo' := [(5, .int 0), (4, .int 0), (0, .ref h), (1, .ref b), (2, .int x), (3, .int n)]) [3, 4, 5, 2, 0, 1] [0, 1, 2, 3, 4, 5] (by decide) rfl rfl rfl ?_
  exact hL54_23 _ 0 0 b_16 ln ds p_17 f_18 f_3 fe fh22 (by first | (with_reducible assumption) | omega (splitDisjunctions := false) | assumption | omega | decide) (by first | (with_reducible assumption) | omega (splitDisjunctions := false) | assumption | omega | decide) (by first | (with_reducible assumption) | omega (splitDisjunctions := false) | assumption | omega | decide) (pt_eq pt_00 zl0 (by omega)) (by first | (with_reducible assumption) | omega (splitDisjunctions := false) | assumption | omega | decide) (by rw [zl0]; exact ch_0 (fun y h0 h1 => (fillF y h0 h1).trans zm1)) (hid_i ⟨_, pS_eq pS_0 zl0, pC_c p2F rfl rfl bn_12⟩) (Nat.lt_succ_self _)
