/-! ROWS OF NUMBERS -/
theorem omg_3a34c98417 {x0 : Int} {x1 : Int} {x2 : Int} {x3 : Int} {x4 : Int} {x5 : Int} {x6 : Int} {x7 : Int} (a0 : (((0 : Int) ≤ x0) ∧ (x0 ≤ (1 : Int)))) (a1 : (((0 : Int) ≤ x1) ∧ (x1 ≤ (1 : Int)))) (a2 : (((0 : Int) ≤ x2) ∧ (x2 ≤ (1 : Int)))) (a3 : (((0 : Int) ≤ x3) ∧ (x3 ≤ (1 : Int)))) (a4 : (((0 : Int) ≤ x4) ∧ (x4 ≤ (1 : Int)))) (a5 : (((0 : Int) ≤ x5) ∧ (x5 ≤ (1 : Int)))) (a6 : (((0 : Int) ≤ x6) ∧ (x6 ≤ (1 : Int)))) (a7 : (x7 = (0 : Int))) : ((0 : Int) ≤ (((((((x0 + ((2 : Int) * x1)) + ((4 : Int) * x2)) + ((8 : Int) * x3)) + ((16 : Int) * x4)) + ((32 : Int) * x5)) + ((64 : Int) * x6)) + ((128 : Int) * x7))) := by omega
theorem omg_a36da587f6 {x0 : Int} {x1 : Int} {x2 : Int} {x3 : Int} {x4 : Int} {x5 : Int} {x6 : Int} {x7 : Int} (a0 : (((0 : Int) ≤ x0) ∧ (x0 ≤ (1 : Int)))) (a1 : (((0 : Int) ≤ x1) ∧ (x1 ≤ (1 : Int)))) (a2 : (((0 : Int) ≤ x2) ∧ (x2 ≤ (1 : Int)))) (a3 : (((0 : Int) ≤ x3) ∧ (x3 ≤ (1 : Int)))) (a4 : (((0 : Int) ≤ x4) ∧ (x4 ≤ (1 : Int)))) (a5 : (((0 : Int) ≤ x5) ∧ (x5 ≤ (1 : Int)))) (a6 : (((0 : Int) ≤ x6) ∧ (x6 ≤ (1 : Int)))) (a7 : (x7 = (0 : Int))) : ((((((((x0 + ((2 : Int) * x1)) + ((4 : Int) * x2)) + ((8 : Int) * x3)) + ((16 : Int) * x4)) + ((32 : Int) * x5)) + ((64 : Int) * x6)) + ((128 : Int) * x7)) < (128 : Int)) := by omega
theorem omg_8bb25932fa {x0 : Int} {x1 : Int} {x2 : Int} {x3 : Int} {x4 : Int} {x5 : Int} {x6 : Int} {x7 : Int} {x8 : Int} {x9 : Int} {x10 : Int} {x11 : Int} {x12 : Int} {x13 : Int} {x14 : Int} {x15 : Int} {x16 : Int} (a0 : (x0 = x1)) (a1 : (x2 = x3)) (a2 : (x4 = x5)) (a3 : (x6 = x7)) (a4 : (x8 = x9)) (a5 : (x10 = x11)) (a6 : (x12 = x13)) (a7 : (x14 = x15)) (a8 : (x16 = (0 : Int))) : ((((((((x0 + ((2 : Int) * x2)) + ((4 : Int) * x4)) + ((8 : Int) * x6)) + ((16 : Int) * x8)) + ((32 : Int) * x10)) + ((64 : Int) * x12)) + ((128 : Int) * x14)) = ((((((((x1 + ((2 : Int) * x3)) + ((4 : Int) * x5)) + ((8 : Int) * x7)) + ((16 : Int) * x9)) + ((32 : Int) * x11)) + ((64 : Int) * x13)) + ((128 : Int) * x16)) + (x15 * (128 : Int)))) := by omega
/-! THE BITS THAT ARE WRITTEN: S = (how many, which); a byte is told by eight of them -/
def b1_ (S : Int × (Int → Int)) (b : Int) : Int × (Int → Int) := (S.1 + 1, fun k => if k = S.1 then b else S.2 k)
def bw_ (S : Int × (Int → Int)) : Prop := 0 ≤ S.1 ∧ (∀ k : Int, 0 ≤ S.2 k ∧ S.2 k ≤ 1) ∧ ∀ k : Int, S.1 ≤ k → S.2 k = 0
def bz_ : Int × (Int → Int) := (0, fun _ => 0)
theorem bw_0 : bw_ bz_ := ⟨Int.le_refl _, fun _ => ⟨Int.le_refl _, (by decide : (0 : Int) ≤ 1)⟩, fun _ _ => rfl⟩
theorem bw_1 {S : Int × (Int → Int)} {b : Int} (h : bw_ S) (h0 : 0 ≤ b ∧ b ≤ 1) : bw_ (b1_ S b) := by
  obtain ⟨h1, h2, h3⟩ := h
  refine ⟨by show 0 ≤ S.1 + 1; omega, fun k => ?_, fun k hk => ?_⟩
  · show 0 ≤ (if k = S.1 then b else S.2 k) ∧ (if k = S.1 then b else S.2 k) ≤ 1
    split
    · exact h0
    · exact h2 k
  · have hk' : S.1 + 1 ≤ k := hk
    show (if k = S.1 then b else S.2 k) = 0
    rw [if_neg (by omega)]
    exact h3 k (by omega)
def bv_ (B : Int → Int) (j : Int) : Int := B (8 * j + 0) + 2 * B (8 * j + 1) + 4 * B (8 * j + 2) + 8 * B (8 * j + 3) + 16 * B (8 * j + 4) + 32 * B (8 * j + 5) + 64 * B (8 * j + 6) + 128 * B (8 * j + 7)
theorem bv_rg {S : Int × (Int → Int)} (h : bw_ S) (j : Int) : 0 ≤ bv_ S.2 j ∧ bv_ S.2 j ≤ 255 := by
  unfold bv_
  have r0 := h.2.1 (8 * j + 0)
  have r1 := h.2.1 (8 * j + 1)
  have r2 := h.2.1 (8 * j + 2)
  have r3 := h.2.1 (8 * j + 3)
  have r4 := h.2.1 (8 * j + 4)
  have r5 := h.2.1 (8 * j + 5)
  have r6 := h.2.1 (8 * j + 6)
  have r7 := h.2.1 (8 * j + 7)
  omega
theorem bv_z {S : Int × (Int → Int)} {j : Int} (h : bw_ S) (hj : S.1 ≤ 8 * j) : bv_ S.2 j = 0 := by
  unfold bv_
  have r0 := h.2.2 (8 * j + 0) (by omega)
  have r1 := h.2.2 (8 * j + 1) (by omega)
  have r2 := h.2.2 (8 * j + 2) (by omega)
  have r3 := h.2.2 (8 * j + 3) (by omega)
  have r4 := h.2.2 (8 * j + 4) (by omega)
  have r5 := h.2.2 (8 * j + 5) (by omega)
  have r6 := h.2.2 (8 * j + 6) (by omega)
  have r7 := h.2.2 (8 * j + 7) (by omega)
  omega
theorem bv_o {S : Int × (Int → Int)} {b j : Int} (hj : ¬ j = S.1 / 8) : bv_ (b1_ S b).2 j = bv_ S.2 j := by
  have o : ∀ i : Int, 0 ≤ i → i < 8 → (b1_ S b).2 (8 * j + i) = S.2 (8 * j + i) := fun i h0 h1 => if_neg (by omega)
  unfold bv_
  rw [o 0 (by omega) (by omega), o 1 (by omega) (by omega), o 2 (by omega) (by omega), o 3 (by omega) (by omega), o 4 (by omega) (by omega), o 5 (by omega) (by omega), o 6 (by omega) (by omega), o 7 (by omega) (by omega)]
theorem bv_n {S : Int × (Int → Int)} {b j : Int} (h : bw_ S) (hj : j = S.1 / 8) : 0 ≤ bv_ S.2 j ∧ bv_ S.2 j < p2 (S.1 % 8) ∧ bv_ (b1_ S b).2 j = bv_ S.2 j + b * p2 (S.1 % 8) := by
  have z : ∀ i : Int, S.1 % 8 ≤ i → S.2 (8 * j + i) = 0 := fun i hi => h.2.2 _ (by omega)
  have o : ∀ i : Int, ¬ i = S.1 % 8 → (b1_ S b).2 (8 * j + i) = S.2 (8 * j + i) := fun i hi => if_neg (by omega)
  have t : ∀ i : Int, i = S.1 % 8 → (b1_ S b).2 (8 * j + i) = b := fun i hi => if_pos (by omega)
  have r0 := h.2.1 (8 * j + 0)
  have r1 := h.2.1 (8 * j + 1)
  have r2 := h.2.1 (8 * j + 2)
  have r3 := h.2.1 (8 * j + 3)
  have r4 := h.2.1 (8 * j + 4)
  have r5 := h.2.1 (8 * j + 5)
  have r6 := h.2.1 (8 * j + 6)
  have r7 := h.2.1 (8 * j + 7)
  unfold bv_
  rcases (show S.1 % 8 = 0 ∨ S.1 % 8 = 1 ∨ S.1 % 8 = 2 ∨ S.1 % 8 = 3 ∨ S.1 % 8 = 4 ∨ S.1 % 8 = 5 ∨ S.1 % 8 = 6 ∨ S.1 % 8 = 7 by omega) with e | e | e | e | e | e | e | e
  · have o0 := t 0 e.symm
    have o1 := o 1 (by first | (rw [e] <;> decide) | omega)
    have o2 := o 2 (by first | (rw [e] <;> decide) | omega)
    have o3 := o 3 (by first | (rw [e] <;> decide) | omega)
    have o4 := o 4 (by first | (rw [e] <;> decide) | omega)
    have o5 := o 5 (by first | (rw [e] <;> decide) | omega)
    have o6 := o 6 (by first | (rw [e] <;> decide) | omega)
    have o7 := o 7 (by first | (rw [e] <;> decide) | omega)
    have z0 := z 0 (by first | (rw [e] <;> decide) | omega)
    have z1 := z 1 (by first | (rw [e] <;> decide) | omega)
    have z2 := z 2 (by first | (rw [e] <;> decide) | omega)
    have z3 := z 3 (by first | (rw [e] <;> decide) | omega)
    have z4 := z 4 (by first | (rw [e] <;> decide) | omega)
    have z5 := z 5 (by first | (rw [e] <;> decide) | omega)
    have z6 := z 6 (by first | (rw [e] <;> decide) | omega)
    have z7 := z 7 (by first | (rw [e] <;> decide) | omega)
    rw [e, show p2 0 = 1 from rfl]
    refine ⟨?_, ?_, ?_⟩ <;> first | (clear o t z h hj e; omega) | omega
  · have o0 := o 0 (by first | (rw [e] <;> decide) | omega)
    have o1 := t 1 e.symm
    have o2 := o 2 (by first | (rw [e] <;> decide) | omega)
    have o3 := o 3 (by first | (rw [e] <;> decide) | omega)
    have o4 := o 4 (by first | (rw [e] <;> decide) | omega)
    have o5 := o 5 (by first | (rw [e] <;> decide) | omega)
    have o6 := o 6 (by first | (rw [e] <;> decide) | omega)
    have o7 := o 7 (by first | (rw [e] <;> decide) | omega)
    have z1 := z 1 (by first | (rw [e] <;> decide) | omega)
    have z2 := z 2 (by first | (rw [e] <;> decide) | omega)
    have z3 := z 3 (by first | (rw [e] <;> decide) | omega)
    have z4 := z 4 (by first | (rw [e] <;> decide) | omega)
    have z5 := z 5 (by first | (rw [e] <;> decide) | omega)
    have z6 := z 6 (by first | (rw [e] <;> decide) | omega)
    have z7 := z 7 (by first | (rw [e] <;> decide) | omega)
    rw [e, show p2 1 = 2 from rfl]
    refine ⟨?_, ?_, ?_⟩ <;> first | (clear o t z h hj e; omega) | omega
  · have o0 := o 0 (by first | (rw [e] <;> decide) | omega)
    have o1 := o 1 (by first | (rw [e] <;> decide) | omega)
    have o2 := t 2 e.symm
    have o3 := o 3 (by first | (rw [e] <;> decide) | omega)
    have o4 := o 4 (by first | (rw [e] <;> decide) | omega)
    have o5 := o 5 (by first | (rw [e] <;> decide) | omega)
    have o6 := o 6 (by first | (rw [e] <;> decide) | omega)
    have o7 := o 7 (by first | (rw [e] <;> decide) | omega)
    have z2 := z 2 (by first | (rw [e] <;> decide) | omega)
    have z3 := z 3 (by first | (rw [e] <;> decide) | omega)
    have z4 := z 4 (by first | (rw [e] <;> decide) | omega)
    have z5 := z 5 (by first | (rw [e] <;> decide) | omega)
    have z6 := z 6 (by first | (rw [e] <;> decide) | omega)
    have z7 := z 7 (by first | (rw [e] <;> decide) | omega)
    rw [e, show p2 2 = 4 from rfl]
    refine ⟨?_, ?_, ?_⟩ <;> first | (clear o t z h hj e; omega) | omega
  · have o0 := o 0 (by first | (rw [e] <;> decide) | omega)
    have o1 := o 1 (by first | (rw [e] <;> decide) | omega)
    have o2 := o 2 (by first | (rw [e] <;> decide) | omega)
    have o3 := t 3 e.symm
    have o4 := o 4 (by first | (rw [e] <;> decide) | omega)
    have o5 := o 5 (by first | (rw [e] <;> decide) | omega)
    have o6 := o 6 (by first | (rw [e] <;> decide) | omega)
    have o7 := o 7 (by first | (rw [e] <;> decide) | omega)
    have z3 := z 3 (by first | (rw [e] <;> decide) | omega)
    have z4 := z 4 (by first | (rw [e] <;> decide) | omega)
    have z5 := z 5 (by first | (rw [e] <;> decide) | omega)
    have z6 := z 6 (by first | (rw [e] <;> decide) | omega)
    have z7 := z 7 (by first | (rw [e] <;> decide) | omega)
    rw [e, show p2 3 = 8 from rfl]
    refine ⟨?_, ?_, ?_⟩ <;> first | (clear o t z h hj e; omega) | omega
  · have o0 := o 0 (by first | (rw [e] <;> decide) | omega)
    have o1 := o 1 (by first | (rw [e] <;> decide) | omega)
    have o2 := o 2 (by first | (rw [e] <;> decide) | omega)
    have o3 := o 3 (by first | (rw [e] <;> decide) | omega)
    have o4 := t 4 e.symm
    have o5 := o 5 (by first | (rw [e] <;> decide) | omega)
    have o6 := o 6 (by first | (rw [e] <;> decide) | omega)
    have o7 := o 7 (by first | (rw [e] <;> decide) | omega)
    have z4 := z 4 (by first | (rw [e] <;> decide) | omega)
    have z5 := z 5 (by first | (rw [e] <;> decide) | omega)
    have z6 := z 6 (by first | (rw [e] <;> decide) | omega)
    have z7 := z 7 (by first | (rw [e] <;> decide) | omega)
    rw [e, show p2 4 = 16 from rfl]
    refine ⟨?_, ?_, ?_⟩ <;> first | (clear o t z h hj e; omega) | omega
  · have o0 := o 0 (by first | (rw [e] <;> decide) | omega)
    have o1 := o 1 (by first | (rw [e] <;> decide) | omega)
    have o2 := o 2 (by first | (rw [e] <;> decide) | omega)
    have o3 := o 3 (by first | (rw [e] <;> decide) | omega)
    have o4 := o 4 (by first | (rw [e] <;> decide) | omega)
    have o5 := t 5 e.symm
    have o6 := o 6 (by first | (rw [e] <;> decide) | omega)
    have o7 := o 7 (by first | (rw [e] <;> decide) | omega)
    have z5 := z 5 (by first | (rw [e] <;> decide) | omega)
    have z6 := z 6 (by first | (rw [e] <;> decide) | omega)
    have z7 := z 7 (by first | (rw [e] <;> decide) | omega)
    rw [e, show p2 5 = 32 from rfl]
    refine ⟨?_, ?_, ?_⟩ <;> first | (clear o t z h hj e; omega) | omega
  · have o0 := o 0 (by first | (rw [e] <;> decide) | omega)
    have o1 := o 1 (by first | (rw [e] <;> decide) | omega)
    have o2 := o 2 (by first | (rw [e] <;> decide) | omega)
    have o3 := o 3 (by first | (rw [e] <;> decide) | omega)
    have o4 := o 4 (by first | (rw [e] <;> decide) | omega)
    have o5 := o 5 (by first | (rw [e] <;> decide) | omega)
    have o6 := t 6 e.symm
    have o7 := o 7 (by first | (rw [e] <;> decide) | omega)
    have z6 := z 6 (by first | (rw [e] <;> decide) | omega)
    have z7 := z 7 (by first | (rw [e] <;> decide) | omega)
    rw [e, show p2 6 = 64 from rfl]
    refine ⟨?_, ?_, ?_⟩ <;> first | (clear o t z h hj e; omega) | omega
  · have o0 := o 0 (by first | (rw [e] <;> decide) | omega)
    have o1 := o 1 (by first | (rw [e] <;> decide) | omega)
    have o2 := o 2 (by first | (rw [e] <;> decide) | omega)
    have o3 := o 3 (by first | (rw [e] <;> decide) | omega)
    have o4 := o 4 (by first | (rw [e] <;> decide) | omega)
    have o5 := o 5 (by first | (rw [e] <;> decide) | omega)
    have o6 := o 6 (by first | (rw [e] <;> decide) | omega)
    have o7 := t 7 e.symm
    have z7 := z 7 (by first | (rw [e] <;> decide) | omega)
    rw [e, show p2 7 = 128 from rfl]
    refine ⟨?_, ?_, ?_⟩ <;> first | (clear o t z h hj e; (first | exact omg_3a34c98417 r0 r1 r2 r3 r4 r5 r6 z7 | exact omg_a36da587f6 r0 r1 r2 r3 r4 r5 r6 z7 | exact omg_8bb25932fa o0 o1 o2 o3 o4 o5 o6 o7 z7 | omega)) | omega
/-- n bits of a number, the lowest first; of a code, the highest first -/
def bn_ (S : Int × (Int → Int)) (x : Int) : Nat → Int × (Int → Int)
  | 0 => S
  | n + 1 => b1_ (bn_ S x n) (x / p2 (n : Int) % 2)
def bc_ (x : Int) : Nat → Int × (Int → Int) → Int × (Int → Int)
  | 0, S => S
  | n + 1, S => bc_ x n (b1_ S (x / p2 (n : Int) % 2))
theorem bt_rng (x y : Int) : 0 ≤ x / y % 2 ∧ x / y % 2 ≤ 1 := by
  generalize x / y = z
  omega
theorem bn_w {S : Int × (Int → Int)} {x : Int} (h : bw_ S) : ∀ n : Nat, bw_ (bn_ S x n)
  | 0 => h
  | n + 1 => bw_1 (bn_w h n) (bt_rng _ _)
theorem bc_w {x : Int} : ∀ (n : Nat) {S : Int × (Int → Int)}, bw_ S → bw_ (bc_ x n S)
  | 0, _, h => h
  | n + 1, _, h => bc_w n (bw_1 h (bt_rng _ _))
theorem bn_1 (S : Int × (Int → Int)) (x : Int) : ∀ n : Nat, (bn_ S x n).1 = S.1 + n
  | 0 => by show S.1 = S.1 + ((0 : Nat) : Int); omega
  | n + 1 => by
    have := bn_1 S x n
    show (bn_ S x n).1 + 1 = _
    omega
theorem bc_1 (x : Int) : ∀ (n : Nat) (S : Int × (Int → Int)), (bc_ x n S).1 = S.1 + n
  | 0, S => by show S.1 = S.1 + ((0 : Nat) : Int); omega
  | n + 1, S => by
    have := bc_1 x n (b1_ S (x / p2 (n : Int) % 2))
    show (bc_ x n (b1_ S (x / p2 (n : Int) % 2))).1 = _
    rw [this]
    show S.1 + 1 + (n : Int) = _
    omega
theorem p2_n (n : Nat) : p2 ((n + 1 : Nat) : Int) = 2 * p2 (n : Int) := p2_s (by omega) (by omega)
theorem bn_lo (S : Int × (Int → Int)) (y b : Int) (hb : 0 ≤ b ∧ b ≤ 1) : ∀ n : Nat, bn_ S (2 * y + b) (n + 1) = bn_ (b1_ S b) y n
  | 0 => by
    show b1_ S ((2 * y + b) / p2 ((0 : Nat) : Int) % 2) = b1_ S b
    rw [show (2 * y + b) / p2 ((0 : Nat) : Int) % 2 = b by rw [show p2 ((0 : Nat) : Int) = 1 from rfl]; omega]
  | n + 1 => by
    show b1_ (bn_ S (2 * y + b) (n + 1)) ((2 * y + b) / p2 ((n + 1 : Nat) : Int) % 2) = b1_ (bn_ (b1_ S b) y n) (y / p2 (n : Int) % 2)
    rw [bn_lo S y b hb n, p2_n, ← Int.ediv_ediv_of_nonneg (show (0 : Int) ≤ 2 by decide), show (2 * y + b) / 2 = y by omega]
/-- a code turned -/
def tu_ (x : Int) : Nat → Int
  | 0 => 0
  | k + 1 => 2 * tu_ x k + x / p2 (k : Int) % 2
theorem tu_rng (x : Int) : ∀ k : Nat, 0 ≤ tu_ x k ∧ tu_ x k < p2 (k : Int)
  | 0 => ⟨Int.le_refl _, (by decide : (0 : Int) < p2 ((0 : Nat) : Int))⟩
  | k + 1 => by
    have h := tu_rng x k
    have b := bt_rng x (p2 (k : Int))
    have e := p2_n k
    show 0 ≤ 2 * tu_ x k + x / p2 (k : Int) % 2 ∧ 2 * tu_ x k + x / p2 (k : Int) % 2 < _
    rw [e]
    generalize x / p2 (k : Int) % 2 = z at *
    omega
theorem tu_st {x k k2 v v2 b : Int} (h : v = tu_ x k.toNat) (hk : 0 ≤ k) (hk2 : k2 = k + 1) (hb : b = x / p2 k % 2) (hv : v2 = 2 * v + b) : v2 = tu_ x k2.toNat := by
  subst hk2 hv hb h
  rw [show (k + 1).toNat = k.toNat + 1 by omega]
  show _ = 2 * tu_ x k.toNat + x / p2 ((k.toNat : Nat) : Int) % 2
  rw [show ((k.toNat : Nat) : Int) = k by omega]
theorem bn_tu (x : Int) : ∀ (n : Nat) (S : Int × (Int → Int)), bn_ S (tu_ x n) n = bc_ x n S
  | 0, S => rfl
  | n + 1, S => by
    show bn_ S (2 * tu_ x n + x / p2 (n : Int) % 2) (n + 1) = bc_ x n (b1_ S (x / p2 (n : Int) % 2))
    rw [bn_lo S _ _ (bt_rng _ _) n, bn_tu x n]
theorem bn_st {S : Int × (Int → Int)} {x k k2 b : Int} (hk : 0 ≤ k) (hk2 : k2 = k + 1) (hb : b = x / p2 k % 2) : b1_ (bn_ S x k.toNat) b = bn_ S x k2.toNat := by
  subst hk2 hb
  rw [show (k + 1).toNat = k.toNat + 1 by omega]
  show _ = b1_ (bn_ S x k.toNat) (x / p2 ((k.toNat : Nat) : Int) % 2)
  rw [show ((k.toNat : Nat) : Int) = k by omega]
theorem bc_st {S R : Int × (Int → Int)} {x k k2 b : Int} (h : bc_ x (k + 1).toNat S = R) (hk : 0 ≤ k) (hk2 : k2 = k - 1) (hb : b = x / p2 k % 2) : bc_ x (k2 + 1).toNat (b1_ S b) = R := by
  subst hk2 hb
  rw [← h, show (k + 1).toNat = k.toNat + 1 by omega, show (k - 1 + 1).toNat = k.toNat by omega]
  show _ = bc_ x k.toNat (b1_ S (x / p2 ((k.toNat : Nat) : Int) % 2))
  rw [show ((k.toNat : Nat) : Int) = k by omega]
theorem bn_cong (S : Int × (Int → Int)) {x y : Int} : ∀ n : Nat, (∀ k : Nat, k < n → x / p2 (k : Int) % 2 = y / p2 (k : Int) % 2) → bn_ S x n = bn_ S y n
  | 0, _ => rfl
  | n + 1, h => by
    show b1_ (bn_ S x n) (x / p2 (n : Int) % 2) = b1_ (bn_ S y n) (y / p2 (n : Int) % 2)
    rw [bn_cong S n (fun k hk => h k (by omega)), h n (by omega)]
theorem p2_add (k d : Nat) : p2 ((k + d : Nat) : Int) = p2 (k : Int) * p2 (d : Int) := by
  unfold p2
  rw [show ((k + d : Nat) : Int).toNat = k + d by omega, show ((k : Nat) : Int).toNat = k by omega, show ((d : Nat) : Int).toNat = d by omega, Nat.pow_add, Int.natCast_mul]
theorem bn_mod (S : Int × (Int → Int)) {x y q : Int} {n : Nat} (h : x = y + q * p2 (n : Int)) : bn_ S x n = bn_ S y n := bn_cong S n (fun k hk => by
  have e : p2 (n : Int) = p2 (k : Int) * (2 * p2 ((n - k - 1 : Nat) : Int)) := by
    rw [← p2_n, ← p2_add, show k + (n - k - 1 + 1) = n by omega]
  have hp : p2 (k : Int) ≠ 0 := by
    have := p2_pos (k : Int)
    omega
  rw [h, e, show q * (p2 (k : Int) * (2 * p2 ((n - k - 1 : Nat) : Int))) = p2 (k : Int) * (2 * (q * p2 ((n - k - 1 : Nat) : Int))) by rw [Int.mul_left_comm, Int.mul_left_comm q 2], Int.add_mul_ediv_left _ _ hp]
  generalize q * p2 ((n - k - 1 : Nat) : Int) = w
  generalize y / p2 (k : Int) = z
  omega)
/-- a symbol, a length, a distance -/
def sb_ (S : Int × (Int → Int)) (s : Int) : Int × (Int → Int) := if s < 144 then bc_ (48 + s) 8 S else if s < 256 then bc_ (256 + s) 9 S else if s < 280 then bc_ (s - 256) 7 S else bc_ (s - 88) 8 S
theorem sb_w {S : Int × (Int → Int)} (s : Int) (h : bw_ S) : bw_ (sb_ S s) := by
  unfold sb_
  (repeat' split) <;> exact bc_w _ h
theorem sb_0 {S : Int × (Int → Int)} {s x : Int} (h : s < 144) (hx : x = 48 + s) : bc_ x 8 S = sb_ S s := by
  subst hx
  unfold sb_
  rw [if_pos h]
theorem sb_1 {S : Int × (Int → Int)} {s x : Int} (h : ¬ s < 144) (h2 : s < 256) (hx : x = 256 + s) : bc_ x 9 S = sb_ S s := by
  subst hx
  unfold sb_
  rw [if_neg h, if_pos h2]
theorem sb_2 {S : Int × (Int → Int)} {s x : Int} (h : ¬ s < 256) (h2 : s < 280) (hx : x = s - 256) : bc_ x 7 S = sb_ S s := by
  subst hx
  unfold sb_
  rw [if_neg (by omega), if_neg h, if_pos h2]
theorem sb_3 {S : Int × (Int → Int)} {s x : Int} (h : ¬ s < 280) (hx : x = s - 88) : bc_ x 8 S = sb_ S s := by
  subst hx
  unfold sb_
  rw [if_neg (by omega), if_neg (by omega), if_neg h]
def lm_ (L : Int) : Int := if L ≤ 10 ∨ L = 258 then 0 else if L ≤ 18 then 1 else if L ≤ 34 then 2 else if L ≤ 66 then 3 else if L ≤ 130 then 4 else 5
def lk_ (L : Int) : Int := if L = 258 then 28 else 4 * lm_ L + (L - 3) / p2 (lm_ L)
def lo_ (S : Int × (Int → Int)) (L : Int) : Int × (Int → Int) := bn_ (sb_ S (257 + lk_ L)) (L - 3) (lm_ L).toNat
def dm_ (D : Int) : Int := if D ≤ 4 then 0 else if D ≤ 8 then 1 else if D ≤ 16 then 2 else if D ≤ 32 then 3 else if D ≤ 64 then 4 else if D ≤ 128 then 5 else if D ≤ 256 then 6 else if D ≤ 512 then 7 else if D ≤ 1024 then 8 else if D ≤ 2048 then 9 else 10
def dj_ (D : Int) : Int := 2 * dm_ D + (D - 1) / p2 (dm_ D)
def do_ (S : Int × (Int → Int)) (D : Int) : Int × (Int → Int) := bn_ (bc_ (dj_ D) 5 S) (D - 1) (dm_ D).toNat
theorem lo_w {S : Int × (Int → Int)} (L : Int) (h : bw_ S) : bw_ (lo_ S L) := bn_w (sb_w _ h) _
theorem do_w {S : Int × (Int → Int)} (D : Int) (h : bw_ S) : bw_ (do_ S D) := bn_w (bc_w _ h) _
theorem lo_258 {S : Int × (Int → Int)} {L s : Int} (h : L = 258) (hs : s = 285) : sb_ S s = lo_ S L := by
  subst h hs
  rfl
/-- as the class finds it: m, and the rest; as the reference does: k -/
theorem lo_E {S : Int × (Int → Int)} {L m s v : Int} (h : ¬ L = 258) (hm : m = lm_ L) (hs : s = 257 + 4 * m + (L - 3) / p2 m) (hv : v = L - 3) : bn_ (sb_ S s) v m.toNat = lo_ S L := by
  unfold lo_ lk_
  rw [if_neg h, ← hm, hv, hs, Int.add_assoc]
theorem do_E {S : Int × (Int → Int)} {D m s v : Int} (hm : m = dm_ D) (hs : s = 2 * m + (D - 1) / p2 m) (hv : v = D - 1) : bn_ (bc_ s 5 S) v m.toNat = do_ S D := by
  unfold do_ dj_
  rw [← hm, hv, hs]
theorem lo_M {S : Int × (Int → Int)} {L m s v q : Int} (h : ¬ L = 258) (hm : m = lm_ L) (h0 : 0 ≤ m) (hs : s = 257 + 4 * m + (L - 3) / p2 m) (hv : v = L - 3 + q * p2 m) : bn_ (sb_ S s) v m.toNat = lo_ S L := by
  rw [← lo_E (S := S) h hm hs rfl]
  exact bn_mod _ (q := q) (by rw [hv, show ((m.toNat : Nat) : Int) = m by omega])
theorem do_M {S : Int × (Int → Int)} {D m s v q : Int} (hm : m = dm_ D) (h0 : 0 ≤ m) (hs : s = 2 * m + (D - 1) / p2 m) (hv : v = D - 1 + q * p2 m) : bn_ (bc_ s 5 S) v m.toNat = do_ S D := by
  rw [← do_E (S := S) hm hs rfl]
  exact bn_mod _ (q := q) (by rw [hv, show ((m.toNat : Nat) : Int) = m by omega])
/-- p2 at a small number -/
theorem p2_of {m : Int} : (m = 0 → p2 m = 1) ∧ (m = 1 → p2 m = 2) ∧ (m = 2 → p2 m = 4) ∧ (m = 3 → p2 m = 8) ∧ (m = 4 → p2 m = 16) ∧ (m = 5 → p2 m = 32) ∧ (m = 6 → p2 m = 64) ∧ (m = 7 → p2 m = 128) ∧ (m = 8 → p2 m = 256) ∧ (m = 9 → p2 m = 512) ∧ (m = 10 → p2 m = 1024) := by
  refine ⟨fun h => ?_, fun h => ?_, fun h => ?_, fun h => ?_, fun h => ?_, fun h => ?_, fun h => ?_, fun h => ?_, fun h => ?_, fun h => ?_, fun h => ?_⟩ <;> (subst h; rfl)
/-- a bit of a number -/
theorem sh_all : ∀ k : Nat, k < 32 → ((nI k &&& 31).toBitVec.smod 32).toNat = k := by decide +kernel
theorem sh_k {m : Int32} {k : Int} (h : m.toInt = k) (h0 : 0 ≤ k) (h1 : k < 32) : ((m &&& 31).toBitVec.smod 32).toNat = k.toNat := by
  obtain ⟨j, hj, rfl⟩ := ti_nat (x := m) (by omega)
  have e := nI_toInt hj
  rw [show k.toNat = j by omega]
  exact sh_all j (by omega)
theorem ti_and1 {x z : Int32} (e : z = x &&& 1) (h : 0 ≤ x.toInt) : z.toInt = x.toInt % 2 := by
  subst e
  obtain ⟨j, hj, rfl⟩ := ti_nat h
  have e1 := nI_toInt hj
  rw [pk_and _ 1 (by decide), pk_tn (by omega), nI_toInt (by omega), e1, show (2 : Nat) ^ 1 = 2 from rfl]
  omega
theorem bt_E {b q v k : Int32} (e1 : b = q &&& 1) (e2 : q = v >>> (k &&& 31)) (hv : 0 ≤ v.toInt) (h0 : 0 ≤ k.toInt) (h1 : k.toInt < 32) : b.toInt = v.toInt / p2 k.toInt % 2 := by
  have e := ti_shr (b := p2 k.toInt) e2 rfl k.toInt.toNat (sh_k rfl h0 h1) rfl
  have hq : 0 ≤ q.toInt := by
    rw [e]
    exact Int.ediv_nonneg hv (by have := p2_pos k.toInt; omega)
  rw [ti_and1 e1 hq, e]
/-- a bit set in a byte -/
theorem or_all : ∀ s : Nat, s < 8 → ∀ b : Nat, b < 2 → ∀ x : Nat, x < 128 → x < 2 ^ s → ((nI x).toInt8.toInt32 ||| (nI b <<< (nI s &&& 31)).toInt8.toInt32).toInt8.toInt32 = (nI (x + b * 2 ^ s)).toInt8.toInt32 := by decide +kernel
theorem or_E {w old u c b s : Int32} {y : Int} (e1 : w = old ||| u) (e2 : u = c.toInt8.toInt32) (e3 : c = b <<< (s &&& 31)) (hb : 0 ≤ b.toInt ∧ b.toInt ≤ 1) (hs : 0 ≤ s.toInt ∧ s.toInt ≤ 7) (ho : old = by_ y) (y0 : 0 ≤ y) (y1 : y < p2 s.toInt) : w.toInt8.toInt32 = by_ (y + b.toInt * p2 s.toInt) := by
  obtain ⟨i, hi, rfl⟩ := ti_nat hb.1
  obtain ⟨j, hj, rfl⟩ := ti_nat hs.1
  have a1 := nI_toInt hi
  have a2 := nI_toInt hj
  have p7 : p2 (nI j).toInt ≤ 128 := by
    rw [a2]
    unfold p2
    have : 2 ^ ((j : Nat) : Int).toNat ≤ 2 ^ 7 := Nat.pow_le_pow_right (by decide) (by omega)
    omega
  have a3 : p2 (nI j).toInt = ((2 ^ j : Nat) : Int) := by
    rw [a2]
    rfl
  obtain ⟨x, hx⟩ : ∃ x : Nat, (x : Int) = y := ⟨y.toNat, by omega⟩
  have hx2 : x < 128 := by omega
  have h := or_all j (by omega) i (by omega) x hx2 (by omega)
  have q1 : (nI x).toInt8.toInt32 = by_ y := by_E (by rw [nI_toInt (by omega), hx])
  have q2 : (nI (x + i * 2 ^ j)).toInt8.toInt32 = by_ (y + (nI i).toInt * p2 (nI j).toInt) := by_E (by
    have b1 : i * 2 ^ j ≤ 1 * 2 ^ j := Nat.mul_le_mul_right _ (by omega)
    rw [nI_toInt (by omega), a1, a3, ← hx, Int.natCast_add, Int.natCast_mul])
  rw [e1, e2, e3, ho, ← q1, h, q2]
theorem by_0 : by_ 0 = 0 := by decide
theorem by_v {y : Int} (h0 : 0 ≤ y) (h1 : y < 128) : (by_ y).toInt = y := by
  have a : ∀ n : Nat, n < 128 → ((nI n).toInt8.toInt32).toInt = (n : Int) := by decide +kernel
  obtain ⟨x, rfl⟩ : ∃ x : Nat, y = (x : Int) := ⟨y.toNat, by omega⟩
  rw [← by_E (i := nI x) (nI_toInt (by omega))]
  exact a x (by omega)
/-- the bytes that the class has, and the reference -/
def pC_ (f : Nat → Int32) (z t : Int) (S : Int × (Int → Int)) : Prop := bw_ S ∧ z = (S.1 + 7) / 8 ∧ (∀ j : Int, 0 ≤ j → j < z → gr f j = by_ (bv_ S.2 j)) ∧ t = S.1
def pD_ (f : Nat → Int32) (z t : Int) (S : Int × (Int → Int)) : Prop := bw_ S ∧ z = (S.1 + 8) / 8 ∧ (∀ j : Int, 0 ≤ j → j < z → gr f j = by_ (bv_ S.2 j)) ∧ t = S.1
def pM_ (f : Nat → Int32) (hb hc z : Int) (S : Int × (Int → Int)) : Prop := bw_ S ∧ S.1 = 8 * z + hc ∧ (0 ≤ hc ∧ hc < 8) ∧ hb = bv_ S.2 z ∧ ∀ j : Int, 0 ≤ j → j < z → gr f j = by_ (bv_ S.2 j)
theorem pC_0 {f : Nat → Int32} {z t : Int} (h : z = 0) (ht : t = 0) : pC_ f z t bz_ := by
  subst h ht
  exact ⟨bw_0, by decide, fun j h0 h1 => absurd h1 (by omega), rfl⟩
theorem pM_0 {f : Nat → Int32} {hb hc z : Int} (h : z = 0) (h1 : hc = 0) (h2 : hb = 0) : pM_ f hb hc z bz_ := by
  subst h h1 h2
  exact ⟨bw_0, rfl, by decide, rfl, fun j h0 h1 => absurd h1 (by omega)⟩
/-- the class opens a byte -/
theorem pD_new {f g : Nat → Int32} {z z2 t : Int} {v : Int32} {S : Int × (Int → Int)} (h : pC_ f z t S) (hr : t % 8 = 0) (hz : z2 = z + 1) (hg : ∀ j : Int, 0 ≤ j → gr g j = if j = z then v.toInt8.toInt32 else gr f j) (hv : v = 0) : pD_ g z2 t S := by
  obtain ⟨h1, h2, h3, h4⟩ := h
  refine ⟨h1, by omega, fun j h0 hj => ?_, h4⟩
  rw [hg j h0]
  by_cases c : j = z
  · rw [if_pos c, bv_z h1 (by omega), by_0, hv]
    decide
  · rw [if_neg c]
    exact h3 j h0 (by omega)
theorem pD_old {f : Nat → Int32} {z t : Int} {S : Int × (Int → Int)} (h : pC_ f z t S) (hr : ¬ t % 8 = 0) : pD_ f z t S := ⟨h.1, by have := h.2.1; have := h.2.2.2; omega, h.2.2⟩
/-- and sets a bit in it -/
theorem pC_st {f g : Nat → Int32} {z b t t2 : Int} {W : Int32} {S : Int × (Int → Int)} (h : pD_ f z t S) (hb : 0 ≤ b ∧ b ≤ 1) (hg : ∀ j : Int, 0 ≤ j → gr g j = if j = z - 1 then W else gr f j) (hW : W = by_ (bv_ S.2 (S.1 / 8) + b * p2 (S.1 % 8))) (ht : t2 = t + 1) : pC_ g z t2 (b1_ S b) := by
  obtain ⟨h1, h2, h3, h4⟩ := h
  refine ⟨bw_1 h1 hb, by show z = (S.1 + 1 + 7) / 8; omega, fun j h0 hj => ?_, by show t2 = S.1 + 1; omega⟩
  rw [hg j h0]
  by_cases c : j = z - 1
  · rw [if_pos c, hW, (bv_n (b := b) h1 (show j = S.1 / 8 by omega)).2.2, show j = S.1 / 8 by omega]
  · rw [if_neg c, bv_o (by omega)]
    exact h3 j h0 hj
theorem pD_at {f : Nat → Int32} {z j t : Int} {S : Int × (Int → Int)} (h : pD_ f z t S) (hj : j = z - 1) : gr f j = by_ (bv_ S.2 (S.1 / 8)) := by
  have h1 := h.1.1
  have h2 := h.2.1
  rw [h.2.2.1 j (by omega) (by omega), show j = S.1 / 8 by omega]
theorem pD_v {f : Nat → Int32} {z t : Int} {S : Int × (Int → Int)} (h : pD_ f z t S) : 0 ≤ bv_ S.2 (S.1 / 8) ∧ bv_ S.2 (S.1 / 8) < p2 (S.1 % 8) := by
  have a := bv_n (b := 0) h.1 (rfl : S.1 / 8 = S.1 / 8)
  exact ⟨a.1, a.2.1⟩
/-- the reference puts a bit: into what it holds; a byte is full -/
theorem pM_st {f : Nat → Int32} {hb hc z b hb2 hc2 : Int} {S : Int × (Int → Int)} (h : pM_ f hb hc z S) (h0 : 0 ≤ b ∧ b ≤ 1) (h1 : hc + 1 < 8) (e1 : hb2 = hb + b * p2 hc) (e2 : hc2 = hc + 1) : pM_ f hb2 hc2 z (b1_ S b) := by
  obtain ⟨a1, a2, a3, a4, a5⟩ := h
  subst e1 e2 a4
  have n := bv_n (b := b) a1 (show z = S.1 / 8 by omega)
  refine ⟨bw_1 a1 h0, by show S.1 + 1 = _; omega, by omega, ?_, fun j j0 j1 => ?_⟩
  · rw [n.2.2, show S.1 % 8 = hc by omega]
  · rw [bv_o (by omega)]
    exact a5 j j0 j1
theorem pM_fu {f g : Nat → Int32} {hb hc z b hb2 hc2 z2 : Int} {v : Int32} {S : Int × (Int → Int)} (h : pM_ f hb hc z S) (h0 : 0 ≤ b ∧ b ≤ 1) (h1 : hc + 1 = 8) (hv : v.toInt = hb + b * p2 hc) (hg : ∀ j : Int, 0 ≤ j → gr g j = if j = z then v.toInt8.toInt32 else gr f j) (e1 : hb2 = 0) (e2 : hc2 = 0) (e3 : z2 = z + 1) : pM_ g hb2 hc2 z2 (b1_ S b) := by
  obtain ⟨a1, a2, a3, a4, a5⟩ := h
  subst e1 e2 e3 a4
  have n := bv_n (b := b) a1 (show z = S.1 / 8 by omega)
  have w := bw_1 a1 h0
  refine ⟨w, by show S.1 + 1 = _; omega, by omega, (bv_z w (by show S.1 + 1 ≤ _; omega)).symm, fun j j0 j1 => ?_⟩
  rw [hg j j0]
  by_cases c : j = z
  · rw [if_pos c, c, n.2.2, show S.1 % 8 = hc by omega]
    exact by_E hv
  · rw [if_neg c, bv_o (by omega)]
    exact a5 j j0 (by omega)
theorem pM_hb {f : Nat → Int32} {hb hc z : Int} {S : Int × (Int → Int)} (h : pM_ f hb hc z S) : 0 ≤ hb ∧ hb < p2 hc := by
  obtain ⟨a1, a2, a3, a4, a5⟩ := h
  have n := bv_n (b := 0) a1 (show z = S.1 / 8 by omega)
  rw [a4, ← show S.1 % 8 = hc by omega]
  exact ⟨n.1, n.2.1⟩
/-- bits of 0 behind all others change nothing -/
theorem b1_z {S : Int × (Int → Int)} (h : bw_ S) : (b1_ S 0).2 = S.2 := by
  funext k
  show (if k = S.1 then 0 else S.2 k) = S.2 k
  split
  · rename_i c
    rw [c, h.2.2 S.1 (Int.le_refl _)]
  · rfl
def pE_ (f : Nat → Int32) (hb hc z : Int) (S : Int × (Int → Int)) : Prop := ∃ R : Int × (Int → Int), pM_ f hb hc z R ∧ R.2 = S.2 ∧ bw_ S ∧ S.1 ≤ R.1 ∧ R.1 ≤ (S.1 + 7) / 8 * 8
theorem pE_0 {f : Nat → Int32} {hb hc z : Int} {S : Int × (Int → Int)} (h : pM_ f hb hc z S) : pE_ f hb hc z S := ⟨S, h, rfl, h.1, Int.le_refl _, by omega⟩
theorem pE_end {f : Nat → Int32} {hb hc z : Int} {S : Int × (Int → Int)} (h : pE_ f hb hc z S) (hc0 : hc = 0) : pC_ f z S.1 S := by
  obtain ⟨R, ⟨a1, a2, a3, a4, a5⟩, e, w, l1, l2⟩ := h
  refine ⟨w, by omega, fun j j0 j1 => ?_, rfl⟩
  rw [a5 j j0 j1, e]
/-- what comes out -/
def tk_R (a : Int → Int32) (n p : Int) (S : Int × (Int → Int)) (q : Int) (S2 : Int × (Int → Int)) : Prop := p < n ∧ ((lb_N a n p ∧ q = p + 1 ∧ S2 = sb_ S ((a p) &&& 255).toInt) ∨ ∃ L W : Int, lb_S a n p L W ∧ q = p + L ∧ S2 = do_ (lo_ S L) (p - W))
theorem tk_uniq {a : Int → Int32} {n p q q' : Int} {S R R' : Int × (Int → Int)} (h : tk_R a n p S q R) (k : tk_R a n p S q' R') : q = q' ∧ R = R' := by
  obtain ⟨_, h1⟩ := h
  obtain ⟨_, k1⟩ := k
  rcases h1 with ⟨a1, a2, a3⟩ | ⟨L, W, a1, a2, a3⟩
  · rcases k1 with ⟨b1, b2, b3⟩ | ⟨L', W', b1, b2, b3⟩
    · exact ⟨by omega, a3.trans b3.symm⟩
    · exact (lb_not b1 a1).elim
  · rcases k1 with ⟨b1, b2, b3⟩ | ⟨L', W', b1, b2, b3⟩
    · exact (lb_not a1 b1).elim
    · obtain ⟨u, v⟩ := lb_uniq a1 b1
      subst u v
      exact ⟨by omega, a3.trans b3.symm⟩
noncomputable def tk_f (a : Int → Int32) (n : Int) (s : Int × (Int × (Int → Int))) : Int × (Int × (Int → Int)) := @dite (Int × (Int × (Int → Int))) (∃ t : Int × (Int × (Int → Int)), tk_R a n s.1 s.2 t.1 t.2) (Classical.propDecidable _) (fun h => Classical.choose h) (fun _ => s)
noncomputable def tk_i (a : Int → Int32) (n : Int) : Nat → Int × (Int × (Int → Int))
  | 0 => (0, bn_ bz_ 3 3)
  | k + 1 => tk_f a n (tk_i a n k)
theorem tk_pos {a : Int → Int32} {n p q : Int} {S R : Int × (Int → Int)} (h : tk_R a n p S q R) : tk_f a n (p, S) = (q, R) := by
  have hx : ∃ t : Int × (Int × (Int → Int)), tk_R a n (p, S).1 (p, S).2 t.1 t.2 := ⟨(q, R), h⟩
  have hs := Classical.choose_spec hx
  have e : tk_f a n (p, S) = Classical.choose hx := dif_pos hx
  rw [e]
  have u := tk_uniq hs h
  exact Prod.ext u.1 u.2
theorem tk_neg {a : Int → Int32} {n p : Int} {S : Int × (Int → Int)} (h : n ≤ p) : tk_f a n (p, S) = (p, S) := by
  have hx : ¬ ∃ t : Int × (Int × (Int → Int)), tk_R a n (p, S).1 (p, S).2 t.1 t.2 := fun ⟨t, ht⟩ => by
    have := ht.1
    have e2 : (p, S).1 = p := rfl
    omega
  exact dif_neg hx
def pS_R (a : Int → Int32) (n p : Int) (S : Int × (Int → Int)) : Prop := ∃ k : Nat, tk_i a n k = (p, S)
theorem pS_0 {a : Int → Int32} {n : Int} : pS_R a n 0 (bn_ bz_ 3 3) := ⟨0, rfl⟩
theorem bn_12 : bn_ (bn_ bz_ 1 1) 1 2 = bn_ bz_ 3 3 := by
  show b1_ (b1_ (b1_ bz_ (1 / p2 ((0 : Nat) : Int) % 2)) (1 / p2 ((0 : Nat) : Int) % 2)) (1 / p2 ((1 : Nat) : Int) % 2) = b1_ (b1_ (b1_ bz_ (3 / p2 ((0 : Nat) : Int) % 2)) (3 / p2 ((1 : Nat) : Int) % 2)) (3 / p2 ((2 : Nat) : Int) % 2)
  rfl
theorem pS_st {a : Int → Int32} {n p q : Int} {S R : Int × (Int → Int)} (h : pS_R a n p S) (k : tk_R a n p S q R) : pS_R a n q R := by
  obtain ⟨j, hj⟩ := h
  refine ⟨j + 1, ?_⟩
  show tk_f a n (tk_i a n j) = (q, R)
  rw [hj, tk_pos k]
theorem pS_stay {a : Int → Int32} {n : Int} {S : Int × (Int → Int)} {k : Nat} (h : tk_i a n k = (n, S)) : ∀ d : Nat, tk_i a n (k + d) = (n, S)
  | 0 => h
  | d + 1 => by
    show tk_f a n (tk_i a n (k + d)) = (n, S)
    rw [pS_stay h d, tk_neg (Int.le_refl n)]
theorem pS_uniq {a : Int → Int32} {n : Int} {S R : Int × (Int → Int)} (h : pS_R a n n S) (k : pS_R a n n R) : S = R := by
  obtain ⟨i, hi⟩ := h
  obtain ⟨j, hj⟩ := k
  rcases Nat.le_total i j with c | c
  · have e := pS_stay hi (j - i)
    rw [show i + (j - i) = j by omega, hj] at e
    exact (Prod.mk.inj e).2.symm
  · have e := pS_stay hj (i - j)
    rw [show j + (i - j) = i by omega, hi] at e
    exact (Prod.mk.inj e).2
theorem pS_eq {a : Int → Int32} {n p q : Int} {S : Int × (Int → Int)} (h : pS_R a n p S) (e : q = p) : pS_R a n q S := by
  subst e
  exact h
/-- all of it: z bytes f -/
def pF_ (a : Int → Int32) (n : Int) (f : Nat → Int32) (z : Int) : Prop := ∃ (S : Int × (Int → Int)) (t : Int), pS_R a n n S ∧ pC_ f z t (sb_ S 256)
theorem pF_u {a : Int → Int32} {n z y : Int} {f g : Nat → Int32} (h : pF_ a n f z) (k : pF_ a n g y) : z = y ∧ rl_B f g z := by
  obtain ⟨S, t, h1, h2⟩ := h
  obtain ⟨R, u, k1, k2⟩ := k
  have e := pS_uniq h1 k1
  subst e
  have e2 : z = y := h2.2.1.trans k2.2.1.symm
  subst e2
  exact ⟨rfl, fun j j0 j1 => (h2.2.2.1 j j0 j1).trans (k2.2.2.1 j j0 j1).symm⟩
theorem tk_li {a : Int → Int32} {n p q : Int} {S : Int × (Int → Int)} {s : Int} (h : lb_N a n p) (hp : p < n) (hq : q = p + 1) (hs : s = ((a p) &&& 255).toInt) : tk_R a n p S q (sb_ S s) := ⟨hp, Or.inl ⟨h, hq, by rw [hs]⟩⟩
theorem tk_ro {a : Int → Int32} {n p q L W D : Int} {S : Int × (Int → Int)} (h : lb_S a n p L W) (hp : p < n) (hq : q = p + L) (hD : D = p - W) : tk_R a n p S q (do_ (lo_ S L) D) := ⟨hp, Or.inr ⟨L, W, h, hq, by rw [hD]⟩⟩
theorem tk_fl {a : Int → Int32} {n p q l d s : Int} {S : Int × (Int → Int)} (h : fl_R a n p l d) (hl : l < 3) (hp : p < n) (hq : q = p + l) (hs : s = ((a p) &&& 255).toInt) : tk_R a n p S q (sb_ S s) := by
  rcases h with ⟨h1, h2⟩ | h1
  · exact tk_li h1 hp (by omega) hs
  · have := h1.1
    omega
theorem tk_fr {a : Int → Int32} {n p q l d : Int} {S : Int × (Int → Int)} (h : fl_R a n p l d) (hl : 3 ≤ l) (hp : p < n) (hq : q = p + l) : tk_R a n p S q (do_ (lo_ S l) d) := by
  rcases h with ⟨h1, h2⟩ | h1
  · omega
  · exact tk_ro h1 hp hq (by omega)
theorem sq_by {f : Nat → Int32} {b n p : Int} {v i : Int32} (e1 : v = i &&& 255) (e2 : i = gr f (b + p)) (h0 : 0 ≤ p) (h1 : p < n) : v.toInt = ((sq f b n p) &&& 255).toInt := by
  rw [sq_at h0 h1, e1, e2]
theorem pC_c {f : Nat → Int32} {z y t u : Int} {S R : Int × (Int → Int)} (h : pC_ f z t S) (e : y = z) (e1 : u = t) (e2 : S = R) : pC_ f y u R := by
  subst e e1 e2
  exact h
theorem pM_c {f : Nat → Int32} {hb hc z : Int} {S R : Int × (Int → Int)} (h : pM_ f hb hc z S) (e2 : S = R) : pM_ f hb hc z R := by
  subst e2
  exact h
/-- as the walker has it: a bit is put by the class -/
theorem pC_put {g3 g4 : Nat → Int32} {z z2 k k2 x t t2 ix : Int} {S : Int × (Int → Int)} {w w2 old u c b q v s kk : Int32} (h : pD_ g3 z t (bn_ S x k.toNat)) (hk : 0 ≤ k) (hk2 : k2 = k + 1) (hx : x = v.toInt) (hkk : kk.toInt = k) (h31 : k < 32) (v0 : 0 ≤ v.toInt) (e1 : w = old ||| u) (e2 : u = c.toInt8.toInt32) (e3 : c = b <<< (s &&& 31)) (e4 : b = q &&& 1) (e5 : q = v >>> (kk &&& 31)) (eo : old = gr g3 ix) (hix : ix = z - 1) (hs : s.toInt = t % 8) (hg : ∀ j : Int, 0 ≤ j → gr g4 j = if j = z - 1 then w2.toInt8.toInt32 else gr g3 j) (e6 : w2 = w.toInt8.toInt32) (hz : z2 = z) (ht : t2 = t + 1) : pC_ g4 z2 t2 (bn_ S x k2.toNat) := by
  have hb := bt_E e4 e5 v0 (by omega) (by omega)
  rw [hkk, ← hx] at hb
  have hb1 : 0 ≤ b.toInt ∧ b.toInt ≤ 1 := by
    rw [hb]
    exact bt_rng x (p2 k)
  have h4 := h.2.2.2
  have hs2 : s.toInt = (bn_ S x k.toNat).1 % 8 := by rw [← h4]; exact hs
  have W := or_E e1 e2 e3 hb1 (by omega) (eo.trans (pD_at h hix)) (pD_v h).1 (by rw [hs2]; exact (pD_v h).2)
  rw [hs2] at W
  subst hz
  rw [← bn_st hk hk2 hb]
  exact pC_st h hb1 (fun j j0 => by rw [hg j j0, e6, bz_nn, W]) rfl ht
theorem pC_sy {f : Nat → Int32} {z y x r t u : Int} {S R : Int × (Int → Int)} {n : Nat} (h : pC_ f z t (bn_ S r n)) (hr : r = tu_ x n) (hy : y = z) (hu : u = t) (e : bc_ x n S = R) : pC_ f y u R := by
  subst hr hy hu
  rw [bn_tu] at h
  rw [← e]
  exact h
theorem lm_rng (L : Int) : 0 ≤ lm_ L ∧ lm_ L ≤ 5 := by
  unfold lm_
  (repeat' split) <;> omega
theorem dm_rng (D : Int) : 0 ≤ dm_ D ∧ dm_ D ≤ 10 := by
  unfold dm_
  (repeat' split) <;> omega
theorem p2_7 {k : Int} (h : k ≤ 7) : p2 k ≤ 128 := by
  unfold p2
  have h1 : 2 ^ k.toNat ≤ 2 ^ 7 := Nat.pow_le_pow_right (by decide) (by omega)
  omega
theorem bsl_E {z b s : Int32} (e : z = b <<< (s &&& 31)) (hb : 0 ≤ b.toInt ∧ b.toInt ≤ 1) (h0 : 0 ≤ s.toInt) (h1 : s.toInt ≤ 7) : z.toInt = b.toInt * p2 s.toInt ∧ 0 ≤ z.toInt ∧ z.toInt ≤ 128 := by
  have p7 := p2_7 h1
  have pp := p2_pos s.toInt
  have r : 0 ≤ b.toInt * p2 s.toInt ∧ b.toInt * p2 s.toInt ≤ 128 := by
    rcases (show b.toInt = 0 ∨ b.toInt = 1 by omega) with q | q
    · rw [q]; omega
    · rw [q]; omega
  have h := ti_shl (b := p2 s.toInt) e rfl s.toInt.toNat (sh_k rfl h0 (by omega)) rfl hb.1 (by omega)
  rw [h]
  exact ⟨rfl, r⟩
theorem pM_n {g : Nat → Int32} {hb hc z x k k2 : Int} {S : Int × (Int → Int)} {b q v kk : Int32} (h : pM_ g hb hc z (b1_ (bn_ S x k.toNat) b.toInt)) (e1 : b = q &&& 1) (e2 : q = v >>> (kk &&& 31)) (hx : x = v.toInt) (hv : 0 ≤ v.toInt) (hk : kk.toInt = k) (h0 : 0 ≤ k) (h1 : k < 32) (hk2 : k2 = k + 1) : pM_ g hb hc z (bn_ S x k2.toNat) := by
  have e := bt_E e1 e2 hv (by omega) (by omega)
  rw [hk, ← hx] at e
  rw [← bn_st h0 hk2 e]
  exact h
theorem pM_d {g : Nat → Int32} {hb hc z x k k2 : Int} {S R : Int × (Int → Int)} {b q v kk : Int32} (h : pM_ g hb hc z (b1_ S b.toInt)) (eR : bc_ x (k + 1).toNat S = R) (e1 : b = q &&& 1) (e2 : q = v >>> (kk &&& 31)) (hx : x = v.toInt) (hv : 0 ≤ v.toInt) (hk : kk.toInt = k) (h0 : 0 ≤ k) (h1 : k < 32) (hk2 : k2 = k - 1) : ∃ S9 : Int × (Int → Int), pM_ g hb hc z S9 ∧ bc_ x (k2 + 1).toNat S9 = R := by
  have e := bt_E e1 e2 hv (by omega) (by omega)
  rw [hk, ← hx] at e
  exact ⟨_, h, bc_st eR h0 hk2 e⟩
theorem pE_st {f g : Nat → Int32} {hb hc z hb2 hc2 z2 b : Int} {S R : Int × (Int → Int)} (h : pM_ f hb hc z R) (e : R.2 = S.2) (w : bw_ S) (l1 : S.1 ≤ R.1) (l2 : R.1 ≤ (S.1 + 7) / 8 * 8) (hc0 : 0 < hc) (hb0 : b = 0) (k : pM_ g hb2 hc2 z2 (b1_ R b)) : pE_ g hb2 hc2 z2 S := by
  subst hb0
  have a2 := h.2.1
  have a3 := h.2.2.1
  exact ⟨b1_ R 0, k, (b1_z h.1).trans e, w, by show S.1 ≤ R.1 + 1; omega, by show R.1 + 1 ≤ _; omega⟩
theorem lo_M2 {S : Int × (Int → Int)} {L m s v : Int} (h : ¬ L = 258) (hm : m = lm_ L) (hd : m = 0 ∧ s = 257 + (L - 3) ∨ m = 1 ∧ s = 261 + (L - 3) / 2 ∧ (v - (L - 3)) % 2 = 0 ∨ m = 2 ∧ s = 265 + (L - 3) / 4 ∧ (v - (L - 3)) % 4 = 0 ∨ m = 3 ∧ s = 269 + (L - 3) / 8 ∧ (v - (L - 3)) % 8 = 0 ∨ m = 4 ∧ s = 273 + (L - 3) / 16 ∧ (v - (L - 3)) % 16 = 0 ∨ m = 5 ∧ s = 277 + (L - 3) / 32 ∧ (v - (L - 3)) % 32 = 0) : bn_ (sb_ S s) v m.toNat = lo_ S L := by
  rcases hd with ⟨q, e⟩ | ⟨q, e, e2⟩ | ⟨q, e, e2⟩ | ⟨q, e, e2⟩ | ⟨q, e, e2⟩ | ⟨q, e, e2⟩
  · subst q e
    rw [← lo_E (S := S) (m := 0) (s := 257 + (L - 3)) (v := L - 3) h hm (by rw [show p2 0 = 1 from rfl]; omega) rfl]
    rfl
  · subst q e
    exact lo_M (q := (v - (L - 3)) / 2) h hm (by decide) (by rw [show p2 1 = 2 from rfl]; omega) (by rw [show p2 1 = 2 from rfl]; omega)
  · subst q e
    exact lo_M (q := (v - (L - 3)) / 4) h hm (by decide) (by rw [show p2 2 = 4 from rfl]; omega) (by rw [show p2 2 = 4 from rfl]; omega)
  · subst q e
    exact lo_M (q := (v - (L - 3)) / 8) h hm (by decide) (by rw [show p2 3 = 8 from rfl]; omega) (by rw [show p2 3 = 8 from rfl]; omega)
  · subst q e
    exact lo_M (q := (v - (L - 3)) / 16) h hm (by decide) (by rw [show p2 4 = 16 from rfl]; omega) (by rw [show p2 4 = 16 from rfl]; omega)
  · subst q e
    exact lo_M (q := (v - (L - 3)) / 32) h hm (by decide) (by rw [show p2 5 = 32 from rfl]; omega) (by rw [show p2 5 = 32 from rfl]; omega)
theorem do_M2 {S : Int × (Int → Int)} {D m s v : Int} (hm : m = dm_ D) (hd : m = 0 ∧ s = D - 1 ∨ m = 1 ∧ s = 2 + (D - 1) / 2 ∧ (v - (D - 1)) % 2 = 0 ∨ m = 2 ∧ s = 4 + (D - 1) / 4 ∧ (v - (D - 1)) % 4 = 0 ∨ m = 3 ∧ s = 6 + (D - 1) / 8 ∧ (v - (D - 1)) % 8 = 0 ∨ m = 4 ∧ s = 8 + (D - 1) / 16 ∧ (v - (D - 1)) % 16 = 0 ∨ m = 5 ∧ s = 10 + (D - 1) / 32 ∧ (v - (D - 1)) % 32 = 0 ∨ m = 6 ∧ s = 12 + (D - 1) / 64 ∧ (v - (D - 1)) % 64 = 0 ∨ m = 7 ∧ s = 14 + (D - 1) / 128 ∧ (v - (D - 1)) % 128 = 0 ∨ m = 8 ∧ s = 16 + (D - 1) / 256 ∧ (v - (D - 1)) % 256 = 0 ∨ m = 9 ∧ s = 18 + (D - 1) / 512 ∧ (v - (D - 1)) % 512 = 0 ∨ m = 10 ∧ s = 20 + (D - 1) / 1024 ∧ (v - (D - 1)) % 1024 = 0) : bn_ (bc_ s 5 S) v m.toNat = do_ S D := by
  rcases hd with ⟨q, e⟩ | ⟨q, e, e2⟩ | ⟨q, e, e2⟩ | ⟨q, e, e2⟩ | ⟨q, e, e2⟩ | ⟨q, e, e2⟩ | ⟨q, e, e2⟩ | ⟨q, e, e2⟩ | ⟨q, e, e2⟩ | ⟨q, e, e2⟩ | ⟨q, e, e2⟩
  · subst q e
    rw [← do_E (S := S) (m := 0) (s := D - 1) (v := D - 1) hm (by rw [show p2 0 = 1 from rfl]; omega) rfl]
    rfl
  · subst q e
    exact do_M (q := (v - (D - 1)) / 2) hm (by decide) (by rw [show p2 1 = 2 from rfl]; omega) (by rw [show p2 1 = 2 from rfl]; omega)
  · subst q e
    exact do_M (q := (v - (D - 1)) / 4) hm (by decide) (by rw [show p2 2 = 4 from rfl]; omega) (by rw [show p2 2 = 4 from rfl]; omega)
  · subst q e
    exact do_M (q := (v - (D - 1)) / 8) hm (by decide) (by rw [show p2 3 = 8 from rfl]; omega) (by rw [show p2 3 = 8 from rfl]; omega)
  · subst q e
    exact do_M (q := (v - (D - 1)) / 16) hm (by decide) (by rw [show p2 4 = 16 from rfl]; omega) (by rw [show p2 4 = 16 from rfl]; omega)
  · subst q e
    exact do_M (q := (v - (D - 1)) / 32) hm (by decide) (by rw [show p2 5 = 32 from rfl]; omega) (by rw [show p2 5 = 32 from rfl]; omega)
  · subst q e
    exact do_M (q := (v - (D - 1)) / 64) hm (by decide) (by rw [show p2 6 = 64 from rfl]; omega) (by rw [show p2 6 = 64 from rfl]; omega)
  · subst q e
    exact do_M (q := (v - (D - 1)) / 128) hm (by decide) (by rw [show p2 7 = 128 from rfl]; omega) (by rw [show p2 7 = 128 from rfl]; omega)
  · subst q e
    exact do_M (q := (v - (D - 1)) / 256) hm (by decide) (by rw [show p2 8 = 256 from rfl]; omega) (by rw [show p2 8 = 256 from rfl]; omega)
  · subst q e
    exact do_M (q := (v - (D - 1)) / 512) hm (by decide) (by rw [show p2 9 = 512 from rfl]; omega) (by rw [show p2 9 = 512 from rfl]; omega)
  · subst q e
    exact do_M (q := (v - (D - 1)) / 1024) hm (by decide) (by rw [show p2 10 = 1024 from rfl]; omega) (by rw [show p2 10 = 1024 from rfl]; omega)
theorem pF_rl {a : Int → Int32} {n z y : Int} {f g : Nat → Int32} (h : pF_ a n f z) (e : y = z) (r : rl_B f g z) : pF_ a n g y := by
  subst e
  obtain ⟨S, t, h1, h2⟩ := h
  exact ⟨S, t, h1, h2.1, h2.2.1, fun j j0 j1 => (r j j0 j1).symm.trans (h2.2.2.1 j j0 j1), h2.2.2.2⟩
theorem po_law {f g cf of cf0 of0 : Nat → Int32} {s t k th c o c0 o0 : Int} (h : rl_B f g s) (e : s = t) (l : k = 0 → pF_ (sq f (0 : Int32).toInt s) s cf c) (l1 : k = 1 → c = c0 ∧ cf = cf0) (kk : k = 0 ∨ k = 1) (m : th = 0 → pF_ (sq g (0 : Int32).toInt t) t of o) (m1 : th = 1 → o = o0 ∧ of = of0) (th0 : k = th) (r0 : c0 = o0) (r1 : rl_B cf0 of0 c0) : c = o ∧ rl_B cf of c := by
  subst e
  rcases kk with q | q
  · have a := l q
    rw [sq_rl h] at a
    exact pF_u a (m (by omega))
  · obtain ⟨a1, a2⟩ := l1 q
    obtain ⟨b1, b2⟩ := m1 (by omega)
    subst a1 a2 b1 b2
    exact ⟨r0, r1⟩
/-- quotients by a power of two -/
theorem dv_ge {v p k : Int} (h : k ≤ v / p) (hp : 0 < p) : k * p ≤ v := Int.le_trans (Int.mul_le_mul_of_nonneg_right h (by omega)) (Int.ediv_mul_le v (by omega))
theorem dv_lt {v p k : Int} (h : v / p < k) (hp : 0 < p) : v < k * p := Int.lt_mul_of_ediv_lt hp h
theorem p2_nat (m : Int) : p2 m = ((2 ^ m.toNat : Nat) : Int) := rfl
theorem p2_9 {m : Int} (h : p2 m ≤ 1000) : m ≤ 9 := by
  by_cases c : m ≤ 9
  · exact c
  · have q : 2 ^ 10 ≤ 2 ^ m.toNat := Nat.pow_le_pow_right (by decide) (by omega)
    rw [p2_nat] at h
    omega
theorem p2_4 {m : Int} (h : p2 m ≤ 31) : m ≤ 4 := by
  by_cases c : m ≤ 4
  · exact c
  · have q : 2 ^ 5 ≤ 2 ^ m.toNat := Nat.pow_le_pow_right (by decide) (by omega)
    rw [p2_nat] at h
    omega
theorem dm_E {D m : Int} (h0 : 0 ≤ m) (h1 : m ≤ 10) (h2 : m = 0 ∨ 2 * p2 m ≤ D - 1) (h3 : D - 1 < 4 * p2 m) : m = dm_ D := by
  rcases (show m = 0 ∨ m = 1 ∨ m = 2 ∨ m = 3 ∨ m = 4 ∨ m = 5 ∨ m = 6 ∨ m = 7 ∨ m = 8 ∨ m = 9 ∨ m = 10 by (exact omg_377aec9634 h0 h1)) with e | e | e | e | e | e | e | e | e | e | e
  · subst e
    rw [show p2 0 = 1 from rfl] at h2 h3
    unfold dm_
    first | rw [if_pos (by omega)] | ((repeat' split) <;> omega)
  · subst e
    rw [show p2 1 = 2 from rfl] at h2 h3
    unfold dm_
    first | rw [if_neg (by omega), if_pos (by omega)] | ((repeat' split) <;> omega)
  · subst e
    rw [show p2 2 = 4 from rfl] at h2 h3
    unfold dm_
    first | rw [if_neg (by omega), if_neg (by omega), if_pos (by omega)] | ((repeat' split) <;> omega)
  · subst e
    rw [show p2 3 = 8 from rfl] at h2 h3
    unfold dm_
    first | rw [if_neg (by omega), if_neg (by omega), if_neg (by omega), if_pos (by omega)] | ((repeat' split) <;> omega)
  · subst e
    rw [show p2 4 = 16 from rfl] at h2 h3
    unfold dm_
    first | rw [if_neg (by omega), if_neg (by omega), if_neg (by omega), if_neg (by omega), if_pos (by omega)] | ((repeat' split) <;> omega)
  · subst e
    rw [show p2 5 = 32 from rfl] at h2 h3
    unfold dm_
    first | rw [if_neg (by omega), if_neg (by omega), if_neg (by omega), if_neg (by omega), if_neg (by omega), if_pos (by omega)] | ((repeat' split) <;> omega)
  · subst e
    rw [show p2 6 = 64 from rfl] at h2 h3
    unfold dm_
    first | rw [if_neg (by omega), if_neg (by omega), if_neg (by omega), if_neg (by omega), if_neg (by omega), if_neg (by omega), if_pos (by omega)] | ((repeat' split) <;> omega)
  · subst e
    rw [show p2 7 = 128 from rfl] at h2 h3
    unfold dm_
    first | rw [if_neg (by omega), if_neg (by omega), if_neg (by omega), if_neg (by omega), if_neg (by omega), if_neg (by omega), if_neg (by omega), if_pos (by omega)] | ((repeat' split) <;> omega)
  · subst e
    rw [show p2 8 = 256 from rfl] at h2 h3
    unfold dm_
    first | rw [if_neg (by omega), if_neg (by omega), if_neg (by omega), if_neg (by omega), if_neg (by omega), if_neg (by omega), if_neg (by omega), if_neg (by omega), if_pos (by omega)] | ((repeat' split) <;> omega)
  · subst e
    rw [show p2 9 = 512 from rfl] at h2 h3
    unfold dm_
    first | rw [if_neg (by omega), if_neg (by omega), if_neg (by omega), if_neg (by omega), if_neg (by omega), if_neg (by omega), if_neg (by omega), if_neg (by omega), if_neg (by omega), if_pos (by omega)] | ((repeat' split) <;> omega)
  · subst e
    rw [show p2 10 = 1024 from rfl] at h2 h3
    unfold dm_
    first | rw [if_neg (by omega), if_neg (by omega), if_neg (by omega), if_neg (by omega), if_neg (by omega), if_neg (by omega), if_neg (by omega), if_neg (by omega), if_neg (by omega), if_neg (by omega)] | ((repeat' split) <;> omega)
theorem lm_E {L m : Int} (h0 : 0 ≤ m) (h1 : m ≤ 5) (h2 : m = 0 ∨ 4 * p2 m ≤ L - 3) (h3 : m = 5 ∨ L - 3 < 8 * p2 m) (h4 : L ≤ 257) : m = lm_ L := by
  rcases (show m = 0 ∨ m = 1 ∨ m = 2 ∨ m = 3 ∨ m = 4 ∨ m = 5 by omega) with e | e | e | e | e | e
  · subst e
    rw [show p2 0 = 1 from rfl] at h2 h3
    unfold lm_
    first | rw [if_pos (by omega)] | ((repeat' split) <;> omega)
  · subst e
    rw [show p2 1 = 2 from rfl] at h2 h3
    unfold lm_
    first | rw [if_neg (by omega), if_pos (by omega)] | ((repeat' split) <;> omega)
  · subst e
    rw [show p2 2 = 4 from rfl] at h2 h3
    unfold lm_
    first | rw [if_neg (by omega), if_neg (by omega), if_pos (by omega)] | ((repeat' split) <;> omega)
  · subst e
    rw [show p2 3 = 8 from rfl] at h2 h3
    unfold lm_
    first | rw [if_neg (by omega), if_neg (by omega), if_neg (by omega), if_pos (by omega)] | ((repeat' split) <;> omega)
  · subst e
    rw [show p2 4 = 16 from rfl] at h2 h3
    unfold lm_
    first | rw [if_neg (by omega), if_neg (by omega), if_neg (by omega), if_neg (by omega), if_pos (by omega)] | ((repeat' split) <;> omega)
  · subst e
    rw [show p2 5 = 32 from rfl] at h2 h3
    unfold lm_
    first | rw [if_neg (by omega), if_neg (by omega), if_neg (by omega), if_neg (by omega), if_neg (by omega)] | ((repeat' split) <;> omega)
theorem di_dm {D : Int} (h : D ≤ 4096) : di_c D = 5 + dm_ D := by
  unfold di_c dm_
  first
  | (by_cases c0 : D ≤ 4
     · rw [if_pos c0, if_pos c0] <;> rfl
     rw [if_neg c0, if_neg c0]
     by_cases c1 : D ≤ 8
     · rw [if_pos c1, if_pos c1] <;> rfl
     rw [if_neg c1, if_neg c1]
     by_cases c2 : D ≤ 16
     · rw [if_pos c2, if_pos c2] <;> rfl
     rw [if_neg c2, if_neg c2]
     by_cases c3 : D ≤ 32
     · rw [if_pos c3, if_pos c3] <;> rfl
     rw [if_neg c3, if_neg c3]
     by_cases c4 : D ≤ 64
     · rw [if_pos c4, if_pos c4] <;> rfl
     rw [if_neg c4, if_neg c4]
     by_cases c5 : D ≤ 128
     · rw [if_pos c5, if_pos c5] <;> rfl
     rw [if_neg c5, if_neg c5]
     by_cases c6 : D ≤ 256
     · rw [if_pos c6, if_pos c6] <;> rfl
     rw [if_neg c6, if_neg c6]
     by_cases c7 : D ≤ 512
     · rw [if_pos c7, if_pos c7] <;> rfl
     rw [if_neg c7, if_neg c7]
     by_cases c8 : D ≤ 1024
     · rw [if_pos c8, if_pos c8] <;> rfl
     rw [if_neg c8, if_neg c8]
     by_cases c9 : D ≤ 2048
     · rw [if_pos c9, if_pos c9] <;> rfl
     rw [if_neg c9, if_neg c9] <;> rfl)
  | ((repeat' split) <;> omega)
theorem le_lm {L m s : Int} (h0 : 3 ≤ L) (h1 : L ≤ 257) (hm : m = lm_ L) (hs : s = 257 + 4 * m + (L - 3) / p2 m) : 257 ≤ s ∧ s ≤ 285 ∧ (s < 280 ∧ le_c L = 7 + m ∨ 280 ≤ s ∧ le_c L = 8 + m) := by
  have r := lm_rng L
  rcases (show m = 0 ∨ m = 1 ∨ m = 2 ∨ m = 3 ∨ m = 4 ∨ m = 5 by omega) with e | e | e | e | e | e
  · subst e
    rw [show p2 0 = 1 from rfl] at hs
    have b : 3 ≤ L ∧ L ≤ 10 := by
      unfold lm_ at hm
      (repeat' split at hm) <;> omega
    clear hm r
    unfold le_c
    (repeat' split) <;> omega
  · subst e
    rw [show p2 1 = 2 from rfl] at hs
    have b : 11 ≤ L ∧ L ≤ 18 := by
      unfold lm_ at hm
      (repeat' split at hm) <;> omega
    clear hm r
    unfold le_c
    (repeat' split) <;> omega
  · subst e
    rw [show p2 2 = 4 from rfl] at hs
    have b : 19 ≤ L ∧ L ≤ 34 := by
      unfold lm_ at hm
      (repeat' split at hm) <;> omega
    clear hm r
    unfold le_c
    (repeat' split) <;> omega
  · subst e
    rw [show p2 3 = 8 from rfl] at hs
    have b : 35 ≤ L ∧ L ≤ 66 := by
      unfold lm_ at hm
      (repeat' split at hm) <;> omega
    clear hm r
    unfold le_c
    (repeat' split) <;> omega
  · subst e
    rw [show p2 4 = 16 from rfl] at hs
    have b : 67 ≤ L ∧ L ≤ 130 := by
      unfold lm_ at hm
      (repeat' split at hm) <;> omega
    clear hm r
    unfold le_c
    (repeat' split) <;> omega
  · subst e
    rw [show p2 5 = 32 from rfl] at hs
    have b : 131 ≤ L ∧ L ≤ 257 := by
      unfold lm_ at hm
      (repeat' split at hm) <;> omega
    clear hm r
    unfold le_c
    (repeat' split) <;> omega
