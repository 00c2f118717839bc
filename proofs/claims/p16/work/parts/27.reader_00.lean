/-! ROWS OF NUMBERS -/
theorem omg_811872366e {x0 : Int} {x1 : Int} {x2 : Int} {x3 : Int} (a0 : (((((x0 % (256 : Int)) + ((256 : Int) * (x1 % (256 : Int)))) + ((65536 : Int) * (x2 % (256 : Int)))) + ((16777216 : Int) * (x3 % (256 : Int)))) = (1310740 : Int))) : ((x2 % (256 : Int)) = (20 : Int)) := by omega
theorem omg_32f304de01 {x0 : Int} {x1 : Int} {x2 : Int} {x3 : Int} (a0 : (((((x0 % (256 : Int)) + ((256 : Int) * (x1 % (256 : Int)))) + ((65536 : Int) * (x2 % (256 : Int)))) + ((16777216 : Int) * (x3 % (256 : Int)))) = (1310740 : Int))) : ((x3 % (256 : Int)) = (0 : Int)) := by omega
theorem omg_8bc5037101 {x0 : Int} {x1 : Int} {x2 : Int} {x3 : Int} (a0 : (((((x0 % (256 : Int)) + ((256 : Int) * (x1 % (256 : Int)))) + ((65536 : Int) * (x2 % (256 : Int)))) + ((16777216 : Int) * (x3 % (256 : Int)))) = (0 : Int))) : ((x1 % (256 : Int)) = (0 : Int)) := by omega
theorem omg_8c8836a95b {x0 : Int} {x1 : Int} {x2 : Int} {x3 : Int} {x4 : Int} {x5 : Int} {x6 : Int} {x7 : Int} (a0 : (((((x0 % (256 : Int)) + ((256 : Int) * (x1 % (256 : Int)))) + ((65536 : Int) * (x2 % (256 : Int)))) + ((16777216 : Int) * (x3 % (256 : Int)))) = (1310740 : Int))) (a1 : (((((x4 % (256 : Int)) + ((256 : Int) * (x5 % (256 : Int)))) + ((65536 : Int) * (x6 % (256 : Int)))) + ((16777216 : Int) * (x7 % (256 : Int)))) = (20 : Int))) : ((x2 % (256 : Int)) = (x4 % (256 : Int))) := by omega
theorem omg_7ee3c22093 {x0 : Int} {x1 : Int} {x2 : Int} {x3 : Int} {x4 : Int} {x5 : Int} {x6 : Int} {x7 : Int} (a0 : (((((x0 % (256 : Int)) + ((256 : Int) * (x1 % (256 : Int)))) + ((65536 : Int) * (x2 % (256 : Int)))) + ((16777216 : Int) * (x3 % (256 : Int)))) = (1310740 : Int))) (a1 : (((((x4 % (256 : Int)) + ((256 : Int) * (x5 % (256 : Int)))) + ((65536 : Int) * (x6 % (256 : Int)))) + ((16777216 : Int) * (x7 % (256 : Int)))) = (20 : Int))) : ((x3 % (256 : Int)) = (x5 % (256 : Int))) := by omega
theorem omg_8a0cc9d867 {x0 : Int} {x1 : Int} {x2 : Int} {x3 : Int} {x4 : Int} {x5 : Int} (a0 : (((x0 % (256 : Int)) + ((256 : Int) * (x1 % (256 : Int)))) = (0 : Int))) (a1 : (((((x2 % (256 : Int)) + ((256 : Int) * (x3 % (256 : Int)))) + ((65536 : Int) * (x4 % (256 : Int)))) + ((16777216 : Int) * (x5 % (256 : Int)))) = (20 : Int))) : ((x0 % (256 : Int)) = (x4 % (256 : Int))) := by omega
theorem omg_c39f70c1c9 {x0 : Int} {x1 : Int} {x2 : Int} {x3 : Int} {x4 : Int} {x5 : Int} (a0 : (((x0 % (256 : Int)) + ((256 : Int) * (x1 % (256 : Int)))) = (0 : Int))) (a1 : (((((x2 % (256 : Int)) + ((256 : Int) * (x3 % (256 : Int)))) + ((65536 : Int) * (x4 % (256 : Int)))) + ((16777216 : Int) * (x5 % (256 : Int)))) = (20 : Int))) : ((x1 % (256 : Int)) = (x5 % (256 : Int))) := by omega
theorem omg_cee7d2ace9 {x0 : Int} {x1 : Int} {x2 : Int} {x3 : Int} {x4 : Int} {x5 : Int} (a0 : (((((x0 % (256 : Int)) + ((256 : Int) * (x1 % (256 : Int)))) + ((65536 : Int) * (x2 % (256 : Int)))) + ((16777216 : Int) * (x3 % (256 : Int)))) = (0 : Int))) (a1 : (((x4 % (256 : Int)) + ((256 : Int) * (x5 % (256 : Int)))) = (0 : Int))) : ((x0 % (256 : Int)) = (x4 % (256 : Int))) := by omega
theorem omg_4553505ae7 {x0 : Int} {x1 : Int} {x2 : Int} {x3 : Int} {x4 : Int} {x5 : Int} (a0 : (((((x0 % (256 : Int)) + ((256 : Int) * (x1 % (256 : Int)))) + ((65536 : Int) * (x2 % (256 : Int)))) + ((16777216 : Int) * (x3 % (256 : Int)))) = (0 : Int))) (a1 : (((x4 % (256 : Int)) + ((256 : Int) * (x5 % (256 : Int)))) = (0 : Int))) : ((x1 % (256 : Int)) = (x5 % (256 : Int))) := by omega
theorem omg_39806c0d09 {x0 : Int} {x1 : Int} {x2 : Int} (a0 : (x0 = x1)) (a1 : (((x2 < (0 : Int)) ↔ (x0 < (0 : Int))) ∧ (((x2 = (0 : Int)) ↔ (x0 = (0 : Int))) ∧ (((0 : Int) < x2) ↔ ((0 : Int) < x0))))) (a2 : (¬ (x2 = (0 : Int)))) (a3 : (x1 = (0 : Int))) : False := by omega
theorem omg_e6d08f9851 {x0 : Int} {x1 : Int} {x2 : Int} {x3 : Int} (a0 : (x0 = x1)) (a1 : (x2 = x3)) (a2 : (¬ (x0 = x2))) (a3 : (x1 = x3)) : False := by omega
theorem omg_87640f9aa1 {x0 : Int} (a0 : ((0 : Int) ≤ x0)) : ((0 : Int) ≤ (x0 + (20 : Int))) := by omega
theorem omg_acd30192c0 {x0 : Int} {x1 : Int} (a0 : (x0 = x1)) (a1 : (¬ (x0 = (0 : Int)))) (a2 : (x1 = (0 : Int))) : False := by omega
theorem omg_166c39d5f6 {x0 : Int} {x1 : Nat} (a0 : ((0 : Int) ≤ x0)) (a1 : ((x0 + (46 : Int)) ≤ ((x1 : Nat) : Int))) (a2 : (x1 ≤ (100000 : Nat))) : (((-(2147483648 : Int)) ≤ (x0 + (34 : Int))) ∧ ((x0 + (34 : Int)) < (2147483648 : Int))) := by omega
theorem omg_2ec29f96b5 {x0 : Int} {x1 : Int} (a0 : ((x0 + (46 : Int)) ≤ x1)) : (((x0 + (34 : Int)) + (((4 : Nat) : Nat) : Int)) ≤ x1) := by omega
theorem omg_45e051169b {x0 : Int} (a0 : ((0 : Int) ≤ x0)) : ((0 : Int) ≤ (x0 + (34 : Int))) := by omega
theorem omg_743a53c656 {x0 : Int} {x1 : Nat} (a0 : ((0 : Int) ≤ x0)) (a1 : ((x0 + (46 : Int)) ≤ ((x1 : Nat) : Int))) (a2 : (x1 ≤ (100000 : Nat))) : (((-(2147483648 : Int)) ≤ (x0 + (38 : Int))) ∧ ((x0 + (38 : Int)) < (2147483648 : Int))) := by omega
theorem omg_c1f1ba87da {x0 : Int} {x1 : Nat} {x2 : Int} (a0 : ((x0 + (46 : Int)) ≤ ((x1 : Nat) : Int))) (a1 : (x2 = (x0 + (38 : Int)))) : ((x2 + (4 : Int)) ≤ ((x1 : Nat) : Int)) := by omega
theorem omg_2566e2c3a9 {x0 : Int} {x1 : Int} (a0 : ((0 : Int) ≤ x0)) (a1 : (x1 = (x0 + (38 : Int)))) : ((0 : Int) ≤ x1) := by omega
theorem omg_0cfc9a5be6 {x0 : Int} {x1 : Int} (a0 : ((x0 + (46 : Int)) ≤ x1)) : (((x0 + (38 : Int)) + (((4 : Nat) : Nat) : Int)) ≤ x1) := by omega
theorem omg_602ceb64b2 {x0 : Int} (a0 : ((0 : Int) ≤ x0)) : ((0 : Int) ≤ (x0 + (38 : Int))) := by omega
theorem omg_26f441bfdd {x0 : Int} {x1 : Int} {x2 : Int} (a0 : (x0 = x1)) (a1 : (((x2 < (0 : Int)) ↔ (x0 < (0 : Int))) ∧ (((x2 = (0 : Int)) ↔ (x0 = (0 : Int))) ∧ (((0 : Int) < x2) ↔ ((0 : Int) < x0))))) (a2 : (x2 = (0 : Int))) : (x1 = (0 : Int)) := by omega
theorem omg_e41e7867ed {x0 : Int} {x1 : Int} (a0 : (x0 = x1)) (a1 : (x0 = (0 : Int))) : ((x1 = (0 : Int)) ∨ (x1 = (8 : Int))) := by omega
theorem omg_3ece37706e {x0 : Int} {x1 : Int} (a0 : (x0 = x1)) (a1 : (x0 = (0 : Int))) : (x1 = (0 : Int)) := by omega
theorem omg_d706b4ad8a {x0 : Int} {x1 : Int} {x2 : Int} (a0 : (x0 = x1)) (a1 : (((x2 < (0 : Int)) ↔ (x0 < (33639248 : Int))) ∧ (((x2 = (0 : Int)) ↔ (x0 = (33639248 : Int))) ∧ (((0 : Int) < x2) ↔ ((33639248 : Int) < x0))))) (a2 : (x2 = (0 : Int))) : (x1 = (33639248 : Int)) := by omega
theorem tw_rng (f : Nat → Int32) (k : Int) : 0 ≤ tw f k ∧ tw f k ≤ 65535 := by
  have a := ti_and (z := gr f k &&& 255) (m := 255) (b := 255) 8 rfl (by decide) (by decide)
  have b := ti_and (z := gr f (k + 1) &&& 255) (m := 255) (b := 255) 8 rfl (by decide) (by decide)
  have c := ti_shl (z := (gr f (k + 1) &&& 255) <<< ((8 : Int32) &&& 31)) (b := 256) rfl rfl 8 (by decide) (by decide) b.1 (by omega)
  have d := ti_or (z := tw_r f k) (c := 65536) 16 rfl rfl rfl a.1 (by omega) (by omega) (by omega) (by decide)
  unfold tw
  omega
/-- the places of a directory's entries -/
def dp_n (f : Nat → Int32) (a : Int) : Nat → Int
  | 0 => a
  | k + 1 => dp_n f a k + (46 + tw f (dp_n f a k + 28))
def dp (f : Nat → Int32) (a k : Int) : Int := dp_n f a k.toNat
theorem dp_0 (f : Nat → Int32) (a : Int) : dp f a 0 = a := rfl
theorem dp_s {f : Nat → Int32} {a k m : Int} (h : 0 ≤ k) (hm : m = k + 1) : dp f a m = dp f a k + (46 + tw f (dp f a k + 28)) := by
  subst hm
  unfold dp
  rw [show (k + 1).toNat = k.toNat + 1 by omega, dp_n]
theorem dp_up (f : Nat → Int32) (a : Int) : ∀ (n : Nat) (k : Int), 0 ≤ k → dp f a k ≤ dp f a (k + n)
  | 0, k, _ => by rw [show k + ((0 : Nat) : Int) = k by omega]; exact Int.le_refl _
  | n + 1, k, h0 => by
    have h := dp_up f a n k h0
    have d := dp_s (f := f) (a := a) (k := k + n) (m := k + n + 1) (by omega) rfl
    have t := tw_rng f (dp f a (k + n) + 28)
    rw [show k + ((n + 1 : Nat) : Int) = k + n + 1 by omega]
    omega
theorem dp_le {f : Nat → Int32} {a j k : Int} (h0 : 0 ≤ j) (h1 : j ≤ k) : dp f a j ≤ dp f a k := by
  have h := dp_up f a (k - j).toNat j h0
  rwa [show j + ((k - j).toNat : Int) = k by omega] at h

/-! READING A ROW OF BYTES AS A FILE: the pure picture -/
def aw (A : Int → Int32) (y : Int) : Nat → Int
  | 0 => 0
  | n + 1 => 256 * aw A (y + 1) n + (A y &&& 255).toInt
theorem av_aw {f : Nat → Int32} {A : Int → Int32} : ∀ (n : Nat) (y : Int), (∀ j : Int, y ≤ j → j < y + n → A j = gr f j) → av f y n = aw A y n
  | 0, _, _ => rfl
  | n + 1, y, h => by
    have ih := av_aw n (y + 1) (fun j h0 h1 => h j (by omega) (by omega))
    have e := h y (Int.le_refl _) (by omega)
    show 256 * av f (y + 1) n + (gr f y &&& 255).toInt = 256 * aw A (y + 1) n + (A y &&& 255).toInt
    rw [ih, e]
theorem av_A {f : Nat → Int32} {A : Int → Int32} {sz y : Int} (h : ∀ j : Int, 0 ≤ j → j < sz → A j = gr f j) (n : Nat) (h0 : 0 ≤ y) (h1 : y + n ≤ sz) : av f y n = aw A y n := av_aw n y (fun j j0 j1 => h j (by omega) (by omega))
theorem bz_255 (x : Int32) : (x &&& 255).toInt = x.toInt % 256 := ti_255 rfl
theorem aw_2 (A : Int → Int32) (y : Int) : aw A y 2 = (A y).toInt % 256 + 256 * ((A (y + 1)).toInt % 256) := by
  have e : aw A y 2 = 256 * (256 * 0 + (A (y + 1) &&& 255).toInt) + (A y &&& 255).toInt := rfl
  rw [e, bz_255, bz_255]
  omega
theorem aw_4 (A : Int → Int32) (y : Int) : aw A y 4 = (A y).toInt % 256 + 256 * ((A (y + 1)).toInt % 256) + 65536 * ((A (y + 2)).toInt % 256) + 16777216 * ((A (y + 3)).toInt % 256) := by
  have e : aw A y 4 = 256 * (256 * (256 * (256 * 0 + (A (y + 1 + 1 + 1) &&& 255).toInt) + (A (y + 1 + 1) &&& 255).toInt) + (A (y + 1) &&& 255).toInt) + (A y &&& 255).toInt := rfl
  rw [e, bz_255, bz_255, bz_255, bz_255, show y + 1 + 1 + 1 = y + 3 by omega, show y + 1 + 1 = y + 2 by omega]
  omega
theorem aw2 (A : Int → Int32) (y : Int) : 0 ≤ aw A y 2 ∧ aw A y 2 ≤ 65535 := by
  rw [aw_2]
  omega
theorem aw4 (A : Int → Int32) (y : Int) : 0 ≤ aw A y 4 ∧ aw A y 4 < 4294967296 := by
  rw [aw_4]
  omega
theorem aw4_2 (A : Int → Int32) (y : Int) : aw A y 4 = aw A y 2 + 65536 * aw A (y + 2) 2 := by
  rw [aw_4, aw_2, aw_2, show y + 2 + 1 = y + 3 by omega]
  omega
theorem b8_inj {x y : Int32} (hx : -128 ≤ x.toInt ∧ x.toInt ≤ 127) (hy : -128 ≤ y.toInt ∧ y.toInt ≤ 127) (h : x.toInt % 256 = y.toInt % 256) : x = y := Int32.toInt_inj.mp (by omega)
/-- the end; an entry; the directory -/
def ed_ (A : Int → Int32) (e : Int) : Prop := aw A e 4 = 101010256 ∧ aw A (e + 4) 4 = 0 ∧ aw A (e + 8) 2 = aw A (e + 10) 2 ∧ aw A (e + 20) 2 = 0
def ey_ (A : Int → Int32) (e : Int) : Prop := aw A e 4 = 33639248 ∧ aw A (e + 4) 4 = 1310740 ∧ aw A (e + 8) 2 = 0 ∧ (aw A (e + 10) 2 = 0 ∨ aw A (e + 10) 2 = 8) ∧ aw A (e + 30) 4 = 0 ∧ aw A (e + 34) 4 = 0 ∧ aw A (e + 38) 4 = 0
theorem ey_C {A : Int → Int32} {e : Int} (h : aw A (e + 4) 2 = 20) (h2 : aw A (e + 6) 2 = 20) : aw A (e + 4) 4 = 1310740 := by
  rw [aw4_2, show e + 4 + 2 = e + 6 by omega, h, h2]
  rfl
theorem ey_D {A : Int → Int32} {e : Int} (h : aw A (e + 4) 4 = 1310740) : aw A (e + 4) 2 = 20 ∧ aw A (e + 6) 2 = 20 := by
  rw [aw4_2, show e + 4 + 2 = e + 6 by omega] at h
  have h1 := aw2 A (e + 4)
  have h2 := aw2 A (e + 6)
  omega
def dz (A : Int → Int32) (x : Int) : Nat → Int
  | 0 => x
  | k + 1 => dz A x k + 46 + aw A (dz A x k + 28) 2
def dy_ (A : Int → Int32) (x e : Int) (n : Nat) : Prop := (∀ k : Nat, k < n → dz A x k + 46 ≤ e ∧ ey_ A (dz A x k)) ∧ dz A x n = e
theorem dz_up (A : Int → Int32) (x : Int) : ∀ m k : Nat, dz A x k + 46 * m ≤ dz A x (k + m)
  | 0, k => by rw [Nat.add_zero]; omega
  | m + 1, k => by
    have h := dz_up A x m k
    have t := aw2 A (dz A x (k + m) + 28)
    have e : dz A x (k + (m + 1)) = dz A x (k + m) + 46 + aw A (dz A x (k + m) + 28) 2 := rfl
    rw [e]
    omega
theorem dz_in {A : Int → Int32} {x e : Int} {n k : Nat} (h : dy_ A x e n) (hk : k < n) : x ≤ dz A x k ∧ dz A x k + 46 + aw A (dz A x k + 28) 2 ≤ e ∧ dz A x (k + 1) = dz A x k + 46 + aw A (dz A x k + 28) 2 := by
  have u := dz_up A x (n - (k + 1)) (k + 1)
  rw [show k + 1 + (n - (k + 1)) = n by omega, h.2] at u
  have v := dz_up A x k 0
  rw [Nat.zero_add] at v
  have e0 : dz A x 0 = x := rfl
  have e1 : dz A x (k + 1) = dz A x k + 46 + aw A (dz A x k + 28) 2 := rfl
  omega
theorem dz_lt {A : Int → Int32} {x e : Int} {n k : Nat} (h : dy_ A x e n) (hk : dz A x k < e) : k < n := by
  rcases Nat.lt_or_ge k n with w | w
  · exact w
  · have u := dz_up A x (k - n) n
    rw [show n + (k - n) = k by omega, h.2] at u
    omega
theorem dy_no {A : Int → Int32} {x e : Int} {n k : Nat} (hk : k < n) (h : ¬ (dz A x k + 46 ≤ e ∧ ey_ A (dz A x k))) : ¬ dy_ A x e n := fun q => h (q.1 k hk)
theorem dy_s {A : Int → Int32} {x e : Int} {k : Nat} (h : ∀ j : Nat, j < k → dz A x j + 46 ≤ e ∧ ey_ A (dz A x j)) (h2 : dz A x k + 46 ≤ e ∧ ey_ A (dz A x k)) : ∀ j : Nat, j < k + 1 → dz A x j + 46 ≤ e ∧ ey_ A (dz A x j) := fun j hj => by
  by_cases c : j = k
  · rw [c]
    exact h2
  · exact h j (by omega)
/-- a record that says what its entry says -/
def rr_ (A : Int → Int32) (lim e : Int) : Prop := aw A (e + 42) 4 + 30 + aw A (e + 28) 2 + aw A (e + 20) 4 ≤ lim ∧ aw A (aw A (e + 42) 4) 4 = 67324752 ∧ (∀ k : Int, 0 ≤ k → k < 26 → A (e + 6 + k) = A (aw A (e + 42) 4 + 4 + k)) ∧ ∀ k : Int, 0 ≤ k → k < aw A (e + 28) 2 → A (e + 46 + k) = A (aw A (e + 42) 4 + 30 + k)
theorem rr_iff {A : Int → Int32} {lim e R : Int} (eR : R = aw A (e + 42) 4) (hB : ∀ j : Int, -128 ≤ (A j).toInt ∧ (A j).toInt ≤ 127) (hy : ey_ A e) : rr_ A lim e ↔ (R + 30 + aw A (e + 28) 2 + aw A (e + 20) 4 ≤ lim ∧ aw A R 4 = 67324752 ∧ aw A (R + 4) 4 = 20 ∧ aw A (R + 28) 2 = 0 ∧ (∀ k : Int, 0 ≤ k → k < 20 → A (R + 8 + k) = A (e + 10 + k)) ∧ ∀ k : Int, 0 ≤ k → k < aw A (e + 28) 2 → A (R + 30 + k) = A (e + 46 + k)) := by
  obtain ⟨-, y2, y3, -, y5, -, -⟩ := hy
  rw [aw_4] at y2 y5
  rw [aw_2] at y3
  rw [show e + 4 + 1 = e + 5 by omega, show e + 4 + 2 = e + 6 by omega, show e + 4 + 3 = e + 7 by omega] at y2
  rw [show e + 8 + 1 = e + 9 by omega] at y3
  rw [show e + 30 + 1 = e + 31 by omega, show e + 30 + 2 = e + 32 by omega, show e + 30 + 3 = e + 33 by omega] at y5
  have z6 : (A (e + 6)).toInt % 256 = 20 := by (exact omg_811872366e y2)
  have z7 : (A (e + 7)).toInt % 256 = 0 := by (exact omg_32f304de01 y2)
  have z8 : (A (e + 8)).toInt % 256 = 0 := by omega
  have z9 : (A (e + 9)).toInt % 256 = 0 := by omega
  have z30 : (A (e + 30)).toInt % 256 = 0 := by omega
  have z31 : (A (e + 31)).toInt % 256 = 0 := by (exact omg_8bc5037101 y5)
  unfold rr_
  rw [← eR, aw_4 A (R + 4), aw_2 A (R + 28), show R + 4 + 1 = R + 5 by omega, show R + 4 + 2 = R + 6 by omega, show R + 4 + 3 = R + 7 by omega, show R + 28 + 1 = R + 29 by omega]
  constructor
  · rintro ⟨h1, h2, h3, h4⟩
    have k0 := h3 0 (by omega) (by omega)
    have k1 := h3 1 (by omega) (by omega)
    have k2 := h3 2 (by omega) (by omega)
    have k3 := h3 3 (by omega) (by omega)
    have k24 := h3 24 (by omega) (by omega)
    have k25 := h3 25 (by omega) (by omega)
    rw [show e + 6 + 0 = e + 6 by omega, show R + 4 + 0 = R + 4 by omega] at k0
    rw [show e + 6 + 1 = e + 7 by omega, show R + 4 + 1 = R + 5 by omega] at k1
    rw [show e + 6 + 2 = e + 8 by omega, show R + 4 + 2 = R + 6 by omega] at k2
    rw [show e + 6 + 3 = e + 9 by omega, show R + 4 + 3 = R + 7 by omega] at k3
    rw [show e + 6 + 24 = e + 30 by omega, show R + 4 + 24 = R + 28 by omega] at k24
    rw [show e + 6 + 25 = e + 31 by omega, show R + 4 + 25 = R + 29 by omega] at k25
    rw [k0] at z6
    rw [k1] at z7
    rw [k2] at z8
    rw [k3] at z9
    rw [k24] at z30
    rw [k25] at z31
    refine ⟨h1, h2, by omega, by omega, fun k p0 p1 => ?_, fun k p0 p1 => (h4 k p0 p1).symm⟩
    have q := h3 (k + 4) (by omega) (by omega)
    rw [show e + 6 + (k + 4) = e + 10 + k by omega, show R + 4 + (k + 4) = R + 8 + k by omega] at q
    exact q.symm
  · rintro ⟨h1, h2, h3, h4, h5, h6⟩
    refine ⟨h1, h2, fun k p0 p1 => ?_, fun k p0 p1 => (h6 k p0 p1).symm⟩
    by_cases c : 4 ≤ k ∧ k < 24
    · have q := h5 (k - 4) (by omega) (by omega)
      rw [show R + 8 + (k - 4) = R + 4 + k by omega, show e + 10 + (k - 4) = e + 6 + k by omega] at q
      exact q.symm
    · have c2 : k = 0 ∨ k = 1 ∨ k = 2 ∨ k = 3 ∨ k = 24 ∨ k = 25 := by omega
      rcases c2 with rfl | rfl | rfl | rfl | rfl | rfl
      · rw [show e + 6 + 0 = e + 6 by omega, show R + 4 + 0 = R + 4 by omega]
        exact b8_inj (hB _) (hB _) (by (exact omg_8c8836a95b y2 h3))
      · rw [show e + 6 + 1 = e + 7 by omega, show R + 4 + 1 = R + 5 by omega]
        exact b8_inj (hB _) (hB _) (by (exact omg_7ee3c22093 y2 h3))
      · rw [show e + 6 + 2 = e + 8 by omega, show R + 4 + 2 = R + 6 by omega]
        exact b8_inj (hB _) (hB _) (by (exact omg_8a0cc9d867 y3 h3))
      · rw [show e + 6 + 3 = e + 9 by omega, show R + 4 + 3 = R + 7 by omega]
        exact b8_inj (hB _) (hB _) (by (exact omg_c39f70c1c9 y3 h3))
      · rw [show e + 6 + 24 = e + 30 by omega, show R + 4 + 24 = R + 28 by omega]
        exact b8_inj (hB _) (hB _) (by (exact omg_cee7d2ace9 y5 h4))
      · rw [show e + 6 + 25 = e + 31 by omega, show R + 4 + 25 = R + 29 by omega]
        exact b8_inj (hB _) (hB _) (by (exact omg_4553505ae7 y5 h4))
/-- the bytes of an entry; those that are as it says -/
def bs_ (A : Int → Int32) (e s : Int) (d : Int → Int32) : Prop := (aw A (e + 10) 2 = 8 ∧ ∃ p : Int, ex_f A od_ (aw A (e + 42) 4 + 30 + aw A (e + 28) 2) (aw A (e + 20) 4) = oz_ 0 p s d) ∨ (¬ aw A (e + 10) 2 = 8 ∧ s = aw A (e + 20) 4 ∧ d = fun k => A (aw A (e + 42) 4 + 30 + aw A (e + 28) 2 + k))
theorem oz_0j {p s p' s' : Int} {d d' : Int → Int32} (h : oz_ 0 p s d = oz_ 0 p' s' d') : s = s' ∧ d = d' := by
  unfold oz_ at h
  rw [if_pos rfl, if_pos rfl] at h
  have h1 := congrArg (fun z : Int × Int × Int × (Int → Int32) => z.2.2.1) h
  have h2 := congrArg (fun z : Int × Int × Int × (Int → Int32) => z.2.2.2) h
  exact ⟨h1, h2⟩
theorem oz_ne {w p s p' s' : Int} {d d' : Int → Int32} (hw : ¬ w = 0) : ¬ oz_ w p s d = oz_ 0 p' s' d' := fun h => by
  unfold oz_ at h
  rw [if_neg hw, if_pos rfl] at h
  have h1 := congrArg (fun z : Int × Int × Int × (Int → Int32) => z.1) h
  exact hw h1
theorem bs_u {A : Int → Int32} {e s s' : Int} {d d' : Int → Int32} (h : bs_ A e s d) (k : bs_ A e s' d') : s = s' ∧ d = d' := by
  rcases h with ⟨h1, p, h2⟩ | ⟨h1, h2, h3⟩
  · rcases k with ⟨k1, q, k2⟩ | ⟨k1, -, -⟩
    · exact oz_0j (h2.symm.trans k2)
    · exact absurd h1 k1
  · rcases k with ⟨k1, -, -⟩ | ⟨k1, k2, k3⟩
    · exact absurd k1 h1
    · exact ⟨h2.trans k2.symm, h3.trans k3.symm⟩
def ok_ (A : Int → Int32) (e s : Int) (d : Int → Int32) : Prop := bs_ A e s d ∧ s = aw A (e + 24) 4 ∧ cw_ d s.toNat ^^^ (-1) = Int32.ofInt (aw A (e + 16) 4)
theorem ok_no {A : Int → Int32} {e s : Int} {d : Int → Int32} (h : bs_ A e s d) (n : ¬ (s = aw A (e + 24) 4 ∧ cw_ d s.toNat ^^^ (-1) = Int32.ofInt (aw A (e + 16) 4))) : ∀ (s' : Int) (d' : Int → Int32), ¬ ok_ A e s' d' := fun s' d' q => by
  have u := bs_u h q.1
  rw [u.1, u.2] at n
  exact n q.2
theorem ok_nz {A : Int → Int32} {e w p s0 : Int} {d0 : Int → Int32} (h8 : aw A (e + 10) 2 = 8) (h : ex_f A od_ (aw A (e + 42) 4 + 30 + aw A (e + 28) 2) (aw A (e + 20) 4) = oz_ w p s0 d0) (hw : ¬ w = 0) : ∀ (s : Int) (d : Int → Int32), ¬ ok_ A e s d := fun s d q => by
  rcases q.1 with ⟨-, p', k⟩ | ⟨k, -, -⟩
  · exact oz_ne hw (h.symm.trans k)
  · exact k h8
/-- AN ENTRY READ: the fault, or the parts with one more -/
def ai_ (A : Int → Int32) : Int → Int := fun j => (A j).toInt
def nm_ (A : Int → Int32) (x : Int) : Int → Int := fun k => (A (x + k)).toInt
def nq_ (A : Int → Int32) (e : Int) (V : VW_) : Prop := iA_ (ai_ A) (e + 46) (aw A (e + 28) 2) ∧ ∀ i : Int, 0 ≤ i → i < vC V → ¬ nE_ V i (aw A (e + 28) 2) (nm_ A (e + 46))
def en_R (A : Int → Int32) (lim e : Int) (V : VW_) (r : Int) (W : VW_) : Prop := (¬ rr_ A lim e → r = 3) ∧ (rr_ A lim e → ¬ nq_ A e V → r = 4) ∧ (rr_ A lim e → nq_ A e V → (∀ (s : Int) (d : Int → Int32), ¬ ok_ A e s d) → r = 5) ∧ ∀ (s : Int) (d : Int → Int32), rr_ A lim e → nq_ A e V → ok_ A e s d → (¬ RM_ V (nm_ A (e + 46)) (aw A (e + 28) 2) s → r = 6) ∧ (RM_ V (nm_ A (e + 46)) (aw A (e + 28) 2) s → r = 0 ∧ AD_ V (nm_ A (e + 46)) (aw A (e + 28) 2) s d W)
theorem en_3 {A : Int → Int32} {lim e r : Int} {V W : VW_} (hr : r = 3) (h : ¬ rr_ A lim e) : en_R A lim e V r W := ⟨fun _ => hr, fun q => absurd q h, fun q => absurd q h, fun _ _ q => absurd q h⟩
theorem en_4 {A : Int → Int32} {lim e r : Int} {V W : VW_} (hr : r = 4) (h : rr_ A lim e) (h2 : ¬ nq_ A e V) : en_R A lim e V r W := ⟨fun q => absurd h q, fun _ _ => hr, fun _ q => absurd q h2, fun _ _ _ q => absurd q h2⟩
theorem en_5 {A : Int → Int32} {lim e r : Int} {V W : VW_} (hr : r = 5) (h : rr_ A lim e) (h2 : nq_ A e V) (h3 : ∀ (s : Int) (d : Int → Int32), ¬ ok_ A e s d) : en_R A lim e V r W := ⟨fun q => absurd h q, fun _ q => absurd h2 q, fun _ _ _ => hr, fun s d _ _ q => absurd q (h3 s d)⟩
theorem en_6 {A : Int → Int32} {lim e r s : Int} {d : Int → Int32} {V W : VW_} (hr : r = 6) (h : rr_ A lim e) (h2 : nq_ A e V) (h3 : ok_ A e s d) (h4 : ¬ RM_ V (nm_ A (e + 46)) (aw A (e + 28) 2) s) : en_R A lim e V r W := ⟨fun q => absurd h q, fun _ q => absurd h2 q, fun _ _ q => absurd h3 (q s d), fun s' d' _ _ q => ⟨fun _ => hr, fun k => by
  have u := bs_u h3.1 q.1
  rw [← u.1] at k
  exact absurd k h4⟩⟩
theorem en_0 {A : Int → Int32} {lim e r s : Int} {d : Int → Int32} {V W : VW_} (hr : r = 0) (h : rr_ A lim e) (h2 : nq_ A e V) (h3 : ok_ A e s d) (h4 : RM_ V (nm_ A (e + 46)) (aw A (e + 28) 2) s) (h5 : AD_ V (nm_ A (e + 46)) (aw A (e + 28) 2) s d W) : en_R A lim e V r W := ⟨fun q => absurd h q, fun _ q => absurd h2 q, fun _ _ q => absurd h3 (q s d), fun s' d' _ _ q => by
  have u := bs_u h3.1 q.1
  rw [← u.1, ← u.2]
  exact ⟨fun k => absurd h4 k, fun _ => ⟨hr, h5⟩⟩⟩
theorem en_u {A : Int → Int32} {lim e r r' : Int} {V W W' : VW_} (hs : srt_ V) (h : en_R A lim e V r W) (k : en_R A lim e V r' W') : r = r' ∧ (r = 0 → W = W') := by
  by_cases c1 : rr_ A lim e
  · by_cases c2 : nq_ A e V
    · by_cases c3 : ∀ (s : Int) (d : Int → Int32), ¬ ok_ A e s d
      · have h1 := h.2.2.1 c1 c2 c3
        have k1 := k.2.2.1 c1 c2 c3
        exact ⟨by omega, fun q => absurd q (by omega)⟩
      · have c4 : ∃ (s : Int) (d : Int → Int32), ok_ A e s d := Classical.byContradiction (fun q => c3 (fun s d p => q ⟨s, d, p⟩))
        obtain ⟨s, d, c5⟩ := c4
        have h1 := h.2.2.2 s d c1 c2 c5
        have k1 := k.2.2.2 s d c1 c2 c5
        by_cases c6 : RM_ V (nm_ A (e + 46)) (aw A (e + 28) 2) s
        · have h2 := h1.2 c6
          have k2 := k1.2 c6
          exact ⟨by omega, fun _ => AD_u hs h2.2 k2.2⟩
        · have h2 := h1.1 c6
          have k2 := k1.1 c6
          exact ⟨by omega, fun q => absurd q (by omega)⟩
    · have h1 := h.2.1 c1 c2
      have k1 := k.2.1 c1 c2
      exact ⟨by omega, fun q => absurd q (by omega)⟩
  · have h1 := h.1 c1
    have k1 := k.1 c1
    exact ⟨by omega, fun q => absurd q (by omega)⟩
theorem en_srt {A : Int → Int32} {lim e r : Int} {V W : VW_} (hs : srt_ V) (h : en_R A lim e V r W) (hr : r = 0) : srt_ W := by
  have c1 : rr_ A lim e := Classical.byContradiction (fun q => by have := h.1 q; omega)
  have c2 : nq_ A e V := Classical.byContradiction (fun q => by have := h.2.1 c1 q; omega)
  have c4 : ∃ (s : Int) (d : Int → Int32), ok_ A e s d := Classical.byContradiction (fun q => by have := h.2.2.1 c1 c2 (fun s d p => q ⟨s, d, p⟩); omega)
  obtain ⟨s, d, c5⟩ := c4
  have h1 := h.2.2.2 s d c1 c2 c5
  by_cases c6 : RM_ V (nm_ A (e + 46)) (aw A (e + 28) 2) s
  · exact srt_AD hs (h1.2 c6).2
  · have := h1.1 c6
    omega
/-- ENTRIES, one behind the other -/
def nl_ : VW_ := (0, fun _ => 0, fun _ _ => 0, fun _ => 0, fun _ _ => 0)
theorem srt_nl : srt_ nl_ := fun i j h0 h1 h2 => absurd h2 (by show ¬ j < (0 : Int); omega)
def rs_ (A : Int → Int32) (x : Int) : Nat → Int → VW_ → Prop
  | 0, r, W => r = 0 ∧ W = nl_
  | k + 1, r, W => ∃ (r1 : Int) (V1 : VW_), rs_ A x k r1 V1 ∧ ((¬ r1 = 0 ∧ r = r1) ∨ (r1 = 0 ∧ en_R A x (dz A x k) V1 r W))
theorem rs_0 {A : Int → Int32} {x r : Int} (h : r = 0) : rs_ A x 0 r nl_ := ⟨h, rfl⟩
theorem rs_s {A : Int → Int32} {x r r1 : Int} {k : Nat} {V W : VW_} (h : rs_ A x k r1 V) (h1 : r1 = 0) (e : en_R A x (dz A x k) V r W) : rs_ A x (k + 1) r W := ⟨r1, V, h, Or.inr ⟨h1, e⟩⟩
theorem rs_up {A : Int → Int32} {x r : Int} {k : Nat} {W : VW_} (h : rs_ A x k r W) (hr : ¬ r = 0) : ∀ m : Nat, rs_ A x (k + m) r W
  | 0 => h
  | m + 1 => ⟨r, W, rs_up h hr m, Or.inl ⟨hr, rfl⟩⟩
theorem rs_to {A : Int → Int32} {x r : Int} {k n : Nat} {W : VW_} (h : rs_ A x k r W) (hk : k ≤ n) (hr : r = 0 → k = n) : rs_ A x n r W := by
  by_cases c : r = 0
  · rw [← hr c]
    exact h
  · have u := rs_up h c (n - k)
    rw [show k + (n - k) = n by omega] at u
    exact u
theorem rs_srt {A : Int → Int32} {x : Int} : ∀ (k : Nat) {r : Int} {W : VW_}, rs_ A x k r W → r = 0 → srt_ W
  | 0, _, _, h, _ => by
    rw [h.2]
    exact srt_nl
  | k + 1, _, _, ⟨_, _, h1, h2⟩, hr => by
    rcases h2 with ⟨a, b⟩ | ⟨a, b⟩
    · omega
    · exact en_srt (rs_srt k h1 a) b hr
theorem rs_u {A : Int → Int32} {x : Int} : ∀ (k : Nat) {r r' : Int} {W W' : VW_}, rs_ A x k r W → rs_ A x k r' W' → r = r' ∧ (r = 0 → W = W')
  | 0, _, _, _, _, h, h' => ⟨h.1.trans h'.1.symm, fun _ => h.2.trans h'.2.symm⟩
  | k + 1, r, r', _, _, ⟨r1, V1, h1, h2⟩, ⟨r2, V2, k1, k2⟩ => by
    obtain ⟨u1, u2⟩ := rs_u k h1 k1
    rcases h2 with ⟨a, b⟩ | ⟨a, b⟩
    · rcases k2 with ⟨c, d⟩ | ⟨c, d⟩
      · exact ⟨by omega, fun q => absurd q (by omega)⟩
      · exact absurd u1 (by omega)
    · rcases k2 with ⟨c, d⟩ | ⟨c, d⟩
      · exact absurd u1 (by omega)
      · have e := u2 a
        subst e
        exact en_u (rs_srt k h1 a) b d
/-- THE WHOLE READING -/
def dw_ (A : Int → Int32) (e : Int) : Prop := aw A (e + 16) 4 + aw A (e + 12) 4 = e ∧ dy_ A (aw A (e + 16) 4) e (aw A (e + 8) 2).toNat
def rd_ (A : Int → Int32) (sz r : Int) (W : VW_) : Prop := (¬ (22 ≤ sz ∧ ed_ A (sz - 22)) → r = 1) ∧ (22 ≤ sz ∧ ed_ A (sz - 22) → ¬ dw_ A (sz - 22) → r = 2) ∧ (22 ≤ sz ∧ ed_ A (sz - 22) → dw_ A (sz - 22) → rs_ A (aw A (sz - 22 + 16) 4) (aw A (sz - 22 + 8) 2).toNat r W)
theorem rd_1 {A : Int → Int32} {sz r : Int} {W : VW_} (hr : r = 1) (h : ¬ (22 ≤ sz ∧ ed_ A (sz - 22))) : rd_ A sz r W := ⟨fun _ => hr, fun q => absurd q h, fun q => absurd q h⟩
theorem rd_2 {A : Int → Int32} {sz r : Int} {W : VW_} (hr : r = 2) (h : 22 ≤ sz ∧ ed_ A (sz - 22)) (h2 : ¬ dw_ A (sz - 22)) : rd_ A sz r W := ⟨fun q => absurd h q, fun _ _ => hr, fun _ q => absurd q h2⟩
theorem rd_3 {A : Int → Int32} {sz r : Int} {W : VW_} (h : 22 ≤ sz ∧ ed_ A (sz - 22)) (h2 : dw_ A (sz - 22)) (h3 : rs_ A (aw A (sz - 22 + 16) 4) (aw A (sz - 22 + 8) 2).toNat r W) : rd_ A sz r W := ⟨fun q => absurd h q, fun _ q => absurd h2 q, fun _ _ => h3⟩
theorem rd_u {A : Int → Int32} {sz r r' : Int} {W W' : VW_} (h : rd_ A sz r W) (k : rd_ A sz r' W') : r = r' ∧ (r = 0 → W = W') := by
  by_cases c1 : 22 ≤ sz ∧ ed_ A (sz - 22)
  · by_cases c2 : dw_ A (sz - 22)
    · exact rs_u _ (h.2.2 c1 c2) (k.2.2 c1 c2)
    · have h1 := h.2.1 c1 c2
      have k1 := k.2.1 c1 c2
      exact ⟨by omega, fun q => absurd q (by omega)⟩
  · have h1 := h.1 c1
    have k1 := k.1 c1
    exact ⟨by omega, fun q => absurd q (by omega)⟩
theorem rd_srt {A : Int → Int32} {sz r : Int} {W : VW_} (h : rd_ A sz r W) (hr : r = 0) : srt_ W := by
  have c1 : 22 ≤ sz ∧ ed_ A (sz - 22) := Classical.byContradiction (fun q => by have := h.1 q; omega)
  have c2 : dw_ A (sz - 22) := Classical.byContradiction (fun q => by have := h.2.1 c1 q; omega)
  exact rs_srt _ (h.2.2 c1 c2) hr
/-- views that are the same where they are looked at -/
def vE_ (V W : VW_) : Prop := vC V = vC W ∧ ∀ i : Int, 0 ≤ i → i < vC V → vZ V i = vZ W i ∧ vS V i = vS W i ∧ (∀ k : Int, 0 ≤ k → k < vZ V i → vN V i k = vN W i k) ∧ ∀ k : Int, 0 ≤ k → k < vS V i → vD V i k = vD W i k
theorem rC_vE {c : Int} {fn fz fb fg : Nat → Int32} {V W : VW_} (h : rC_ c fn fz fb fg V) (e : vE_ V W) : rC_ c fn fz fb fg W := by
  have hc : c = vC V := h.1
  refine ⟨hc.trans e.1, fun i i0 i1 => ?_⟩
  obtain ⟨a1, a2, a3, a4⟩ := h.2 i i0 i1
  obtain ⟨b1, b2, b3, b4⟩ := e.2 i i0 (by omega)
  rw [← b1, ← b2]
  exact ⟨a1, a2, fun k k0 k1 => (a3 k k0 k1).trans (b3 k k0 k1), fun k k0 k1 => (a4 k k0 k1).trans (b4 k k0 k1)⟩
theorem vin_vE {V : VW_} {r m s : Int} {a a' : Int → Int} {d d' : Int → Int32} (ha : ∀ k : Int, 0 ≤ k → k < m → a k = a' k) (hd : ∀ k : Int, 0 ≤ k → k < s → d k = d' k) : vE_ (vin_ V r m a s d) (vin_ V r m a' s d') := by
  refine ⟨rfl, fun i i0 i1 => ?_⟩
  rcases Int.lt_trichotomy i r with w | w | w
  · have q3 : vN (vin_ V r m a s d) i = vN (vin_ V r m a' s d') i := (vi_lo (α := Int → Int) w).trans (vi_lo (α := Int → Int) w).symm
    have q4 : vD (vin_ V r m a s d) i = vD (vin_ V r m a' s d') i := (vi_lo (α := Int → Int32) w).trans (vi_lo (α := Int → Int32) w).symm
    rw [q3, q4]
    exact ⟨rfl, rfl, fun _ _ _ => rfl, fun _ _ _ => rfl⟩
  · have q1 : vZ (vin_ V r m a s d) i = m := vi_at (α := Int) w
    have q2 : vS (vin_ V r m a s d) i = s := vi_at (α := Int) w
    have q3 : vN (vin_ V r m a s d) i = a := vi_at (α := Int → Int) w
    have q5 : vN (vin_ V r m a' s d') i = a' := vi_at (α := Int → Int) w
    have q4 : vD (vin_ V r m a s d) i = d := vi_at (α := Int → Int32) w
    have q6 : vD (vin_ V r m a' s d') i = d' := vi_at (α := Int → Int32) w
    rw [q1, q2, q3, q4, q5, q6]
    exact ⟨(vi_at (α := Int) w).symm, (vi_at (α := Int) w).symm, ha, hd⟩
  · have q3 : vN (vin_ V r m a s d) i = vN (vin_ V r m a' s d') i := (vi_hi (α := Int → Int) w).trans (vi_hi (α := Int → Int) w).symm
    have q4 : vD (vin_ V r m a s d) i = vD (vin_ V r m a' s d') i := (vi_hi (α := Int → Int32) w).trans (vi_hi (α := Int → Int32) w).symm
    rw [q3, q4]
    exact ⟨rfl, rfl, fun _ _ _ => rfl, fun _ _ _ => rfl⟩
theorem vse_vE {V : VW_} {q m s : Int} {a a' : Int → Int} {d d' : Int → Int32} (ha : ∀ k : Int, 0 ≤ k → k < m → a k = a' k) (hd : ∀ k : Int, 0 ≤ k → k < s → d k = d' k) : vE_ (vse_ V q m a s d) (vse_ V q m a' s d') := by
  refine ⟨rfl, fun i i0 i1 => ?_⟩
  by_cases w : i = q
  · have q1 : vZ (vse_ V q m a s d) i = m := if_pos w
    have q2 : vS (vse_ V q m a s d) i = s := if_pos w
    have q3 : vN (vse_ V q m a s d) i = a := if_pos (α := Int → Int) w
    have q5 : vN (vse_ V q m a' s d') i = a' := if_pos (α := Int → Int) w
    have q4 : vD (vse_ V q m a s d) i = d := if_pos (α := Int → Int32) w
    have q6 : vD (vse_ V q m a' s d') i = d' := if_pos (α := Int → Int32) w
    rw [q1, q2, q3, q4, q5, q6]
    exact ⟨(if_pos (α := Int) w).symm, (if_pos (α := Int) w).symm, ha, hd⟩
  · have q3 : vN (vse_ V q m a s d) i = vN (vse_ V q m a' s d') i := (if_neg (α := Int → Int) w).trans (if_neg (α := Int → Int) w).symm
    have q4 : vD (vse_ V q m a s d) i = vD (vse_ V q m a' s d') i := (if_neg (α := Int → Int32) w).trans (if_neg (α := Int → Int32) w).symm
    rw [q3, q4]
    exact ⟨rfl, rfl, fun _ _ _ => rfl, fun _ _ _ => rfl⟩
theorem AD_R {c c2 n m : Int} {fn fz fb fg fn2 fz2 fb2 fg2 : Nat → Int32} {V : VW_} {a a' : Int → Int} {d d' : Int → Int32} (R : rC_ c fn fz fb fg V) (I : sh_I c fz fg) (hs : srt_ V) (n0 : 0 ≤ n) (hno : ∀ i : Int, 0 ≤ i → i < vC V → ¬ nE_ V i n a') (ha : ∀ k : Int, 0 ≤ k → k < n → a k = a' k) (hd : ∀ k : Int, 0 ≤ k → k < m → d k = d' k) (h : ∃ r : Int, 0 ≤ r ∧ r ≤ c ∧ (∀ j : Int, 0 ≤ j → j < r → lx_ (vN V j) (vZ V j) a n) ∧ (r < c → ¬ lx_ (vN V r) (vZ V r) a n) ∧ rC_ c2 fn2 fz2 fb2 fg2 (vin_ V r n a m d)) : ∃ W : VW_, AD_ V a' n m d' W ∧ rC_ c2 fn2 fz2 fb2 fg2 W := by
  obtain ⟨r, r0, r1, l1, l2, h5⟩ := h
  have ec : c = vC V := R.1
  have p := isP_C hs (rC_hz R I) n0 (fun i i0 i1 q => hno i i0 i1 (nE_cg q ha)) r0 (by omega) l1 (fun q => l2 (by omega))
  exact ⟨_, Or.inr ⟨hno, r, isP_cg p ha, rfl⟩, rC_vE h5 (vin_vE ha hd)⟩
theorem AD_d {V W : VW_} {a : Int → Int} {m s : Int} {d d' : Int → Int32} (h : AD_ V a m s d W) (hd : ∀ k : Int, 0 ≤ k → k < s → d k = d' k) : ∃ W' : VW_, AD_ V a m s d' W' ∧ vE_ W W' := by
  rcases h with ⟨q, q0, q1, q2, q3⟩ | ⟨n, r, r0, r1⟩
  · refine ⟨_, Or.inl ⟨q, q0, q1, q2, rfl⟩, ?_⟩
    rw [q3]
    exact vse_vE (fun _ _ _ => rfl) hd
  · refine ⟨_, Or.inr ⟨n, r, r0, rfl⟩, ?_⟩
    rw [r1]
    exact vin_vE (fun _ _ _ => rfl) hd
theorem rM_vE {b c : Int} {z n s d : Nat → Int32} {V W : VW_} (h : rM_ b c z n s d V) (e : vE_ V W) : rM_ b c z n s d W := by
  have hc : c = vC V := h.1
  refine ⟨hc.trans e.1, fun i i0 i1 => ?_⟩
  obtain ⟨a1, a2, a3, a4⟩ := h.2 i i0 i1
  obtain ⟨b1, b2, b3, b4⟩ := e.2 i i0 (by omega)
  rw [← b1, ← b2]
  exact ⟨a1, a2, fun k k0 k1 => (a3 k k0 k1).trans (b3 k k0 k1), fun k k0 k1 => (a4 k k0 k1).trans (b4 k k0 k1)⟩
theorem rM_nil {b : Int} {z n s d : Nat → Int32} {V : VW_} (h : vC V = 0) : rM_ b 0 z n s d V := ⟨h.symm, fun i h0 h1 => absurd h1 (by omega)⟩
theorem sm_A {f : Nat → Int32} {A : Int → Int32} {Z P Q M p q n : Int} (hA : ∀ j : Int, 0 ≤ j → j < Z → A j = gr f j) (h : ∀ j : Int, 0 ≤ j → j < M → gx f (P + j) = gx f (Q + j)) (eP : P = p) (eQ : Q = q) (eM : M = n) (p0 : 0 ≤ p) (p1 : p + n ≤ Z) (q0 : 0 ≤ q) (q1 : q + n ≤ Z) : ∀ k : Int, 0 ≤ k → k < n → A (p + k) = A (q + k) := fun k k0 k1 => by
  subst eP eQ eM
  rw [hA _ (by omega) (by omega), hA _ (by omega) (by omega)]
  exact Int32.toInt_inj.mp (h k k0 k1)
theorem sm_N {f : Nat → Int32} {A : Int → Int32} {Z P Q M p q n : Int} (hA : ∀ j : Int, 0 ≤ j → j < Z → A j = gr f j) (h : ¬ ∀ j : Int, 0 ≤ j → j < M → gx f (P + j) = gx f (Q + j)) (eP : P = p) (eQ : Q = q) (eM : M = n) (p0 : 0 ≤ p) (p1 : p + n ≤ Z) (q0 : 0 ≤ q) (q1 : q + n ≤ Z) : ¬ ∀ k : Int, 0 ≤ k → k < n → A (p + k) = A (q + k) := fun z => h (fun j j0 j1 => by
  subst eP eQ eM
  have e := z j j0 j1
  rw [hA _ (by omega) (by omega), hA _ (by omega) (by omega)] at e
  exact congrArg Int32.toInt e)
theorem iA_A {f : Nat → Int32} {A : Int → Int32} {Z X x n : Int} (hA : ∀ j : Int, 0 ≤ j → j < Z → A j = gr f j) (eX : X = x) (h0 : 0 ≤ x) (h1 : x + n ≤ Z) : iA_ (gx f) X n ↔ iA_ (ai_ A) x n := by
  subst eX
  have e : ∀ k : Int, X ≤ k → k < X + n → gx f k = ai_ A k := fun k k0 k1 => by
    show (gr f k).toInt = (A k).toInt
    rw [hA k (by omega) (by omega)]
  exact ⟨fun q => iA_cong e q, fun q => iA_cong (fun k k0 k1 => (e k k0 k1).symm) q⟩
theorem nm_A {f : Nat → Int32} {A : Int → Int32} {Z X x n : Int} (hA : ∀ j : Int, 0 ≤ j → j < Z → A j = gr f j) (eX : X = x) (h0 : 0 ≤ x) (h1 : x + n ≤ Z) : ∀ k : Int, 0 ≤ k → k < n → (fun k => gx f (X + k)) k = nm_ A x k := fun k k0 k1 => by
  subst eX
  show (gr f (X + k)).toInt = (A (X + k)).toInt
  rw [hA (X + k) (by omega) (by omega)]
theorem rr_y {A : Int → Int32} {lim e R n : Int} (eR : R = aw A (e + 42) 4) (en : n = aw A (e + 28) 2) (h1 : R + 30 + n + aw A (e + 20) 4 ≤ lim) (h : aw A R 4 = 67324752 ∧ (∀ k : Int, 0 ≤ k → k < 26 → A (e + 6 + k) = A (R + 4 + k)) ∧ ∀ k : Int, 0 ≤ k → k < n → A (e + 46 + k) = A (R + 30 + k)) : rr_ A lim e := by
  subst eR en
  exact ⟨h1, h⟩
theorem rr_n1 {A : Int → Int32} {lim e : Int} (h1 : ¬ aw A (e + 42) 4 + 30 + aw A (e + 28) 2 + aw A (e + 20) 4 ≤ lim) : ¬ rr_ A lim e := fun q => h1 q.1
theorem rr_n2 {A : Int → Int32} {lim e R n : Int} (eR : R = aw A (e + 42) 4) (en : n = aw A (e + 28) 2) (h : ¬ (aw A R 4 = 67324752 ∧ (∀ k : Int, 0 ≤ k → k < 26 → A (e + 6 + k) = A (R + 4 + k)) ∧ ∀ k : Int, 0 ≤ k → k < n → A (e + 46 + k) = A (R + 30 + k))) : ¬ rr_ A lim e := fun q => h (by
  subst eR en
  exact q.2)
theorem nq_i {A : Int → Int32} {e n : Int} {V : VW_} (en : n = aw A (e + 28) 2) (h : ¬ iA_ (ai_ A) (e + 46) n) : ¬ nq_ A e V := fun q => h (by
  rw [en]
  exact q.1)
theorem nq_f {A : Int → Int32} {e n r : Int} {V : VW_} (en : n = aw A (e + 28) 2) (h : isF_ V n (nm_ A (e + 46)) r) (hr : 0 ≤ r) : ¬ nq_ A e V := fun q => by
  subst en
  rcases h with ⟨h0, h1, h2⟩ | ⟨h0, -⟩
  · exact q.2 r h0 h1 h2
  · omega
theorem nq_y {A : Int → Int32} {e n r : Int} {V : VW_} (en : n = aw A (e + 28) 2) (hi : iA_ (ai_ A) (e + 46) n) (h : isF_ V n (nm_ A (e + 46)) r) (hr : r < 0) : nq_ A e V := by
  subst en
  rcases h with ⟨h0, h1, h2⟩ | ⟨h0, h1⟩
  · omega
  · exact ⟨hi, h1⟩
/-- the bytes of an entry, as they lie -/
theorem ok_y {A : Int → Int32} {e s : Int} {d : Int → Int32} {f : Nat → Int32} {y : Int} {sm w : Int32} (hb : bs_ A e s d) (h1 : s = aw A (e + 24) 4) (hs : sm = cr_n f y s.toNat ^^^ (-1)) (hd : ∀ k : Int, 0 ≤ k → k < s → gr f (y + k) = d k) (hw : w = Int32.ofInt (aw A (e + 16) 4)) (hq : sm.toInt = w.toInt) (s0 : 0 ≤ s) : ok_ A e s d := by
  refine ⟨hb, h1, ?_⟩
  rw [← hw, ← Int32.toInt_inj.mp hq, hs, cr_cw (d := d) s.toNat (fun j j0 j1 => hd j j0 (by omega))]
theorem ok_x {A : Int → Int32} {e s : Int} {d : Int → Int32} {f : Nat → Int32} {y : Int} {sm w : Int32} (hb : bs_ A e s d) (hs : sm = cr_n f y s.toNat ^^^ (-1)) (hd : ∀ k : Int, 0 ≤ k → k < s → gr f (y + k) = d k) (hw : w = Int32.ofInt (aw A (e + 16) 4)) (hq : ¬ sm.toInt = w.toInt) (s0 : 0 ≤ s) : ∀ (s' : Int) (d' : Int → Int32), ¬ ok_ A e s' d' := ok_no hb (fun q => hq (by
  rw [hw, ← q.2, hs, cr_cw (d := d) s.toNat (fun j j0 j1 => hd j j0 (by omega))]))
theorem sq_at0 {f : Nat → Int32} {s k Y : Int} (hY : Y = 0) (h0 : 0 ≤ k) (h1 : k < s) : gr f (Y + k) = sq f 0 s k := by
  subst hY
  unfold sq
  rw [if_pos ⟨h0, h1⟩]
/-! a byte changed -/
theorem i8_xor (a b : Int32) : (a ^^^ b).toInt8 = a.toInt8 ^^^ b.toInt8 := by
  first
    | exact Int32.toInt8_xor a b
    | simp
theorem i8_i8 (x : Int8) : x.toInt32.toInt8 = x := by
  first
    | exact Int8.toInt8_toInt32 x
    | simp
def xr_ (F : Int → Int32) (k : Int) (x : Int32) : Int → Int32 := fun j => if j = k then (F j ^^^ x).toInt8.toInt32 else F j
theorem xr_C {f : Nat → Int32} {k j : Int} {ix x y u v w : Int32} (h0 : 0 ≤ j) (hi : ix.toInt = k) (k0 : 0 ≤ k) (xj : w = gr f k) (xy : y = x.toInt8.toInt32) (xu : u = w ^^^ y) (xv : v = u.toInt8.toInt32) : gr (upd f ix.toNatClampNeg (vp_nar .byte v)) j = xr_ (gr f) k x j := by
  rw [gr_updb hi j k0 h0]
  unfold xr_
  by_cases c : j = k
  · rw [if_pos c, if_pos c, xv, i8_i8, xu, xj, xy, c, i8_xor, i8_xor, i8_i8]
  · rw [if_neg c, if_neg c]
theorem xr_xr {F : Int32} {x y u v w : Int32} (hF : -128 ≤ F.toInt ∧ F.toInt ≤ 127) (xj : w = (F ^^^ x).toInt8.toInt32) (xy : y = x.toInt8.toInt32) (xu : u = w ^^^ y) (xv : v = u.toInt8.toInt32) : v.toInt8.toInt32 = F := by
  have e : (F.toInt8 ^^^ x.toInt8) ^^^ x.toInt8 = F.toInt8 := by
    rw [Int8.xor_assoc, Int8.xor_self, Int8.xor_zero]
  rw [xv, i8_i8, xu, i8_xor, xj, i8_i8, i8_xor, xy, i8_i8, e]
  exact bz_fit hF
theorem xr_b {F : Int → Int32} {k : Int} {x : Int32} (h : ∀ j : Int, -128 ≤ (F j).toInt ∧ (F j).toInt ≤ 127) : ∀ j : Int, -128 ≤ (xr_ F k x j).toInt ∧ (xr_ F k x j).toInt ≤ 127 := fun j => by
  unfold xr_
  by_cases c : j = k
  · rw [if_pos c]
    have q := Int8.toInt_toInt32 ((F j ^^^ x).toInt8)
    have q1 := Int8.le_toInt ((F j ^^^ x).toInt8)
    have q2 := Int8.toInt_lt ((F j ^^^ x).toInt8)
    omega
  · rw [if_neg c]
    exact h j
theorem xr_R {f : Nat → Int32} {k : Int} {ix x y u v w y' u' v' w' : Int32} (hF : ∀ j : Int, -128 ≤ (gr f j).toInt ∧ (gr f j).toInt ≤ 127) (hi : ix.toInt = k) (k0 : 0 ≤ k) (xj : w = gr f k) (xy : y = x.toInt8.toInt32) (xu : u = w ^^^ y) (xv : v = u.toInt8.toInt32) (yj : w' = gr (upd f ix.toNatClampNeg (vp_nar .byte v)) k) (yy : y' = x.toInt8.toInt32) (yu : u' = w' ^^^ y') (yv : v' = u'.toInt8.toInt32) : ∀ j : Int, 0 ≤ j → gr (upd (upd f ix.toNatClampNeg (vp_nar .byte v)) ix.toNatClampNeg (vp_nar .byte v')) j = gr f j := fun j h0 => by
  have e := xr_C (x := x) (j := k) k0 hi k0 xj xy xu xv
  rw [gr_updb hi j k0 h0]
  by_cases c : j = k
  · rw [if_pos c, c]
    refine xr_xr (hF k) ?_ yy yu yv
    rw [yj, e]
    unfold xr_
    rw [if_pos rfl]
  · rw [if_neg c, gr_updb hi j k0 h0, if_neg c]
theorem rd_e {A : Int → Int32} {sz r r' : Int} {W : VW_} (h : rd_ A sz r W) (e : r = r') : rd_ A sz r' W := e ▸ h

theorem d_FileReader_isEnd_0 : decode prog_5_method_3_code 0 = .ok (.aload_n 0, 1) := by decide +kernel
theorem d_FileReader_isEnd_1 : decode prog_5_method_3_code 1 = .ok (.getfield 9, 3) := by decide +kernel
theorem d_FileReader_isEnd_4 : decode prog_5_method_3_code 4 = .ok (.iload_n 1, 1) := by decide +kernel
theorem d_FileReader_isEnd_5 : decode prog_5_method_3_code 5 = .ok (.invokestatic 28, 3) := by decide +kernel
theorem k_592 : (Jvm.Cond.methodLinkNest "PackageBook$FileReader" (28 : Nat) ({ cls := "PackageBook", name := "fourAt", desc := "([BI)J" } : Jvm.MethodName) "PackageBook") ∈ uN := uN_c1 235 rfl (by decide +kernel)
theorem k_594 : (Jvm.Cond.code ({ cls := "PackageBook", name := "fourAt", desc := "([BI)J" } : Jvm.MethodName) prog_1_method_31_code (2 : Nat) (Option.some Jvm.ClassFile.FieldType.long)) ∈ uW := uW_c1 237 rfl (by decide +kernel)
theorem k_593 : (Jvm.Cond.static ({ cls := "PackageBook", name := "fourAt", desc := "([BI)J" } : Jvm.MethodName)) ∈ uW := uW_c1 236 rfl (by decide +kernel)
theorem hy_Book_fourAt : (y_Book_fourAt).cls ≠ "java/lang/invoke/MethodHandle" ∧ (y_Book_fourAt).cls ≠ "java/lang/invoke/VarHandle" ∧ (parseMethodDescriptor (y_Book_fourAt).desc).map (fun d => d.parameters.length) = some 2 := by decide +kernel
theorem d_FileReader_isEnd_8 : decode prog_5_method_3_code 8 = .ok (.ldc2_w 40, 3) := by decide +kernel
theorem k_598 : (Jvm.Cond.constantLong "PackageBook$FileReader" (40 : Nat) (101010256 : Int64)) ∈ uW := uW_c2 1 rfl (by decide +kernel)
theorem d_FileReader_isEnd_11 : decode prog_5_method_3_code 11 = .ok (.lcmp, 1) := by decide +kernel
theorem d_FileReader_isEnd_12 : decode prog_5_method_3_code 12 = .ok (.ifCond .ne 61, 3) := by decide +kernel
theorem d_FileReader_isEnd_73 : decode prog_5_method_3_code 73 = .ok (.iconst 0, 1) := by decide +kernel
theorem d_FileReader_isEnd_74 : decode prog_5_method_3_code 74 = .ok (.ireturn, 1) := by decide +kernel
theorem d_FileReader_isEnd_15 : decode prog_5_method_3_code 15 = .ok (.aload_n 0, 1) := by decide +kernel
theorem d_FileReader_isEnd_16 : decode prog_5_method_3_code 16 = .ok (.getfield 9, 3) := by decide +kernel
theorem d_FileReader_isEnd_19 : decode prog_5_method_3_code 19 = .ok (.iload_n 1, 1) := by decide +kernel
theorem d_FileReader_isEnd_20 : decode prog_5_method_3_code 20 = .ok (.iconst 4, 1) := by decide +kernel
theorem d_FileReader_isEnd_21 : decode prog_5_method_3_code 21 = .ok (.iadd, 1) := by decide +kernel
theorem d_FileReader_isEnd_22 : decode prog_5_method_3_code 22 = .ok (.invokestatic 28, 3) := by decide +kernel
theorem d_FileReader_isEnd_25 : decode prog_5_method_3_code 25 = .ok (.lconst 0, 1) := by decide +kernel
theorem d_FileReader_isEnd_26 : decode prog_5_method_3_code 26 = .ok (.lcmp, 1) := by decide +kernel
theorem d_FileReader_isEnd_27 : decode prog_5_method_3_code 27 = .ok (.ifCond .ne 46, 3) := by decide +kernel
theorem d_FileReader_isEnd_30 : decode prog_5_method_3_code 30 = .ok (.aload_n 0, 1) := by decide +kernel
theorem d_FileReader_isEnd_31 : decode prog_5_method_3_code 31 = .ok (.getfield 9, 3) := by decide +kernel
theorem d_FileReader_isEnd_34 : decode prog_5_method_3_code 34 = .ok (.iload_n 1, 1) := by decide +kernel
theorem d_FileReader_isEnd_35 : decode prog_5_method_3_code 35 = .ok (.bipush 8, 2) := by decide +kernel
theorem d_FileReader_isEnd_37 : decode prog_5_method_3_code 37 = .ok (.iadd, 1) := by decide +kernel
theorem d_FileReader_isEnd_38 : decode prog_5_method_3_code 38 = .ok (.invokestatic 24, 3) := by decide +kernel
theorem k_599 : (Jvm.Cond.methodLinkNest "PackageBook$FileReader" (24 : Nat) ({ cls := "PackageBook", name := "twoAt", desc := "([BI)I" } : Jvm.MethodName) "PackageBook") ∈ uN := uN_c2 2 rfl (by decide +kernel)
theorem d_FileReader_isEnd_41 : decode prog_5_method_3_code 41 = .ok (.aload_n 0, 1) := by decide +kernel
theorem d_FileReader_isEnd_42 : decode prog_5_method_3_code 42 = .ok (.getfield 9, 3) := by decide +kernel
theorem d_FileReader_isEnd_45 : decode prog_5_method_3_code 45 = .ok (.iload_n 1, 1) := by decide +kernel
theorem d_FileReader_isEnd_46 : decode prog_5_method_3_code 46 = .ok (.bipush 10, 2) := by decide +kernel
theorem d_FileReader_isEnd_48 : decode prog_5_method_3_code 48 = .ok (.iadd, 1) := by decide +kernel
theorem d_FileReader_isEnd_49 : decode prog_5_method_3_code 49 = .ok (.invokestatic 24, 3) := by decide +kernel
theorem d_FileReader_isEnd_52 : decode prog_5_method_3_code 52 = .ok (.if_icmp .ne 21, 3) := by decide +kernel
theorem d_FileReader_isEnd_55 : decode prog_5_method_3_code 55 = .ok (.aload_n 0, 1) := by decide +kernel
theorem d_FileReader_isEnd_56 : decode prog_5_method_3_code 56 = .ok (.getfield 9, 3) := by decide +kernel
theorem d_FileReader_isEnd_59 : decode prog_5_method_3_code 59 = .ok (.iload_n 1, 1) := by decide +kernel
theorem d_FileReader_isEnd_60 : decode prog_5_method_3_code 60 = .ok (.bipush 20, 2) := by decide +kernel
theorem d_FileReader_isEnd_62 : decode prog_5_method_3_code 62 = .ok (.iadd, 1) := by decide +kernel
theorem d_FileReader_isEnd_63 : decode prog_5_method_3_code 63 = .ok (.invokestatic 24, 3) := by decide +kernel
theorem d_FileReader_isEnd_66 : decode prog_5_method_3_code 66 = .ok (.ifCond .ne 7, 3) := by decide +kernel
theorem d_FileReader_isEnd_69 : decode prog_5_method_3_code 69 = .ok (.iconst 1, 1) := by decide +kernel
theorem d_FileReader_isEnd_70 : decode prog_5_method_3_code 70 = .ok (.goto 4, 3) := by decide +kernel
abbrev y_FileReader_isEnd : MethodName := ⟨"PackageBook$FileReader", "isEnd", "(I)Z"⟩
abbrev i_FileReader_isEnd : pb_I := (y_FileReader_isEnd, prog_5_method_3_code, 2, (some Jvm.ClassFile.FieldType.boolean), [], { frames := 2, cells := 0, slots := 0, locals := 42 })
set_option maxRecDepth 100000 in
set_option maxHeartbeats 4000000 in
theorem g_Rd_isEnd {l : Launch} (hl : l.stackTraces = false) (G : pb_G) (h : Nat) (b : Nat) (N : Nat) (f : Nat → Int32) (x : Int32) (A : Int → Int32) (Zs : Int) (h0 : 0 ≤ x.toInt) (h1 : x.toInt + 22 ≤ N) (hN : N ≤ 100000) (hA : ∀ j : Int, 0 ≤ j → j < Zs → A j = gr f j) (hZ : x.toInt + 22 ≤ Zs) (F_f : sb_Fit f) : Cn l G i_FileReader_isEnd [.ref h, .int x] [(h, .inr (7, [.ref b])), (b, .inl (G.2.1, N, .inl f))] (S := Int32) (fun rv_ u => rv_ = some (.int u) ∧ (u.toInt = 0 ∨ u.toInt = 1) ∧ (u.toInt = 1 → ed_ A x.toInt) ∧ (u.toInt = 0 → ¬ ed_ A x.toInt)) (fun u => [(h, .inr (7, [.ref b])), (b, .inl (G.2.1, N, .inl f))]) := by
  refine Cn.of hl (by decide +kernel) rfl (Nat.le_of_ble_eq_true rfl) (fun M hQ => ?_)
  refine pb_eq (pc' := 0) (lo' := [(0, .ref h), (1, .int x)]) (rest' := []) (ws' := [(h, .inr (7, [.ref b])), (b, .inl (G.2.1, N, .inl f))]) ?_
  have zl0 : (0 : Int32).toInt = 0 := by decide
  have zl1 : (1 : Int32).toInt = 1 := by decide
  refine pb_aload_n (pc := 0) d_FileReader_isEnd_0 0 rfl rfl ?_
  refine pb_get (pc := 1) d_FileReader_isEnd_1 0 0 rfl rfl (by decide) in_FileReader k_306 rfl ?_
  refine pb_iload_n (pc := 4) d_FileReader_isEnd_4 1 rfl rfl ?_
  refine pb_callSN (pc := 5) (I := i_FileReader_isEnd) (nA := 2) (rest := []) (wr := [(h, .inr (7, [.ref b]))]) d_FileReader_isEnd_5 (g_fourAt hl G b N f x (by first | (with_reducible assumption) | omega (splitDisjunctions := false) | assumption | omega | decide) (by first | (with_reducible assumption) | omega (splitDisjunctions := false) | assumption | omega | decide) (by first | (with_reducible assumption) | omega (splitDisjunctions := false) | assumption | omega | decide) F_f) [1] [0] (by decide) rfl rfl rfl (by decide) (by decide) k_594 rfl k_118 k_592 k_593 hy_Book_fourAt (by decide) rfl rfl (Nat.le_of_ble_eq_true rfl) (by decide) (fun v9 u2 ch1 => ?_)
  obtain ⟨r_3, rfl⟩ : ∃ z9, z9 = u2 := ⟨_, rfl⟩
  obtain ⟨ech1, ch1⟩ := ch1
  have ech1 : v9 = some (.long r_3) := ech1
  subst ech1
  obtain ⟨fh4, fh5, fh6⟩ : (0 ≤ r_3.toInt) ∧ (r_3.toInt < 4294967296) ∧ (r_3.toInt = av f x.toInt 4) := ch1
  have u0 : r_3.toInt = aw A (x.toInt) 4 := by rw [fh6]; exact av_A hA 4 (by omega) (by omega)
  refine pb_eq (pc' := 8) (lo' := [(0, .ref h), (1, .int x)]) (rest' := [.long r_3]) (ws' := [(h, .inr (7, [.ref b])), (b, .inl (G.2.1, N, .inl f))]) ?_
  refine pb_ldc2 (pc := 8) (v := 101010256) d_FileReader_isEnd_8 k_598 ?_
  refine pb_lcmp (pc := 11) d_FileReader_isEnd_11 ?_
  refine pb_topi (fun i7 ei7 => ?_)
  have ti7 : (i7.toInt < 0 ↔ r_3.toInt < 101010256) ∧ (i7.toInt = 0 ↔ r_3.toInt = 101010256) ∧ (0 < i7.toInt ↔ 101010256 < r_3.toInt) := tl_cmp ei7 rfl (by decide)
  refine pb_if_ne (pc := 12) (tgt := 73) d_FileReader_isEnd_12 (by decide) (fun w8 => ?_) (fun w8 => ?_)
  · have tw8 : ¬ i7.toInt = 0 := fun z9 => w8 ((ti_eq rfl (by decide)).mpr z9)
    refine pb_iconst (pc := 73) (v := 0) d_FileReader_isEnd_73 (by decide) ?_
    exact pb_iret (pc := 74) hQ d_FileReader_isEnd_74 rfl rfl (0) ⟨rfl, (by (try dsimp only); first | done | (with_reducible assumption) | omega (splitDisjunctions := false) | assumption | omega | decide), (show (0 : Int32).toInt = 1 → ed_ A x.toInt from (by first | exact fun q9 => absurd q9 (by decide) | exact fun _ => ⟨by omega, by omega, by omega, by omega⟩)), (show (0 : Int32).toInt = 0 → ¬ ed_ A x.toInt from (by first | exact fun q9 => absurd q9 (by decide) | exact fun _ q9 => (by obtain ⟨y1, y2, y3, y4⟩ := q9; omega)))⟩ [0, 1] (by decide) rfl rfl (by decide) (by decide)
  · have tw8 : i7.toInt = 0 := (ti_eq rfl (by decide)).mp w8
    refine pb_aload_n (pc := 15) d_FileReader_isEnd_15 0 rfl rfl ?_
    refine pb_get (pc := 16) d_FileReader_isEnd_16 0 0 rfl rfl (by decide) in_FileReader k_306 rfl ?_
    refine pb_iload_n (pc := 19) d_FileReader_isEnd_19 1 rfl rfl ?_
    refine pb_iconst (pc := 20) (v := 4) d_FileReader_isEnd_20 (by decide) ?_
    refine pb_iadd (pc := 21) d_FileReader_isEnd_21 ?_
    refine pb_topi (fun i9 ei9 => ?_)
    try have ti9 : i9.toInt = x.toInt + 4 := t2_add ei9 rfl (by decide) (by omega)
    refine pb_callSN (pc := 22) (I := i_FileReader_isEnd) (nA := 2) (rest := []) (wr := [(h, .inr (7, [.ref b]))]) d_FileReader_isEnd_22 (g_fourAt hl G b N f i9 (by first | (with_reducible assumption) | omega (splitDisjunctions := false) | assumption | omega | decide) (by first | (with_reducible assumption) | omega (splitDisjunctions := false) | assumption | omega | decide) (by first | (with_reducible assumption) | omega (splitDisjunctions := false) | assumption | omega | decide) F_f) [1] [0] (by decide) rfl rfl rfl (by decide) (by decide) k_594 rfl k_118 k_592 k_593 hy_Book_fourAt (by decide) rfl rfl (Nat.le_of_ble_eq_true rfl) (by decide) (fun v9 u11 ch10 => ?_)
    obtain ⟨r_12, rfl⟩ : ∃ z9, z9 = u11 := ⟨_, rfl⟩
    obtain ⟨ech10, ch10⟩ := ch10
    have ech10 : v9 = some (.long r_12) := ech10
    subst ech10
    obtain ⟨fh13, fh14, fh15⟩ : (0 ≤ r_12.toInt) ∧ (r_12.toInt < 4294967296) ∧ (r_12.toInt = av f i9.toInt 4) := ch10
    have u4 : r_12.toInt = aw A (x.toInt + 4) 4 := by rw [fh15, show i9.toInt = x.toInt + 4 by omega]; exact av_A hA 4 (by omega) (by omega)
    refine pb_eq (pc' := 25) (lo' := [(0, .ref h), (1, .int x)]) (rest' := [.long r_12]) (ws' := [(h, .inr (7, [.ref b])), (b, .inl (G.2.1, N, .inl f))]) ?_
    refine pb_lconst (pc := 25) (v := 0) d_FileReader_isEnd_25 (by decide) ?_
    refine pb_lcmp (pc := 26) d_FileReader_isEnd_26 ?_
    refine pb_topi (fun i16 ei16 => ?_)
    have ti16 : (i16.toInt < 0 ↔ r_12.toInt < 0) ∧ (i16.toInt = 0 ↔ r_12.toInt = 0) ∧ (0 < i16.toInt ↔ 0 < r_12.toInt) := tl_cmp ei16 rfl (by decide)
    refine pb_if_ne (pc := 27) (tgt := 73) d_FileReader_isEnd_27 (by decide) (fun w17 => ?_) (fun w17 => ?_)
    · have tw17 : ¬ i16.toInt = 0 := fun z9 => w17 ((ti_eq rfl (by decide)).mpr z9)
      refine pb_iconst (pc := 73) (v := 0) d_FileReader_isEnd_73 (by decide) ?_
      exact pb_iret (pc := 74) hQ d_FileReader_isEnd_74 rfl rfl (0) ⟨rfl, (by (try dsimp only); first | done | (with_reducible assumption) | omega (splitDisjunctions := false) | assumption | omega | decide), (show (0 : Int32).toInt = 1 → ed_ A x.toInt from (by first | exact fun q9 => absurd q9 (by decide) | exact fun _ => ⟨by omega, by omega, by omega, by omega⟩)), (show (0 : Int32).toInt = 0 → ¬ ed_ A x.toInt from (by first | exact fun q9 => absurd q9 (by decide) | exact fun _ q9 => (by obtain ⟨y1, y2, y3, y4⟩ := q9; (exact omg_39806c0d09 u4 ti16 tw17 y2))))⟩ [0, 1] (by decide) rfl rfl (by decide) (by decide)
    · have tw17 : i16.toInt = 0 := (ti_eq rfl (by decide)).mp w17
      refine pb_aload_n (pc := 30) d_FileReader_isEnd_30 0 rfl rfl ?_
      refine pb_get (pc := 31) d_FileReader_isEnd_31 0 0 rfl rfl (by decide) in_FileReader k_306 rfl ?_
      refine pb_iload_n (pc := 34) d_FileReader_isEnd_34 1 rfl rfl ?_
      refine pb_bipush (pc := 35) (v := 8) d_FileReader_isEnd_35 (by decide) ?_
      refine pb_iadd (pc := 37) d_FileReader_isEnd_37 ?_
      refine pb_topi (fun i18 ei18 => ?_)
      try have ti18 : i18.toInt = x.toInt + 8 := t2_add ei18 rfl (by decide) (by omega)
      refine pb_callSN (pc := 38) (I := i_FileReader_isEnd) (nA := 2) (rest := []) (wr := [(h, .inr (7, [.ref b]))]) d_FileReader_isEnd_38 (g_twoAt hl G b N f i18 (by first | (with_reducible assumption) | omega (splitDisjunctions := false) | assumption | omega | decide) (by first | (with_reducible assumption) | omega (splitDisjunctions := false) | assumption | omega | decide) (by first | (with_reducible assumption) | omega (splitDisjunctions := false) | assumption | omega | decide) F_f) [1] [0] (by decide) rfl rfl rfl (by decide) (by decide) k_597 rfl k_118 k_599 k_596 hy_Book_twoAt (by decide) rfl rfl (Nat.le_of_ble_eq_true rfl) (by decide) (fun v9 u20 ch19 => ?_)
      obtain ⟨r_21, rfl⟩ : ∃ z9, z9 = u20 := ⟨_, rfl⟩
      obtain ⟨ech19, ch19⟩ := ch19
      have ech19 : v9 = some (.int r_21) := ech19
      subst ech19
      obtain ⟨fh22, fh23, fh24, fh25⟩ : (0 ≤ r_21.toInt) ∧ (r_21.toInt ≤ 65535) ∧ (r_21.toInt = tw f i18.toInt) ∧ (r_21.toInt = av f i18.toInt 2) := ch19
      have u8 : r_21.toInt = aw A (x.toInt + 8) 2 := by rw [fh25, show i18.toInt = x.toInt + 8 by omega]; exact av_A hA 2 (by omega) (by omega)
      refine pb_eq (pc' := 41) (lo' := [(0, .ref h), (1, .int x)]) (rest' := [.int r_21]) (ws' := [(h, .inr (7, [.ref b])), (b, .inl (G.2.1, N, .inl f))]) ?_
      refine pb_aload_n (pc := 41) d_FileReader_isEnd_41 0 rfl rfl ?_
      refine pb_get (pc := 42) d_FileReader_isEnd_42 0 0 rfl rfl (by decide) in_FileReader k_306 rfl ?_
      refine pb_iload_n (pc := 45) d_FileReader_isEnd_45 1 rfl rfl ?_
      refine pb_bipush (pc := 46) (v := 10) d_FileReader_isEnd_46 (by decide) ?_
      refine pb_iadd (pc := 48) d_FileReader_isEnd_48 ?_
      refine pb_topi (fun i26 ei26 => ?_)
      try have ti26 : i26.toInt = x.toInt + 10 := t2_add ei26 rfl (by decide) (by omega)
      refine pb_callSN (pc := 49) (I := i_FileReader_isEnd) (nA := 2) (rest := [.int r_21]) (wr := [(h, .inr (7, [.ref b]))]) d_FileReader_isEnd_49 (g_twoAt hl G b N f i26 (by first | (with_reducible assumption) | omega (splitDisjunctions := false) | assumption | omega | decide) (by first | (with_reducible assumption) | omega (splitDisjunctions := false) | assumption | omega | decide) (by first | (with_reducible assumption) | omega (splitDisjunctions := false) | assumption | omega | decide) F_f) [1] [0] (by decide) rfl rfl rfl (by decide) (by decide) k_597 rfl k_118 k_599 k_596 hy_Book_twoAt (by decide) rfl rfl (Nat.le_of_ble_eq_true rfl) (by decide) (fun v9 u28 ch27 => ?_)
      obtain ⟨r_29, rfl⟩ : ∃ z9, z9 = u28 := ⟨_, rfl⟩
      obtain ⟨ech27, ch27⟩ := ch27
      have ech27 : v9 = some (.int r_29) := ech27
      subst ech27
      obtain ⟨fh30, fh31, fh32, fh33⟩ : (0 ≤ r_29.toInt) ∧ (r_29.toInt ≤ 65535) ∧ (r_29.toInt = tw f i26.toInt) ∧ (r_29.toInt = av f i26.toInt 2) := ch27
      have u10 : r_29.toInt = aw A (x.toInt + 10) 2 := by rw [fh33, show i26.toInt = x.toInt + 10 by omega]; exact av_A hA 2 (by omega) (by omega)
      refine pb_eq (pc' := 52) (lo' := [(0, .ref h), (1, .int x)]) (rest' := [.int r_29, .int r_21]) (ws' := [(h, .inr (7, [.ref b])), (b, .inl (G.2.1, N, .inl f))]) ?_
      refine pb_icmp_ne (pc := 52) (tgt := 73) d_FileReader_isEnd_52 (by decide) (fun w34 => ?_) (fun w34 => ?_)
      · have tw34 : ¬ r_21.toInt = r_29.toInt := fun z9 => w34 ((ti_eq rfl rfl).mpr z9)
        refine pb_iconst (pc := 73) (v := 0) d_FileReader_isEnd_73 (by decide) ?_
        exact pb_iret (pc := 74) hQ d_FileReader_isEnd_74 rfl rfl (0) ⟨rfl, (by (try dsimp only); first | done | (with_reducible assumption) | omega (splitDisjunctions := false) | assumption | omega | decide), (show (0 : Int32).toInt = 1 → ed_ A x.toInt from (by first | exact fun q9 => absurd q9 (by decide) | exact fun _ => ⟨by omega, by omega, by omega, by omega⟩)), (show (0 : Int32).toInt = 0 → ¬ ed_ A x.toInt from (by first | exact fun q9 => absurd q9 (by decide) | exact fun _ q9 => (by obtain ⟨y1, y2, y3, y4⟩ := q9; (exact omg_e6d08f9851 u8 u10 tw34 y3))))⟩ [0, 1] (by decide) rfl rfl (by decide) (by decide)
      · have tw34 : r_21.toInt = r_29.toInt := (ti_eq rfl rfl).mp w34
        refine pb_aload_n (pc := 55) d_FileReader_isEnd_55 0 rfl rfl ?_
        refine pb_get (pc := 56) d_FileReader_isEnd_56 0 0 rfl rfl (by decide) in_FileReader k_306 rfl ?_
        refine pb_iload_n (pc := 59) d_FileReader_isEnd_59 1 rfl rfl ?_
        refine pb_bipush (pc := 60) (v := 20) d_FileReader_isEnd_60 (by decide) ?_
        refine pb_iadd (pc := 62) d_FileReader_isEnd_62 ?_
        refine pb_topi (fun i35 ei35 => ?_)
        try have ti35 : i35.toInt = x.toInt + 20 := t2_add ei35 rfl (by decide) (by omega)
        refine pb_callSN (pc := 63) (I := i_FileReader_isEnd) (nA := 2) (rest := []) (wr := [(h, .inr (7, [.ref b]))]) d_FileReader_isEnd_63 (g_twoAt hl G b N f i35 (by first | (with_reducible assumption) | omega (splitDisjunctions := false) | assumption | omega | decide) (by first | (with_reducible assumption) | omega (splitDisjunctions := false) | assumption | omega | decide) (by first | (with_reducible assumption) | omega (splitDisjunctions := false) | assumption | omega | decide) F_f) [1] [0] (by decide) rfl rfl rfl (by decide) (by decide) k_597 rfl k_118 k_599 k_596 hy_Book_twoAt (by decide) rfl rfl (Nat.le_of_ble_eq_true rfl) (by decide) (fun v9 u37 ch36 => ?_)
        obtain ⟨r_38, rfl⟩ : ∃ z9, z9 = u37 := ⟨_, rfl⟩
        obtain ⟨ech36, ch36⟩ := ch36
        have ech36 : v9 = some (.int r_38) := ech36
        subst ech36
        obtain ⟨fh39, fh40, fh41, fh42⟩ : (0 ≤ r_38.toInt) ∧ (r_38.toInt ≤ 65535) ∧ (r_38.toInt = tw f i35.toInt) ∧ (r_38.toInt = av f i35.toInt 2) := ch36
        have u20 : r_38.toInt = aw A (x.toInt + 20) 2 := by rw [fh42, show i35.toInt = x.toInt + 20 by omega]; exact av_A hA 2 (by (exact omg_87640f9aa1 h0)) (by omega)
        refine pb_eq (pc' := 66) (lo' := [(0, .ref h), (1, .int x)]) (rest' := [.int r_38]) (ws' := [(h, .inr (7, [.ref b])), (b, .inl (G.2.1, N, .inl f))]) ?_
        refine pb_if_ne (pc := 66) (tgt := 73) d_FileReader_isEnd_66 (by decide) (fun w43 => ?_) (fun w43 => ?_)
        · have tw43 : ¬ r_38.toInt = 0 := fun z9 => w43 ((ti_eq rfl (by decide)).mpr z9)
          refine pb_iconst (pc := 73) (v := 0) d_FileReader_isEnd_73 (by decide) ?_
          exact pb_iret (pc := 74) hQ d_FileReader_isEnd_74 rfl rfl (0) ⟨rfl, (by (try dsimp only); first | done | (with_reducible assumption) | omega (splitDisjunctions := false) | assumption | omega | decide), (show (0 : Int32).toInt = 1 → ed_ A x.toInt from (by first | exact fun q9 => absurd q9 (by decide) | exact fun _ => ⟨by omega, by omega, by omega, by omega⟩)), (show (0 : Int32).toInt = 0 → ¬ ed_ A x.toInt from (by first | exact fun q9 => absurd q9 (by decide) | exact fun _ q9 => (by obtain ⟨y1, y2, y3, y4⟩ := q9; omega)))⟩ [0, 1] (by decide) rfl rfl (by decide) (by decide)
        · have tw43 : r_38.toInt = 0 := (ti_eq rfl (by decide)).mp w43
          refine pb_iconst (pc := 69) (v := 1) d_FileReader_isEnd_69 (by decide) ?_
          refine pb_goto (pc := 70) (tgt := 74) d_FileReader_isEnd_70 (by decide) ?_
          exact pb_iret (pc := 74) hQ d_FileReader_isEnd_74 rfl rfl (1) ⟨rfl, (by (try dsimp only); first | done | (with_reducible assumption) | omega (splitDisjunctions := false) | assumption | omega | decide), (show (1 : Int32).toInt = 1 → ed_ A x.toInt from (by first | exact fun q9 => absurd q9 (by decide) | exact fun _ => ⟨by omega, by omega, by omega, by omega⟩)), (show (1 : Int32).toInt = 0 → ¬ ed_ A x.toInt from (by first | exact fun q9 => absurd q9 (by decide) | exact fun _ q9 => (by obtain ⟨y1, y2, y3, y4⟩ := q9; omega)))⟩ [0, 1] (by decide) rfl rfl (by decide) (by decide)

theorem d_FileReader_isEntry_0 : decode prog_5_method_5_code 0 = .ok (.aload_n 0, 1) := by decide +kernel
theorem d_FileReader_isEntry_1 : decode prog_5_method_5_code 1 = .ok (.getfield 9, 3) := by decide +kernel
theorem d_FileReader_isEntry_4 : decode prog_5_method_5_code 4 = .ok (.iload_n 1, 1) := by decide +kernel
theorem d_FileReader_isEntry_5 : decode prog_5_method_5_code 5 = .ok (.bipush 10, 2) := by decide +kernel
theorem d_FileReader_isEntry_7 : decode prog_5_method_5_code 7 = .ok (.iadd, 1) := by decide +kernel
theorem d_FileReader_isEntry_8 : decode prog_5_method_5_code 8 = .ok (.invokestatic 24, 3) := by decide +kernel
theorem d_FileReader_isEntry_11 : decode prog_5_method_5_code 11 = .ok (.istore_n 2, 1) := by decide +kernel
theorem d_FileReader_isEntry_12 : decode prog_5_method_5_code 12 = .ok (.aload_n 0, 1) := by decide +kernel
theorem d_FileReader_isEntry_13 : decode prog_5_method_5_code 13 = .ok (.getfield 9, 3) := by decide +kernel
theorem d_FileReader_isEntry_16 : decode prog_5_method_5_code 16 = .ok (.iload_n 1, 1) := by decide +kernel
theorem d_FileReader_isEntry_17 : decode prog_5_method_5_code 17 = .ok (.invokestatic 28, 3) := by decide +kernel
theorem d_FileReader_isEntry_20 : decode prog_5_method_5_code 20 = .ok (.ldc2_w 45, 3) := by decide +kernel
theorem k_608 : (Jvm.Cond.constantLong "PackageBook$FileReader" (45 : Nat) (33639248 : Int64)) ∈ uW := uW_c2 11 rfl (by decide +kernel)
theorem d_FileReader_isEntry_23 : decode prog_5_method_5_code 23 = .ok (.lcmp, 1) := by decide +kernel
theorem d_FileReader_isEntry_24 : decode prog_5_method_5_code 24 = .ok (.ifCond .ne 110, 3) := by decide +kernel
theorem d_FileReader_isEntry_134 : decode prog_5_method_5_code 134 = .ok (.iconst 0, 1) := by decide +kernel
theorem d_FileReader_isEntry_135 : decode prog_5_method_5_code 135 = .ok (.ireturn, 1) := by decide +kernel
theorem d_FileReader_isEntry_27 : decode prog_5_method_5_code 27 = .ok (.aload_n 0, 1) := by decide +kernel
theorem d_FileReader_isEntry_28 : decode prog_5_method_5_code 28 = .ok (.getfield 9, 3) := by decide +kernel
theorem d_FileReader_isEntry_31 : decode prog_5_method_5_code 31 = .ok (.iload_n 1, 1) := by decide +kernel
theorem d_FileReader_isEntry_32 : decode prog_5_method_5_code 32 = .ok (.iconst 4, 1) := by decide +kernel
theorem d_FileReader_isEntry_33 : decode prog_5_method_5_code 33 = .ok (.iadd, 1) := by decide +kernel
theorem d_FileReader_isEntry_34 : decode prog_5_method_5_code 34 = .ok (.invokestatic 24, 3) := by decide +kernel
theorem d_FileReader_isEntry_37 : decode prog_5_method_5_code 37 = .ok (.bipush 20, 2) := by decide +kernel
theorem d_FileReader_isEntry_39 : decode prog_5_method_5_code 39 = .ok (.if_icmp .ne 95, 3) := by decide +kernel
theorem d_FileReader_isEntry_42 : decode prog_5_method_5_code 42 = .ok (.aload_n 0, 1) := by decide +kernel
theorem d_FileReader_isEntry_43 : decode prog_5_method_5_code 43 = .ok (.getfield 9, 3) := by decide +kernel
theorem d_FileReader_isEntry_46 : decode prog_5_method_5_code 46 = .ok (.iload_n 1, 1) := by decide +kernel
theorem d_FileReader_isEntry_47 : decode prog_5_method_5_code 47 = .ok (.bipush 6, 2) := by decide +kernel
theorem d_FileReader_isEntry_49 : decode prog_5_method_5_code 49 = .ok (.iadd, 1) := by decide +kernel
theorem d_FileReader_isEntry_50 : decode prog_5_method_5_code 50 = .ok (.invokestatic 24, 3) := by decide +kernel
theorem d_FileReader_isEntry_53 : decode prog_5_method_5_code 53 = .ok (.bipush 20, 2) := by decide +kernel
theorem d_FileReader_isEntry_55 : decode prog_5_method_5_code 55 = .ok (.if_icmp .ne 79, 3) := by decide +kernel
theorem d_FileReader_isEntry_58 : decode prog_5_method_5_code 58 = .ok (.aload_n 0, 1) := by decide +kernel
theorem d_FileReader_isEntry_59 : decode prog_5_method_5_code 59 = .ok (.getfield 9, 3) := by decide +kernel
theorem d_FileReader_isEntry_62 : decode prog_5_method_5_code 62 = .ok (.iload_n 1, 1) := by decide +kernel
theorem d_FileReader_isEntry_63 : decode prog_5_method_5_code 63 = .ok (.bipush 8, 2) := by decide +kernel
theorem d_FileReader_isEntry_65 : decode prog_5_method_5_code 65 = .ok (.iadd, 1) := by decide +kernel
theorem d_FileReader_isEntry_66 : decode prog_5_method_5_code 66 = .ok (.invokestatic 24, 3) := by decide +kernel
theorem d_FileReader_isEntry_69 : decode prog_5_method_5_code 69 = .ok (.ifCond .ne 65, 3) := by decide +kernel
theorem d_FileReader_isEntry_72 : decode prog_5_method_5_code 72 = .ok (.iload_n 2, 1) := by decide +kernel
theorem d_FileReader_isEntry_73 : decode prog_5_method_5_code 73 = .ok (.ifCond .eq 9, 3) := by decide +kernel
theorem d_FileReader_isEntry_82 : decode prog_5_method_5_code 82 = .ok (.aload_n 0, 1) := by decide +kernel
theorem d_FileReader_isEntry_83 : decode prog_5_method_5_code 83 = .ok (.getfield 9, 3) := by decide +kernel
theorem d_FileReader_isEntry_86 : decode prog_5_method_5_code 86 = .ok (.iload_n 1, 1) := by decide +kernel
theorem d_FileReader_isEntry_87 : decode prog_5_method_5_code 87 = .ok (.bipush 30, 2) := by decide +kernel
theorem d_FileReader_isEntry_89 : decode prog_5_method_5_code 89 = .ok (.iadd, 1) := by decide +kernel
theorem d_FileReader_isEntry_90 : decode prog_5_method_5_code 90 = .ok (.invokestatic 28, 3) := by decide +kernel
theorem d_FileReader_isEntry_93 : decode prog_5_method_5_code 93 = .ok (.lconst 0, 1) := by decide +kernel
theorem d_FileReader_isEntry_94 : decode prog_5_method_5_code 94 = .ok (.lcmp, 1) := by decide +kernel
theorem d_FileReader_isEntry_95 : decode prog_5_method_5_code 95 = .ok (.ifCond .ne 39, 3) := by decide +kernel
theorem d_FileReader_isEntry_98 : decode prog_5_method_5_code 98 = .ok (.aload_n 0, 1) := by decide +kernel
theorem d_FileReader_isEntry_99 : decode prog_5_method_5_code 99 = .ok (.getfield 9, 3) := by decide +kernel
theorem d_FileReader_isEntry_102 : decode prog_5_method_5_code 102 = .ok (.iload_n 1, 1) := by decide +kernel
theorem d_FileReader_isEntry_103 : decode prog_5_method_5_code 103 = .ok (.bipush 34, 2) := by decide +kernel
theorem d_FileReader_isEntry_105 : decode prog_5_method_5_code 105 = .ok (.iadd, 1) := by decide +kernel
theorem d_FileReader_isEntry_106 : decode prog_5_method_5_code 106 = .ok (.invokestatic 28, 3) := by decide +kernel
theorem d_FileReader_isEntry_109 : decode prog_5_method_5_code 109 = .ok (.lconst 0, 1) := by decide +kernel
theorem d_FileReader_isEntry_110 : decode prog_5_method_5_code 110 = .ok (.lcmp, 1) := by decide +kernel
theorem d_FileReader_isEntry_111 : decode prog_5_method_5_code 111 = .ok (.ifCond .ne 23, 3) := by decide +kernel
theorem d_FileReader_isEntry_114 : decode prog_5_method_5_code 114 = .ok (.aload_n 0, 1) := by decide +kernel
theorem d_FileReader_isEntry_115 : decode prog_5_method_5_code 115 = .ok (.getfield 9, 3) := by decide +kernel
theorem d_FileReader_isEntry_118 : decode prog_5_method_5_code 118 = .ok (.iload_n 1, 1) := by decide +kernel
theorem d_FileReader_isEntry_119 : decode prog_5_method_5_code 119 = .ok (.bipush 38, 2) := by decide +kernel
theorem d_FileReader_isEntry_121 : decode prog_5_method_5_code 121 = .ok (.iadd, 1) := by decide +kernel
theorem d_FileReader_isEntry_122 : decode prog_5_method_5_code 122 = .ok (.invokestatic 28, 3) := by decide +kernel
theorem d_FileReader_isEntry_125 : decode prog_5_method_5_code 125 = .ok (.lconst 0, 1) := by decide +kernel
theorem d_FileReader_isEntry_126 : decode prog_5_method_5_code 126 = .ok (.lcmp, 1) := by decide +kernel
theorem d_FileReader_isEntry_127 : decode prog_5_method_5_code 127 = .ok (.ifCond .ne 7, 3) := by decide +kernel
theorem d_FileReader_isEntry_130 : decode prog_5_method_5_code 130 = .ok (.iconst 1, 1) := by decide +kernel
theorem d_FileReader_isEntry_131 : decode prog_5_method_5_code 131 = .ok (.goto 4, 3) := by decide +kernel
theorem d_FileReader_isEntry_76 : decode prog_5_method_5_code 76 = .ok (.iload_n 2, 1) := by decide +kernel
theorem d_FileReader_isEntry_77 : decode prog_5_method_5_code 77 = .ok (.bipush 8, 2) := by decide +kernel
theorem d_FileReader_isEntry_79 : decode prog_5_method_5_code 79 = .ok (.if_icmp .ne 55, 3) := by decide +kernel
abbrev y_FileReader_isEntry : MethodName := ⟨"PackageBook$FileReader", "isEntry", "(I)Z"⟩
abbrev i_FileReader_isEntry : pb_I := (y_FileReader_isEntry, prog_5_method_5_code, 3, (some Jvm.ClassFile.FieldType.boolean), [], { frames := 2, cells := 0, slots := 0, locals := 42 })
set_option maxRecDepth 100000 in
set_option maxHeartbeats 4000000 in
theorem g_Rd_isEntry {l : Launch} (hl : l.stackTraces = false) (G : pb_G) (h : Nat) (b : Nat) (N : Nat) (f : Nat → Int32) (x : Int32) (A : Int → Int32) (Zs : Int) (h0 : 0 ≤ x.toInt) (h1 : x.toInt + 46 ≤ N) (hN : N ≤ 100000) (hA : ∀ j : Int, 0 ≤ j → j < Zs → A j = gr f j) (hZ : x.toInt + 46 ≤ Zs) (F_f : sb_Fit f) : Cn l G i_FileReader_isEntry [.ref h, .int x] [(h, .inr (7, [.ref b])), (b, .inl (G.2.1, N, .inl f))] (S := Int32) (fun rv_ u => rv_ = some (.int u) ∧ (u.toInt = 0 ∨ u.toInt = 1) ∧ (u.toInt = 1 → ey_ A x.toInt) ∧ (u.toInt = 0 → ¬ ey_ A x.toInt)) (fun u => [(h, .inr (7, [.ref b])), (b, .inl (G.2.1, N, .inl f))]) := by
  refine Cn.of hl (by decide +kernel) rfl (Nat.le_of_ble_eq_true rfl) (fun M hQ => ?_)
  refine pb_eq (pc' := 0) (lo' := [(0, .ref h), (1, .int x)]) (rest' := []) (ws' := [(h, .inr (7, [.ref b])), (b, .inl (G.2.1, N, .inl f))]) ?_
  have zl0 : (0 : Int32).toInt = 0 := by decide
  have zl1 : (1 : Int32).toInt = 1 := by decide
  refine pb_aload_n (pc := 0) d_FileReader_isEntry_0 0 rfl rfl ?_
  refine pb_get (pc := 1) d_FileReader_isEntry_1 0 0 rfl rfl (by decide) in_FileReader k_306 rfl ?_
  refine pb_iload_n (pc := 4) d_FileReader_isEntry_4 1 rfl rfl ?_
  refine pb_bipush (pc := 5) (v := 10) d_FileReader_isEntry_5 (by decide) ?_
  refine pb_iadd (pc := 7) d_FileReader_isEntry_7 ?_
  refine pb_topi (fun i1 ei1 => ?_)
  try have ti1 : i1.toInt = x.toInt + 10 := t2_add ei1 rfl (by decide) (by omega)
  refine pb_callSN (pc := 8) (I := i_FileReader_isEntry) (nA := 2) (rest := []) (wr := [(h, .inr (7, [.ref b]))]) d_FileReader_isEntry_8 (g_twoAt hl G b N f i1 (by first | (with_reducible assumption) | omega (splitDisjunctions := false) | assumption | omega | decide) (by first | (with_reducible assumption) | omega (splitDisjunctions := false) | assumption | omega | decide) (by first | (with_reducible assumption) | omega (splitDisjunctions := false) | assumption | omega | decide) F_f) [1] [0] (by decide) rfl rfl rfl (by decide) (by decide) k_597 rfl k_118 k_599 k_596 hy_Book_twoAt (by decide) rfl rfl (Nat.le_of_ble_eq_true rfl) (by decide) (fun v9 u3 ch2 => ?_)
  obtain ⟨r_4, rfl⟩ : ∃ z9, z9 = u3 := ⟨_, rfl⟩
  obtain ⟨ech2, ch2⟩ := ch2
  have ech2 : v9 = some (.int r_4) := ech2
  subst ech2
  obtain ⟨fh5, fh6, fh7, fh8⟩ : (0 ≤ r_4.toInt) ∧ (r_4.toInt ≤ 65535) ∧ (r_4.toInt = tw f i1.toInt) ∧ (r_4.toInt = av f i1.toInt 2) := ch2
  have u10 : r_4.toInt = aw A (x.toInt + 10) 2 := by rw [fh8, show i1.toInt = x.toInt + 10 by omega]; exact av_A hA 2 (by omega) (by omega)
  refine pb_eq (pc' := 11) (lo' := [(0, .ref h), (1, .int x)]) (rest' := [.int r_4]) (ws' := [(h, .inr (7, [.ref b])), (b, .inl (G.2.1, N, .inl f))]) ?_
  refine pb_istore_n (pc := 11) (lo' := [(2, .int r_4), (0, .ref h), (1, .int x)]) d_FileReader_isEntry_11 rfl (by decide) rfl ?_
  refine pb_aload_n (pc := 12) d_FileReader_isEntry_12 1 rfl rfl ?_
  refine pb_get (pc := 13) d_FileReader_isEntry_13 0 0 rfl rfl (by decide) in_FileReader k_306 rfl ?_
  refine pb_iload_n (pc := 16) d_FileReader_isEntry_16 2 rfl rfl ?_
  refine pb_callSN (pc := 17) (I := i_FileReader_isEntry) (nA := 2) (rest := []) (wr := [(h, .inr (7, [.ref b]))]) d_FileReader_isEntry_17 (g_fourAt hl G b N f x (by first | (with_reducible assumption) | omega (splitDisjunctions := false) | assumption | omega | decide) (by first | (with_reducible assumption) | omega (splitDisjunctions := false) | assumption | omega | decide) (by first | (with_reducible assumption) | omega (splitDisjunctions := false) | assumption | omega | decide) F_f) [1] [0] (by decide) rfl rfl rfl (by decide) (by decide) k_594 rfl k_118 k_592 k_593 hy_Book_fourAt (by decide) rfl rfl (Nat.le_of_ble_eq_true rfl) (by decide) (fun v9 u10 ch9 => ?_)
  obtain ⟨r_11, rfl⟩ : ∃ z9, z9 = u10 := ⟨_, rfl⟩
  obtain ⟨ech9, ch9⟩ := ch9
  have ech9 : v9 = some (.long r_11) := ech9
  subst ech9
  obtain ⟨fh12, fh13, fh14⟩ : (0 ≤ r_11.toInt) ∧ (r_11.toInt < 4294967296) ∧ (r_11.toInt = av f x.toInt 4) := ch9
  have u0 : r_11.toInt = aw A (x.toInt) 4 := by rw [fh14]; exact av_A hA 4 (by omega) (by omega)
  refine pb_eq (pc' := 20) (lo' := [(2, .int r_4), (0, .ref h), (1, .int x)]) (rest' := [.long r_11]) (ws' := [(h, .inr (7, [.ref b])), (b, .inl (G.2.1, N, .inl f))]) ?_
  refine pb_ldc2 (pc := 20) (v := 33639248) d_FileReader_isEntry_20 k_608 ?_
  refine pb_lcmp (pc := 23) d_FileReader_isEntry_23 ?_
  refine pb_topi (fun i15 ei15 => ?_)
  have ti15 : (i15.toInt < 0 ↔ r_11.toInt < 33639248) ∧ (i15.toInt = 0 ↔ r_11.toInt = 33639248) ∧ (0 < i15.toInt ↔ 33639248 < r_11.toInt) := tl_cmp ei15 rfl (by decide)
  refine pb_if_ne (pc := 24) (tgt := 134) d_FileReader_isEntry_24 (by decide) (fun w16 => ?_) (fun w16 => ?_)
  · have tw16 : ¬ i15.toInt = 0 := fun z9 => w16 ((ti_eq rfl (by decide)).mpr z9)
    refine pb_iconst (pc := 134) (v := 0) d_FileReader_isEntry_134 (by decide) ?_
    exact pb_iret (pc := 135) hQ d_FileReader_isEntry_135 rfl rfl (0) ⟨rfl, (by (try dsimp only); first | done | (with_reducible assumption) | omega (splitDisjunctions := false) | assumption | omega | decide), (show (0 : Int32).toInt = 1 → ey_ A x.toInt from (by first | exact fun q9 => absurd q9 (by decide) | exact fun _ => ⟨by omega, ey_C (by omega) (by omega), by omega, by omega, by omega, by omega, by omega⟩)), (show (0 : Int32).toInt = 0 → ¬ ey_ A x.toInt from (by first | exact fun q9 => absurd q9 (by decide) | exact fun _ q9 => (by obtain ⟨y1, y2, y3, y4, y5, y6, y7⟩ := q9; have y8 := ey_D y2; omega)))⟩ [0, 1] (by decide) rfl rfl (by decide) (by decide)
  · have tw16 : i15.toInt = 0 := (ti_eq rfl (by decide)).mp w16
    refine pb_aload_n (pc := 27) d_FileReader_isEntry_27 1 rfl rfl ?_
    refine pb_get (pc := 28) d_FileReader_isEntry_28 0 0 rfl rfl (by decide) in_FileReader k_306 rfl ?_
    refine pb_iload_n (pc := 31) d_FileReader_isEntry_31 2 rfl rfl ?_
    refine pb_iconst (pc := 32) (v := 4) d_FileReader_isEntry_32 (by decide) ?_
    refine pb_iadd (pc := 33) d_FileReader_isEntry_33 ?_
    refine pb_topi (fun i17 ei17 => ?_)
    try have ti17 : i17.toInt = x.toInt + 4 := t2_add ei17 rfl (by decide) (by omega)
    refine pb_callSN (pc := 34) (I := i_FileReader_isEntry) (nA := 2) (rest := []) (wr := [(h, .inr (7, [.ref b]))]) d_FileReader_isEntry_34 (g_twoAt hl G b N f i17 (by first | (with_reducible assumption) | omega (splitDisjunctions := false) | assumption | omega | decide) (by first | (with_reducible assumption) | omega (splitDisjunctions := false) | assumption | omega | decide) (by first | (with_reducible assumption) | omega (splitDisjunctions := false) | assumption | omega | decide) F_f) [1] [0] (by decide) rfl rfl rfl (by decide) (by decide) k_597 rfl k_118 k_599 k_596 hy_Book_twoAt (by decide) rfl rfl (Nat.le_of_ble_eq_true rfl) (by decide) (fun v9 u19 ch18 => ?_)
    obtain ⟨r_20, rfl⟩ : ∃ z9, z9 = u19 := ⟨_, rfl⟩
    obtain ⟨ech18, ch18⟩ := ch18
    have ech18 : v9 = some (.int r_20) := ech18
    subst ech18
    obtain ⟨fh21, fh22, fh23, fh24⟩ : (0 ≤ r_20.toInt) ∧ (r_20.toInt ≤ 65535) ∧ (r_20.toInt = tw f i17.toInt) ∧ (r_20.toInt = av f i17.toInt 2) := ch18
    have u4 : r_20.toInt = aw A (x.toInt + 4) 2 := by rw [fh24, show i17.toInt = x.toInt + 4 by omega]; exact av_A hA 2 (by omega) (by omega)
    refine pb_eq (pc' := 37) (lo' := [(2, .int r_4), (0, .ref h), (1, .int x)]) (rest' := [.int r_20]) (ws' := [(h, .inr (7, [.ref b])), (b, .inl (G.2.1, N, .inl f))]) ?_
    refine pb_bipush (pc := 37) (v := 20) d_FileReader_isEntry_37 (by decide) ?_
    refine pb_icmp_ne (pc := 39) (tgt := 134) d_FileReader_isEntry_39 (by decide) (fun w25 => ?_) (fun w25 => ?_)
    · have tw25 : ¬ r_20.toInt = 20 := fun z9 => w25 ((ti_eq rfl (by decide)).mpr z9)
      refine pb_iconst (pc := 134) (v := 0) d_FileReader_isEntry_134 (by decide) ?_
      exact pb_iret (pc := 135) hQ d_FileReader_isEntry_135 rfl rfl (0) ⟨rfl, (by (try dsimp only); first | done | (with_reducible assumption) | omega (splitDisjunctions := false) | assumption | omega | decide), (show (0 : Int32).toInt = 1 → ey_ A x.toInt from (by first | exact fun q9 => absurd q9 (by decide) | exact fun _ => ⟨by omega, ey_C (by omega) (by omega), by omega, by omega, by omega, by omega, by omega⟩)), (show (0 : Int32).toInt = 0 → ¬ ey_ A x.toInt from (by first | exact fun q9 => absurd q9 (by decide) | exact fun _ q9 => (by obtain ⟨y1, y2, y3, y4, y5, y6, y7⟩ := q9; have y8 := ey_D y2; omega)))⟩ [0, 1] (by decide) rfl rfl (by decide) (by decide)
    · have tw25 : r_20.toInt = 20 := (ti_eq rfl (by decide)).mp w25
      refine pb_aload_n (pc := 42) d_FileReader_isEntry_42 1 rfl rfl ?_
      refine pb_get (pc := 43) d_FileReader_isEntry_43 0 0 rfl rfl (by decide) in_FileReader k_306 rfl ?_
      refine pb_iload_n (pc := 46) d_FileReader_isEntry_46 2 rfl rfl ?_
      refine pb_bipush (pc := 47) (v := 6) d_FileReader_isEntry_47 (by decide) ?_
      refine pb_iadd (pc := 49) d_FileReader_isEntry_49 ?_
      refine pb_topi (fun i26 ei26 => ?_)
      try have ti26 : i26.toInt = x.toInt + 6 := t2_add ei26 rfl (by decide) (by omega)
      refine pb_callSN (pc := 50) (I := i_FileReader_isEntry) (nA := 2) (rest := []) (wr := [(h, .inr (7, [.ref b]))]) d_FileReader_isEntry_50 (g_twoAt hl G b N f i26 (by first | (with_reducible assumption) | omega (splitDisjunctions := false) | assumption | omega | decide) (by first | (with_reducible assumption) | omega (splitDisjunctions := false) | assumption | omega | decide) (by first | (with_reducible assumption) | omega (splitDisjunctions := false) | assumption | omega | decide) F_f) [1] [0] (by decide) rfl rfl rfl (by decide) (by decide) k_597 rfl k_118 k_599 k_596 hy_Book_twoAt (by decide) rfl rfl (Nat.le_of_ble_eq_true rfl) (by decide) (fun v9 u28 ch27 => ?_)
      obtain ⟨r_29, rfl⟩ : ∃ z9, z9 = u28 := ⟨_, rfl⟩
      obtain ⟨ech27, ch27⟩ := ch27
      have ech27 : v9 = some (.int r_29) := ech27
      subst ech27
      obtain ⟨fh30, fh31, fh32, fh33⟩ : (0 ≤ r_29.toInt) ∧ (r_29.toInt ≤ 65535) ∧ (r_29.toInt = tw f i26.toInt) ∧ (r_29.toInt = av f i26.toInt 2) := ch27
      have u6 : r_29.toInt = aw A (x.toInt + 6) 2 := by rw [fh33, show i26.toInt = x.toInt + 6 by omega]; exact av_A hA 2 (by omega) (by omega)
      refine pb_eq (pc' := 53) (lo' := [(2, .int r_4), (0, .ref h), (1, .int x)]) (rest' := [.int r_29]) (ws' := [(h, .inr (7, [.ref b])), (b, .inl (G.2.1, N, .inl f))]) ?_
      refine pb_bipush (pc := 53) (v := 20) d_FileReader_isEntry_53 (by decide) ?_
      refine pb_icmp_ne (pc := 55) (tgt := 134) d_FileReader_isEntry_55 (by decide) (fun w34 => ?_) (fun w34 => ?_)
      · have tw34 : ¬ r_29.toInt = 20 := fun z9 => w34 ((ti_eq rfl (by decide)).mpr z9)
        refine pb_iconst (pc := 134) (v := 0) d_FileReader_isEntry_134 (by decide) ?_
        exact pb_iret (pc := 135) hQ d_FileReader_isEntry_135 rfl rfl (0) ⟨rfl, (by (try dsimp only); first | done | (with_reducible assumption) | omega (splitDisjunctions := false) | assumption | omega | decide), (show (0 : Int32).toInt = 1 → ey_ A x.toInt from (by first | exact fun q9 => absurd q9 (by decide) | exact fun _ => ⟨by omega, ey_C (by omega) (by omega), by omega, by omega, by omega, by omega, by omega⟩)), (show (0 : Int32).toInt = 0 → ¬ ey_ A x.toInt from (by first | exact fun q9 => absurd q9 (by decide) | exact fun _ q9 => (by obtain ⟨y1, y2, y3, y4, y5, y6, y7⟩ := q9; have y8 := ey_D y2; omega)))⟩ [0, 1] (by decide) rfl rfl (by decide) (by decide)
      · have tw34 : r_29.toInt = 20 := (ti_eq rfl (by decide)).mp w34
        refine pb_aload_n (pc := 58) d_FileReader_isEntry_58 1 rfl rfl ?_
        refine pb_get (pc := 59) d_FileReader_isEntry_59 0 0 rfl rfl (by decide) in_FileReader k_306 rfl ?_
        refine pb_iload_n (pc := 62) d_FileReader_isEntry_62 2 rfl rfl ?_
        refine pb_bipush (pc := 63) (v := 8) d_FileReader_isEntry_63 (by decide) ?_
        refine pb_iadd (pc := 65) d_FileReader_isEntry_65 ?_
        refine pb_topi (fun i35 ei35 => ?_)
        try have ti35 : i35.toInt = x.toInt + 8 := t2_add ei35 rfl (by decide) (by omega)
        refine pb_callSN (pc := 66) (I := i_FileReader_isEntry) (nA := 2) (rest := []) (wr := [(h, .inr (7, [.ref b]))]) d_FileReader_isEntry_66 (g_twoAt hl G b N f i35 (by first | (with_reducible assumption) | omega (splitDisjunctions := false) | assumption | omega | decide) (by first | (with_reducible assumption) | omega (splitDisjunctions := false) | assumption | omega | decide) (by first | (with_reducible assumption) | omega (splitDisjunctions := false) | assumption | omega | decide) F_f) [1] [0] (by decide) rfl rfl rfl (by decide) (by decide) k_597 rfl k_118 k_599 k_596 hy_Book_twoAt (by decide) rfl rfl (Nat.le_of_ble_eq_true rfl) (by decide) (fun v9 u37 ch36 => ?_)
        obtain ⟨r_38, rfl⟩ : ∃ z9, z9 = u37 := ⟨_, rfl⟩
        obtain ⟨ech36, ch36⟩ := ch36
        have ech36 : v9 = some (.int r_38) := ech36
        subst ech36
        obtain ⟨fh39, fh40, fh41, fh42⟩ : (0 ≤ r_38.toInt) ∧ (r_38.toInt ≤ 65535) ∧ (r_38.toInt = tw f i35.toInt) ∧ (r_38.toInt = av f i35.toInt 2) := ch36
        have u8 : r_38.toInt = aw A (x.toInt + 8) 2 := by rw [fh42, show i35.toInt = x.toInt + 8 by omega]; exact av_A hA 2 (by omega) (by omega)
        refine pb_eq (pc' := 69) (lo' := [(2, .int r_4), (0, .ref h), (1, .int x)]) (rest' := [.int r_38]) (ws' := [(h, .inr (7, [.ref b])), (b, .inl (G.2.1, N, .inl f))]) ?_
        refine pb_if_ne (pc := 69) (tgt := 134) d_FileReader_isEntry_69 (by decide) (fun w43 => ?_) (fun w43 => ?_)
        · have tw43 : ¬ r_38.toInt = 0 := fun z9 => w43 ((ti_eq rfl (by decide)).mpr z9)
          refine pb_iconst (pc := 134) (v := 0) d_FileReader_isEntry_134 (by decide) ?_
          exact pb_iret (pc := 135) hQ d_FileReader_isEntry_135 rfl rfl (0) ⟨rfl, (by (try dsimp only); first | done | (with_reducible assumption) | omega (splitDisjunctions := false) | assumption | omega | decide), (show (0 : Int32).toInt = 1 → ey_ A x.toInt from (by first | exact fun q9 => absurd q9 (by decide) | exact fun _ => ⟨by omega, ey_C (by omega) (by omega), by omega, by omega, by omega, by omega, by omega⟩)), (show (0 : Int32).toInt = 0 → ¬ ey_ A x.toInt from (by first | exact fun q9 => absurd q9 (by decide) | exact fun _ q9 => (by obtain ⟨y1, y2, y3, y4, y5, y6, y7⟩ := q9; have y8 := ey_D y2; (exact omg_acd30192c0 u8 tw43 y3))))⟩ [0, 1] (by decide) rfl rfl (by decide) (by decide)
        · have tw43 : r_38.toInt = 0 := (ti_eq rfl (by decide)).mp w43
          refine pb_iload_n (pc := 72) d_FileReader_isEntry_72 0 rfl rfl ?_
          refine pb_if_eq (pc := 73) (tgt := 82) d_FileReader_isEntry_73 (by decide) (fun w44 => ?_) (fun w44 => ?_)
          · have tw44 : r_4.toInt = 0 := (ti_eq rfl (by decide)).mp w44
            refine pb_aload_n (pc := 82) d_FileReader_isEntry_82 1 rfl rfl ?_
            refine pb_get (pc := 83) d_FileReader_isEntry_83 0 0 rfl rfl (by decide) in_FileReader k_306 rfl ?_
            refine pb_iload_n (pc := 86) d_FileReader_isEntry_86 2 rfl rfl ?_
            refine pb_bipush (pc := 87) (v := 30) d_FileReader_isEntry_87 (by decide) ?_
            refine pb_iadd (pc := 89) d_FileReader_isEntry_89 ?_
            refine pb_topi (fun i45 ei45 => ?_)
            try have ti45 : i45.toInt = x.toInt + 30 := t2_add ei45 rfl (by decide) (by omega)
            refine pb_callSN (pc := 90) (I := i_FileReader_isEntry) (nA := 2) (rest := []) (wr := [(h, .inr (7, [.ref b]))]) d_FileReader_isEntry_90 (g_fourAt hl G b N f i45 (by first | (with_reducible assumption) | omega (splitDisjunctions := false) | assumption | omega | decide) (by first | (with_reducible assumption) | omega (splitDisjunctions := false) | assumption | omega | decide) (by first | (with_reducible assumption) | omega (splitDisjunctions := false) | assumption | omega | decide) F_f) [1] [0] (by decide) rfl rfl rfl (by decide) (by decide) k_594 rfl k_118 k_592 k_593 hy_Book_fourAt (by decide) rfl rfl (Nat.le_of_ble_eq_true rfl) (by decide) (fun v9 u47 ch46 => ?_)
            obtain ⟨r_48, rfl⟩ : ∃ z9, z9 = u47 := ⟨_, rfl⟩
            obtain ⟨ech46, ch46⟩ := ch46
            have ech46 : v9 = some (.long r_48) := ech46
            subst ech46
            obtain ⟨fh49, fh50, fh51⟩ : (0 ≤ r_48.toInt) ∧ (r_48.toInt < 4294967296) ∧ (r_48.toInt = av f i45.toInt 4) := ch46
            have u30 : r_48.toInt = aw A (x.toInt + 30) 4 := by rw [fh51, show i45.toInt = x.toInt + 30 by omega]; exact av_A hA 4 (by omega) (by omega)
            refine pb_eq (pc' := 93) (lo' := [(2, .int r_4), (0, .ref h), (1, .int x)]) (rest' := [.long r_48]) (ws' := [(h, .inr (7, [.ref b])), (b, .inl (G.2.1, N, .inl f))]) ?_
            refine pb_lconst (pc := 93) (v := 0) d_FileReader_isEntry_93 (by decide) ?_
            refine pb_lcmp (pc := 94) d_FileReader_isEntry_94 ?_
            refine pb_topi (fun i52 ei52 => ?_)
            have ti52 : (i52.toInt < 0 ↔ r_48.toInt < 0) ∧ (i52.toInt = 0 ↔ r_48.toInt = 0) ∧ (0 < i52.toInt ↔ 0 < r_48.toInt) := tl_cmp ei52 rfl (by decide)
            refine pb_if_ne (pc := 95) (tgt := 134) d_FileReader_isEntry_95 (by decide) (fun w53 => ?_) (fun w53 => ?_)
            · have tw53 : ¬ i52.toInt = 0 := fun z9 => w53 ((ti_eq rfl (by decide)).mpr z9)
              refine pb_iconst (pc := 134) (v := 0) d_FileReader_isEntry_134 (by decide) ?_
              exact pb_iret (pc := 135) hQ d_FileReader_isEntry_135 rfl rfl (0) ⟨rfl, (by (try dsimp only); first | done | (with_reducible assumption) | omega (splitDisjunctions := false) | assumption | omega | decide), (show (0 : Int32).toInt = 1 → ey_ A x.toInt from (by first | exact fun q9 => absurd q9 (by decide) | exact fun _ => ⟨by omega, ey_C (by omega) (by omega), by omega, by omega, by omega, by omega, by omega⟩)), (show (0 : Int32).toInt = 0 → ¬ ey_ A x.toInt from (by first | exact fun q9 => absurd q9 (by decide) | exact fun _ q9 => (by obtain ⟨y1, y2, y3, y4, y5, y6, y7⟩ := q9; have y8 := ey_D y2; (exact omg_39806c0d09 u30 ti52 tw53 y5))))⟩ [0, 1] (by decide) rfl rfl (by decide) (by decide)
            · have tw53 : i52.toInt = 0 := (ti_eq rfl (by decide)).mp w53
              refine pb_aload_n (pc := 98) d_FileReader_isEntry_98 1 rfl rfl ?_
              refine pb_get (pc := 99) d_FileReader_isEntry_99 0 0 rfl rfl (by decide) in_FileReader k_306 rfl ?_
              refine pb_iload_n (pc := 102) d_FileReader_isEntry_102 2 rfl rfl ?_
              refine pb_bipush (pc := 103) (v := 34) d_FileReader_isEntry_103 (by decide) ?_
              refine pb_iadd (pc := 105) d_FileReader_isEntry_105 ?_
              refine pb_topi (fun i54 ei54 => ?_)
              try have ti54 : i54.toInt = x.toInt + 34 := t2_add ei54 rfl (by decide) (by (exact omg_166c39d5f6 h0 h1 hN))
              refine pb_callSN (pc := 106) (I := i_FileReader_isEntry) (nA := 2) (rest := []) (wr := [(h, .inr (7, [.ref b]))]) d_FileReader_isEntry_106 (g_fourAt hl G b N f i54 (by first | (with_reducible assumption) | omega (splitDisjunctions := false) | assumption | omega | decide) (by first | (with_reducible assumption) | omega (splitDisjunctions := false) | assumption | omega | decide) (by first | (with_reducible assumption) | omega (splitDisjunctions := false) | assumption | omega | decide) F_f) [1] [0] (by decide) rfl rfl rfl (by decide) (by decide) k_594 rfl k_118 k_592 k_593 hy_Book_fourAt (by decide) rfl rfl (Nat.le_of_ble_eq_true rfl) (by decide) (fun v9 u56 ch55 => ?_)
              obtain ⟨r_57, rfl⟩ : ∃ z9, z9 = u56 := ⟨_, rfl⟩
              obtain ⟨ech55, ch55⟩ := ch55
              have ech55 : v9 = some (.long r_57) := ech55
              subst ech55
              obtain ⟨fh58, fh59, fh60⟩ : (0 ≤ r_57.toInt) ∧ (r_57.toInt < 4294967296) ∧ (r_57.toInt = av f i54.toInt 4) := ch55
              have u34 : r_57.toInt = aw A (x.toInt + 34) 4 := by rw [fh60, show i54.toInt = x.toInt + 34 by omega]; exact av_A hA 4 (by (exact omg_45e051169b h0)) (by (exact omg_2ec29f96b5 hZ))
              refine pb_eq (pc' := 109) (lo' := [(2, .int r_4), (0, .ref h), (1, .int x)]) (rest' := [.long r_57]) (ws' := [(h, .inr (7, [.ref b])), (b, .inl (G.2.1, N, .inl f))]) ?_
              refine pb_lconst (pc := 109) (v := 0) d_FileReader_isEntry_109 (by decide) ?_
              refine pb_lcmp (pc := 110) d_FileReader_isEntry_110 ?_
              refine pb_topi (fun i61 ei61 => ?_)
              have ti61 : (i61.toInt < 0 ↔ r_57.toInt < 0) ∧ (i61.toInt = 0 ↔ r_57.toInt = 0) ∧ (0 < i61.toInt ↔ 0 < r_57.toInt) := tl_cmp ei61 rfl (by decide)
              refine pb_if_ne (pc := 111) (tgt := 134) d_FileReader_isEntry_111 (by decide) (fun w62 => ?_) (fun w62 => ?_)
              · have tw62 : ¬ i61.toInt = 0 := fun z9 => w62 ((ti_eq rfl (by decide)).mpr z9)
                refine pb_iconst (pc := 134) (v := 0) d_FileReader_isEntry_134 (by decide) ?_
                exact pb_iret (pc := 135) hQ d_FileReader_isEntry_135 rfl rfl (0) ⟨rfl, (by (try dsimp only); first | done | (with_reducible assumption) | omega (splitDisjunctions := false) | assumption | omega | decide), (show (0 : Int32).toInt = 1 → ey_ A x.toInt from (by first | exact fun q9 => absurd q9 (by decide) | exact fun _ => ⟨by omega, ey_C (by omega) (by omega), by omega, by omega, by omega, by omega, by omega⟩)), (show (0 : Int32).toInt = 0 → ¬ ey_ A x.toInt from (by first | exact fun q9 => absurd q9 (by decide) | exact fun _ q9 => (by obtain ⟨y1, y2, y3, y4, y5, y6, y7⟩ := q9; have y8 := ey_D y2; (exact omg_39806c0d09 u34 ti61 tw62 y6))))⟩ [0, 1] (by decide) rfl rfl (by decide) (by decide)
              · have tw62 : i61.toInt = 0 := (ti_eq rfl (by decide)).mp w62
                refine pb_aload_n (pc := 114) d_FileReader_isEntry_114 1 rfl rfl ?_
                refine pb_get (pc := 115) d_FileReader_isEntry_115 0 0 rfl rfl (by decide) in_FileReader k_306 rfl ?_
                refine pb_iload_n (pc := 118) d_FileReader_isEntry_118 2 rfl rfl ?_
                refine pb_bipush (pc := 119) (v := 38) d_FileReader_isEntry_119 (by decide) ?_
                refine pb_iadd (pc := 121) d_FileReader_isEntry_121 ?_
                refine pb_topi (fun i63 ei63 => ?_)
                try have ti63 : i63.toInt = x.toInt + 38 := t2_add ei63 rfl (by decide) (by (exact omg_743a53c656 h0 h1 hN))
                refine pb_callSN (pc := 122) (I := i_FileReader_isEntry) (nA := 2) (rest := []) (wr := [(h, .inr (7, [.ref b]))]) d_FileReader_isEntry_122 (g_fourAt hl G b N f i63 (by first | (with_reducible assumption) | (exact omg_2566e2c3a9 h0 ti63) | assumption | omega | decide) (by first | (with_reducible assumption) | (exact omg_c1f1ba87da h1 ti63) | assumption | omega | decide) (by first | (with_reducible assumption) | omega (splitDisjunctions := false) | assumption | omega | decide) F_f) [1] [0] (by decide) rfl rfl rfl (by decide) (by decide) k_594 rfl k_118 k_592 k_593 hy_Book_fourAt (by decide) rfl rfl (Nat.le_of_ble_eq_true rfl) (by decide) (fun v9 u65 ch64 => ?_)
                obtain ⟨r_66, rfl⟩ : ∃ z9, z9 = u65 := ⟨_, rfl⟩
                obtain ⟨ech64, ch64⟩ := ch64
                have ech64 : v9 = some (.long r_66) := ech64
                subst ech64
                obtain ⟨fh67, fh68, fh69⟩ : (0 ≤ r_66.toInt) ∧ (r_66.toInt < 4294967296) ∧ (r_66.toInt = av f i63.toInt 4) := ch64
                have u38 : r_66.toInt = aw A (x.toInt + 38) 4 := by rw [fh69, show i63.toInt = x.toInt + 38 by omega]; exact av_A hA 4 (by (exact omg_602ceb64b2 h0)) (by (exact omg_0cfc9a5be6 hZ))
                refine pb_eq (pc' := 125) (lo' := [(2, .int r_4), (0, .ref h), (1, .int x)]) (rest' := [.long r_66]) (ws' := [(h, .inr (7, [.ref b])), (b, .inl (G.2.1, N, .inl f))]) ?_
                refine pb_lconst (pc := 125) (v := 0) d_FileReader_isEntry_125 (by decide) ?_
                refine pb_lcmp (pc := 126) d_FileReader_isEntry_126 ?_
                refine pb_topi (fun i70 ei70 => ?_)
                have ti70 : (i70.toInt < 0 ↔ r_66.toInt < 0) ∧ (i70.toInt = 0 ↔ r_66.toInt = 0) ∧ (0 < i70.toInt ↔ 0 < r_66.toInt) := tl_cmp ei70 rfl (by decide)
                refine pb_if_ne (pc := 127) (tgt := 134) d_FileReader_isEntry_127 (by decide) (fun w71 => ?_) (fun w71 => ?_)
                · have tw71 : ¬ i70.toInt = 0 := fun z9 => w71 ((ti_eq rfl (by decide)).mpr z9)
                  refine pb_iconst (pc := 134) (v := 0) d_FileReader_isEntry_134 (by decide) ?_
                  exact pb_iret (pc := 135) hQ d_FileReader_isEntry_135 rfl rfl (0) ⟨rfl, (by (try dsimp only); first | done | (with_reducible assumption) | omega (splitDisjunctions := false) | assumption | omega | decide), (show (0 : Int32).toInt = 1 → ey_ A x.toInt from (by first | exact fun q9 => absurd q9 (by decide) | exact fun _ => ⟨by omega, ey_C (by omega) (by omega), by omega, by omega, by omega, by omega, by omega⟩)), (show (0 : Int32).toInt = 0 → ¬ ey_ A x.toInt from (by first | exact fun q9 => absurd q9 (by decide) | exact fun _ q9 => (by obtain ⟨y1, y2, y3, y4, y5, y6, y7⟩ := q9; have y8 := ey_D y2; (exact omg_39806c0d09 u38 ti70 tw71 y7))))⟩ [0, 1] (by decide) rfl rfl (by decide) (by decide)
                · have tw71 : i70.toInt = 0 := (ti_eq rfl (by decide)).mp w71
                  refine pb_iconst (pc := 130) (v := 1) d_FileReader_isEntry_130 (by decide) ?_
                  refine pb_goto (pc := 131) (tgt := 135) d_FileReader_isEntry_131 (by decide) ?_
                  exact pb_iret (pc := 135) hQ d_FileReader_isEntry_135 rfl rfl (1) ⟨rfl, (by (try dsimp only); first | done | (with_reducible assumption) | omega (splitDisjunctions := false) | assumption | omega | decide), (show (1 : Int32).toInt = 1 → ey_ A x.toInt from (by first | exact fun q9 => absurd q9 (by decide) | exact fun _ => ⟨by (exact omg_d706b4ad8a u0 ti15 tw16), ey_C (by omega) (by omega), by (exact omg_3ece37706e u8 tw43), by (exact omg_e41e7867ed u10 tw44), by (exact omg_26f441bfdd u30 ti52 tw53), by (exact omg_26f441bfdd u34 ti61 tw62), by (exact omg_26f441bfdd u38 ti70 tw71)⟩)), (show (1 : Int32).toInt = 0 → ¬ ey_ A x.toInt from (by first | exact fun q9 => absurd q9 (by decide) | exact fun _ q9 => (by obtain ⟨y1, y2, y3, y4, y5, y6, y7⟩ := q9; have y8 := ey_D y2; omega)))⟩ [0, 1] (by decide) rfl rfl (by decide) (by decide)
          · have tw44 : ¬ r_4.toInt = 0 := fun z9 => w44 ((ti_eq rfl (by decide)).mpr z9)
            refine pb_iload_n (pc := 76) d_FileReader_isEntry_76 0 rfl rfl ?_
            refine pb_bipush (pc := 77) (v := 8) d_FileReader_isEntry_77 (by decide) ?_
            refine pb_icmp_ne (pc := 79) (tgt := 134) d_FileReader_isEntry_79 (by decide) (fun w72 => ?_) (fun w72 => ?_)
            · have tw72 : ¬ r_4.toInt = 8 := fun z9 => w72 ((ti_eq rfl (by decide)).mpr z9)
              refine pb_iconst (pc := 134) (v := 0) d_FileReader_isEntry_134 (by decide) ?_
              exact pb_iret (pc := 135) hQ d_FileReader_isEntry_135 rfl rfl (0) ⟨rfl, (by (try dsimp only); first | done | (with_reducible assumption) | omega (splitDisjunctions := false) | assumption | omega | decide), (show (0 : Int32).toInt = 1 → ey_ A x.toInt from (by first | exact fun q9 => absurd q9 (by decide) | exact fun _ => ⟨by omega, ey_C (by omega) (by omega), by omega, by omega, by omega, by omega, by omega⟩)), (show (0 : Int32).toInt = 0 → ¬ ey_ A x.toInt from (by first | exact fun q9 => absurd q9 (by decide) | exact fun _ q9 => (by obtain ⟨y1, y2, y3, y4, y5, y6, y7⟩ := q9; have y8 := ey_D y2; omega)))⟩ [0, 1] (by decide) rfl rfl (by decide) (by decide)
            · have tw72 : r_4.toInt = 8 := (ti_eq rfl (by decide)).mp w72
              refine pb_aload_n (pc := 82) d_FileReader_isEntry_82 1 rfl rfl ?_
              refine pb_get (pc := 83) d_FileReader_isEntry_83 0 0 rfl rfl (by decide) in_FileReader k_306 rfl ?_
              refine pb_iload_n (pc := 86) d_FileReader_isEntry_86 2 rfl rfl ?_
              refine pb_bipush (pc := 87) (v := 30) d_FileReader_isEntry_87 (by decide) ?_
              refine pb_iadd (pc := 89) d_FileReader_isEntry_89 ?_
              refine pb_topi (fun i73 ei73 => ?_)
              try have ti73 : i73.toInt = x.toInt + 30 := t2_add ei73 rfl (by decide) (by omega)
              refine pb_callSN (pc := 90) (I := i_FileReader_isEntry) (nA := 2) (rest := []) (wr := [(h, .inr (7, [.ref b]))]) d_FileReader_isEntry_90 (g_fourAt hl G b N f i73 (by first | (with_reducible assumption) | omega (splitDisjunctions := false) | assumption | omega | decide) (by first | (with_reducible assumption) | omega (splitDisjunctions := false) | assumption | omega | decide) (by first | (with_reducible assumption) | omega (splitDisjunctions := false) | assumption | omega | decide) F_f) [1] [0] (by decide) rfl rfl rfl (by decide) (by decide) k_594 rfl k_118 k_592 k_593 hy_Book_fourAt (by decide) rfl rfl (Nat.le_of_ble_eq_true rfl) (by decide) (fun v9 u75 ch74 => ?_)
              obtain ⟨r_76, rfl⟩ : ∃ z9, z9 = u75 := ⟨_, rfl⟩
              obtain ⟨ech74, ch74⟩ := ch74
              have ech74 : v9 = some (.long r_76) := ech74
              subst ech74
              obtain ⟨fh77, fh78, fh79⟩ : (0 ≤ r_76.toInt) ∧ (r_76.toInt < 4294967296) ∧ (r_76.toInt = av f i73.toInt 4) := ch74
              have u30 : r_76.toInt = aw A (x.toInt + 30) 4 := by rw [fh79, show i73.toInt = x.toInt + 30 by omega]; exact av_A hA 4 (by omega) (by omega)
              refine pb_eq (pc' := 93) (lo' := [(2, .int r_4), (0, .ref h), (1, .int x)]) (rest' := [.long r_76]) (ws' := [(h, .inr (7, [.ref b])), (b, .inl (G.2.1, N, .inl f))]) ?_
              refine pb_lconst (pc := 93) (v := 0) d_FileReader_isEntry_93 (by decide) ?_
              refine pb_lcmp (pc := 94) d_FileReader_isEntry_94 ?_
              refine pb_topi (fun i80 ei80 => ?_)
              have ti80 : (i80.toInt < 0 ↔ r_76.toInt < 0) ∧ (i80.toInt = 0 ↔ r_76.toInt = 0) ∧ (0 < i80.toInt ↔ 0 < r_76.toInt) := tl_cmp ei80 rfl (by decide)
              refine pb_if_ne (pc := 95) (tgt := 134) d_FileReader_isEntry_95 (by decide) (fun w81 => ?_) (fun w81 => ?_)
              · have tw81 : ¬ i80.toInt = 0 := fun z9 => w81 ((ti_eq rfl (by decide)).mpr z9)
                refine pb_iconst (pc := 134) (v := 0) d_FileReader_isEntry_134 (by decide) ?_
                exact pb_iret (pc := 135) hQ d_FileReader_isEntry_135 rfl rfl (0) ⟨rfl, (by (try dsimp only); first | done | (with_reducible assumption) | omega (splitDisjunctions := false) | assumption | omega | decide), (show (0 : Int32).toInt = 1 → ey_ A x.toInt from (by first | exact fun q9 => absurd q9 (by decide) | exact fun _ => ⟨by omega, ey_C (by omega) (by omega), by omega, by omega, by omega, by omega, by omega⟩)), (show (0 : Int32).toInt = 0 → ¬ ey_ A x.toInt from (by first | exact fun q9 => absurd q9 (by decide) | exact fun _ q9 => (by obtain ⟨y1, y2, y3, y4, y5, y6, y7⟩ := q9; have y8 := ey_D y2; (exact omg_39806c0d09 u30 ti80 tw81 y5))))⟩ [0, 1] (by decide) rfl rfl (by decide) (by decide)
              · have tw81 : i80.toInt = 0 := (ti_eq rfl (by decide)).mp w81
                refine pb_aload_n (pc := 98) d_FileReader_isEntry_98 1 rfl rfl ?_
                refine pb_get (pc := 99) d_FileReader_isEntry_99 0 0 rfl rfl (by decide) in_FileReader k_306 rfl ?_
                refine pb_iload_n (pc := 102) d_FileReader_isEntry_102 2 rfl rfl ?_
                refine pb_bipush (pc := 103) (v := 34) d_FileReader_isEntry_103 (by decide) ?_
                refine pb_iadd (pc := 105) d_FileReader_isEntry_105 ?_
                refine pb_topi (fun i82 ei82 => ?_)
                try have ti82 : i82.toInt = x.toInt + 34 := t2_add ei82 rfl (by decide) (by (exact omg_166c39d5f6 h0 h1 hN))
                refine pb_callSN (pc := 106) (I := i_FileReader_isEntry) (nA := 2) (rest := []) (wr := [(h, .inr (7, [.ref b]))]) d_FileReader_isEntry_106 (g_fourAt hl G b N f i82 (by first | (with_reducible assumption) | omega (splitDisjunctions := false) | assumption | omega | decide) (by first | (with_reducible assumption) | omega (splitDisjunctions := false) | assumption | omega | decide) (by first | (with_reducible assumption) | omega (splitDisjunctions := false) | assumption | omega | decide) F_f) [1] [0] (by decide) rfl rfl rfl (by decide) (by decide) k_594 rfl k_118 k_592 k_593 hy_Book_fourAt (by decide) rfl rfl (Nat.le_of_ble_eq_true rfl) (by decide) (fun v9 u84 ch83 => ?_)
                obtain ⟨r_85, rfl⟩ : ∃ z9, z9 = u84 := ⟨_, rfl⟩
                obtain ⟨ech83, ch83⟩ := ch83
                have ech83 : v9 = some (.long r_85) := ech83
                subst ech83
                obtain ⟨fh86, fh87, fh88⟩ : (0 ≤ r_85.toInt) ∧ (r_85.toInt < 4294967296) ∧ (r_85.toInt = av f i82.toInt 4) := ch83
                have u34 : r_85.toInt = aw A (x.toInt + 34) 4 := by rw [fh88, show i82.toInt = x.toInt + 34 by omega]; exact av_A hA 4 (by (exact omg_45e051169b h0)) (by (exact omg_2ec29f96b5 hZ))
                refine pb_eq (pc' := 109) (lo' := [(2, .int r_4), (0, .ref h), (1, .int x)]) (rest' := [.long r_85]) (ws' := [(h, .inr (7, [.ref b])), (b, .inl (G.2.1, N, .inl f))]) ?_
                refine pb_lconst (pc := 109) (v := 0) d_FileReader_isEntry_109 (by decide) ?_
                refine pb_lcmp (pc := 110) d_FileReader_isEntry_110 ?_
                refine pb_topi (fun i89 ei89 => ?_)
                have ti89 : (i89.toInt < 0 ↔ r_85.toInt < 0) ∧ (i89.toInt = 0 ↔ r_85.toInt = 0) ∧ (0 < i89.toInt ↔ 0 < r_85.toInt) := tl_cmp ei89 rfl (by decide)
                refine pb_if_ne (pc := 111) (tgt := 134) d_FileReader_isEntry_111 (by decide) (fun w90 => ?_) (fun w90 => ?_)
                · have tw90 : ¬ i89.toInt = 0 := fun z9 => w90 ((ti_eq rfl (by decide)).mpr z9)
                  refine pb_iconst (pc := 134) (v := 0) d_FileReader_isEntry_134 (by decide) ?_
                  exact pb_iret (pc := 135) hQ d_FileReader_isEntry_135 rfl rfl (0) ⟨rfl, (by (try dsimp only); first | done | (with_reducible assumption) | omega (splitDisjunctions := false) | assumption | omega | decide), (show (0 : Int32).toInt = 1 → ey_ A x.toInt from (by first | exact fun q9 => absurd q9 (by decide) | exact fun _ => ⟨by omega, ey_C (by omega) (by omega), by omega, by omega, by omega, by omega, by omega⟩)), (show (0 : Int32).toInt = 0 → ¬ ey_ A x.toInt from (by first | exact fun q9 => absurd q9 (by decide) | exact fun _ q9 => (by obtain ⟨y1, y2, y3, y4, y5, y6, y7⟩ := q9; have y8 := ey_D y2; (exact omg_39806c0d09 u34 ti89 tw90 y6))))⟩ [0, 1] (by decide) rfl rfl (by decide) (by decide)
                · have tw90 : i89.toInt = 0 := (ti_eq rfl (by decide)).mp w90
                  refine pb_aload_n (pc := 114) d_FileReader_isEntry_114 1 rfl rfl ?_
                  refine pb_get (pc := 115) d_FileReader_isEntry_115 0 0 rfl rfl (by decide) in_FileReader k_306 rfl ?_
                  refine pb_iload_n (pc := 118) d_FileReader_isEntry_118 2 rfl rfl ?_
                  refine pb_bipush (pc := 119) (v := 38) d_FileReader_isEntry_119 (by decide) ?_
                  refine pb_iadd (pc := 121) d_FileReader_isEntry_121 ?_
                  refine pb_topi (fun i91 ei91 => ?_)
                  try have ti91 : i91.toInt = x.toInt + 38 := t2_add ei91 rfl (by decide) (by (exact omg_743a53c656 h0 h1 hN))
                  refine pb_callSN (pc := 122) (I := i_FileReader_isEntry) (nA := 2) (rest := []) (wr := [(h, .inr (7, [.ref b]))]) d_FileReader_isEntry_122 (g_fourAt hl G b N f i91 (by first | (with_reducible assumption) | (exact omg_2566e2c3a9 h0 ti91) | assumption | omega | decide) (by first | (with_reducible assumption) | (exact omg_c1f1ba87da h1 ti91) | assumption | omega | decide) (by first | (with_reducible assumption) | omega (splitDisjunctions := false) | assumption | omega | decide) F_f) [1] [0] (by decide) rfl rfl rfl (by decide) (by decide) k_594 rfl k_118 k_592 k_593 hy_Book_fourAt (by decide) rfl rfl (Nat.le_of_ble_eq_true rfl) (by decide) (fun v9 u93 ch92 => ?_)
                  obtain ⟨r_94, rfl⟩ : ∃ z9, z9 = u93 := ⟨_, rfl⟩
                  obtain ⟨ech92, ch92⟩ := ch92
                  have ech92 : v9 = some (.long r_94) := ech92
                  subst ech92
                  obtain ⟨fh95, fh96, fh97⟩ : (0 ≤ r_94.toInt) ∧ (r_94.toInt < 4294967296) ∧ (r_94.toInt = av f i91.toInt 4) := ch92
                  have u38 : r_94.toInt = aw A (x.toInt + 38) 4 := by rw [fh97, show i91.toInt = x.toInt + 38 by omega]; exact av_A hA 4 (by (exact omg_602ceb64b2 h0)) (by (exact omg_0cfc9a5be6 hZ))
                  refine pb_eq (pc' := 125) (lo' := [(2, .int r_4), (0, .ref h), (1, .int x)]) (rest' := [.long r_94]) (ws' := [(h, .inr (7, [.ref b])), (b, .inl (G.2.1, N, .inl f))]) ?_
                  refine pb_lconst (pc := 125) (v := 0) d_FileReader_isEntry_125 (by decide) ?_
                  refine pb_lcmp (pc := 126) d_FileReader_isEntry_126 ?_
                  refine pb_topi (fun i98 ei98 => ?_)
                  have ti98 : (i98.toInt < 0 ↔ r_94.toInt < 0) ∧ (i98.toInt = 0 ↔ r_94.toInt = 0) ∧ (0 < i98.toInt ↔ 0 < r_94.toInt) := tl_cmp ei98 rfl (by decide)
                  refine pb_if_ne (pc := 127) (tgt := 134) d_FileReader_isEntry_127 (by decide) (fun w99 => ?_) (fun w99 => ?_)
                  · have tw99 : ¬ i98.toInt = 0 := fun z9 => w99 ((ti_eq rfl (by decide)).mpr z9)
                    refine pb_iconst (pc := 134) (v := 0) d_FileReader_isEntry_134 (by decide) ?_
                    exact pb_iret (pc := 135) hQ d_FileReader_isEntry_135 rfl rfl (0) ⟨rfl, (by (try dsimp only); first | done | (with_reducible assumption) | omega (splitDisjunctions := false) | assumption | omega | decide), (show (0 : Int32).toInt = 1 → ey_ A x.toInt from (by first | exact fun q9 => absurd q9 (by decide) | exact fun _ => ⟨by omega, ey_C (by omega) (by omega), by omega, by omega, by omega, by omega, by omega⟩)), (show (0 : Int32).toInt = 0 → ¬ ey_ A x.toInt from (by first | exact fun q9 => absurd q9 (by decide) | exact fun _ q9 => (by obtain ⟨y1, y2, y3, y4, y5, y6, y7⟩ := q9; have y8 := ey_D y2; (exact omg_39806c0d09 u38 ti98 tw99 y7))))⟩ [0, 1] (by decide) rfl rfl (by decide) (by decide)
                  · have tw99 : i98.toInt = 0 := (ti_eq rfl (by decide)).mp w99
                    refine pb_iconst (pc := 130) (v := 1) d_FileReader_isEntry_130 (by decide) ?_
                    refine pb_goto (pc := 131) (tgt := 135) d_FileReader_isEntry_131 (by decide) ?_
                    exact pb_iret (pc := 135) hQ d_FileReader_isEntry_135 rfl rfl (1) ⟨rfl, (by (try dsimp only); first | done | (with_reducible assumption) | omega (splitDisjunctions := false) | assumption | omega | decide), (show (1 : Int32).toInt = 1 → ey_ A x.toInt from (by first | exact fun q9 => absurd q9 (by decide) | exact fun _ => ⟨by (exact omg_d706b4ad8a u0 ti15 tw16), ey_C (by omega) (by omega), by omega, by omega, by omega, by omega, by omega⟩)), (show (1 : Int32).toInt = 0 → ¬ ey_ A x.toInt from (by first | exact fun q9 => absurd q9 (by decide) | exact fun _ q9 => (by obtain ⟨y1, y2, y3, y4, y5, y6, y7⟩ := q9; have y8 := ey_D y2; omega)))⟩ [0, 1] (by decide) rfl rfl (by decide) (by decide)
/-! ROWS OF NUMBERS -/
theorem omg_023da655ef {x0 : Int} {x1 : Int} {x2 : Int} (a0 : (x0 = x1)) (a1 : (((x2 < (0 : Int)) ↔ (x0 < (67324752 : Int))) ∧ (((x2 = (0 : Int)) ↔ (x0 = (67324752 : Int))) ∧ (((0 : Int) < x2) ↔ ((67324752 : Int) < x0))))) (a2 : (x2 = (0 : Int))) : (x1 = (67324752 : Int)) := by omega
theorem omg_000a014e05 {x0 : Int} {x1 : Int} {x2 : Int} (a0 : (x0 = x1)) (a1 : ((0 : Int) ≤ x0)) (a2 : (x1 ≤ x2)) : ((0 : Int) ≤ (x2 + (28 : Int))) := by omega
theorem omg_934b623de5 {x0 : Int} {x1 : Int} {x2 : Int} {x3 : Nat} {x4 : Int} {x5 : Int} {x6 : Int} {x7 : Int} (a0 : (x0 = x1)) (a1 : ((0 : Int) ≤ x0)) (a2 : (x2 ≤ ((x3 : Nat) : Int))) (a3 : (x3 ≤ (100000 : Nat))) (a4 : (x1 ≤ x4)) (a5 : (x5 = (x2 - x4))) (a6 : (¬ (x5 < (46 : Int)))) (a7 : ((0 : Int) ≤ x6)) (a8 : (x6 ≤ (65535 : Int))) (a9 : (x7 = ((46 : Int) + x6))) : (((-(2147483648 : Int)) ≤ (x4 + x7)) ∧ ((x4 + x7) < (2147483648 : Int))) := by omega
theorem omg_09e96b719d {x0 : Int} {x1 : Int} {x2 : Int} {x3 : Int} {x4 : Int} (a0 : (x0 = x1)) (a1 : (x2 = ((46 : Int) + x0))) (a2 : (x3 = (x4 + x2))) : (x3 = ((x4 + (46 : Int)) + x1)) := by omega
theorem omg_c719e3dd87 {x0 : Int} {x1 : Int} (a0 : ((0 : Int) ≤ x0)) (a1 : (x1 = (x0 + (1 : Int)))) : ((Int.toNat x1) = ((Int.toNat x0) + (1 : Nat))) := by omega
theorem omg_799cf5ff21 {x0 : Int} {x1 : Int} {x2 : Int} {x3 : Int} {x4 : Int} (a0 : (x0 = x1)) (a1 : (x2 = ((46 : Int) + x0))) (a2 : (x3 = (x4 + x2))) : (x3 = (x4 + ((46 : Int) + x1))) := by omega
theorem omg_b5f1eae23a {x0 : Int} {x1 : Int} {x2 : Int} (a0 : (((x0 + (46 : Int)) + x1) ≤ x2)) (a1 : (((0 : Int) ≤ x1) ∧ (x1 ≤ (65535 : Int)))) : (((x0 + (42 : Int)) + (((4 : Nat) : Nat) : Int)) ≤ x2) := by omega
theorem omg_96293bd7a6 {x0 : Int} {x1 : Int} {x2 : Int} (a0 : (((x0 + (46 : Int)) + x1) ≤ x2)) (a1 : (((0 : Int) ≤ x1) ∧ (x1 ≤ (65535 : Int)))) : (((x0 + (20 : Int)) + (((4 : Nat) : Nat) : Int)) ≤ x2) := by omega
theorem omg_e7dfb7f19a {x0 : Int} {x1 : Int} {x2 : Int} {x3 : Int} {x4 : Int} {x5 : Int} {x6 : Int} (a0 : (((0 : Int) ≤ x0) ∧ (x0 ≤ (65535 : Int)))) (a1 : (x1 < (4294967296 : Int))) (a2 : (x2 < (4294967296 : Int))) (a3 : (x3 = x0)) (a4 : (x4 = (x1 + (30 : Int)))) (a5 : (x5 = x3)) (a6 : (x6 = (x4 + x5))) : ((x6 + x2) < (9223372036854775808 : Int)) := by omega
theorem omg_1c088cdaa3 {x0 : Int} {x1 : Int} {x2 : Int} {x3 : Int} {x4 : Int} {x5 : Int} {x6 : Int} (a0 : (((0 : Int) ≤ x0) ∧ (x0 ≤ (65535 : Int)))) (a1 : ((0 : Int) ≤ x1)) (a2 : ((0 : Int) ≤ x2)) (a3 : (x3 = x0)) (a4 : (x4 = (x1 + (30 : Int)))) (a5 : (x5 = x3)) (a6 : (x6 = (x4 + x5))) : ((-(9223372036854775808 : Int)) ≤ (x6 + x2)) := by omega
theorem omg_f6e3c8ee3b {x0 : Int} {x1 : Int} {x2 : Int} {x3 : Int} {x4 : Int} {x5 : Int} {x6 : Int} {x7 : Int} {x8 : Int} {x9 : Int} {x10 : Int} {x11 : Int} (a0 : (x0 = x1)) (a1 : (x2 = x3)) (a2 : (x4 = x5)) (a3 : (x6 = (x0 + (30 : Int)))) (a4 : (x7 = x4)) (a5 : (x8 = (x6 + x7))) (a6 : (x9 = (x8 + x2))) (a7 : (((0 : Int) < x10) ↔ (x11 < x9))) (a8 : ((0 : Int) < x10)) : (¬ ((((x1 + (30 : Int)) + x5) + x3) ≤ x11)) := by omega
theorem omg_edd1e9f77b {x0 : Int} {x1 : Nat} {x2 : Int} {x3 : Int} {x4 : Int} {x5 : Int} {x6 : Int} {x7 : Int} {x8 : Int} {x9 : Int} (a0 : (x0 ≤ ((x1 : Nat) : Int))) (a1 : (x1 ≤ (100000 : Nat))) (a2 : (((0 : Int) ≤ x2) ∧ (x2 ≤ (65535 : Int)))) (a3 : ((0 : Int) ≤ x3)) (a4 : (x4 = x2)) (a5 : (x5 = (x6 + (30 : Int)))) (a6 : (x7 = x4)) (a7 : (x8 = (x5 + x7))) (a8 : (x9 = (x8 + x3))) (a9 : (¬ (x0 < x9))) : (x6 < (2147483648 : Int)) := by omega
theorem omg_829df125db {x0 : Int} (a0 : ((0 : Int) ≤ x0)) : ((-(2147483648 : Int)) ≤ x0) := by omega
theorem omg_d7355721ab {x0 : Int} {x1 : Int} {x2 : Int} {x3 : Int} {x4 : Int} {x5 : Int} {x6 : Int} {x7 : Int} {x8 : Int} {x9 : Int} (a0 : (x0 ≤ x1)) (a1 : ((0 : Int) ≤ x2)) (a2 : (x3 = (x4 + (30 : Int)))) (a3 : (x5 = x6)) (a4 : (x7 = (x3 + x5))) (a5 : (x8 = (x7 + x2))) (a6 : (¬ (x0 < x8))) (a7 : (x9 = x4)) : (((x9 + (30 : Int)) + x6) ≤ x1) := by omega
theorem omg_015fc1e06f {x0 : Int} {x1 : Int} {x2 : Int} {x3 : Int} (a0 : (((x0 + (46 : Int)) + x1) ≤ x2)) (a1 : (x3 = x1)) : (((x0 + (46 : Int)) + x3) ≤ x2) := by omega
theorem omg_9b77257d31 {x0 : Int} {x1 : Nat} {x2 : Int} {x3 : Int} {x4 : Int} {x5 : Int} {x6 : Int} {x7 : Int} {x8 : Int} {x9 : Int} (a0 : (x0 ≤ ((x1 : Nat) : Int))) (a1 : ((0 : Int) ≤ x2)) (a2 : (x3 = (x4 + (30 : Int)))) (a3 : (x5 = x6)) (a4 : (x7 = (x3 + x5))) (a5 : (x8 = (x7 + x2))) (a6 : (¬ (x0 < x8))) (a7 : (x9 = x4)) : (((x9 + (30 : Int)) + x6) ≤ ((x1 : Nat) : Int)) := by omega
theorem omg_9421ffe5b8 {x0 : Int} {x1 : Int} (a0 : ((0 : Int) ≤ x0)) (a1 : (x1 = x0)) : ((0 : Int) ≤ x1) := by omega
theorem omg_000088b713 {x0 : Int} {x1 : Int} {x2 : Nat} {x3 : Int} (a0 : ((x0 + ((46 : Int) + x1)) ≤ ((x2 : Nat) : Int))) (a1 : (x3 = x1)) : (((x0 + (46 : Int)) + x3) ≤ ((x2 : Nat) : Int)) := by omega
theorem omg_c0d2bc3c70 {x0 : Int} {x1 : Int} {x2 : Int} {x3 : Int} {x4 : Int} {x5 : Int} {x6 : Int} {x7 : Int} {x8 : Int} {x9 : Int} (a0 : (x0 = x1)) (a1 : (x2 = (x3 + (30 : Int)))) (a2 : (x4 = x5)) (a3 : (x6 = (x2 + x4))) (a4 : (x7 = (x6 + x0))) (a5 : (¬ (x8 < x7))) (a6 : (x9 = x3)) : ((((x9 + (30 : Int)) + x5) + x1) ≤ x8) := by omega
theorem omg_8783ee062b {x0 : Int} {x1 : Int} {x2 : Nat} {x3 : Int} {x4 : Int} (a0 : ((0 : Int) ≤ x0)) (a1 : ((x0 + ((46 : Int) + x1)) ≤ ((x2 : Nat) : Int))) (a2 : (x2 ≤ (100000 : Nat))) (a3 : (((0 : Int) ≤ x3) ∧ (x3 ≤ (65535 : Int)))) (a4 : (x4 = x1)) (a5 : (x4 = x3)) : (((-(2147483648 : Int)) ≤ (x0 + (46 : Int))) ∧ ((x0 + (46 : Int)) < (2147483648 : Int))) := by omega
theorem omg_0d7b0991d2 {x0 : Int} {x1 : Int} {x2 : Nat} {x3 : Int} {x4 : Int} {x5 : Int} (a0 : ((x0 + ((46 : Int) + x1)) ≤ ((x2 : Nat) : Int))) (a1 : (x2 ≤ (100000 : Nat))) (a2 : (((0 : Int) ≤ x3) ∧ (x3 ≤ (65535 : Int)))) (a3 : (x4 = x1)) (a4 : (x4 = x3)) (a5 : (x5 = (x0 + (46 : Int)))) : (x5 ≤ (1000000 : Int)) := by omega
theorem omg_85b61f1a8a {x0 : Int} {x1 : Int} {x2 : Nat} {x3 : Int} {x4 : Int} (a0 : ((x0 + ((46 : Int) + x1)) ≤ ((x2 : Nat) : Int))) (a1 : (x3 = x1)) (a2 : (x4 = (x0 + (46 : Int)))) : ((x3 ≤ (24 : Int)) → ((x4 + x3) ≤ ((x2 : Nat) : Int))) := by omega
theorem omg_0dbf0bae43 {x0 : Int} {x1 : Int} (a0 : ((0 : Int) ≤ x0)) (a1 : (x1 = (x0 + (46 : Int)))) : ((0 : Int) ≤ x1) := by omega
theorem omg_4716b73c86 {x0 : Int} (a0 : ((0 : Int) ≤ x0)) : ((0 : Int) ≤ (x0 + (46 : Int))) := by omega
theorem omg_d51d028838 {x0 : Int} {x1 : Int} {x2 : Nat} {x3 : Int} {x4 : Int} (a0 : ((0 : Int) ≤ x0)) (a1 : ((x0 + ((46 : Int) + x1)) ≤ ((x2 : Nat) : Int))) (a2 : (x2 ≤ (100000 : Nat))) (a3 : (((0 : Int) ≤ x3) ∧ (x3 ≤ (65535 : Int)))) (a4 : (x4 = x1)) (a5 : (x4 = x3)) : (((-(2147483648 : Int)) ≤ (x0 + (10 : Int))) ∧ ((x0 + (10 : Int)) < (2147483648 : Int))) := by omega
theorem omg_e4f58e35f5 {x0 : Int} {x1 : Int} {x2 : Nat} {x3 : Int} {x4 : Int} (a0 : ((x0 + ((46 : Int) + x1)) ≤ ((x2 : Nat) : Int))) (a1 : (x3 = x1)) (a2 : (((1 : Int) ≤ x3) ∧ (x3 ≤ (24 : Int)))) (a3 : (x4 = (x0 + (10 : Int)))) : ((x4 + (2 : Int)) ≤ ((x2 : Nat) : Int)) := by omega
theorem omg_c1a971595b {x0 : Int} {x1 : Int} (a0 : ((0 : Int) ≤ x0)) (a1 : (x1 = (x0 + (10 : Int)))) : ((0 : Int) ≤ x1) := by omega
theorem omg_37a4731a8a {x0 : Int} {x1 : Int} {x2 : Int} (a0 : (((x0 + (46 : Int)) + x1) ≤ x2)) (a1 : (((0 : Int) ≤ x1) ∧ (x1 ≤ (65535 : Int)))) : (((x0 + (10 : Int)) + (((2 : Nat) : Nat) : Int)) ≤ x2) := by omega
theorem omg_7793973aaf {x0 : Int} (a0 : ((0 : Int) ≤ x0)) : ((0 : Int) ≤ (x0 + (10 : Int))) := by omega
theorem omg_21dc92fe3c {x0 : Int} {x1 : Int} (a0 : (x0 = x1)) (a1 : (¬ (x0 = (8 : Int)))) : (¬ (x1 = (8 : Int))) := by omega
theorem omg_8d5ab7ecf1 {x0 : Int} {x1 : Int} {x2 : Int} {x3 : Int} {x4 : Int} {x5 : Int} {x6 : Int} {x7 : Int} {x8 : Int} {x9 : Int} {x10 : Int} {x11 : Int} {x12 : Int} {x13 : Int} (a0 : (x0 ≤ x1)) (a1 : (x2 = x3)) (a2 : (x4 = x5)) (a3 : (x6 = x7)) (a4 : (x8 = (x2 + (30 : Int)))) (a5 : (x9 = x6)) (a6 : (x10 = (x8 + x9))) (a7 : (x11 = (x10 + x4))) (a8 : (¬ (x0 < x11))) (a9 : (x12 = x5)) (a10 : (x13 < x12)) : ((((x3 + (30 : Int)) + x7) + x13) < x1) := by omega
theorem omg_82135b0e70 {x0 : Int} {x1 : Int} {x2 : Int} {x3 : Int} (a0 : (((0 : Int) ≤ x0) ∧ (x0 ≤ (65535 : Int)))) (a1 : ((0 : Int) ≤ x1)) (a2 : (x1 = x2)) (a3 : ((0 : Int) ≤ x3)) : ((0 : Int) ≤ (((x2 + (30 : Int)) + x0) + x3)) := by omega
theorem omg_ac743ef307 {x0 : Int} {x1 : Nat} {x2 : Int} {x3 : Int} {x4 : Int} {x5 : Int} {x6 : Int} {x7 : Int} {x8 : Int} (a0 : (x0 ≤ ((x1 : Nat) : Int))) (a1 : (x1 ≤ (100000 : Nat))) (a2 : ((0 : Int) ≤ x2)) (a3 : (x3 = (x2 + (30 : Int)))) (a4 : (x4 = x5)) (a5 : (x6 = (x3 + x4))) (a6 : (x7 = (x6 + x8))) (a7 : (¬ (x0 < x7))) (a8 : (((1 : Int) ≤ x5) ∧ (x5 ≤ (24 : Int)))) : (x8 < (2147483648 : Int)) := by omega
theorem omg_91669a9144 {x0 : Int} {x1 : Nat} {x2 : Int} {x3 : Int} {x4 : Int} (a0 : (x0 ≤ ((x1 : Nat) : Int))) (a1 : (x1 ≤ (100000 : Nat))) (a2 : ((0 : Int) ≤ x2)) (a3 : (x3 = (x4 + x2))) (a4 : (¬ (x0 < x3))) : (x4 < (2147483648 : Int)) := by omega
theorem omg_a37679aa87 {x0 : Int} {x1 : Int} {x2 : Int} {x3 : Int} {x4 : Int} {x5 : Int} (a0 : (((0 : Int) ≤ x0) ∧ (x0 ≤ (65535 : Int)))) (a1 : ((0 : Int) ≤ x1)) (a2 : (x2 = x0)) (a3 : (x3 = (x1 + (30 : Int)))) (a4 : (x4 = x2)) (a5 : (x5 = (x3 + x4))) : ((-(2147483648 : Int)) ≤ x5) := by omega
theorem omg_7070e9f3c5 {x0 : Int} {x1 : Int} {x2 : Nat} {x3 : Int} (a0 : ((0 : Int) ≤ x0)) (a1 : ((x0 + ((46 : Int) + x1)) ≤ ((x2 : Nat) : Int))) (a2 : (x2 ≤ (100000 : Nat))) (a3 : (x3 = x1)) (a4 : (((1 : Int) ≤ x3) ∧ (x3 ≤ (24 : Int)))) : (((-(2147483648 : Int)) ≤ (x0 + (24 : Int))) ∧ ((x0 + (24 : Int)) < (2147483648 : Int))) := by omega
theorem omg_28bf4a5f1e {x0 : Int} {x1 : Int} {x2 : Nat} {x3 : Int} {x4 : Int} {x5 : Int} (a0 : ((x0 + ((46 : Int) + x1)) ≤ ((x2 : Nat) : Int))) (a1 : (((0 : Int) ≤ x3) ∧ (x3 ≤ (65535 : Int)))) (a2 : (x4 = x1)) (a3 : (x4 = x3)) (a4 : (x5 = (x0 + (24 : Int)))) : ((x5 + (4 : Int)) ≤ ((x2 : Nat) : Int)) := by omega
theorem omg_3382fd02fe {x0 : Int} {x1 : Int} (a0 : ((0 : Int) ≤ x0)) (a1 : (x1 = (x0 + (24 : Int)))) : ((0 : Int) ≤ x1) := by omega
theorem omg_a02c705012 {x0 : Int} {x1 : Int} {x2 : Int} (a0 : (((x0 + (46 : Int)) + x1) ≤ x2)) (a1 : (((0 : Int) ≤ x1) ∧ (x1 ≤ (65535 : Int)))) : (((x0 + (24 : Int)) + (((4 : Nat) : Nat) : Int)) ≤ x2) := by omega
theorem omg_56efbf3b2a {x0 : Int} (a0 : ((0 : Int) ≤ x0)) : ((0 : Int) ≤ (x0 + (24 : Int))) := by omega
theorem omg_ac8914fc5e {x0 : Int} {x1 : Int} {x2 : Int} {x3 : Int} {x4 : Int} {x5 : Int} {x6 : Int} {x7 : Int} (a0 : (x0 = x1)) (a1 : (x2 = x1)) (a2 : (x3 = x0)) (a3 : (x4 = x3)) (a4 : (x5 = x6)) (a5 : ((x7 = (0 : Int)) ↔ (x4 = x5))) (a6 : (¬ (x7 = (0 : Int)))) : (¬ (x2 = x6)) := by omega
theorem omg_63435e71db {x0 : Int} {x1 : Int} {x2 : Int} {x3 : Int} {x4 : Int} {x5 : Int} {x6 : Int} (a0 : (((0 : Int) ≤ x0) ∧ (x0 ≤ (65535 : Int)))) (a1 : ((0 : Int) ≤ x1)) (a2 : (x2 = x0)) (a3 : (x3 = (x1 + (30 : Int)))) (a4 : (x4 = x2)) (a5 : (x5 = (x3 + x4))) (a6 : (x6 = x5)) : ((0 : Int) ≤ x6) := by omega
theorem omg_4fdb8e29ac {x0 : Int} {x1 : Nat} {x2 : Int} {x3 : Int} {x4 : Int} {x5 : Int} {x6 : Int} (a0 : (x0 ≤ ((x1 : Nat) : Int))) (a1 : (x2 = (x3 + x4))) (a2 : (¬ (x0 < x2))) (a3 : (x5 = x4)) (a4 : (x6 = x3)) : ((x6 + x5) ≤ ((x1 : Nat) : Int)) := by omega
theorem omg_ec3eb93f73 {x0 : Int} {x1 : Int} {x2 : Int} {x3 : Int} {x4 : Int} {x5 : Int} {x6 : Int} {x7 : Int} (a0 : (x0 = x1)) (a1 : (x2 = x3)) (a2 : (x4 = (x0 + (30 : Int)))) (a3 : (x5 = x2)) (a4 : (x6 = (x4 + x5))) (a5 : (x7 = x6)) : (x7 = ((x1 + (30 : Int)) + x3)) := by omega
theorem omg_ec74ea49f5 {x0 : Int} {x1 : Int} {x2 : Nat} {x3 : Int} (a0 : ((0 : Int) ≤ x0)) (a1 : ((x0 + ((46 : Int) + x1)) ≤ ((x2 : Nat) : Int))) (a2 : (x2 ≤ (100000 : Nat))) (a3 : (x3 = x1)) (a4 : (((1 : Int) ≤ x3) ∧ (x3 ≤ (24 : Int)))) : (((-(2147483648 : Int)) ≤ (x0 + (16 : Int))) ∧ ((x0 + (16 : Int)) < (2147483648 : Int))) := by omega
theorem omg_3ba0b9bcc3 {x0 : Int} {x1 : Int} {x2 : Nat} {x3 : Int} {x4 : Int} {x5 : Int} (a0 : ((x0 + ((46 : Int) + x1)) ≤ ((x2 : Nat) : Int))) (a1 : (((0 : Int) ≤ x3) ∧ (x3 ≤ (65535 : Int)))) (a2 : (x4 = x1)) (a3 : (x4 = x3)) (a4 : (x5 = (x0 + (16 : Int)))) : ((x5 + (4 : Int)) ≤ ((x2 : Nat) : Int)) := by omega
theorem omg_e394ee9c71 {x0 : Int} {x1 : Int} (a0 : ((0 : Int) ≤ x0)) (a1 : (x1 = (x0 + (16 : Int)))) : ((0 : Int) ≤ x1) := by omega
theorem omg_a6aeb68d88 {x0 : Int} {x1 : Int} {x2 : Int} (a0 : (((x0 + (46 : Int)) + x1) ≤ x2)) (a1 : (((0 : Int) ≤ x1) ∧ (x1 ≤ (65535 : Int)))) : (((x0 + (16 : Int)) + (((4 : Nat) : Nat) : Int)) ≤ x2) := by omega
theorem omg_f5c65a0819 {x0 : Int} (a0 : ((0 : Int) ≤ x0)) : ((0 : Int) ≤ (x0 + (16 : Int))) := by omega
theorem omg_6dbb8d8f27 {x0 : Int} {x1 : Int} {x2 : Int} (a0 : ((0 : Int) ≤ x0)) (a1 : (x0 = x1)) (a2 : (x2 = x1)) : ((0 : Int) ≤ x2) := by omega
theorem omg_d5dd2af696 {x0 : Int} {x1 : Int} {x2 : Int} {x3 : Int} {x4 : Int} {x5 : Int} {x6 : Int} (a0 : (x0 = x1)) (a1 : (x2 = x1)) (a2 : (x3 = x0)) (a3 : (x4 = x3)) (a4 : (x5 = x6)) (a5 : (x4 = x5)) : (x2 = x6) := by omega
theorem omg_32d8c4a26d {x0 : Int} {x1 : Int} {x2 : Int} {x3 : Int} {x4 : Int} {x5 : Int} {x6 : Int} {x7 : Int} {x8 : Int} (a0 : (x0 = (-(1 : Int)))) (a1 : (x1 = x2)) (a2 : (x3 = x2)) (a3 : (x4 = x1)) (a4 : ((x4 ≤ (4000 : Int)) ∧ ((((0 : Int) ≤ x0) ∧ ((x0 < x5) ∧ (((x6 - (x7 - x8)) + x4) ≤ (12000 : Int)))) ∨ ((¬ (((0 : Int) ≤ x0) ∧ (x0 < x5))) ∧ ((x5 < (16 : Int)) ∧ ((x6 + x4) ≤ (12000 : Int))))))) : ((x3 ≤ (4000 : Int)) ∧ ((x5 < (16 : Int)) ∧ ((x6 + x3) ≤ (12000 : Int)))) := by omega
theorem omg_11006c29a9 {x0 : Int} {x1 : Int} {x2 : Int} {x3 : Int} {x4 : Int} {x5 : Int} (a0 : (x0 = x1)) (a1 : (x2 = x1)) (a2 : (x3 = x0)) (a3 : ((x2 ≤ (4000 : Int)) ∧ ((x4 < (16 : Int)) ∧ ((x5 + x2) ≤ (12000 : Int))))) : ((x5 + x3) ≤ (12000 : Int)) := by omega
theorem omg_3da21550d8 {x0 : Int} {x1 : Int} {x2 : Int} {x3 : Int} {x4 : Int} {x5 : Int} (a0 : (x0 = x1)) (a1 : (x2 = x1)) (a2 : (x3 = x0)) (a3 : ((x2 ≤ (4000 : Int)) ∧ ((x4 < (16 : Int)) ∧ ((x5 + x2) ≤ (12000 : Int))))) : (x3 ≤ (4000 : Int)) := by omega
theorem omg_ad7376cc2a {x0 : Int} (a0 : (((1 : Int) ≤ x0) ∧ (x0 ≤ (24 : Int)))) : (x0 ≤ (24 : Int)) := by omega
theorem omg_d1061a5251 {x0 : Int} (a0 : (((1 : Int) ≤ x0) ∧ (x0 ≤ (24 : Int)))) : ((1 : Int) ≤ x0) := by omega
theorem omg_4246dfb81c {x0 : Int} {x1 : Int} {x2 : Nat} {x3 : Int} {x4 : Int} (a0 : ((x0 + ((46 : Int) + x1)) ≤ ((x2 : Nat) : Int))) (a1 : (x3 = x1)) (a2 : (x4 = (x0 + (46 : Int)))) : ((x4 + x3) ≤ ((x2 : Nat) : Int)) := by omega
theorem omg_090295931e {x0 : Int} (a0 : (((0 : Int) ≤ x0) ∧ (x0 ≤ (65535 : Int)))) : ((0 : Int) ≤ x0) := by omega
theorem omg_3de9c9e6a5 {x0 : Int} {x1 : Int} {x2 : Int} {x3 : Int} {x4 : Int} {x5 : Int} {x6 : Int} {x7 : Int} {x8 : Int} {x9 : Int} {x10 : Int} {x11 : Int} (a0 : (x0 = (-(1 : Int)))) (a1 : (x1 = x2)) (a2 : (x3 < (0 : Int))) (a3 : (x4 = x2)) (a4 : (x5 = x1)) (a5 : ((x4 ≤ (4000 : Int)) ∧ ((((0 : Int) ≤ x3) ∧ ((x3 < x6) ∧ (((x7 - (x8 - x9)) + x4) ≤ (12000 : Int)))) ∨ ((¬ (((0 : Int) ≤ x3) ∧ (x3 < x6))) ∧ ((x6 < (16 : Int)) ∧ ((x7 + x4) ≤ (12000 : Int))))))) : ((x5 ≤ (4000 : Int)) ∧ ((((0 : Int) ≤ x0) ∧ ((x0 < x6) ∧ (((x7 - (x10 - x11)) + x5) ≤ (12000 : Int)))) ∨ ((¬ (((0 : Int) ≤ x0) ∧ (x0 < x6))) ∧ ((x6 < (16 : Int)) ∧ ((x7 + x5) ≤ (12000 : Int)))))) := by omega
theorem omg_3d63da7797 {x0 : Int} {x1 : Int} {x2 : Int} {x3 : Int} {x4 : Int} (a0 : ((0 : Int) ≤ x0)) (a1 : (x1 = (x0 + (30 : Int)))) (a2 : (x2 = x3)) (a3 : (x4 = (x1 + x2))) (a4 : (((1 : Int) ≤ x3) ∧ (x3 ≤ (24 : Int)))) : ((-(2147483648 : Int)) ≤ x4) := by omega
theorem omg_85863c993a {x0 : Int} {x1 : Int} {x2 : Int} {x3 : Int} {x4 : Int} {x5 : Int} (a0 : ((0 : Int) ≤ x0)) (a1 : (x1 = (x0 + (30 : Int)))) (a2 : (x2 = x3)) (a3 : (x4 = (x1 + x2))) (a4 : (((1 : Int) ≤ x3) ∧ (x3 ≤ (24 : Int)))) (a5 : (x5 = x4)) : ((0 : Int) ≤ x5) := by omega
theorem omg_bef98206d1 {x0 : Int} {x1 : Int} (a0 : (x0 = x1)) (a1 : (x0 = (8 : Int))) : (x1 = (8 : Int)) := by omega
theorem omg_a2e05eedd6 {x0 : Int} {x1 : Int} {x2 : Nat} {x3 : Int} {x4 : Int} (a0 : ((x0 + ((46 : Int) + x1)) ≤ ((x2 : Nat) : Int))) (a1 : (x3 = x1)) (a2 : (((1 : Int) ≤ x3) ∧ (x3 ≤ (24 : Int)))) (a3 : (x4 = (x0 + (24 : Int)))) : ((x4 + (4 : Int)) ≤ ((x2 : Nat) : Int)) := by omega
theorem omg_5c4b4dd867 {x0 : Int} {x1 : Int} {x2 : Int} {x3 : Int} {x4 : Int} {x5 : Int} {x6 : Int} {x7 : Int} {x8 : Int} (a0 : (((x0 = (0 : Int)) ∧ (x1 = x2)) ∨ (((0 : Int) < x0) ∧ (x1 = (-x0))))) (a1 : (x3 = x2)) (a2 : (x4 = x0)) (a3 : (x5 = x1)) (a4 : (x6 = x7)) (a5 : ((x8 = (0 : Int)) ↔ (x5 = x6))) (a6 : (¬ (x8 = (0 : Int)))) (a7 : (x4 = (0 : Int))) : (¬ (x3 = x7)) := by omega
theorem omg_f552e1eb59 {x0 : Int} {x1 : Int} {x2 : Int} {x3 : Int} {x4 : Int} {x5 : Int} (a0 : (((x0 = (0 : Int)) ∧ (x1 = x2)) ∨ (((0 : Int) < x0) ∧ (x1 = (-x0))))) (a1 : (x3 = x0)) (a2 : (x4 = x1)) (a3 : ((0 : Int) ≤ x5)) (a4 : (x4 = x5)) : (x3 = (0 : Int)) := by omega
theorem omg_12405d9101 {x0 : Int} {x1 : Int} {x2 : Int} {x3 : Int} {x4 : Int} (a0 : ((x0 < (0 : Int)) ∨ (x0 = x1))) (a1 : (x2 = x1)) (a2 : (x3 = x0)) (a3 : ((0 : Int) ≤ x4)) (a4 : (x3 = x4)) : (x0 = x2) := by omega
theorem omg_3400f448cc {x0 : Int} {x1 : Int} {x2 : Int} {x3 : Int} (a0 : (x0 = (0 : Int))) (a1 : (x1 ≤ (4000 : Int))) (a2 : (x2 = x1)) (a3 : (x3 = x2)) : ((x0 + x3) ≤ (((4000 : Nat) : Nat) : Int)) := by omega
theorem omg_e59772ea35 {x0 : Int} {x1 : Int} {x2 : Int} (a0 : ((0 : Int) ≤ x0)) (a1 : (x1 = x0)) (a2 : (x2 = x1)) : ((0 : Int) ≤ x2) := by omega
theorem omg_a8ecfa23c7 {x0 : Int} {x1 : Int} {x2 : Nat} {x3 : Int} {x4 : Int} (a0 : ((x0 + ((46 : Int) + x1)) ≤ ((x2 : Nat) : Int))) (a1 : (x3 = x1)) (a2 : (((1 : Int) ≤ x3) ∧ (x3 ≤ (24 : Int)))) (a3 : (x4 = (x0 + (16 : Int)))) : ((x4 + (4 : Int)) ≤ ((x2 : Nat) : Int)) := by omega
theorem omg_f6a3186c42 {x0 : Int} {x1 : Int} {x2 : Int} {x3 : Int} {x4 : Int} {x5 : Int} {x6 : Int} (a0 : (x0 = (-(1 : Int)))) (a1 : (x1 = x2)) (a2 : ((x1 ≤ (4000 : Int)) ∧ ((((0 : Int) ≤ x0) ∧ ((x0 < x3) ∧ (((x4 - (x5 - x6)) + x1) ≤ (12000 : Int)))) ∨ ((¬ (((0 : Int) ≤ x0) ∧ (x0 < x3))) ∧ ((x3 < (16 : Int)) ∧ ((x4 + x1) ≤ (12000 : Int))))))) : ((x2 ≤ (4000 : Int)) ∧ ((x3 < (16 : Int)) ∧ ((x4 + x2) ≤ (12000 : Int)))) := by omega
theorem omg_fef1ddefda {x0 : Int} {x1 : Int} {x2 : Int} {x3 : Int} {x4 : Int} {x5 : Int} {x6 : Int} {x7 : Int} {x8 : Int} {x9 : Int} (a0 : (x0 = (-(1 : Int)))) (a1 : (x1 < (0 : Int))) (a2 : (x2 = x3)) (a3 : ((x3 ≤ (4000 : Int)) ∧ ((((0 : Int) ≤ x1) ∧ ((x1 < x4) ∧ (((x5 - (x6 - x7)) + x3) ≤ (12000 : Int)))) ∨ ((¬ (((0 : Int) ≤ x1) ∧ (x1 < x4))) ∧ ((x4 < (16 : Int)) ∧ ((x5 + x3) ≤ (12000 : Int))))))) : ((x2 ≤ (4000 : Int)) ∧ ((((0 : Int) ≤ x0) ∧ ((x0 < x4) ∧ (((x5 - (x8 - x9)) + x2) ≤ (12000 : Int)))) ∨ ((¬ (((0 : Int) ≤ x0) ∧ (x0 < x4))) ∧ ((x4 < (16 : Int)) ∧ ((x5 + x2) ≤ (12000 : Int)))))) := by omega
theorem d_FileReader_isRecordOf_0 : decode prog_5_method_7_code 0 = .ok (.aload_n 0, 1) := by decide +kernel
theorem d_FileReader_isRecordOf_1 : decode prog_5_method_7_code 1 = .ok (.getfield 9, 3) := by decide +kernel
theorem d_FileReader_isRecordOf_4 : decode prog_5_method_7_code 4 = .ok (.iload_n 2, 1) := by decide +kernel
theorem d_FileReader_isRecordOf_5 : decode prog_5_method_7_code 5 = .ok (.invokestatic 28, 3) := by decide +kernel
theorem d_FileReader_isRecordOf_8 : decode prog_5_method_7_code 8 = .ok (.ldc2_w 85, 3) := by decide +kernel
theorem k_618 : (Jvm.Cond.constantLong "PackageBook$FileReader" (85 : Nat) (67324752 : Int64)) ∈ uW := uW_c2 21 rfl (by decide +kernel)
theorem d_FileReader_isRecordOf_11 : decode prog_5_method_7_code 11 = .ok (.lcmp, 1) := by decide +kernel
theorem d_FileReader_isRecordOf_12 : decode prog_5_method_7_code 12 = .ok (.ifCond .ne 53, 3) := by decide +kernel
theorem d_FileReader_isRecordOf_65 : decode prog_5_method_7_code 65 = .ok (.iconst 0, 1) := by decide +kernel
theorem d_FileReader_isRecordOf_66 : decode prog_5_method_7_code 66 = .ok (.ireturn, 1) := by decide +kernel
theorem d_FileReader_isRecordOf_15 : decode prog_5_method_7_code 15 = .ok (.aload_n 0, 1) := by decide +kernel
theorem d_FileReader_isRecordOf_16 : decode prog_5_method_7_code 16 = .ok (.getfield 9, 3) := by decide +kernel
theorem d_FileReader_isRecordOf_19 : decode prog_5_method_7_code 19 = .ok (.iload_n 1, 1) := by decide +kernel
theorem d_FileReader_isRecordOf_20 : decode prog_5_method_7_code 20 = .ok (.bipush 6, 2) := by decide +kernel
theorem d_FileReader_isRecordOf_22 : decode prog_5_method_7_code 22 = .ok (.iadd, 1) := by decide +kernel
theorem d_FileReader_isRecordOf_23 : decode prog_5_method_7_code 23 = .ok (.aload_n 0, 1) := by decide +kernel
theorem d_FileReader_isRecordOf_24 : decode prog_5_method_7_code 24 = .ok (.getfield 9, 3) := by decide +kernel
theorem d_FileReader_isRecordOf_27 : decode prog_5_method_7_code 27 = .ok (.iload_n 2, 1) := by decide +kernel
theorem d_FileReader_isRecordOf_28 : decode prog_5_method_7_code 28 = .ok (.iconst 4, 1) := by decide +kernel
theorem d_FileReader_isRecordOf_29 : decode prog_5_method_7_code 29 = .ok (.iadd, 1) := by decide +kernel
theorem d_FileReader_isRecordOf_30 : decode prog_5_method_7_code 30 = .ok (.bipush 26, 2) := by decide +kernel
theorem d_FileReader_isRecordOf_32 : decode prog_5_method_7_code 32 = .ok (.invokestatic 87, 3) := by decide +kernel
theorem k_619 : (Jvm.Cond.methodLinkNest "PackageBook$FileReader" (87 : Nat) ({ cls := "PackageBook", name := "isSame", desc := "([BI[BII)Z" } : Jvm.MethodName) "PackageBook") ∈ uN := uN_c2 22 rfl (by decide +kernel)
theorem d_FileReader_isRecordOf_35 : decode prog_5_method_7_code 35 = .ok (.ifCond .eq 30, 3) := by decide +kernel
theorem d_FileReader_isRecordOf_38 : decode prog_5_method_7_code 38 = .ok (.aload_n 0, 1) := by decide +kernel
theorem d_FileReader_isRecordOf_39 : decode prog_5_method_7_code 39 = .ok (.getfield 9, 3) := by decide +kernel
theorem d_FileReader_isRecordOf_42 : decode prog_5_method_7_code 42 = .ok (.iload_n 1, 1) := by decide +kernel
theorem d_FileReader_isRecordOf_43 : decode prog_5_method_7_code 43 = .ok (.bipush 46, 2) := by decide +kernel
theorem d_FileReader_isRecordOf_45 : decode prog_5_method_7_code 45 = .ok (.iadd, 1) := by decide +kernel
theorem d_FileReader_isRecordOf_46 : decode prog_5_method_7_code 46 = .ok (.aload_n 0, 1) := by decide +kernel
theorem d_FileReader_isRecordOf_47 : decode prog_5_method_7_code 47 = .ok (.getfield 9, 3) := by decide +kernel
theorem d_FileReader_isRecordOf_50 : decode prog_5_method_7_code 50 = .ok (.iload_n 2, 1) := by decide +kernel
theorem d_FileReader_isRecordOf_51 : decode prog_5_method_7_code 51 = .ok (.bipush 30, 2) := by decide +kernel
theorem d_FileReader_isRecordOf_53 : decode prog_5_method_7_code 53 = .ok (.iadd, 1) := by decide +kernel
theorem d_FileReader_isRecordOf_54 : decode prog_5_method_7_code 54 = .ok (.iload_n 3, 1) := by decide +kernel
theorem d_FileReader_isRecordOf_55 : decode prog_5_method_7_code 55 = .ok (.invokestatic 87, 3) := by decide +kernel
theorem d_FileReader_isRecordOf_58 : decode prog_5_method_7_code 58 = .ok (.ifCond .eq 7, 3) := by decide +kernel
theorem d_FileReader_isRecordOf_61 : decode prog_5_method_7_code 61 = .ok (.iconst 1, 1) := by decide +kernel
theorem d_FileReader_isRecordOf_62 : decode prog_5_method_7_code 62 = .ok (.goto 4, 3) := by decide +kernel
abbrev y_FileReader_isRecordOf : MethodName := ⟨"PackageBook$FileReader", "isRecordOf", "(III)Z"⟩
abbrev i_FileReader_isRecordOf : pb_I := (y_FileReader_isRecordOf, prog_5_method_7_code, 4, (some Jvm.ClassFile.FieldType.boolean), [], { frames := 2, cells := 0, slots := 0, locals := 42 })
set_option maxRecDepth 100000 in
set_option maxHeartbeats 4000000 in
theorem g_Rd_isRecordOf {l : Launch} (hl : l.stackTraces = false) (G : pb_G) (h : Nat) (b : Nat) (N : Nat) (f : Nat → Int32) (x : Int32) (y : Int32) (n : Int32) (A : Int → Int32) (Zs : Int) (h0 : 0 ≤ x.toInt) (h1 : x.toInt + 46 + n.toInt ≤ N) (h2 : 0 ≤ y.toInt) (h3 : y.toInt + 30 + n.toInt ≤ N) (h4 : 0 ≤ n.toInt) (hN : N ≤ 100000) (hA : ∀ j : Int, 0 ≤ j → j < Zs → A j = gr f j) (hZ : x.toInt + 46 + n.toInt ≤ Zs) (hZ2 : y.toInt + 30 + n.toInt ≤ Zs) (F_f : sb_Fit f) : Cn l G i_FileReader_isRecordOf [.ref h, .int x, .int y, .int n] [(h, .inr (7, [.ref b])), (b, .inl (G.2.1, N, .inl f))] (S := Int32) (fun rv_ u => rv_ = some (.int u) ∧ (u.toInt = 0 ∨ u.toInt = 1) ∧ (u.toInt = 1 → aw A y.toInt 4 = 67324752 ∧ (∀ k : Int, 0 ≤ k → k < 26 → A (x.toInt + 6 + k) = A (y.toInt + 4 + k)) ∧ ∀ k : Int, 0 ≤ k → k < n.toInt → A (x.toInt + 46 + k) = A (y.toInt + 30 + k)) ∧ (u.toInt = 0 → ¬ (aw A y.toInt 4 = 67324752 ∧ (∀ k : Int, 0 ≤ k → k < 26 → A (x.toInt + 6 + k) = A (y.toInt + 4 + k)) ∧ ∀ k : Int, 0 ≤ k → k < n.toInt → A (x.toInt + 46 + k) = A (y.toInt + 30 + k)))) (fun u => [(h, .inr (7, [.ref b])), (b, .inl (G.2.1, N, .inl f))]) := by
  refine Cn.of hl (by decide +kernel) rfl (Nat.le_of_ble_eq_true rfl) (fun M hQ => ?_)
  refine pb_eq (pc' := 0) (lo' := [(0, .ref h), (1, .int x), (2, .int y), (3, .int n)]) (rest' := []) (ws' := [(h, .inr (7, [.ref b])), (b, .inl (G.2.1, N, .inl f))]) ?_
  have zl0 : (0 : Int32).toInt = 0 := by decide
  have zl1 : (1 : Int32).toInt = 1 := by decide
  have zl26 : (26 : Int32).toInt = 26 := by decide
  refine pb_aload_n (pc := 0) d_FileReader_isRecordOf_0 0 rfl rfl ?_
  refine pb_get (pc := 1) d_FileReader_isRecordOf_1 0 0 rfl rfl (by decide) in_FileReader k_306 rfl ?_
  refine pb_iload_n (pc := 4) d_FileReader_isRecordOf_4 2 rfl rfl ?_
  refine pb_callSN (pc := 5) (I := i_FileReader_isRecordOf) (nA := 2) (rest := []) (wr := [(h, .inr (7, [.ref b]))]) d_FileReader_isRecordOf_5 (g_fourAt hl G b N f y (by first | (with_reducible assumption) | omega (splitDisjunctions := false) | assumption | omega | decide) (by first | (with_reducible assumption) | omega (splitDisjunctions := false) | assumption | omega | decide) (by first | (with_reducible assumption) | omega (splitDisjunctions := false) | assumption | omega | decide) F_f) [1] [0] (by decide) rfl rfl rfl (by decide) (by decide) k_594 rfl k_118 k_592 k_593 hy_Book_fourAt (by decide) rfl rfl (Nat.le_of_ble_eq_true rfl) (by decide) (fun v9 u2 ch1 => ?_)
  obtain ⟨r_3, rfl⟩ : ∃ z9, z9 = u2 := ⟨_, rfl⟩
  obtain ⟨ech1, ch1⟩ := ch1
  have ech1 : v9 = some (.long r_3) := ech1
  subst ech1
  obtain ⟨fh4, fh5, fh6⟩ : (0 ≤ r_3.toInt) ∧ (r_3.toInt < 4294967296) ∧ (r_3.toInt = av f y.toInt 4) := ch1
  have u0 : r_3.toInt = aw A (y.toInt) 4 := by rw [fh6]; exact av_A hA 4 (by omega) (by omega)
  refine pb_eq (pc' := 8) (lo' := [(0, .ref h), (1, .int x), (2, .int y), (3, .int n)]) (rest' := [.long r_3]) (ws' := [(h, .inr (7, [.ref b])), (b, .inl (G.2.1, N, .inl f))]) ?_
  refine pb_ldc2 (pc := 8) (v := 67324752) d_FileReader_isRecordOf_8 k_618 ?_
  refine pb_lcmp (pc := 11) d_FileReader_isRecordOf_11 ?_
  refine pb_topi (fun i7 ei7 => ?_)
  have ti7 : (i7.toInt < 0 ↔ r_3.toInt < 67324752) ∧ (i7.toInt = 0 ↔ r_3.toInt = 67324752) ∧ (0 < i7.toInt ↔ 67324752 < r_3.toInt) := tl_cmp ei7 rfl (by decide)
  refine pb_if_ne (pc := 12) (tgt := 65) d_FileReader_isRecordOf_12 (by decide) (fun w8 => ?_) (fun w8 => ?_)
  · have tw8 : ¬ i7.toInt = 0 := fun z9 => w8 ((ti_eq rfl (by decide)).mpr z9)
    refine pb_iconst (pc := 65) (v := 0) d_FileReader_isRecordOf_65 (by decide) ?_
    exact pb_iret (pc := 66) hQ d_FileReader_isRecordOf_66 rfl rfl (0) ⟨rfl, (by (try dsimp only); first | done | (with_reducible assumption) | omega (splitDisjunctions := false) | assumption | omega | decide), (show (0 : Int32).toInt = 1 → aw A y.toInt 4 = 67324752 ∧ (∀ k : Int, 0 ≤ k → k < 26 → A (x.toInt + 6 + k) = A (y.toInt + 4 + k)) ∧ ∀ k : Int, 0 ≤ k → k < n.toInt → A (x.toInt + 46 + k) = A (y.toInt + 30 + k) from (by first | exact fun q9 => absurd q9 (by decide) | exact fun _ => ⟨by omega, sm_A hA (s1 (by omega)) (by omega) (by omega) (by omega) (by omega) (by omega) (by omega) (by omega), sm_A hA (s2 (by omega)) (by omega) (by omega) (by omega) (by omega) (by omega) (by omega) (by omega)⟩)), (show (0 : Int32).toInt = 0 → ¬ (aw A y.toInt 4 = 67324752 ∧ (∀ k : Int, 0 ≤ k → k < 26 → A (x.toInt + 6 + k) = A (y.toInt + 4 + k)) ∧ ∀ k : Int, 0 ≤ k → k < n.toInt → A (x.toInt + 46 + k) = A (y.toInt + 30 + k)) from (by first | exact fun q9 => absurd q9 (by decide) | exact fun _ q9 => sm_N hA (n2 (by omega)) (by omega) (by omega) (by omega) (by omega) (by omega) (by omega) (by omega) q9.2.2 | exact fun _ q9 => sm_N hA (n1 (by omega)) (by omega) (by omega) (by omega) (by omega) (by omega) (by omega) (by omega) q9.2.1 | exact fun _ q9 => absurd q9.1 (by omega)))⟩ [0, 1] (by decide) rfl rfl (by decide) (by decide)
  · have tw8 : i7.toInt = 0 := (ti_eq rfl (by decide)).mp w8
    refine pb_aload_n (pc := 15) d_FileReader_isRecordOf_15 0 rfl rfl ?_
    refine pb_get (pc := 16) d_FileReader_isRecordOf_16 0 0 rfl rfl (by decide) in_FileReader k_306 rfl ?_
    refine pb_iload_n (pc := 19) d_FileReader_isRecordOf_19 1 rfl rfl ?_
    refine pb_bipush (pc := 20) (v := 6) d_FileReader_isRecordOf_20 (by decide) ?_
    refine pb_iadd (pc := 22) d_FileReader_isRecordOf_22 ?_
    refine pb_topi (fun i9 ei9 => ?_)
    try have ti9 : i9.toInt = x.toInt + 6 := t2_add ei9 rfl (by decide) (by omega)
    refine pb_aload_n (pc := 23) d_FileReader_isRecordOf_23 0 rfl rfl ?_
    refine pb_get (pc := 24) d_FileReader_isRecordOf_24 0 0 rfl rfl (by decide) in_FileReader k_306 rfl ?_
    refine pb_iload_n (pc := 27) d_FileReader_isRecordOf_27 2 rfl rfl ?_
    refine pb_iconst (pc := 28) (v := 4) d_FileReader_isRecordOf_28 (by decide) ?_
    refine pb_iadd (pc := 29) d_FileReader_isRecordOf_29 ?_
    refine pb_topi (fun i10 ei10 => ?_)
    try have ti10 : i10.toInt = y.toInt + 4 := t2_add ei10 rfl (by decide) (by omega)
    refine pb_bipush (pc := 30) (v := 26) d_FileReader_isRecordOf_30 (by decide) ?_
    refine pb_callSN (pc := 32) (I := i_FileReader_isRecordOf) (nA := 5) (rest := []) (wr := [(h, .inr (7, [.ref b]))]) d_FileReader_isRecordOf_32 (g_isSame1 hl G b N f i9 i10 26 (by first | (with_reducible assumption) | omega (splitDisjunctions := false) | assumption | omega | decide) (by first | (with_reducible assumption) | omega (splitDisjunctions := false) | assumption | omega | decide) (by first | (with_reducible assumption) | omega (splitDisjunctions := false) | assumption | omega | decide) (by first | (with_reducible assumption) | omega (splitDisjunctions := false) | assumption | omega | decide) (by first | (with_reducible assumption) | omega (splitDisjunctions := false) | assumption | omega | decide) (by first | (with_reducible assumption) | omega (splitDisjunctions := false) | assumption | omega | decide) F_f) [1] [0] (by decide) rfl rfl rfl (by decide) (by decide) k_465 rfl k_118 k_619 k_464 hy_Book_isSame (by decide) rfl rfl (Nat.le_of_ble_eq_true rfl) (by decide) (fun v9 u12 ch11 => ?_)
    obtain ⟨r_13, rfl⟩ : ∃ z9, z9 = u12 := ⟨_, rfl⟩
    obtain ⟨ech11, ch11⟩ := ch11
    have ech11 : v9 = some (.int r_13) := ech11
    subst ech11
    obtain ⟨fh14, fh15, fh16⟩ : (r_13.toInt = 0 ∨ r_13.toInt = 1) ∧ (r_13.toInt = 1 → ∀ j : Int, 0 ≤ j → j < (26 : Int32).toInt → gx f (i9.toInt + j) = gx f (i10.toInt + j)) ∧ (r_13.toInt = 0 → ¬ (∀ j : Int, 0 ≤ j → j < (26 : Int32).toInt → gx f (i9.toInt + j) = gx f (i10.toInt + j))) := ch11
    have s1 := fh15
    have n1 := fh16
    refine pb_eq (pc' := 35) (lo' := [(0, .ref h), (1, .int x), (2, .int y), (3, .int n)]) (rest' := [.int r_13]) (ws' := [(h, .inr (7, [.ref b])), (b, .inl (G.2.1, N, .inl f))]) ?_
    refine pb_if_eq (pc := 35) (tgt := 65) d_FileReader_isRecordOf_35 (by decide) (fun w17 => ?_) (fun w17 => ?_)
    · have tw17 : r_13.toInt = 0 := (ti_eq rfl (by decide)).mp w17
      refine pb_iconst (pc := 65) (v := 0) d_FileReader_isRecordOf_65 (by decide) ?_
      exact pb_iret (pc := 66) hQ d_FileReader_isRecordOf_66 rfl rfl (0) ⟨rfl, (by (try dsimp only); first | done | (with_reducible assumption) | omega (splitDisjunctions := false) | assumption | (have y90 := fh16 tw17; have y91 := n1 tw17; clear fh15 fh16 s1 n1; first | omega (splitDisjunctions := false) | omega) | omega | decide), (show (0 : Int32).toInt = 1 → aw A y.toInt 4 = 67324752 ∧ (∀ k : Int, 0 ≤ k → k < 26 → A (x.toInt + 6 + k) = A (y.toInt + 4 + k)) ∧ ∀ k : Int, 0 ≤ k → k < n.toInt → A (x.toInt + 46 + k) = A (y.toInt + 30 + k) from (by first | exact fun q9 => absurd q9 (by decide) | exact fun _ => ⟨by omega, sm_A hA (s1 (by omega)) (by omega) (by omega) (by omega) (by omega) (by omega) (by omega) (by omega), sm_A hA (s2 (by omega)) (by omega) (by omega) (by omega) (by omega) (by omega) (by omega) (by omega)⟩)), (show (0 : Int32).toInt = 0 → ¬ (aw A y.toInt 4 = 67324752 ∧ (∀ k : Int, 0 ≤ k → k < 26 → A (x.toInt + 6 + k) = A (y.toInt + 4 + k)) ∧ ∀ k : Int, 0 ≤ k → k < n.toInt → A (x.toInt + 46 + k) = A (y.toInt + 30 + k)) from (by first | exact fun q9 => absurd q9 (by decide) | exact fun _ q9 => sm_N hA (n2 (by omega)) (by omega) (by omega) (by omega) (by omega) (by omega) (by omega) (by omega) q9.2.2 | exact fun _ q9 => sm_N hA (n1 (by omega)) (by omega) (by omega) (by omega) (by omega) (by omega) (by omega) (by omega) q9.2.1 | exact fun _ q9 => absurd q9.1 (by omega)))⟩ [0, 1] (by decide) rfl rfl (by decide) (by decide)
    · have tw17 : ¬ r_13.toInt = 0 := fun z9 => w17 ((ti_eq rfl (by decide)).mpr z9)
      refine pb_aload_n (pc := 38) d_FileReader_isRecordOf_38 0 rfl rfl ?_
      refine pb_get (pc := 39) d_FileReader_isRecordOf_39 0 0 rfl rfl (by decide) in_FileReader k_306 rfl ?_
      refine pb_iload_n (pc := 42) d_FileReader_isRecordOf_42 1 rfl rfl ?_
      refine pb_bipush (pc := 43) (v := 46) d_FileReader_isRecordOf_43 (by decide) ?_
      refine pb_iadd (pc := 45) d_FileReader_isRecordOf_45 ?_
      refine pb_topi (fun i18 ei18 => ?_)
      try have ti18 : i18.toInt = x.toInt + 46 := t2_add ei18 rfl (by decide) (by omega)
      refine pb_aload_n (pc := 46) d_FileReader_isRecordOf_46 0 rfl rfl ?_
      refine pb_get (pc := 47) d_FileReader_isRecordOf_47 0 0 rfl rfl (by decide) in_FileReader k_306 rfl ?_
      refine pb_iload_n (pc := 50) d_FileReader_isRecordOf_50 2 rfl rfl ?_
      refine pb_bipush (pc := 51) (v := 30) d_FileReader_isRecordOf_51 (by decide) ?_
      refine pb_iadd (pc := 53) d_FileReader_isRecordOf_53 ?_
      refine pb_topi (fun i19 ei19 => ?_)
      try have ti19 : i19.toInt = y.toInt + 30 := t2_add ei19 rfl (by decide) (by omega)
      refine pb_iload_n (pc := 54) d_FileReader_isRecordOf_54 3 rfl rfl ?_
      refine pb_callSN (pc := 55) (I := i_FileReader_isRecordOf) (nA := 5) (rest := []) (wr := [(h, .inr (7, [.ref b]))]) d_FileReader_isRecordOf_55 (g_isSame1 hl G b N f i18 i19 n (by first | (with_reducible assumption) | omega (splitDisjunctions := false) | assumption | (clear fh15 fh16 s1 n1; first | omega (splitDisjunctions := false) | omega) | omega | decide) (by first | (with_reducible assumption) | omega (splitDisjunctions := false) | assumption | (clear fh15 fh16 s1 n1; first | omega (splitDisjunctions := false) | omega) | omega | decide) (by first | (with_reducible assumption) | omega (splitDisjunctions := false) | assumption | (clear fh15 fh16 s1 n1; first | omega (splitDisjunctions := false) | omega) | omega | decide) (by first | (with_reducible assumption) | omega (splitDisjunctions := false) | assumption | (clear fh15 fh16 s1 n1; first | omega (splitDisjunctions := false) | omega) | omega | decide) (by first | (with_reducible assumption) | omega (splitDisjunctions := false) | assumption | (clear fh15 fh16 s1 n1; first | omega (splitDisjunctions := false) | omega) | omega | decide) (by first | (with_reducible assumption) | omega (splitDisjunctions := false) | assumption | (clear fh15 fh16 s1 n1; first | omega (splitDisjunctions := false) | omega) | omega | decide) F_f) [1] [0] (by decide) rfl rfl rfl (by decide) (by decide) k_465 rfl k_118 k_619 k_464 hy_Book_isSame (by decide) rfl rfl (Nat.le_of_ble_eq_true rfl) (by decide) (fun v9 u21 ch20 => ?_)
      obtain ⟨r_22, rfl⟩ : ∃ z9, z9 = u21 := ⟨_, rfl⟩
      obtain ⟨ech20, ch20⟩ := ch20
      have ech20 : v9 = some (.int r_22) := ech20
      subst ech20
      obtain ⟨fh23, fh24, fh25⟩ : (r_22.toInt = 0 ∨ r_22.toInt = 1) ∧ (r_22.toInt = 1 → ∀ j : Int, 0 ≤ j → j < n.toInt → gx f (i18.toInt + j) = gx f (i19.toInt + j)) ∧ (r_22.toInt = 0 → ¬ (∀ j : Int, 0 ≤ j → j < n.toInt → gx f (i18.toInt + j) = gx f (i19.toInt + j))) := ch20
      have s2 := fh24
      have n2 := fh25
      refine pb_eq (pc' := 58) (lo' := [(0, .ref h), (1, .int x), (2, .int y), (3, .int n)]) (rest' := [.int r_22]) (ws' := [(h, .inr (7, [.ref b])), (b, .inl (G.2.1, N, .inl f))]) ?_
      refine pb_if_eq (pc := 58) (tgt := 65) d_FileReader_isRecordOf_58 (by decide) (fun w26 => ?_) (fun w26 => ?_)
      · have tw26 : r_22.toInt = 0 := (ti_eq rfl (by decide)).mp w26
        refine pb_iconst (pc := 65) (v := 0) d_FileReader_isRecordOf_65 (by decide) ?_
        exact pb_iret (pc := 66) hQ d_FileReader_isRecordOf_66 rfl rfl (0) ⟨rfl, (by (try dsimp only); first | done | (with_reducible assumption) | omega (splitDisjunctions := false) | assumption | (have y90 := fh25 tw26; have y91 := n2 tw26; clear fh15 fh16 s1 n1 fh24 fh25 s2 n2; first | omega (splitDisjunctions := false) | omega) | omega | decide), (show (0 : Int32).toInt = 1 → aw A y.toInt 4 = 67324752 ∧ (∀ k : Int, 0 ≤ k → k < 26 → A (x.toInt + 6 + k) = A (y.toInt + 4 + k)) ∧ ∀ k : Int, 0 ≤ k → k < n.toInt → A (x.toInt + 46 + k) = A (y.toInt + 30 + k) from (by first | exact fun q9 => absurd q9 (by decide) | exact fun _ => ⟨by omega, sm_A hA (s1 (by omega)) (by omega) (by omega) (by omega) (by omega) (by omega) (by omega) (by omega), sm_A hA (s2 (by omega)) (by omega) (by omega) (by omega) (by omega) (by omega) (by omega) (by omega)⟩)), (show (0 : Int32).toInt = 0 → ¬ (aw A y.toInt 4 = 67324752 ∧ (∀ k : Int, 0 ≤ k → k < 26 → A (x.toInt + 6 + k) = A (y.toInt + 4 + k)) ∧ ∀ k : Int, 0 ≤ k → k < n.toInt → A (x.toInt + 46 + k) = A (y.toInt + 30 + k)) from (by first | exact fun q9 => absurd q9 (by decide) | exact fun _ q9 => sm_N hA (n2 (by omega)) (by omega) (by omega) (by omega) (by omega) (by omega) (by omega) (by omega) q9.2.2 | exact fun _ q9 => sm_N hA (n1 (by omega)) (by omega) (by omega) (by omega) (by omega) (by omega) (by omega) (by omega) q9.2.1 | exact fun _ q9 => absurd q9.1 (by omega)))⟩ [0, 1] (by decide) rfl rfl (by decide) (by decide)
      · have tw26 : ¬ r_22.toInt = 0 := fun z9 => w26 ((ti_eq rfl (by decide)).mpr z9)
        refine pb_iconst (pc := 61) (v := 1) d_FileReader_isRecordOf_61 (by decide) ?_
        refine pb_goto (pc := 62) (tgt := 66) d_FileReader_isRecordOf_62 (by decide) ?_
        exact pb_iret (pc := 66) hQ d_FileReader_isRecordOf_66 rfl rfl (1) ⟨rfl, (by (try dsimp only); first | done | (with_reducible assumption) | omega (splitDisjunctions := false) | assumption | (clear fh15 fh16 s1 n1 fh24 fh25 s2 n2; first | omega (splitDisjunctions := false) | omega) | omega | decide), (show (1 : Int32).toInt = 1 → aw A y.toInt 4 = 67324752 ∧ (∀ k : Int, 0 ≤ k → k < 26 → A (x.toInt + 6 + k) = A (y.toInt + 4 + k)) ∧ ∀ k : Int, 0 ≤ k → k < n.toInt → A (x.toInt + 46 + k) = A (y.toInt + 30 + k) from (by first | exact fun q9 => absurd q9 (by decide) | exact fun _ => ⟨by (exact omg_023da655ef u0 ti7 tw8), sm_A hA (s1 (by (exact omg_d9c3f42b32 fh14 tw17))) (by omega) (by omega) (by omega) (by omega) (by omega) (by omega) (by omega), sm_A hA (s2 (by (exact omg_d9c3f42b32 fh23 tw26))) (by omega) (by omega) (by omega) (by omega) (by omega) (by omega) (by omega)⟩)), (show (1 : Int32).toInt = 0 → ¬ (aw A y.toInt 4 = 67324752 ∧ (∀ k : Int, 0 ≤ k → k < 26 → A (x.toInt + 6 + k) = A (y.toInt + 4 + k)) ∧ ∀ k : Int, 0 ≤ k → k < n.toInt → A (x.toInt + 46 + k) = A (y.toInt + 30 + k)) from (by first | exact fun q9 => absurd q9 (by decide) | exact fun _ q9 => sm_N hA (n2 (by omega)) (by omega) (by omega) (by omega) (by omega) (by omega) (by omega) (by omega) q9.2.2 | exact fun _ q9 => sm_N hA (n1 (by omega)) (by omega) (by omega) (by omega) (by omega) (by omega) (by omega) (by omega) q9.2.1 | exact fun _ q9 => absurd q9.1 (by omega)))⟩ [0, 1] (by decide) rfl rfl (by decide) (by decide)

theorem d_FileReader_isDirectory_0 : decode prog_5_method_4_code 0 = .ok (.iload_n 1, 1) := by decide +kernel
theorem d_FileReader_isDirectory_1 : decode prog_5_method_4_code 1 = .ok (.istore 4, 2) := by decide +kernel
theorem d_FileReader_isDirectory_3 : decode prog_5_method_4_code 3 = .ok (.iconst 0, 1) := by decide +kernel
theorem d_FileReader_isDirectory_4 : decode prog_5_method_4_code 4 = .ok (.istore 5, 2) := by decide +kernel
theorem d_FileReader_isDirectory_6 : decode prog_5_method_4_code 6 = .ok (.iload 5, 2) := by decide +kernel
theorem d_FileReader_isDirectory_8 : decode prog_5_method_4_code 8 = .ok (.iload_n 3, 1) := by decide +kernel
theorem d_FileReader_isDirectory_9 : decode prog_5_method_4_code 9 = .ok (.if_icmp .ge 49, 3) := by decide +kernel
theorem d_FileReader_isDirectory_58 : decode prog_5_method_4_code 58 = .ok (.iload 4, 2) := by decide +kernel
theorem d_FileReader_isDirectory_60 : decode prog_5_method_4_code 60 = .ok (.iload_n 2, 1) := by decide +kernel
theorem d_FileReader_isDirectory_61 : decode prog_5_method_4_code 61 = .ok (.if_icmp .ne 7, 3) := by decide +kernel
theorem d_FileReader_isDirectory_68 : decode prog_5_method_4_code 68 = .ok (.iconst 0, 1) := by decide +kernel
theorem d_FileReader_isDirectory_69 : decode prog_5_method_4_code 69 = .ok (.ireturn, 1) := by decide +kernel
theorem d_FileReader_isDirectory_64 : decode prog_5_method_4_code 64 = .ok (.iconst 1, 1) := by decide +kernel
theorem d_FileReader_isDirectory_65 : decode prog_5_method_4_code 65 = .ok (.goto 4, 3) := by decide +kernel
theorem d_FileReader_isDirectory_12 : decode prog_5_method_4_code 12 = .ok (.iload_n 2, 1) := by decide +kernel
theorem d_FileReader_isDirectory_13 : decode prog_5_method_4_code 13 = .ok (.iload 4, 2) := by decide +kernel
theorem d_FileReader_isDirectory_15 : decode prog_5_method_4_code 15 = .ok (.isub, 1) := by decide +kernel
theorem d_FileReader_isDirectory_16 : decode prog_5_method_4_code 16 = .ok (.bipush 46, 2) := by decide +kernel
theorem d_FileReader_isDirectory_18 : decode prog_5_method_4_code 18 = .ok (.if_icmp .lt 12, 3) := by decide +kernel
theorem d_FileReader_isDirectory_30 : decode prog_5_method_4_code 30 = .ok (.iconst 0, 1) := by decide +kernel
theorem d_FileReader_isDirectory_31 : decode prog_5_method_4_code 31 = .ok (.ireturn, 1) := by decide +kernel
theorem d_FileReader_isDirectory_21 : decode prog_5_method_4_code 21 = .ok (.aload_n 0, 1) := by decide +kernel
theorem d_FileReader_isDirectory_22 : decode prog_5_method_4_code 22 = .ok (.iload 4, 2) := by decide +kernel
theorem d_FileReader_isDirectory_24 : decode prog_5_method_4_code 24 = .ok (.invokevirtual 42, 3) := by decide +kernel
theorem k_604 : (Jvm.Cond.methodLink "PackageBook$FileReader" (42 : Nat) ({ cls := "PackageBook$FileReader", name := "isEntry", desc := "(I)Z" } : Jvm.MethodName)) ∈ uW := uW_c2 7 rfl (by decide +kernel)
theorem k_607 : (Jvm.Cond.code ({ cls := "PackageBook$FileReader", name := "isEntry", desc := "(I)Z" } : Jvm.MethodName) prog_5_method_5_code (3 : Nat) (Option.some Jvm.ClassFile.FieldType.boolean)) ∈ uW := uW_c2 10 rfl (by decide +kernel)
theorem k_606 : (Jvm.Cond.instanceMethod ({ cls := "PackageBook$FileReader", name := "isEntry", desc := "(I)Z" } : Jvm.MethodName)) ∈ uW := uW_c2 9 rfl (by decide +kernel)
theorem k_14 : Cond.selects "PackageBook$FileReader" ⟨"PackageBook$FileReader", "isEntry", "(I)Z"⟩ ⟨"PackageBook$FileReader", "isEntry", "(I)Z"⟩ ∈ uW := uW_of 14 (by decide +kernel) (by decide +kernel)
theorem hy_FileReader_isEntry : (y_FileReader_isEntry).cls ≠ "java/lang/invoke/MethodHandle" ∧ (y_FileReader_isEntry).cls ≠ "java/lang/invoke/VarHandle" ∧ (parseMethodDescriptor (y_FileReader_isEntry).desc).map (fun d => d.parameters.length) = some 1 := by decide +kernel
theorem d_FileReader_isDirectory_27 : decode prog_5_method_4_code 27 = .ok (.ifCond .ne 5, 3) := by decide +kernel
theorem d_FileReader_isDirectory_32 : decode prog_5_method_4_code 32 = .ok (.iload 4, 2) := by decide +kernel
theorem d_FileReader_isDirectory_34 : decode prog_5_method_4_code 34 = .ok (.bipush 46, 2) := by decide +kernel
theorem d_FileReader_isDirectory_36 : decode prog_5_method_4_code 36 = .ok (.aload_n 0, 1) := by decide +kernel
theorem d_FileReader_isDirectory_37 : decode prog_5_method_4_code 37 = .ok (.getfield 9, 3) := by decide +kernel
theorem d_FileReader_isDirectory_40 : decode prog_5_method_4_code 40 = .ok (.iload 4, 2) := by decide +kernel
theorem d_FileReader_isDirectory_42 : decode prog_5_method_4_code 42 = .ok (.bipush 28, 2) := by decide +kernel
theorem d_FileReader_isDirectory_44 : decode prog_5_method_4_code 44 = .ok (.iadd, 1) := by decide +kernel
theorem d_FileReader_isDirectory_45 : decode prog_5_method_4_code 45 = .ok (.invokestatic 24, 3) := by decide +kernel
theorem d_FileReader_isDirectory_48 : decode prog_5_method_4_code 48 = .ok (.iadd, 1) := by decide +kernel
theorem d_FileReader_isDirectory_49 : decode prog_5_method_4_code 49 = .ok (.iadd, 1) := by decide +kernel
theorem d_FileReader_isDirectory_50 : decode prog_5_method_4_code 50 = .ok (.istore 4, 2) := by decide +kernel
theorem d_FileReader_isDirectory_52 : decode prog_5_method_4_code 52 = .ok (.iinc 5 1, 3) := by decide +kernel
theorem d_FileReader_isDirectory_55 : decode prog_5_method_4_code 55 = .ok (.goto (-49), 3) := by decide +kernel
abbrev y_FileReader_isDirectory : MethodName := ⟨"PackageBook$FileReader", "isDirectory", "(III)Z"⟩
abbrev i_FileReader_isDirectory : pb_I := (y_FileReader_isDirectory, prog_5_method_4_code, 6, (some Jvm.ClassFile.FieldType.boolean), [], { frames := 3, cells := 0, slots := 0, locals := 64 })
set_option maxRecDepth 100000 in
set_option maxHeartbeats 4000000 in
theorem g_Rd_isDirectory {l : Launch} (hl : l.stackTraces = false) (G : pb_G) (h : Nat) (b : Nat) (N : Nat) (f : Nat → Int32) (x : Int32) (e : Int32) (n : Int32) (D : Int) (A : Int → Int32) (Zs : Int) (hD : x.toInt = D) (h0 : 0 ≤ x.toInt) (h1 : e.toInt ≤ N) (h2 : 0 ≤ n.toInt) (h3 : x.toInt ≤ e.toInt) (hN : N ≤ 100000) (hA : ∀ j : Int, 0 ≤ j → j < Zs → A j = gr f j) (hZ : e.toInt ≤ Zs) (F_f : sb_Fit f) : Cn l G i_FileReader_isDirectory [.ref h, .int x, .int e, .int n] [(h, .inr (7, [.ref b])), (b, .inl (G.2.1, N, .inl f))] (S := Int32) (fun rv_ u => rv_ = some (.int u) ∧ (u.toInt = 0 ∨ u.toInt = 1) ∧ (u.toInt = 1 → dp f D n.toInt = e.toInt ∧ ∀ j : Int, 0 ≤ j → j < n.toInt → dp f D j + 46 ≤ e.toInt) ∧ (u.toInt = 1 → dy_ A D e.toInt n.toInt.toNat) ∧ (u.toInt = 0 → ¬ dy_ A D e.toInt n.toInt.toNat)) (fun u => [(h, .inr (7, [.ref b])), (b, .inl (G.2.1, N, .inl f))]) := by
  refine Cn.of hl (by decide +kernel) rfl (Nat.le_of_ble_eq_true rfl) (fun M hQ => ?_)
  refine pb_eq (pc' := 0) (lo' := [(0, .ref h), (1, .int x), (2, .int e), (3, .int n)]) (rest' := []) (ws' := [(h, .inr (7, [.ref b])), (b, .inl (G.2.1, N, .inl f))]) ?_
  have zl0 : (0 : Int32).toInt = 0 := by decide
  have zl1 : (1 : Int32).toInt = 1 := by decide
  have zl46 : (46 : Int32).toInt = 46 := by decide
  have rn := ti_rng n
  refine pb_iload_n (pc := 0) d_FileReader_isDirectory_0 1 rfl rfl ?_
  refine pb_istore (pc := 1) (lo' := [(4, .int x), (0, .ref h), (1, .int x), (2, .int e), (3, .int n)]) d_FileReader_isDirectory_1 (by decide) rfl ?_
  refine pb_iconst (pc := 3) (v := 0) d_FileReader_isDirectory_3 (by decide) ?_
  refine pb_istore (pc := 4) (lo' := [(5, .int 0), (4, .int x), (0, .ref h), (1, .int x), (2, .int e), (3, .int n)]) d_FileReader_isDirectory_4 (by decide) rfl ?_
  have hL6_1 : ∀ (N9 : Nat) (k : Int32) (a : Int32), (0 ≤ k.toInt) → (k.toInt ≤ n.toInt) → (a.toInt = dp f D k.toInt) → (D ≤ a.toInt) → (a.toInt ≤ e.toInt + 65600) → (∀ j : Int, 0 ≤ j → j < k.toInt → dp f D j + 46 ≤ e.toInt) → (a.toInt = dz A D k.toInt.toNat) → (∀ j : Nat, j < k.toInt.toNat → dz A D j + 46 ≤ e.toInt ∧ ey_ A (dz A D j)) → ((n.toInt - k.toInt).toNat) < N9 → pb_P l G M i_FileReader_isDirectory 6 [(5, .int k), (4, .int a), (0, .ref h), (1, .int x), (2, .int e), (3, .int n)] [] [(h, .inr (7, [.ref b])), (b, .inl (G.2.1, N, .inl f))] 0 0 := by
    intro N9
    induction N9 with
    | zero => intro k a hk hk2 ha ha1 ha2 hj hz hy hm9; exact absurd hm9 (Nat.not_lt_zero _)
    | succ N9 ih6 =>
      intro k a hk hk2 ha ha1 ha2 hj hz hy hm9
      refine pb_iload (pc := 6) d_FileReader_isDirectory_6 0 rfl ?_
      refine pb_iload_n (pc := 8) d_FileReader_isDirectory_8 5 rfl rfl ?_
      refine pb_icmp_ge (pc := 9) (tgt := 58) d_FileReader_isDirectory_9 (by decide) (fun w2 => ?_) (fun w2 => ?_)
      · have tw2 : n.toInt ≤ k.toInt := (ti_le rfl rfl).mp w2
        refine pb_iload (pc := 58) d_FileReader_isDirectory_58 1 rfl ?_
        refine pb_iload_n (pc := 60) d_FileReader_isDirectory_60 4 rfl rfl ?_
        refine pb_icmp_ne (pc := 61) (tgt := 68) d_FileReader_isDirectory_61 (by decide) (fun w3 => ?_) (fun w3 => ?_)
        · have tw3 : ¬ a.toInt = e.toInt := fun z9 => w3 ((ti_eq rfl rfl).mpr z9)
          refine pb_iconst (pc := 68) (v := 0) d_FileReader_isDirectory_68 (by decide) ?_
          exact pb_iret (pc := 69) hQ d_FileReader_isDirectory_69 rfl rfl (0) ⟨rfl, (by (try dsimp only); first | done | (with_reducible assumption) | omega (splitDisjunctions := false) | assumption | omega | decide), (show (0 : Int32).toInt = 1 → dp f D n.toInt = e.toInt ∧ ∀ j : Int, 0 ≤ j → j < n.toInt → dp f D j + 46 ≤ e.toInt from (by first | exact fun h9 => absurd h9 (by omega) | exact fun _ => by have hkn : k.toInt = n.toInt := (by omega); rw [hkn] at ha hj; exact ⟨by omega, hj⟩)), (show (0 : Int32).toInt = 1 → dy_ A D e.toInt n.toInt.toNat from (by first | exact fun h9 => absurd h9 (by decide) | exact fun _ => ⟨fun j h9 => hy j (by omega), by rw [show n.toInt.toNat = k.toInt.toNat by omega, ← hz]; omega⟩)), (show (0 : Int32).toInt = 0 → ¬ dy_ A D e.toInt n.toInt.toNat from (by first | exact fun h9 => absurd h9 (by decide) | exact fun _ q9 => (by have q8 := q9.2; rw [show n.toInt.toNat = k.toInt.toNat by (exact omg_da822fc3fa hk2 tw2), ← hz] at q8; omega)))⟩ [0, 1] (by decide) rfl rfl (by decide) (by decide)
        · have tw3 : a.toInt = e.toInt := (ti_eq rfl rfl).mp w3
          refine pb_iconst (pc := 64) (v := 1) d_FileReader_isDirectory_64 (by decide) ?_
          refine pb_goto (pc := 65) (tgt := 69) d_FileReader_isDirectory_65 (by decide) ?_
          exact pb_iret (pc := 69) hQ d_FileReader_isDirectory_69 rfl rfl (1) ⟨rfl, (by (try dsimp only); first | done | (with_reducible assumption) | omega (splitDisjunctions := false) | assumption | omega | decide), (show (1 : Int32).toInt = 1 → dp f D n.toInt = e.toInt ∧ ∀ j : Int, 0 ≤ j → j < n.toInt → dp f D j + 46 ≤ e.toInt from (by first | exact fun h9 => absurd h9 (by omega) | exact fun _ => by have hkn : k.toInt = n.toInt := (by omega); rw [hkn] at ha hj; exact ⟨by omega, hj⟩)), (show (1 : Int32).toInt = 1 → dy_ A D e.toInt n.toInt.toNat from (by first | exact fun h9 => absurd h9 (by decide) | exact fun _ => ⟨fun j h9 => hy j (by omega), by rw [show n.toInt.toNat = k.toInt.toNat by omega, ← hz]; omega⟩)), (show (1 : Int32).toInt = 0 → ¬ dy_ A D e.toInt n.toInt.toNat from (by first | exact fun h9 => absurd h9 (by decide) | exact fun _ q9 => (by have q8 := q9.2; rw [show n.toInt.toNat = k.toInt.toNat by omega, ← hz] at q8; omega)))⟩ [0, 1] (by decide) rfl rfl (by decide) (by decide)
      · have tw2 : ¬ n.toInt ≤ k.toInt := fun z9 => w2 ((ti_le rfl rfl).mpr z9)
        refine pb_iload_n (pc := 12) d_FileReader_isDirectory_12 4 rfl rfl ?_
        refine pb_iload (pc := 13) d_FileReader_isDirectory_13 1 rfl ?_
        refine pb_isub (pc := 15) d_FileReader_isDirectory_15 ?_
        refine pb_topi (fun i4 ei4 => ?_)
        try have ti4 : i4.toInt = e.toInt - a.toInt := t2_sub ei4 rfl rfl (by omega)
        refine pb_bipush (pc := 16) (v := 46) d_FileReader_isDirectory_16 (by decide) ?_
        refine pb_icmp_lt (pc := 18) (tgt := 30) d_FileReader_isDirectory_18 (by decide) (fun w5 => ?_) (fun w5 => ?_)
        · have tw5 : i4.toInt < 46 := (ti_lt rfl (by decide)).mp w5
          refine pb_iconst (pc := 30) (v := 0) d_FileReader_isDirectory_30 (by decide) ?_
          exact pb_iret (pc := 31) hQ d_FileReader_isDirectory_31 rfl rfl (0) ⟨rfl, (by (try dsimp only); first | done | (with_reducible assumption) | omega (splitDisjunctions := false) | assumption | omega | decide), (show (0 : Int32).toInt = 1 → dp f D n.toInt = e.toInt ∧ ∀ j : Int, 0 ≤ j → j < n.toInt → dp f D j + 46 ≤ e.toInt from (fun h9 => absurd h9 (by omega))), (show (0 : Int32).toInt = 1 → dy_ A D e.toInt n.toInt.toNat from (fun h9 => absurd h9 (by omega))), (show (0 : Int32).toInt = 0 → ¬ dy_ A D e.toInt n.toInt.toNat from (fun _ => dy_no (k := k.toInt.toNat) (by omega) (by rw [← hz]; first | exact fun q9 => yF0 (by omega) q9.2 | exact fun q9 => absurd q9.1 (by omega))))⟩ [0, 1] (by decide) rfl rfl (by decide) (by decide)
        · have tw5 : ¬ i4.toInt < 46 := fun z9 => w5 ((ti_lt rfl (by decide)).mpr z9)
          refine pb_aload_n (pc := 21) d_FileReader_isDirectory_21 2 rfl rfl ?_
          refine pb_iload (pc := 22) d_FileReader_isDirectory_22 1 rfl ?_
          refine pb_callV (pc := 24) (I := i_FileReader_isDirectory) (qb := 0) (ci := 7) (nA := 1) (rest := []) (wr := []) d_FileReader_isDirectory_24 (g_Rd_isEntry hl G h b N f a A Zs (by first | (with_reducible assumption) | omega (splitDisjunctions := false) | assumption | omega | decide) (by first | (with_reducible assumption) | omega (splitDisjunctions := false) | assumption | omega | decide) (by first | (with_reducible assumption) | omega (splitDisjunctions := false) | assumption | omega | decide) (by first | assumption | decide | omega) (by first | (with_reducible assumption) | omega (splitDisjunctions := false) | assumption | omega | decide) F_f) rfl rfl [0, 1] [] (by decide) rfl rfl rfl (by decide) (by decide) k_607 rfl k_124 k_604 k_606 k_14 ⟨rfl, hy_FileReader_isEntry⟩ (by decide) rfl rfl (Nat.le_of_ble_eq_true rfl) (by decide) (fun v9 u7 ch6 => ?_)
          obtain ⟨r_8, rfl⟩ : ∃ z9, z9 = u7 := ⟨_, rfl⟩
          obtain ⟨ech6, ch6⟩ := ch6
          have ech6 : v9 = some (.int r_8) := ech6
          subst ech6
          obtain ⟨fh9, fh10, fh11⟩ : (r_8.toInt = 0 ∨ r_8.toInt = 1) ∧ (r_8.toInt = 1 → ey_ A a.toInt) ∧ (r_8.toInt = 0 → ¬ ey_ A a.toInt) := ch6
          have yF1 := fh10
          have yF0 := fh11
          refine pb_eq (pc' := 27) (lo' := [(5, .int k), (4, .int a), (0, .ref h), (1, .int x), (2, .int e), (3, .int n)]) (rest' := [.int r_8]) (ws' := [(h, .inr (7, [.ref b])), (b, .inl (G.2.1, N, .inl f))]) ?_
          refine pb_if_ne (pc := 27) (tgt := 32) d_FileReader_isDirectory_27 (by decide) (fun w12 => ?_) (fun w12 => ?_)
          · have tw12 : ¬ r_8.toInt = 0 := fun z9 => w12 ((ti_eq rfl (by decide)).mpr z9)
            refine pb_iload (pc := 32) d_FileReader_isDirectory_32 1 rfl ?_
            refine pb_bipush (pc := 34) (v := 46) d_FileReader_isDirectory_34 (by decide) ?_
            refine pb_aload_n (pc := 36) d_FileReader_isDirectory_36 2 rfl rfl ?_
            refine pb_get (pc := 37) d_FileReader_isDirectory_37 0 0 rfl rfl (by decide) in_FileReader k_306 rfl ?_
            refine pb_iload (pc := 40) d_FileReader_isDirectory_40 1 rfl ?_
            refine pb_bipush (pc := 42) (v := 28) d_FileReader_isDirectory_42 (by decide) ?_
            refine pb_iadd (pc := 44) d_FileReader_isDirectory_44 ?_
            refine pb_topi (fun i13 ei13 => ?_)
            try have ti13 : i13.toInt = a.toInt + 28 := t2_add ei13 rfl (by decide) (by omega)
            refine pb_callSN (pc := 45) (I := i_FileReader_isDirectory) (nA := 2) (rest := [.int 46, .int a]) (wr := [(h, .inr (7, [.ref b]))]) d_FileReader_isDirectory_45 (g_twoAt hl G b N f i13 (by first | (with_reducible assumption) | omega (splitDisjunctions := false) | assumption | (clear fh10 fh11 yF1 yF0 hm9; first | omega (splitDisjunctions := false) | omega) | omega | decide) (by first | (with_reducible assumption) | omega (splitDisjunctions := false) | assumption | (clear fh10 fh11 yF1 yF0 hm9; first | omega (splitDisjunctions := false) | omega) | omega | decide) (by first | (with_reducible assumption) | omega (splitDisjunctions := false) | assumption | (clear fh10 fh11 yF1 yF0 hm9; first | omega (splitDisjunctions := false) | omega) | omega | decide) F_f) [1] [0] (by decide) rfl rfl rfl (by decide) (by decide) k_597 rfl k_118 k_599 k_596 hy_Book_twoAt (by decide) rfl rfl (Nat.le_of_ble_eq_true rfl) (by decide) (fun v9 u15 ch14 => ?_)
            obtain ⟨r_16, rfl⟩ : ∃ z9, z9 = u15 := ⟨_, rfl⟩
            obtain ⟨ech14, ch14⟩ := ch14
            have ech14 : v9 = some (.int r_16) := ech14
            subst ech14
            obtain ⟨fh17, fh18, fh19, fh20⟩ : (0 ≤ r_16.toInt) ∧ (r_16.toInt ≤ 65535) ∧ (r_16.toInt = tw f i13.toInt) ∧ (r_16.toInt = av f i13.toInt 2) := ch14
            have d1 := dp_s (f := f) (a := D) (k := k.toInt) (m := k.toInt + 1) hk rfl
            rw [← ha] at d1
            rw [show i13.toInt = a.toInt + 28 by omega] at fh19
            have u28 : r_16.toInt = aw A (a.toInt + 28) 2 := by rw [fh20, show i13.toInt = a.toInt + 28 by omega]; exact av_A hA 2 (by (exact omg_000a014e05 hD h0 ha1)) (by omega)
            refine pb_eq (pc' := 48) (lo' := [(5, .int k), (4, .int a), (0, .ref h), (1, .int x), (2, .int e), (3, .int n)]) (rest' := [.int r_16, .int 46, .int a]) (ws' := [(h, .inr (7, [.ref b])), (b, .inl (G.2.1, N, .inl f))]) ?_
            have d3 := tw_rng f (a.toInt + 28)
            refine pb_iadd (pc := 48) d_FileReader_isDirectory_48 ?_
            refine pb_topi (fun i21 ei21 => ?_)
            try have ti21 : i21.toInt = 46 + r_16.toInt := t2_add ei21 (by decide) rfl (by omega)
            refine pb_iadd (pc := 49) d_FileReader_isDirectory_49 ?_
            refine pb_topi (fun i22 ei22 => ?_)
            try have ti22 : i22.toInt = a.toInt + i21.toInt := t2_add ei22 rfl rfl (by (exact omg_934b623de5 hD h0 h1 hN ha1 ti4 tw5 fh17 fh18 ti21))
            refine pb_istore (pc := 50) (lo' := [(4, .int i22), (5, .int k), (0, .ref h), (1, .int x), (2, .int e), (3, .int n)]) d_FileReader_isDirectory_50 (by decide) rfl ?_
            refine pb_iincN (pc := 52) (c := 1) d_FileReader_isDirectory_52 1 rfl (by decide) (by decide) (fun i23 ei23 => ?_)
            have ti23 : i23.toInt = k.toInt + 1 := t2_add ei23 rfl (by decide) (by omega)
            refine pb_eq (pc' := 55) (lo' := [(5, .int i23), (4, .int i22), (0, .ref h), (1, .int x), (2, .int e), (3, .int n)]) (rest' := []) (ws' := [(h, .inr (7, [.ref b])), (b, .inl (G.2.1, N, .inl f))]) ?_
            refine pb_goto (pc := 55) (tgt := 6) d_FileReader_isDirectory_55 (by decide) ?_
            exact ih6 i23 i22 (by first | (with_reducible assumption) | omega (splitDisjunctions := false) | assumption | (clear fh10 fh11 yF1 yF0 hm9; first | omega (splitDisjunctions := false) | omega) | omega | decide) (by first | (with_reducible assumption) | omega (splitDisjunctions := false) | assumption | (clear fh10 fh11 yF1 yF0 hm9; first | omega (splitDisjunctions := false) | omega) | omega | decide) (by rw [show i23.toInt = k.toInt + 1 by omega, d1]; (exact omg_799cf5ff21 fh19 ti21 ti22)) (by first | (with_reducible assumption) | omega (splitDisjunctions := false) | assumption | (clear fh10 fh11 yF1 yF0 hm9; first | omega (splitDisjunctions := false) | omega) | omega | decide) (by first | (with_reducible assumption) | omega (splitDisjunctions := false) | assumption | (clear fh10 fh11 yF1 yF0 hm9; first | omega (splitDisjunctions := false) | omega) | omega | decide) (fun j h0 h1 => if w : j < k.toInt then hj j h0 w else by rw [show j = k.toInt by omega, ← ha]; omega) (by rw [show i23.toInt.toNat = k.toInt.toNat + 1 by (exact omg_c719e3dd87 hk ti23)]; show _ = dz A D k.toInt.toNat + 46 + aw A (dz A D k.toInt.toNat + 28) 2; rw [← hz]; (exact omg_09e96b719d u28 ti21 ti22)) (by rw [show i23.toInt.toNat = k.toInt.toNat + 1 by omega]; exact dy_s hy (by rw [← hz]; exact ⟨by omega, yF1 (by (exact omg_d9c3f42b32 fh9 tw12))⟩)) (by first | (clear fh10 fh11 yF1 yF0; (exact omg_7c8a06b1f5 hm9 tw2 ti23)) | omega)
          · have tw12 : r_8.toInt = 0 := (ti_eq rfl (by decide)).mp w12
            refine pb_iconst (pc := 30) (v := 0) d_FileReader_isDirectory_30 (by decide) ?_
            exact pb_iret (pc := 31) hQ d_FileReader_isDirectory_31 rfl rfl (0) ⟨rfl, (by (try dsimp only); first | done | (with_reducible assumption) | omega (splitDisjunctions := false) | assumption | (have y90 := fh11 tw12; have y91 := yF0 tw12; clear fh10 fh11 yF1 yF0 hm9; first | omega (splitDisjunctions := false) | omega) | omega | decide), (show (0 : Int32).toInt = 1 → dp f D n.toInt = e.toInt ∧ ∀ j : Int, 0 ≤ j → j < n.toInt → dp f D j + 46 ≤ e.toInt from (fun h9 => absurd h9 (by omega))), (show (0 : Int32).toInt = 1 → dy_ A D e.toInt n.toInt.toNat from (fun h9 => absurd h9 (by omega))), (show (0 : Int32).toInt = 0 → ¬ dy_ A D e.toInt n.toInt.toNat from (fun _ => dy_no (k := k.toInt.toNat) (by omega) (by rw [← hz]; first | exact fun q9 => yF0 (by omega) q9.2 | exact fun q9 => absurd q9.1 (by omega))))⟩ [0, 1] (by decide) rfl rfl (by decide) (by decide)
  exact hL6_1 _ 0 x (by first | (with_reducible assumption) | omega (splitDisjunctions := false) | assumption | omega | decide) (by first | (with_reducible assumption) | omega (splitDisjunctions := false) | assumption | omega | decide) (by rw [zl0, dp_0]; omega) (by first | (with_reducible assumption) | omega (splitDisjunctions := false) | assumption | omega | decide) (by first | (with_reducible assumption) | omega (splitDisjunctions := false) | assumption | omega | decide) (fun j h0 h1 => absurd h1 (by omega)) (by rw [show (0 : Int32).toInt.toNat = 0 by omega]; exact hD) (fun j h9 => absurd h9 (by omega)) (Nat.lt_succ_self _)

theorem d_FileReader_readEntry_0 : decode prog_5_method_6_code 0 = .ok (.aload_n 0, 1) := by decide +kernel
theorem d_FileReader_readEntry_1 : decode prog_5_method_6_code 1 = .ok (.getfield 9, 3) := by decide +kernel
theorem d_FileReader_readEntry_4 : decode prog_5_method_6_code 4 = .ok (.iload_n 1, 1) := by decide +kernel
theorem d_FileReader_readEntry_5 : decode prog_5_method_6_code 5 = .ok (.bipush 42, 2) := by decide +kernel
theorem d_FileReader_readEntry_7 : decode prog_5_method_6_code 7 = .ok (.iadd, 1) := by decide +kernel
theorem d_FileReader_readEntry_8 : decode prog_5_method_6_code 8 = .ok (.invokestatic 28, 3) := by decide +kernel
theorem d_FileReader_readEntry_11 : decode prog_5_method_6_code 11 = .ok (.lstore 6, 2) := by decide +kernel
theorem d_FileReader_readEntry_13 : decode prog_5_method_6_code 13 = .ok (.aload_n 0, 1) := by decide +kernel
theorem d_FileReader_readEntry_14 : decode prog_5_method_6_code 14 = .ok (.getfield 9, 3) := by decide +kernel
theorem d_FileReader_readEntry_17 : decode prog_5_method_6_code 17 = .ok (.iload_n 1, 1) := by decide +kernel
theorem d_FileReader_readEntry_18 : decode prog_5_method_6_code 18 = .ok (.bipush 20, 2) := by decide +kernel
theorem d_FileReader_readEntry_20 : decode prog_5_method_6_code 20 = .ok (.iadd, 1) := by decide +kernel
theorem d_FileReader_readEntry_21 : decode prog_5_method_6_code 21 = .ok (.invokestatic 28, 3) := by decide +kernel
theorem d_FileReader_readEntry_24 : decode prog_5_method_6_code 24 = .ok (.lstore 8, 2) := by decide +kernel
theorem d_FileReader_readEntry_26 : decode prog_5_method_6_code 26 = .ok (.aload_n 0, 1) := by decide +kernel
theorem d_FileReader_readEntry_27 : decode prog_5_method_6_code 27 = .ok (.getfield 9, 3) := by decide +kernel
theorem d_FileReader_readEntry_30 : decode prog_5_method_6_code 30 = .ok (.iload_n 1, 1) := by decide +kernel
theorem d_FileReader_readEntry_31 : decode prog_5_method_6_code 31 = .ok (.bipush 28, 2) := by decide +kernel
theorem d_FileReader_readEntry_33 : decode prog_5_method_6_code 33 = .ok (.iadd, 1) := by decide +kernel
theorem d_FileReader_readEntry_34 : decode prog_5_method_6_code 34 = .ok (.invokestatic 24, 3) := by decide +kernel
theorem d_FileReader_readEntry_37 : decode prog_5_method_6_code 37 = .ok (.istore 10, 2) := by decide +kernel
theorem d_FileReader_readEntry_39 : decode prog_5_method_6_code 39 = .ok (.lload 6, 2) := by decide +kernel
theorem d_FileReader_readEntry_41 : decode prog_5_method_6_code 41 = .ok (.ldc2_w 47, 3) := by decide +kernel
theorem k_613 : (Jvm.Cond.constantLong "PackageBook$FileReader" (47 : Nat) (30 : Int64)) ∈ uW := uW_c2 16 rfl (by decide +kernel)
theorem d_FileReader_readEntry_44 : decode prog_5_method_6_code 44 = .ok (.ladd, 1) := by decide +kernel
theorem d_FileReader_readEntry_45 : decode prog_5_method_6_code 45 = .ok (.iload 10, 2) := by decide +kernel
theorem d_FileReader_readEntry_47 : decode prog_5_method_6_code 47 = .ok (.i2l, 1) := by decide +kernel
theorem d_FileReader_readEntry_48 : decode prog_5_method_6_code 48 = .ok (.ladd, 1) := by decide +kernel
theorem d_FileReader_readEntry_49 : decode prog_5_method_6_code 49 = .ok (.lstore 11, 2) := by decide +kernel
theorem d_FileReader_readEntry_51 : decode prog_5_method_6_code 51 = .ok (.lload 11, 2) := by decide +kernel
theorem d_FileReader_readEntry_53 : decode prog_5_method_6_code 53 = .ok (.lload 8, 2) := by decide +kernel
theorem d_FileReader_readEntry_55 : decode prog_5_method_6_code 55 = .ok (.ladd, 1) := by decide +kernel
theorem d_FileReader_readEntry_56 : decode prog_5_method_6_code 56 = .ok (.lload_n 2, 1) := by decide +kernel
theorem d_FileReader_readEntry_57 : decode prog_5_method_6_code 57 = .ok (.lcmp, 1) := by decide +kernel
theorem d_FileReader_readEntry_58 : decode prog_5_method_6_code 58 = .ok (.ifCond .gt 16, 3) := by decide +kernel
theorem d_FileReader_readEntry_74 : decode prog_5_method_6_code 74 = .ok (.iconst 3, 1) := by decide +kernel
theorem d_FileReader_readEntry_75 : decode prog_5_method_6_code 75 = .ok (.ireturn, 1) := by decide +kernel
theorem d_FileReader_readEntry_61 : decode prog_5_method_6_code 61 = .ok (.aload_n 0, 1) := by decide +kernel
theorem d_FileReader_readEntry_62 : decode prog_5_method_6_code 62 = .ok (.iload_n 1, 1) := by decide +kernel
theorem d_FileReader_readEntry_63 : decode prog_5_method_6_code 63 = .ok (.lload 6, 2) := by decide +kernel
theorem d_FileReader_readEntry_65 : decode prog_5_method_6_code 65 = .ok (.l2i, 1) := by decide +kernel
theorem d_FileReader_readEntry_66 : decode prog_5_method_6_code 66 = .ok (.iload 10, 2) := by decide +kernel
theorem d_FileReader_readEntry_68 : decode prog_5_method_6_code 68 = .ok (.invokevirtual 49, 3) := by decide +kernel
theorem k_614 : (Jvm.Cond.methodLink "PackageBook$FileReader" (49 : Nat) ({ cls := "PackageBook$FileReader", name := "isRecordOf", desc := "(III)Z" } : Jvm.MethodName)) ∈ uW := uW_c2 17 rfl (by decide +kernel)
theorem k_617 : (Jvm.Cond.code ({ cls := "PackageBook$FileReader", name := "isRecordOf", desc := "(III)Z" } : Jvm.MethodName) prog_5_method_7_code (4 : Nat) (Option.some Jvm.ClassFile.FieldType.boolean)) ∈ uW := uW_c2 20 rfl (by decide +kernel)
theorem k_616 : (Jvm.Cond.instanceMethod ({ cls := "PackageBook$FileReader", name := "isRecordOf", desc := "(III)Z" } : Jvm.MethodName)) ∈ uW := uW_c2 19 rfl (by decide +kernel)
theorem k_16 : Cond.selects "PackageBook$FileReader" ⟨"PackageBook$FileReader", "isRecordOf", "(III)Z"⟩ ⟨"PackageBook$FileReader", "isRecordOf", "(III)Z"⟩ ∈ uW := uW_of 16 (by decide +kernel) (by decide +kernel)
theorem hy_FileReader_isRecordOf : (y_FileReader_isRecordOf).cls ≠ "java/lang/invoke/MethodHandle" ∧ (y_FileReader_isRecordOf).cls ≠ "java/lang/invoke/VarHandle" ∧ (parseMethodDescriptor (y_FileReader_isRecordOf).desc).map (fun d => d.parameters.length) = some 3 := by decide +kernel
theorem d_FileReader_readEntry_71 : decode prog_5_method_6_code 71 = .ok (.ifCond .ne 5, 3) := by decide +kernel
theorem d_FileReader_readEntry_76 : decode prog_5_method_6_code 76 = .ok (.iload_n 1, 1) := by decide +kernel
theorem d_FileReader_readEntry_77 : decode prog_5_method_6_code 77 = .ok (.bipush 46, 2) := by decide +kernel
theorem d_FileReader_readEntry_79 : decode prog_5_method_6_code 79 = .ok (.iadd, 1) := by decide +kernel
theorem d_FileReader_readEntry_80 : decode prog_5_method_6_code 80 = .ok (.istore 13, 2) := by decide +kernel
theorem d_FileReader_readEntry_82 : decode prog_5_method_6_code 82 = .ok (.aload_n 0, 1) := by decide +kernel
theorem d_FileReader_readEntry_83 : decode prog_5_method_6_code 83 = .ok (.getfield 9, 3) := by decide +kernel
theorem d_FileReader_readEntry_86 : decode prog_5_method_6_code 86 = .ok (.iload 13, 2) := by decide +kernel
theorem d_FileReader_readEntry_88 : decode prog_5_method_6_code 88 = .ok (.iload 10, 2) := by decide +kernel
theorem d_FileReader_readEntry_90 : decode prog_5_method_6_code 90 = .ok (.invokestatic 52, 3) := by decide +kernel
theorem k_620 : (Jvm.Cond.methodLinkNest "PackageBook$FileReader" (52 : Nat) ({ cls := "PackageBook", name := "isName", desc := "([BII)Z" } : Jvm.MethodName) "PackageBook") ∈ uN := uN_c2 23 rfl (by decide +kernel)
theorem k_622 : (Jvm.Cond.code ({ cls := "PackageBook", name := "isName", desc := "([BII)Z" } : Jvm.MethodName) prog_1_method_26_code (6 : Nat) (Option.some Jvm.ClassFile.FieldType.boolean)) ∈ uW := uW_c2 25 rfl (by decide +kernel)
theorem k_621 : (Jvm.Cond.static ({ cls := "PackageBook", name := "isName", desc := "([BII)Z" } : Jvm.MethodName)) ∈ uW := uW_c2 24 rfl (by decide +kernel)
theorem hy_Book_isName : (y_Book_isName).cls ≠ "java/lang/invoke/MethodHandle" ∧ (y_Book_isName).cls ≠ "java/lang/invoke/VarHandle" ∧ (parseMethodDescriptor (y_Book_isName).desc).map (fun d => d.parameters.length) = some 3 := by decide +kernel
theorem d_FileReader_readEntry_93 : decode prog_5_method_6_code 93 = .ok (.ifCond .eq 19, 3) := by decide +kernel
theorem d_FileReader_readEntry_112 : decode prog_5_method_6_code 112 = .ok (.iconst 4, 1) := by decide +kernel
theorem d_FileReader_readEntry_113 : decode prog_5_method_6_code 113 = .ok (.ireturn, 1) := by decide +kernel
theorem d_FileReader_readEntry_96 : decode prog_5_method_6_code 96 = .ok (.aload 4, 2) := by decide +kernel
theorem d_FileReader_readEntry_98 : decode prog_5_method_6_code 98 = .ok (.aload_n 0, 1) := by decide +kernel
theorem d_FileReader_readEntry_99 : decode prog_5_method_6_code 99 = .ok (.getfield 9, 3) := by decide +kernel
theorem d_FileReader_readEntry_102 : decode prog_5_method_6_code 102 = .ok (.iload 13, 2) := by decide +kernel
theorem d_FileReader_readEntry_104 : decode prog_5_method_6_code 104 = .ok (.iload 10, 2) := by decide +kernel
theorem d_FileReader_readEntry_106 : decode prog_5_method_6_code 106 = .ok (.invokevirtual 56, 3) := by decide +kernel
theorem k_626 : (Jvm.Cond.methodLink "PackageBook$FileReader" (56 : Nat) ({ cls := "PackageBook$Shelf", name := "find", desc := "([BII)I" } : Jvm.MethodName)) ∈ uW := uW_c2 29 rfl (by decide +kernel)
theorem d_FileReader_readEntry_109 : decode prog_5_method_6_code 109 = .ok (.ifCond .lt 5, 3) := by decide +kernel
theorem d_FileReader_readEntry_114 : decode prog_5_method_6_code 114 = .ok (.aload_n 0, 1) := by decide +kernel
theorem d_FileReader_readEntry_115 : decode prog_5_method_6_code 115 = .ok (.getfield 9, 3) := by decide +kernel
theorem d_FileReader_readEntry_118 : decode prog_5_method_6_code 118 = .ok (.iload_n 1, 1) := by decide +kernel
theorem d_FileReader_readEntry_119 : decode prog_5_method_6_code 119 = .ok (.bipush 10, 2) := by decide +kernel
theorem d_FileReader_readEntry_121 : decode prog_5_method_6_code 121 = .ok (.iadd, 1) := by decide +kernel
theorem d_FileReader_readEntry_122 : decode prog_5_method_6_code 122 = .ok (.invokestatic 24, 3) := by decide +kernel
theorem d_FileReader_readEntry_125 : decode prog_5_method_6_code 125 = .ok (.bipush 8, 2) := by decide +kernel
theorem d_FileReader_readEntry_127 : decode prog_5_method_6_code 127 = .ok (.if_icmp .ne 7, 3) := by decide +kernel
theorem d_FileReader_readEntry_134 : decode prog_5_method_6_code 134 = .ok (.iconst 0, 1) := by decide +kernel
theorem d_FileReader_readEntry_135 : decode prog_5_method_6_code 135 = .ok (.istore 14, 2) := by decide +kernel
theorem d_FileReader_readEntry_137 : decode prog_5_method_6_code 137 = .ok (.iload 14, 2) := by decide +kernel
theorem d_FileReader_readEntry_139 : decode prog_5_method_6_code 139 = .ok (.ifCond .eq 21, 3) := by decide +kernel
theorem d_FileReader_readEntry_160 : decode prog_5_method_6_code 160 = .ok (.lload 8, 2) := by decide +kernel
theorem d_FileReader_readEntry_162 : decode prog_5_method_6_code 162 = .ok (.l2i, 1) := by decide +kernel
theorem d_FileReader_readEntry_163 : decode prog_5_method_6_code 163 = .ok (.istore 15, 2) := by decide +kernel
theorem d_FileReader_readEntry_165 : decode prog_5_method_6_code 165 = .ok (.iload 14, 2) := by decide +kernel
theorem d_FileReader_readEntry_167 : decode prog_5_method_6_code 167 = .ok (.ifCond .eq 14, 3) := by decide +kernel
theorem d_FileReader_readEntry_181 : decode prog_5_method_6_code 181 = .ok (.aload_n 0, 1) := by decide +kernel
theorem d_FileReader_readEntry_182 : decode prog_5_method_6_code 182 = .ok (.getfield 9, 3) := by decide +kernel
theorem d_FileReader_readEntry_185 : decode prog_5_method_6_code 185 = .ok (.astore 16, 2) := by decide +kernel
theorem d_FileReader_readEntry_187 : decode prog_5_method_6_code 187 = .ok (.iload 14, 2) := by decide +kernel
theorem d_FileReader_readEntry_189 : decode prog_5_method_6_code 189 = .ok (.ifCond .eq 7, 3) := by decide +kernel
theorem d_FileReader_readEntry_196 : decode prog_5_method_6_code 196 = .ok (.lload 11, 2) := by decide +kernel
theorem d_FileReader_readEntry_198 : decode prog_5_method_6_code 198 = .ok (.l2i, 1) := by decide +kernel
theorem d_FileReader_readEntry_199 : decode prog_5_method_6_code 199 = .ok (.istore 17, 2) := by decide +kernel
theorem d_FileReader_readEntry_201 : decode prog_5_method_6_code 201 = .ok (.iload 15, 2) := by decide +kernel
theorem d_FileReader_readEntry_203 : decode prog_5_method_6_code 203 = .ok (.i2l, 1) := by decide +kernel
theorem d_FileReader_readEntry_204 : decode prog_5_method_6_code 204 = .ok (.aload_n 0, 1) := by decide +kernel
theorem d_FileReader_readEntry_205 : decode prog_5_method_6_code 205 = .ok (.getfield 9, 3) := by decide +kernel
theorem d_FileReader_readEntry_208 : decode prog_5_method_6_code 208 = .ok (.iload_n 1, 1) := by decide +kernel
theorem d_FileReader_readEntry_209 : decode prog_5_method_6_code 209 = .ok (.bipush 24, 2) := by decide +kernel
theorem d_FileReader_readEntry_211 : decode prog_5_method_6_code 211 = .ok (.iadd, 1) := by decide +kernel
theorem d_FileReader_readEntry_212 : decode prog_5_method_6_code 212 = .ok (.invokestatic 28, 3) := by decide +kernel
theorem d_FileReader_readEntry_215 : decode prog_5_method_6_code 215 = .ok (.lcmp, 1) := by decide +kernel
theorem d_FileReader_readEntry_216 : decode prog_5_method_6_code 216 = .ok (.ifCond .ne 27, 3) := by decide +kernel
theorem d_FileReader_readEntry_243 : decode prog_5_method_6_code 243 = .ok (.iconst 5, 1) := by decide +kernel
theorem d_FileReader_readEntry_244 : decode prog_5_method_6_code 244 = .ok (.ireturn, 1) := by decide +kernel
theorem d_FileReader_readEntry_219 : decode prog_5_method_6_code 219 = .ok (.aload 16, 2) := by decide +kernel
theorem d_FileReader_readEntry_221 : decode prog_5_method_6_code 221 = .ok (.iload 17, 2) := by decide +kernel
theorem d_FileReader_readEntry_223 : decode prog_5_method_6_code 223 = .ok (.iload 15, 2) := by decide +kernel
theorem d_FileReader_readEntry_225 : decode prog_5_method_6_code 225 = .ok (.invokestatic 74, 3) := by decide +kernel
theorem k_692 : (Jvm.Cond.methodLinkNest "PackageBook$FileReader" (74 : Nat) ({ cls := "PackageBook", name := "sumOf", desc := "([BII)I" } : Jvm.MethodName) "PackageBook") ∈ uN := uN_c2 95 rfl (by decide +kernel)
theorem d_FileReader_readEntry_228 : decode prog_5_method_6_code 228 = .ok (.aload_n 0, 1) := by decide +kernel
theorem d_FileReader_readEntry_229 : decode prog_5_method_6_code 229 = .ok (.getfield 9, 3) := by decide +kernel
theorem d_FileReader_readEntry_232 : decode prog_5_method_6_code 232 = .ok (.iload_n 1, 1) := by decide +kernel
theorem d_FileReader_readEntry_233 : decode prog_5_method_6_code 233 = .ok (.bipush 16, 2) := by decide +kernel
theorem d_FileReader_readEntry_235 : decode prog_5_method_6_code 235 = .ok (.iadd, 1) := by decide +kernel
theorem d_FileReader_readEntry_236 : decode prog_5_method_6_code 236 = .ok (.invokestatic 28, 3) := by decide +kernel
theorem d_FileReader_readEntry_239 : decode prog_5_method_6_code 239 = .ok (.l2i, 1) := by decide +kernel
theorem d_FileReader_readEntry_240 : decode prog_5_method_6_code 240 = .ok (.if_icmp .eq 5, 3) := by decide +kernel
theorem d_FileReader_readEntry_245 : decode prog_5_method_6_code 245 = .ok (.aload 4, 2) := by decide +kernel
theorem d_FileReader_readEntry_247 : decode prog_5_method_6_code 247 = .ok (.iconst (-1), 1) := by decide +kernel
theorem d_FileReader_readEntry_248 : decode prog_5_method_6_code 248 = .ok (.iload 15, 2) := by decide +kernel
theorem d_FileReader_readEntry_250 : decode prog_5_method_6_code 250 = .ok (.invokevirtual 77, 3) := by decide +kernel
theorem k_693 : (Jvm.Cond.methodLink "PackageBook$FileReader" (77 : Nat) ({ cls := "PackageBook$Shelf", name := "hasRoom", desc := "(II)Z" } : Jvm.MethodName)) ∈ uW := uW_c2 96 rfl (by decide +kernel)
theorem k_696 : (Jvm.Cond.code ({ cls := "PackageBook$Shelf", name := "hasRoom", desc := "(II)Z" } : Jvm.MethodName) prog_10_method_7_code (4 : Nat) (Option.some Jvm.ClassFile.FieldType.boolean)) ∈ uW := uW_c2 99 rfl (by decide +kernel)
theorem k_694 : (Jvm.Cond.instanceMethod ({ cls := "PackageBook$Shelf", name := "hasRoom", desc := "(II)Z" } : Jvm.MethodName)) ∈ uW := uW_c2 97 rfl (by decide +kernel)
theorem k_695 : (Jvm.Cond.selects "PackageBook$Shelf" ({ cls := "PackageBook$Shelf", name := "hasRoom", desc := "(II)Z" } : Jvm.MethodName) ({ cls := "PackageBook$Shelf", name := "hasRoom", desc := "(II)Z" } : Jvm.MethodName)) ∈ uW := uW_c2 98 rfl (by decide +kernel)
theorem hy_Shelf_hasRoom : (y_Shelf_hasRoom).cls ≠ "java/lang/invoke/MethodHandle" ∧ (y_Shelf_hasRoom).cls ≠ "java/lang/invoke/VarHandle" ∧ (parseMethodDescriptor (y_Shelf_hasRoom).desc).map (fun d => d.parameters.length) = some 2 := by decide +kernel
theorem d_FileReader_readEntry_253 : decode prog_5_method_6_code 253 = .ok (.ifCond .ne 6, 3) := by decide +kernel
theorem d_FileReader_readEntry_259 : decode prog_5_method_6_code 259 = .ok (.aload 4, 2) := by decide +kernel
theorem d_FileReader_readEntry_261 : decode prog_5_method_6_code 261 = .ok (.aload_n 0, 1) := by decide +kernel
theorem d_FileReader_readEntry_262 : decode prog_5_method_6_code 262 = .ok (.getfield 9, 3) := by decide +kernel
theorem d_FileReader_readEntry_265 : decode prog_5_method_6_code 265 = .ok (.iload 13, 2) := by decide +kernel
theorem d_FileReader_readEntry_267 : decode prog_5_method_6_code 267 = .ok (.iload 10, 2) := by decide +kernel
theorem d_FileReader_readEntry_269 : decode prog_5_method_6_code 269 = .ok (.aload 16, 2) := by decide +kernel
theorem d_FileReader_readEntry_271 : decode prog_5_method_6_code 271 = .ok (.iload 17, 2) := by decide +kernel
theorem d_FileReader_readEntry_273 : decode prog_5_method_6_code 273 = .ok (.iload 15, 2) := by decide +kernel
theorem d_FileReader_readEntry_275 : decode prog_5_method_6_code 275 = .ok (.invokevirtual 81, 3) := by decide +kernel
theorem k_697 : (Jvm.Cond.methodLink "PackageBook$FileReader" (81 : Nat) ({ cls := "PackageBook$Shelf", name := "bringIn", desc := "([BII[BII)V" } : Jvm.MethodName)) ∈ uW := uW_c2 100 rfl (by decide +kernel)
theorem k_700 : (Jvm.Cond.code ({ cls := "PackageBook$Shelf", name := "bringIn", desc := "([BII[BII)V" } : Jvm.MethodName) prog_10_method_9_code (10 : Nat) (Option.none : Option Jvm.ClassFile.FieldType)) ∈ uW := uW_c2 103 rfl (by decide +kernel)
theorem k_698 : (Jvm.Cond.instanceMethod ({ cls := "PackageBook$Shelf", name := "bringIn", desc := "([BII[BII)V" } : Jvm.MethodName)) ∈ uW := uW_c2 101 rfl (by decide +kernel)
theorem k_699 : (Jvm.Cond.selects "PackageBook$Shelf" ({ cls := "PackageBook$Shelf", name := "bringIn", desc := "([BII[BII)V" } : Jvm.MethodName) ({ cls := "PackageBook$Shelf", name := "bringIn", desc := "([BII[BII)V" } : Jvm.MethodName)) ∈ uW := uW_c2 102 rfl (by decide +kernel)
theorem hy_Shelf_bringIn : (y_Shelf_bringIn).cls ≠ "java/lang/invoke/MethodHandle" ∧ (y_Shelf_bringIn).cls ≠ "java/lang/invoke/VarHandle" ∧ (parseMethodDescriptor (y_Shelf_bringIn).desc).map (fun d => d.parameters.length) = some 6 := by decide +kernel
theorem d_FileReader_readEntry_278 : decode prog_5_method_6_code 278 = .ok (.iconst 0, 1) := by decide +kernel
theorem d_FileReader_readEntry_279 : decode prog_5_method_6_code 279 = .ok (.ireturn, 1) := by decide +kernel
theorem d_FileReader_readEntry_256 : decode prog_5_method_6_code 256 = .ok (.bipush 6, 2) := by decide +kernel
theorem d_FileReader_readEntry_258 : decode prog_5_method_6_code 258 = .ok (.ireturn, 1) := by decide +kernel
theorem d_FileReader_readEntry_130 : decode prog_5_method_6_code 130 = .ok (.iconst 1, 1) := by decide +kernel
theorem d_FileReader_readEntry_131 : decode prog_5_method_6_code 131 = .ok (.goto 4, 3) := by decide +kernel
theorem d_FileReader_readEntry_142 : decode prog_5_method_6_code 142 = .ok (.aload 5, 2) := by decide +kernel
theorem d_FileReader_readEntry_144 : decode prog_5_method_6_code 144 = .ok (.aload_n 0, 1) := by decide +kernel
theorem d_FileReader_readEntry_145 : decode prog_5_method_6_code 145 = .ok (.getfield 9, 3) := by decide +kernel
theorem d_FileReader_readEntry_148 : decode prog_5_method_6_code 148 = .ok (.lload 11, 2) := by decide +kernel
theorem d_FileReader_readEntry_150 : decode prog_5_method_6_code 150 = .ok (.l2i, 1) := by decide +kernel
theorem d_FileReader_readEntry_151 : decode prog_5_method_6_code 151 = .ok (.lload 8, 2) := by decide +kernel
theorem d_FileReader_readEntry_153 : decode prog_5_method_6_code 153 = .ok (.l2i, 1) := by decide +kernel
theorem d_FileReader_readEntry_154 : decode prog_5_method_6_code 154 = .ok (.invokevirtual 60, 3) := by decide +kernel
theorem k_627 : (Jvm.Cond.methodLink "PackageBook$FileReader" (60 : Nat) ({ cls := "PackageBook$Expander", name := "run", desc := "([BII)I" } : Jvm.MethodName)) ∈ uW := uW_c2 30 rfl (by decide +kernel)
theorem k_630 : (Jvm.Cond.code ({ cls := "PackageBook$Expander", name := "run", desc := "([BII)I" } : Jvm.MethodName) prog_3_method_3_code (7 : Nat) (Option.some Jvm.ClassFile.FieldType.int)) ∈ uW := uW_c2 33 rfl (by decide +kernel)
theorem k_628 : (Jvm.Cond.instanceMethod ({ cls := "PackageBook$Expander", name := "run", desc := "([BII)I" } : Jvm.MethodName)) ∈ uW := uW_c2 31 rfl (by decide +kernel)
theorem k_629 : (Jvm.Cond.selects "PackageBook$Expander" ({ cls := "PackageBook$Expander", name := "run", desc := "([BII)I" } : Jvm.MethodName) ({ cls := "PackageBook$Expander", name := "run", desc := "([BII)I" } : Jvm.MethodName)) ∈ uW := uW_c2 32 rfl (by decide +kernel)
theorem hy_Expander_run : (y_Expander_run).cls ≠ "java/lang/invoke/MethodHandle" ∧ (y_Expander_run).cls ≠ "java/lang/invoke/VarHandle" ∧ (parseMethodDescriptor (y_Expander_run).desc).map (fun d => d.parameters.length) = some 3 := by decide +kernel
theorem d_FileReader_readEntry_157 : decode prog_5_method_6_code 157 = .ok (.goto 6, 3) := by decide +kernel
theorem d_FileReader_readEntry_170 : decode prog_5_method_6_code 170 = .ok (.aload 5, 2) := by decide +kernel
theorem d_FileReader_readEntry_172 : decode prog_5_method_6_code 172 = .ok (.getfield 65, 3) := by decide +kernel
theorem k_249 : (Jvm.Cond.fieldLinkNest "PackageBook$FileReader" (65 : Nat) "PackageBook$Expander" "expanded" "LPackageBook$Row;" "PackageBook") ∈ uN := uN_c0 132 rfl (by decide +kernel)
theorem d_FileReader_readEntry_175 : decode prog_5_method_6_code 175 = .ok (.getfield 69, 3) := by decide +kernel
theorem k_159 : (Jvm.Cond.fieldLinkNest "PackageBook$FileReader" (69 : Nat) "PackageBook$Row" "bytes" "[B" "PackageBook") ∈ uN := uN_c0 42 rfl (by decide +kernel)
theorem d_FileReader_readEntry_178 : decode prog_5_method_6_code 178 = .ok (.goto 7, 3) := by decide +kernel
theorem d_FileReader_readEntry_192 : decode prog_5_method_6_code 192 = .ok (.iconst 0, 1) := by decide +kernel
theorem d_FileReader_readEntry_193 : decode prog_5_method_6_code 193 = .ok (.goto 6, 3) := by decide +kernel
abbrev y_FileReader_readEntry : MethodName := ⟨"PackageBook$FileReader", "readEntry", "(IJLPackageBook$Shelf;LPackageBook$Expander;)I"⟩
abbrev i_FileReader_readEntry : pb_I := (y_FileReader_readEntry, prog_5_method_6_code, 18, (some Jvm.ClassFile.FieldType.int), [], { frames := 4, cells := 0, slots := 0, locals := 103 })
set_option maxRecDepth 100000 in
set_option maxHeartbeats 4000000 in
theorem g_Rd_readEntry {l : Launch} (hl : l.stackTraces = false) (G : pb_G) (h : Nat) (b : Nat) (N : Nat) (f : Nat → Int32) (sp : Nat) (tn : Nat) (tz : Nat) (tb : Nat) (tg : Nat) (c : Int32) (tfn : Nat → Int32) (tfz : Nat → Int32) (tfb : Nat → Int32) (tfg : Nat → Int32) (q : Nat) (ex : Nat) (et : Nat) (ea : Nat) (eb : Nat) (ec : Nat) (ed : Nat) (ef : Nat) (er : Nat) (at_ : Int32) (en : Int32) (fl : Int32) (ey : Nat) (xf : Nat → Int32) (xs : Int32) (tf : Nat → Int32) (ea1 : Nat) (ea2 : Nat) (eas : Int32) (eac : Nat → Int32) (eay : Nat → Int32) (eb1 : Nat) (eb2 : Nat) (ebs : Int32) (ebc : Nat → Int32) (eby : Nat → Int32) (ef1 : Nat) (ef2 : Nat) (efs : Int32) (efc : Nat → Int32) (efy : Nat → Int32) (ec1 : Nat) (ec2 : Nat) (ecs : Int32) (ecc : Nat → Int32) (ecy : Nat → Int32) (ed1 : Nat) (ed2 : Nat) (eds : Int32) (edc : Nat → Int32) (edy : Nat → Int32) (x : Int32) (lm : Int64) (V : VW_) (A : Int → Int32) (Zs : Int) (I : sh_I c.toInt tfz tfg) (Ia : co_I eas.toInt eac eay 288) (Ma : eas.toInt ≤ 288) (Ib : co_I ebs.toInt ebc eby 32) (Mb : ebs.toInt ≤ 32) (Fa : cs_R eas.toInt eac eay fx_1 288) (Fb : cs_R ebs.toInt ebc eby fx_2 32) (If : co_I efs.toInt efc efy 19) (Mf : efs.toInt ≤ 19) (Ic : co_I ecs.toInt ecc ecy 288) (Mc : ecs.toInt ≤ 286) (Id : co_I eds.toInt edc edy 32) (Md : eds.toInt ≤ 30) (a0_ : 0 ≤ xs.toInt) (a1_ : xs.toInt ≤ 4000) (h0 : 0 ≤ x.toInt) (h1 : x.toInt + (46 + tw f (x.toInt + 28)) ≤ N) (h2 : lm.toInt ≤ N) (hN : N ≤ 100000) (R : rC_ c.toInt tfn tfz tfb tfg V) (hsV : srt_ V) (hA : ∀ j : Int, 0 ≤ j → j < Zs → A j = gr f j) (hZ : x.toInt + 46 + aw A (x.toInt + 28) 2 ≤ Zs) (hZ2 : lm.toInt ≤ Zs) (F_f : sb_Fit f) (F_tfn : sb_Fit tfn) (F_tfb : sb_Fit tfb) (F_xf : sb_Fit xf) : Cn l G i_FileReader_readEntry [.ref h, .int x, .long lm, .ref sp, .ref q] [(h, .inr (7, [.ref b])), (b, .inl (G.2.1, N, .inl f)), (sp, .inr (3, [.ref tn, .ref tz, .ref tb, .ref tg, .int c])), (tn, .inl (G.2.1, 384, .inl tfn)), (tz, .inl (G.2.2.1, 16, .inl tfz)), (tb, .inl (G.2.1, 12000, .inl tfb)), (tg, .inl (G.2.2.1, 17, .inl tfg)), (q, .inr (5, [.ref ex, .ref et, .ref ea, .ref eb, .ref ec, .ref ed, .ref ef, .ref er, .int at_, .int en, .int fl])), (ex, .inr (0, [.ref ey, .int xs])), (ey, .inl (G.2.1, 4000, .inl xf)), (et, .inl (G.2.2.1, 316, .inl tf)), (ea, .inr (1, [.ref ea1, .ref ea2, .int eas])), (ea1, .inl (G.2.2.1, 16, .inl eac)), (ea2, .inl (G.2.2.1, 288, .inl eay)), (eb, .inr (1, [.ref eb1, .ref eb2, .int ebs])), (eb1, .inl (G.2.2.1, 16, .inl ebc)), (eb2, .inl (G.2.2.1, 32, .inl eby)), (ef, .inr (1, [.ref ef1, .ref ef2, .int efs])), (ef1, .inl (G.2.2.1, 16, .inl efc)), (ef2, .inl (G.2.2.1, 19, .inl efy)), (ec, .inr (1, [.ref ec1, .ref ec2, .int ecs])), (ec1, .inl (G.2.2.1, 16, .inl ecc)), (ec2, .inl (G.2.2.1, 286, .inl ecy)), (ed, .inr (1, [.ref ed1, .ref ed2, .int eds])), (ed1, .inl (G.2.2.1, 16, .inl edc)), (ed2, .inl (G.2.2.1, 30, .inl edy))] (S := Int32 × Int32 × (Nat → Int32) × (Nat → Int32) × (Nat → Int32) × (Nat → Int32) × Nat × Int32 × Int32 × Int32 × Int32 × (Nat → Int32) × (Nat → Int32) × Int32 × (Nat → Int32) × (Nat → Int32) × Int32 × (Nat → Int32) × (Nat → Int32) × Int32 × (Nat → Int32) × (Nat → Int32)) (fun rv_ u => rv_ = some (.int u.1) ∧ (sh_I u.2.1.toInt u.2.2.2.1 u.2.2.2.2.2.1) ∧ (0 ≤ u.2.2.2.2.2.2.2.2.2.2.1.toInt) ∧ (u.2.2.2.2.2.2.2.2.2.2.1.toInt ≤ 4000) ∧ (co_I u.2.2.2.2.2.2.2.2.2.2.2.2.2.1.toInt u.2.2.2.2.2.2.2.2.2.2.2.2.2.2.1 u.2.2.2.2.2.2.2.2.2.2.2.2.2.2.2.1 19) ∧ (u.2.2.2.2.2.2.2.2.2.2.2.2.2.1.toInt ≤ 19) ∧ (co_I u.2.2.2.2.2.2.2.2.2.2.2.2.2.2.2.2.1.toInt u.2.2.2.2.2.2.2.2.2.2.2.2.2.2.2.2.2.1 u.2.2.2.2.2.2.2.2.2.2.2.2.2.2.2.2.2.2.1 288) ∧ (u.2.2.2.2.2.2.2.2.2.2.2.2.2.2.2.2.1.toInt ≤ 286) ∧ (co_I u.2.2.2.2.2.2.2.2.2.2.2.2.2.2.2.2.2.2.2.1.toInt u.2.2.2.2.2.2.2.2.2.2.2.2.2.2.2.2.2.2.2.2.1 u.2.2.2.2.2.2.2.2.2.2.2.2.2.2.2.2.2.2.2.2.2 32) ∧ (u.2.2.2.2.2.2.2.2.2.2.2.2.2.2.2.2.2.2.2.1.toInt ≤ 30) ∧ (hid_ (∃ W : VW_, en_R A lm.toInt x.toInt V u.1.toInt W ∧ (u.1.toInt = 0 → rC_ u.2.1.toInt u.2.2.1 u.2.2.2.1 u.2.2.2.2.1 u.2.2.2.2.2.1 W))) ∧ (sb_Fit u.2.2.1) ∧ (sb_Fit u.2.2.2.2.1) ∧ (sb_Fit u.2.2.2.2.2.2.2.2.2.2.2.1)) (fun u => [(h, .inr (7, [.ref b])), (b, .inl (G.2.1, N, .inl f)), (sp, .inr (3, [.ref tn, .ref tz, .ref tb, .ref tg, .int u.2.1])), (tn, .inl (G.2.1, 384, .inl u.2.2.1)), (tz, .inl (G.2.2.1, 16, .inl u.2.2.2.1)), (tb, .inl (G.2.1, 12000, .inl u.2.2.2.2.1)), (tg, .inl (G.2.2.1, 17, .inl u.2.2.2.2.2.1)), (q, .inr (5, [.ref ex, .ref et, .ref ea, .ref eb, .ref ec, .ref ed, .ref ef, .ref u.2.2.2.2.2.2.1, .int u.2.2.2.2.2.2.2.1, .int u.2.2.2.2.2.2.2.2.1, .int u.2.2.2.2.2.2.2.2.2.1])), (ex, .inr (0, [.ref ey, .int u.2.2.2.2.2.2.2.2.2.2.1])), (ey, .inl (G.2.1, 4000, .inl u.2.2.2.2.2.2.2.2.2.2.2.1)), (et, .inl (G.2.2.1, 316, .inl u.2.2.2.2.2.2.2.2.2.2.2.2.1)), (ea, .inr (1, [.ref ea1, .ref ea2, .int eas])), (ea1, .inl (G.2.2.1, 16, .inl eac)), (ea2, .inl (G.2.2.1, 288, .inl eay)), (eb, .inr (1, [.ref eb1, .ref eb2, .int ebs])), (eb1, .inl (G.2.2.1, 16, .inl ebc)), (eb2, .inl (G.2.2.1, 32, .inl eby)), (ef, .inr (1, [.ref ef1, .ref ef2, .int u.2.2.2.2.2.2.2.2.2.2.2.2.2.1])), (ef1, .inl (G.2.2.1, 16, .inl u.2.2.2.2.2.2.2.2.2.2.2.2.2.2.1)), (ef2, .inl (G.2.2.1, 19, .inl u.2.2.2.2.2.2.2.2.2.2.2.2.2.2.2.1)), (ec, .inr (1, [.ref ec1, .ref ec2, .int u.2.2.2.2.2.2.2.2.2.2.2.2.2.2.2.2.1])), (ec1, .inl (G.2.2.1, 16, .inl u.2.2.2.2.2.2.2.2.2.2.2.2.2.2.2.2.2.1)), (ec2, .inl (G.2.2.1, 286, .inl u.2.2.2.2.2.2.2.2.2.2.2.2.2.2.2.2.2.2.1)), (ed, .inr (1, [.ref ed1, .ref ed2, .int u.2.2.2.2.2.2.2.2.2.2.2.2.2.2.2.2.2.2.2.1])), (ed1, .inl (G.2.2.1, 16, .inl u.2.2.2.2.2.2.2.2.2.2.2.2.2.2.2.2.2.2.2.2.1)), (ed2, .inl (G.2.2.1, 30, .inl u.2.2.2.2.2.2.2.2.2.2.2.2.2.2.2.2.2.2.2.2.2))]) := by
  refine Cn.of hl (by decide +kernel) rfl (Nat.le_of_ble_eq_true rfl) (fun M hQ => ?_)
  refine pb_eq (pc' := 0) (lo' := [(0, .ref h), (1, .int x), (2, .long lm), (4, .ref sp), (5, .ref q)]) (rest' := []) (ws' := [(h, .inr (7, [.ref b])), (b, .inl (G.2.1, N, .inl f)), (sp, .inr (3, [.ref tn, .ref tz, .ref tb, .ref tg, .int c])), (tn, .inl (G.2.1, 384, .inl tfn)), (tz, .inl (G.2.2.1, 16, .inl tfz)), (tb, .inl (G.2.1, 12000, .inl tfb)), (tg, .inl (G.2.2.1, 17, .inl tfg)), (q, .inr (5, [.ref ex, .ref et, .ref ea, .ref eb, .ref ec, .ref ed, .ref ef, .ref er, .int at_, .int en, .int fl])), (ex, .inr (0, [.ref ey, .int xs])), (ey, .inl (G.2.1, 4000, .inl xf)), (et, .inl (G.2.2.1, 316, .inl tf)), (ea, .inr (1, [.ref ea1, .ref ea2, .int eas])), (ea1, .inl (G.2.2.1, 16, .inl eac)), (ea2, .inl (G.2.2.1, 288, .inl eay)), (eb, .inr (1, [.ref eb1, .ref eb2, .int ebs])), (eb1, .inl (G.2.2.1, 16, .inl ebc)), (eb2, .inl (G.2.2.1, 32, .inl eby)), (ef, .inr (1, [.ref ef1, .ref ef2, .int efs])), (ef1, .inl (G.2.2.1, 16, .inl efc)), (ef2, .inl (G.2.2.1, 19, .inl efy)), (ec, .inr (1, [.ref ec1, .ref ec2, .int ecs])), (ec1, .inl (G.2.2.1, 16, .inl ecc)), (ec2, .inl (G.2.2.1, 286, .inl ecy)), (ed, .inr (1, [.ref ed1, .ref ed2, .int eds])), (ed1, .inl (G.2.2.1, 16, .inl edc)), (ed2, .inl (G.2.2.1, 30, .inl edy))]) ?_
  have zm1 : ((-1) : Int32).toInt = (-1) := by decide
  have zl0 : (0 : Int32).toInt = 0 := by decide
  have zl1 : (1 : Int32).toInt = 1 := by decide
  have zl3 : (3 : Int32).toInt = 3 := by decide
  have zl4 : (4 : Int32).toInt = 4 := by decide
  have zl5 : (5 : Int32).toInt = 5 := by decide
  have zl6 : (6 : Int32).toInt = 6 := by decide
  have tq := tw_rng f (x.toInt + 28)
  have tq5 := aw2 A (x.toInt + 28)
  have zm1_ : (-1 : Int32).toInt = -1 := by decide
  refine pb_aload_n (pc := 0) d_FileReader_readEntry_0 0 rfl rfl ?_
  refine pb_get (pc := 1) d_FileReader_readEntry_1 0 0 rfl rfl (by decide) in_FileReader k_306 rfl ?_
  refine pb_iload_n (pc := 4) d_FileReader_readEntry_4 1 rfl rfl ?_
  refine pb_bipush (pc := 5) (v := 42) d_FileReader_readEntry_5 (by decide) ?_
  refine pb_iadd (pc := 7) d_FileReader_readEntry_7 ?_
  refine pb_topi (fun i1 ei1 => ?_)
  try have ti1 : i1.toInt = x.toInt + 42 := t2_add ei1 rfl (by decide) (by omega)
  refine pb_callSN (pc := 8) (I := i_FileReader_readEntry) (nA := 2) (rest := []) (wr := [(h, .inr (7, [.ref b])), (sp, .inr (3, [.ref tn, .ref tz, .ref tb, .ref tg, .int c])), (tn, .inl (G.2.1, 384, .inl tfn)), (tz, .inl (G.2.2.1, 16, .inl tfz)), (tb, .inl (G.2.1, 12000, .inl tfb)), (tg, .inl (G.2.2.1, 17, .inl tfg)), (q, .inr (5, [.ref ex, .ref et, .ref ea, .ref eb, .ref ec, .ref ed, .ref ef, .ref er, .int at_, .int en, .int fl])), (ex, .inr (0, [.ref ey, .int xs])), (ey, .inl (G.2.1, 4000, .inl xf)), (et, .inl (G.2.2.1, 316, .inl tf)), (ea, .inr (1, [.ref ea1, .ref ea2, .int eas])), (ea1, .inl (G.2.2.1, 16, .inl eac)), (ea2, .inl (G.2.2.1, 288, .inl eay)), (eb, .inr (1, [.ref eb1, .ref eb2, .int ebs])), (eb1, .inl (G.2.2.1, 16, .inl ebc)), (eb2, .inl (G.2.2.1, 32, .inl eby)), (ef, .inr (1, [.ref ef1, .ref ef2, .int efs])), (ef1, .inl (G.2.2.1, 16, .inl efc)), (ef2, .inl (G.2.2.1, 19, .inl efy)), (ec, .inr (1, [.ref ec1, .ref ec2, .int ecs])), (ec1, .inl (G.2.2.1, 16, .inl ecc)), (ec2, .inl (G.2.2.1, 286, .inl ecy)), (ed, .inr (1, [.ref ed1, .ref ed2, .int eds])), (ed1, .inl (G.2.2.1, 16, .inl edc)), (ed2, .inl (G.2.2.1, 30, .inl edy))]) d_FileReader_readEntry_8 (g_fourAt hl G b N f i1 (by first | (with_reducible assumption) | omega (splitDisjunctions := false) | assumption | omega | decide) (by first | (with_reducible assumption) | omega (splitDisjunctions := false) | assumption | omega | decide) (by first | (with_reducible assumption) | omega (splitDisjunctions := false) | assumption | omega | decide) F_f) [1] [0, 2, 3, 4, 5, 6, 7, 8, 9, 10, 11, 12, 13, 14, 15, 16, 17, 18, 19, 20, 21, 22, 23, 24, 25] (by decide) rfl rfl rfl (by decide) (by decide) k_594 rfl k_118 k_592 k_593 hy_Book_fourAt (by decide) rfl rfl (Nat.le_of_ble_eq_true rfl) (by decide) (fun v9 u3 ch2 => ?_)
  obtain ⟨r_4, rfl⟩ : ∃ z9, z9 = u3 := ⟨_, rfl⟩
  obtain ⟨ech2, ch2⟩ := ch2
  have ech2 : v9 = some (.long r_4) := ech2
  subst ech2
  obtain ⟨fh5, fh6, fh7⟩ : (0 ≤ r_4.toInt) ∧ (r_4.toInt < 4294967296) ∧ (r_4.toInt = av f i1.toInt 4) := ch2
  have u42 : r_4.toInt = aw A (x.toInt + 42) 4 := by rw [fh7, show i1.toInt = x.toInt + 42 by omega]; exact av_A hA 4 (by omega) (by (exact omg_b5f1eae23a hZ tq5))
  refine pb_eq (pc' := 11) (lo' := [(0, .ref h), (1, .int x), (2, .long lm), (4, .ref sp), (5, .ref q)]) (rest' := [.long r_4]) (ws' := [(h, .inr (7, [.ref b])), (sp, .inr (3, [.ref tn, .ref tz, .ref tb, .ref tg, .int c])), (tn, .inl (G.2.1, 384, .inl tfn)), (tz, .inl (G.2.2.1, 16, .inl tfz)), (tb, .inl (G.2.1, 12000, .inl tfb)), (tg, .inl (G.2.2.1, 17, .inl tfg)), (q, .inr (5, [.ref ex, .ref et, .ref ea, .ref eb, .ref ec, .ref ed, .ref ef, .ref er, .int at_, .int en, .int fl])), (ex, .inr (0, [.ref ey, .int xs])), (ey, .inl (G.2.1, 4000, .inl xf)), (et, .inl (G.2.2.1, 316, .inl tf)), (ea, .inr (1, [.ref ea1, .ref ea2, .int eas])), (ea1, .inl (G.2.2.1, 16, .inl eac)), (ea2, .inl (G.2.2.1, 288, .inl eay)), (eb, .inr (1, [.ref eb1, .ref eb2, .int ebs])), (eb1, .inl (G.2.2.1, 16, .inl ebc)), (eb2, .inl (G.2.2.1, 32, .inl eby)), (ef, .inr (1, [.ref ef1, .ref ef2, .int efs])), (ef1, .inl (G.2.2.1, 16, .inl efc)), (ef2, .inl (G.2.2.1, 19, .inl efy)), (ec, .inr (1, [.ref ec1, .ref ec2, .int ecs])), (ec1, .inl (G.2.2.1, 16, .inl ecc)), (ec2, .inl (G.2.2.1, 286, .inl ecy)), (ed, .inr (1, [.ref ed1, .ref ed2, .int eds])), (ed1, .inl (G.2.2.1, 16, .inl edc)), (ed2, .inl (G.2.2.1, 30, .inl edy)), (b, .inl (G.2.1, N, .inl f))]) ?_
  refine pb_lstore (pc := 11) (lo' := [(6, .long r_4), (0, .ref h), (1, .int x), (2, .long lm), (4, .ref sp), (5, .ref q)]) d_FileReader_readEntry_11 (by decide) rfl ?_
  refine pb_aload_n (pc := 13) d_FileReader_readEntry_13 1 rfl rfl ?_
  refine pb_get (pc := 14) d_FileReader_readEntry_14 0 0 rfl rfl (by decide) in_FileReader k_306 rfl ?_
  refine pb_iload_n (pc := 17) d_FileReader_readEntry_17 2 rfl rfl ?_
  refine pb_bipush (pc := 18) (v := 20) d_FileReader_readEntry_18 (by decide) ?_
  refine pb_iadd (pc := 20) d_FileReader_readEntry_20 ?_
  refine pb_topi (fun i8 ei8 => ?_)
  try have ti8 : i8.toInt = x.toInt + 20 := t2_add ei8 rfl (by decide) (by omega)
  refine pb_callSN (pc := 21) (I := i_FileReader_readEntry) (nA := 2) (rest := []) (wr := [(h, .inr (7, [.ref b])), (sp, .inr (3, [.ref tn, .ref tz, .ref tb, .ref tg, .int c])), (tn, .inl (G.2.1, 384, .inl tfn)), (tz, .inl (G.2.2.1, 16, .inl tfz)), (tb, .inl (G.2.1, 12000, .inl tfb)), (tg, .inl (G.2.2.1, 17, .inl tfg)), (q, .inr (5, [.ref ex, .ref et, .ref ea, .ref eb, .ref ec, .ref ed, .ref ef, .ref er, .int at_, .int en, .int fl])), (ex, .inr (0, [.ref ey, .int xs])), (ey, .inl (G.2.1, 4000, .inl xf)), (et, .inl (G.2.2.1, 316, .inl tf)), (ea, .inr (1, [.ref ea1, .ref ea2, .int eas])), (ea1, .inl (G.2.2.1, 16, .inl eac)), (ea2, .inl (G.2.2.1, 288, .inl eay)), (eb, .inr (1, [.ref eb1, .ref eb2, .int ebs])), (eb1, .inl (G.2.2.1, 16, .inl ebc)), (eb2, .inl (G.2.2.1, 32, .inl eby)), (ef, .inr (1, [.ref ef1, .ref ef2, .int efs])), (ef1, .inl (G.2.2.1, 16, .inl efc)), (ef2, .inl (G.2.2.1, 19, .inl efy)), (ec, .inr (1, [.ref ec1, .ref ec2, .int ecs])), (ec1, .inl (G.2.2.1, 16, .inl ecc)), (ec2, .inl (G.2.2.1, 286, .inl ecy)), (ed, .inr (1, [.ref ed1, .ref ed2, .int eds])), (ed1, .inl (G.2.2.1, 16, .inl edc)), (ed2, .inl (G.2.2.1, 30, .inl edy))]) d_FileReader_readEntry_21 (g_fourAt hl G b N f i8 (by first | (with_reducible assumption) | omega (splitDisjunctions := false) | assumption | omega | decide) (by first | (with_reducible assumption) | omega (splitDisjunctions := false) | assumption | omega | decide) (by first | (with_reducible assumption) | omega (splitDisjunctions := false) | assumption | omega | decide) F_f) [25] [0, 1, 2, 3, 4, 5, 6, 7, 8, 9, 10, 11, 12, 13, 14, 15, 16, 17, 18, 19, 20, 21, 22, 23, 24] (by decide) rfl rfl rfl (by decide) (by decide) k_594 rfl k_118 k_592 k_593 hy_Book_fourAt (by decide) rfl rfl (Nat.le_of_ble_eq_true rfl) (by decide) (fun v9 u10 ch9 => ?_)
  obtain ⟨r_11, rfl⟩ : ∃ z9, z9 = u10 := ⟨_, rfl⟩
  obtain ⟨ech9, ch9⟩ := ch9
  have ech9 : v9 = some (.long r_11) := ech9
  subst ech9
  obtain ⟨fh12, fh13, fh14⟩ : (0 ≤ r_11.toInt) ∧ (r_11.toInt < 4294967296) ∧ (r_11.toInt = av f i8.toInt 4) := ch9
  have u20 : r_11.toInt = aw A (x.toInt + 20) 4 := by rw [fh14, show i8.toInt = x.toInt + 20 by omega]; exact av_A hA 4 (by omega) (by (exact omg_96293bd7a6 hZ tq5))
  refine pb_eq (pc' := 24) (lo' := [(6, .long r_4), (0, .ref h), (1, .int x), (2, .long lm), (4, .ref sp), (5, .ref q)]) (rest' := [.long r_11]) (ws' := [(h, .inr (7, [.ref b])), (sp, .inr (3, [.ref tn, .ref tz, .ref tb, .ref tg, .int c])), (tn, .inl (G.2.1, 384, .inl tfn)), (tz, .inl (G.2.2.1, 16, .inl tfz)), (tb, .inl (G.2.1, 12000, .inl tfb)), (tg, .inl (G.2.2.1, 17, .inl tfg)), (q, .inr (5, [.ref ex, .ref et, .ref ea, .ref eb, .ref ec, .ref ed, .ref ef, .ref er, .int at_, .int en, .int fl])), (ex, .inr (0, [.ref ey, .int xs])), (ey, .inl (G.2.1, 4000, .inl xf)), (et, .inl (G.2.2.1, 316, .inl tf)), (ea, .inr (1, [.ref ea1, .ref ea2, .int eas])), (ea1, .inl (G.2.2.1, 16, .inl eac)), (ea2, .inl (G.2.2.1, 288, .inl eay)), (eb, .inr (1, [.ref eb1, .ref eb2, .int ebs])), (eb1, .inl (G.2.2.1, 16, .inl ebc)), (eb2, .inl (G.2.2.1, 32, .inl eby)), (ef, .inr (1, [.ref ef1, .ref ef2, .int efs])), (ef1, .inl (G.2.2.1, 16, .inl efc)), (ef2, .inl (G.2.2.1, 19, .inl efy)), (ec, .inr (1, [.ref ec1, .ref ec2, .int ecs])), (ec1, .inl (G.2.2.1, 16, .inl ecc)), (ec2, .inl (G.2.2.1, 286, .inl ecy)), (ed, .inr (1, [.ref ed1, .ref ed2, .int eds])), (ed1, .inl (G.2.2.1, 16, .inl edc)), (ed2, .inl (G.2.2.1, 30, .inl edy)), (b, .inl (G.2.1, N, .inl f))]) ?_
  refine pb_lstore (pc := 24) (lo' := [(8, .long r_11), (6, .long r_4), (0, .ref h), (1, .int x), (2, .long lm), (4, .ref sp), (5, .ref q)]) d_FileReader_readEntry_24 (by decide) rfl ?_
  refine pb_aload_n (pc := 26) d_FileReader_readEntry_26 2 rfl rfl ?_
  refine pb_get (pc := 27) d_FileReader_readEntry_27 0 0 rfl rfl (by decide) in_FileReader k_306 rfl ?_
  refine pb_iload_n (pc := 30) d_FileReader_readEntry_30 3 rfl rfl ?_
  refine pb_bipush (pc := 31) (v := 28) d_FileReader_readEntry_31 (by decide) ?_
  refine pb_iadd (pc := 33) d_FileReader_readEntry_33 ?_
  refine pb_topi (fun i15 ei15 => ?_)
  try have ti15 : i15.toInt = x.toInt + 28 := t2_add ei15 rfl (by decide) (by omega)
  refine pb_callSN (pc := 34) (I := i_FileReader_readEntry) (nA := 2) (rest := []) (wr := [(h, .inr (7, [.ref b])), (sp, .inr (3, [.ref tn, .ref tz, .ref tb, .ref tg, .int c])), (tn, .inl (G.2.1, 384, .inl tfn)), (tz, .inl (G.2.2.1, 16, .inl tfz)), (tb, .inl (G.2.1, 12000, .inl tfb)), (tg, .inl (G.2.2.1, 17, .inl tfg)), (q, .inr (5, [.ref ex, .ref et, .ref ea, .ref eb, .ref ec, .ref ed, .ref ef, .ref er, .int at_, .int en, .int fl])), (ex, .inr (0, [.ref ey, .int xs])), (ey, .inl (G.2.1, 4000, .inl xf)), (et, .inl (G.2.2.1, 316, .inl tf)), (ea, .inr (1, [.ref ea1, .ref ea2, .int eas])), (ea1, .inl (G.2.2.1, 16, .inl eac)), (ea2, .inl (G.2.2.1, 288, .inl eay)), (eb, .inr (1, [.ref eb1, .ref eb2, .int ebs])), (eb1, .inl (G.2.2.1, 16, .inl ebc)), (eb2, .inl (G.2.2.1, 32, .inl eby)), (ef, .inr (1, [.ref ef1, .ref ef2, .int efs])), (ef1, .inl (G.2.2.1, 16, .inl efc)), (ef2, .inl (G.2.2.1, 19, .inl efy)), (ec, .inr (1, [.ref ec1, .ref ec2, .int ecs])), (ec1, .inl (G.2.2.1, 16, .inl ecc)), (ec2, .inl (G.2.2.1, 286, .inl ecy)), (ed, .inr (1, [.ref ed1, .ref ed2, .int eds])), (ed1, .inl (G.2.2.1, 16, .inl edc)), (ed2, .inl (G.2.2.1, 30, .inl edy))]) d_FileReader_readEntry_34 (g_twoAt hl G b N f i15 (by first | (with_reducible assumption) | omega (splitDisjunctions := false) | assumption | omega | decide) (by first | (with_reducible assumption) | omega (splitDisjunctions := false) | assumption | omega | decide) (by first | (with_reducible assumption) | omega (splitDisjunctions := false) | assumption | omega | decide) F_f) [25] [0, 1, 2, 3, 4, 5, 6, 7, 8, 9, 10, 11, 12, 13, 14, 15, 16, 17, 18, 19, 20, 21, 22, 23, 24] (by decide) rfl rfl rfl (by decide) (by decide) k_597 rfl k_118 k_599 k_596 hy_Book_twoAt (by decide) rfl rfl (Nat.le_of_ble_eq_true rfl) (by decide) (fun v9 u17 ch16 => ?_)
  obtain ⟨r_18, rfl⟩ : ∃ z9, z9 = u17 := ⟨_, rfl⟩
  obtain ⟨ech16, ch16⟩ := ch16
  have ech16 : v9 = some (.int r_18) := ech16
  subst ech16
  obtain ⟨fh19, fh20, fh21, fh22⟩ : (0 ≤ r_18.toInt) ∧ (r_18.toInt ≤ 65535) ∧ (r_18.toInt = tw f i15.toInt) ∧ (r_18.toInt = av f i15.toInt 2) := ch16
  rw [show i15.toInt = x.toInt + 28 by omega] at fh21
  have u28 : r_18.toInt = aw A (x.toInt + 28) 2 := by rw [fh22, show i15.toInt = x.toInt + 28 by omega]; exact av_A hA 2 (by omega) (by omega)
  refine pb_eq (pc' := 37) (lo' := [(8, .long r_11), (6, .long r_4), (0, .ref h), (1, .int x), (2, .long lm), (4, .ref sp), (5, .ref q)]) (rest' := [.int r_18]) (ws' := [(h, .inr (7, [.ref b])), (sp, .inr (3, [.ref tn, .ref tz, .ref tb, .ref tg, .int c])), (tn, .inl (G.2.1, 384, .inl tfn)), (tz, .inl (G.2.2.1, 16, .inl tfz)), (tb, .inl (G.2.1, 12000, .inl tfb)), (tg, .inl (G.2.2.1, 17, .inl tfg)), (q, .inr (5, [.ref ex, .ref et, .ref ea, .ref eb, .ref ec, .ref ed, .ref ef, .ref er, .int at_, .int en, .int fl])), (ex, .inr (0, [.ref ey, .int xs])), (ey, .inl (G.2.1, 4000, .inl xf)), (et, .inl (G.2.2.1, 316, .inl tf)), (ea, .inr (1, [.ref ea1, .ref ea2, .int eas])), (ea1, .inl (G.2.2.1, 16, .inl eac)), (ea2, .inl (G.2.2.1, 288, .inl eay)), (eb, .inr (1, [.ref eb1, .ref eb2, .int ebs])), (eb1, .inl (G.2.2.1, 16, .inl ebc)), (eb2, .inl (G.2.2.1, 32, .inl eby)), (ef, .inr (1, [.ref ef1, .ref ef2, .int efs])), (ef1, .inl (G.2.2.1, 16, .inl efc)), (ef2, .inl (G.2.2.1, 19, .inl efy)), (ec, .inr (1, [.ref ec1, .ref ec2, .int ecs])), (ec1, .inl (G.2.2.1, 16, .inl ecc)), (ec2, .inl (G.2.2.1, 286, .inl ecy)), (ed, .inr (1, [.ref ed1, .ref ed2, .int eds])), (ed1, .inl (G.2.2.1, 16, .inl edc)), (ed2, .inl (G.2.2.1, 30, .inl edy)), (b, .inl (G.2.1, N, .inl f))]) ?_
  refine pb_istore (pc := 37) (lo' := [(10, .int r_18), (8, .long r_11), (6, .long r_4), (0, .ref h), (1, .int x), (2, .long lm), (4, .ref sp), (5, .ref q)]) d_FileReader_readEntry_37 (by decide) rfl ?_
  refine pb_lload (pc := 39) d_FileReader_readEntry_39 2 rfl ?_
  refine pb_ldc2 (pc := 41) (v := 30) d_FileReader_readEntry_41 k_613 ?_
  refine pb_ladd (pc := 44) d_FileReader_readEntry_44 ?_
  refine pb_topl (fun j23 ej23 => ?_)
  try have tj23 : j23.toInt = r_4.toInt + 30 := tl_add ej23 rfl (by decide) (by omega) (by omega)
  refine pb_iload (pc := 45) d_FileReader_readEntry_45 0 rfl ?_
  refine pb_i2l (pc := 47) d_FileReader_readEntry_47 rfl ?_
  refine pb_topl (fun j24 ej24 => ?_)
  have tj24 : j24.toInt = r_18.toInt := tl_i2l ej24 rfl
  refine pb_ladd (pc := 48) d_FileReader_readEntry_48 ?_
  refine pb_topl (fun j25 ej25 => ?_)
  try have tj25 : j25.toInt = j23.toInt + j24.toInt := tl_add ej25 rfl rfl (by omega) (by omega)
  refine pb_lstore (pc := 49) (lo' := [(11, .long j25), (10, .int r_18), (8, .long r_11), (6, .long r_4), (0, .ref h), (1, .int x), (2, .long lm), (4, .ref sp), (5, .ref q)]) d_FileReader_readEntry_49 (by decide) rfl ?_
  refine pb_lload (pc := 51) d_FileReader_readEntry_51 0 rfl ?_
  refine pb_lload (pc := 53) d_FileReader_readEntry_53 2 rfl ?_
  refine pb_ladd (pc := 55) d_FileReader_readEntry_55 ?_
  refine pb_topl (fun j26 ej26 => ?_)
  try have tj26 : j26.toInt = j25.toInt + r_11.toInt := tl_add ej26 rfl rfl (by (exact omg_1c088cdaa3 tq5 fh5 fh12 u28 tj23 tj24 tj25)) (by (exact omg_e7dfb7f19a tq5 fh6 fh13 u28 tj23 tj24 tj25))
  refine pb_lload_n (pc := 56) d_FileReader_readEntry_56 6 rfl rfl ?_
  refine pb_lcmp (pc := 57) d_FileReader_readEntry_57 ?_
  refine pb_topi (fun i27 ei27 => ?_)
  have ti27 : (i27.toInt < 0 ↔ j26.toInt < lm.toInt) ∧ (i27.toInt = 0 ↔ j26.toInt = lm.toInt) ∧ (0 < i27.toInt ↔ lm.toInt < j26.toInt) := tl_cmp ei27 rfl rfl
  obtain ⟨lc1, lc2, lc3⟩ := ti27
  refine pb_if_gt (pc := 58) (tgt := 74) d_FileReader_readEntry_58 (by decide) (fun w28 => ?_) (fun w28 => ?_)
  · have tw28 : 0 < i27.toInt := (ti_lt (by decide) rfl).mp w28
    refine pb_iconst (pc := 74) (v := 3) d_FileReader_readEntry_74 (by decide) ?_
    exact pb_iret (pc := 75) hQ d_FileReader_readEntry_75 rfl rfl (3, c, tfn, tfz, tfb, tfg, er, at_, en, fl, xs, xf, tf, efs, efc, efy, ecs, ecc, ecy, eds, edc, edy) ⟨rfl, (by (try dsimp only); first | done | assumption | decide | omega), (by (try dsimp only); first | done | (with_reducible assumption) | omega (splitDisjunctions := false) | assumption | omega | decide), (by (try dsimp only); first | done | (with_reducible assumption) | omega (splitDisjunctions := false) | assumption | omega | decide), (by (try dsimp only); first | done | assumption | decide | omega), (by (try dsimp only); first | done | (with_reducible assumption) | omega (splitDisjunctions := false) | assumption | omega | decide), (by (try dsimp only); first | done | assumption | decide | omega), (by (try dsimp only); first | done | (with_reducible assumption) | omega (splitDisjunctions := false) | assumption | omega | decide), (by (try dsimp only); first | done | assumption | decide | omega), (by (try dsimp only); first | done | (with_reducible assumption) | omega (splitDisjunctions := false) | assumption | omega | decide), (show hid_ (∃ W : VW_, en_R A lm.toInt x.toInt V (3 : Int32).toInt W ∧ ((3 : Int32).toInt = 0 → rC_ c.toInt tfn tfz tfb tfg W)) from (hid_i ⟨V, en_3 (by first | decide | omega) (by first | exact rr_n2 (by omega) (by omega) (hid_o rq0 (by omega)) | exact rr_n1 (by (exact omg_f6e3c8ee3b u42 u20 u28 tj23 tj24 tj25 tj26 lc3 tw28))), fun q9 => absurd q9 (by first | decide | omega)⟩)), F_tfn, F_tfb, F_xf⟩ [0, 25, 1, 2, 3, 4, 5, 6, 7, 8, 9, 10, 11, 12, 13, 14, 15, 16, 17, 18, 19, 20, 21, 22, 23, 24] (by decide) rfl rfl (by decide) (by decide)
  · have tw28 : ¬ 0 < i27.toInt := fun z9 => w28 ((ti_lt (by decide) rfl).mpr z9)
    have lc4 := mt lc3.mpr (by assumption)
    clear lc1 lc2 lc3
    refine pb_aload_n (pc := 61) d_FileReader_readEntry_61 4 rfl rfl ?_
    refine pb_iload_n (pc := 62) d_FileReader_readEntry_62 5 rfl rfl ?_
    refine pb_lload (pc := 63) d_FileReader_readEntry_63 3 rfl ?_
    refine pb_l2i (pc := 65) d_FileReader_readEntry_65 rfl ?_
    refine pb_topi (fun i29 ei29 => ?_)
    try have ti29 : i29.toInt = r_4.toInt := ti_l2i ei29 rfl (by (exact omg_829df125db fh5)) (by (exact omg_edd1e9f77b h2 hN tq5 fh12 u28 tj23 tj24 tj25 tj26 lc4))
    refine pb_iload (pc := 66) d_FileReader_readEntry_66 1 rfl ?_
    refine pb_callV (pc := 68) (I := i_FileReader_readEntry) (qb := 0) (ci := 7) (nA := 3) (rest := []) (wr := [(sp, .inr (3, [.ref tn, .ref tz, .ref tb, .ref tg, .int c])), (tn, .inl (G.2.1, 384, .inl tfn)), (tz, .inl (G.2.2.1, 16, .inl tfz)), (tb, .inl (G.2.1, 12000, .inl tfb)), (tg, .inl (G.2.2.1, 17, .inl tfg)), (q, .inr (5, [.ref ex, .ref et, .ref ea, .ref eb, .ref ec, .ref ed, .ref ef, .ref er, .int at_, .int en, .int fl])), (ex, .inr (0, [.ref ey, .int xs])), (ey, .inl (G.2.1, 4000, .inl xf)), (et, .inl (G.2.2.1, 316, .inl tf)), (ea, .inr (1, [.ref ea1, .ref ea2, .int eas])), (ea1, .inl (G.2.2.1, 16, .inl eac)), (ea2, .inl (G.2.2.1, 288, .inl eay)), (eb, .inr (1, [.ref eb1, .ref eb2, .int ebs])), (eb1, .inl (G.2.2.1, 16, .inl ebc)), (eb2, .inl (G.2.2.1, 32, .inl eby)), (ef, .inr (1, [.ref ef1, .ref ef2, .int efs])), (ef1, .inl (G.2.2.1, 16, .inl efc)), (ef2, .inl (G.2.2.1, 19, .inl efy)), (ec, .inr (1, [.ref ec1, .ref ec2, .int ecs])), (ec1, .inl (G.2.2.1, 16, .inl ecc)), (ec2, .inl (G.2.2.1, 286, .inl ecy)), (ed, .inr (1, [.ref ed1, .ref ed2, .int eds])), (ed1, .inl (G.2.2.1, 16, .inl edc)), (ed2, .inl (G.2.2.1, 30, .inl edy))]) d_FileReader_readEntry_68 (g_Rd_isRecordOf hl G h b N f x i29 r_18 A Zs (by first | (with_reducible assumption) | omega (splitDisjunctions := false) | assumption | omega | decide) (by first | (with_reducible assumption) | (exact omg_000088b713 h1 fh21) | assumption | omega | decide) (by first | (with_reducible assumption) | (exact omg_9421ffe5b8 fh5 ti29) | assumption | omega | decide) (by first | (with_reducible assumption) | (exact omg_9b77257d31 h2 fh12 tj23 tj24 tj25 tj26 lc4 ti29) | assumption | omega | decide) (by first | (with_reducible assumption) | omega (splitDisjunctions := false) | assumption | omega | decide) (by first | (with_reducible assumption) | omega (splitDisjunctions := false) | assumption | omega | decide) (by first | assumption | decide | omega) (by first | (with_reducible assumption) | (exact omg_015fc1e06f hZ u28) | assumption | omega | decide) (by first | (with_reducible assumption) | (exact omg_d7355721ab hZ2 fh12 tj23 tj24 tj25 tj26 lc4 ti29) | assumption | omega | decide) F_f) rfl rfl [0, 25] [1, 2, 3, 4, 5, 6, 7, 8, 9, 10, 11, 12, 13, 14, 15, 16, 17, 18, 19, 20, 21, 22, 23, 24] (by decide) rfl rfl rfl (by decide) (by decide) k_617 rfl k_124 k_614 k_616 k_16 ⟨rfl, hy_FileReader_isRecordOf⟩ (by decide) rfl rfl (Nat.le_of_ble_eq_true rfl) (by decide) (fun v9 u31 ch30 => ?_)
    obtain ⟨r_32, rfl⟩ : ∃ z9, z9 = u31 := ⟨_, rfl⟩
    obtain ⟨ech30, ch30⟩ := ch30
    have ech30 : v9 = some (.int r_32) := ech30
    subst ech30
    obtain ⟨fh33, fh34, fh35⟩ : (r_32.toInt = 0 ∨ r_32.toInt = 1) ∧ (r_32.toInt = 1 → aw A i29.toInt 4 = 67324752 ∧ (∀ k : Int, 0 ≤ k → k < 26 → A (x.toInt + 6 + k) = A (i29.toInt + 4 + k)) ∧ ∀ k : Int, 0 ≤ k → k < r_18.toInt → A (x.toInt + 46 + k) = A (i29.toInt + 30 + k)) ∧ (r_32.toInt = 0 → ¬ (aw A i29.toInt 4 = 67324752 ∧ (∀ k : Int, 0 ≤ k → k < 26 → A (x.toInt + 6 + k) = A (i29.toInt + 4 + k)) ∧ ∀ k : Int, 0 ≤ k → k < r_18.toInt → A (x.toInt + 46 + k) = A (i29.toInt + 30 + k))) := ch30
    have rq1 := hid_i fh34
    have rq0 := hid_i fh35
    have rqb := fh33
    clear fh33 fh34 fh35
    refine pb_eq (pc' := 71) (lo' := [(11, .long j25), (10, .int r_18), (8, .long r_11), (6, .long r_4), (0, .ref h), (1, .int x), (2, .long lm), (4, .ref sp), (5, .ref q)]) (rest' := [.int r_32]) (ws' := [(sp, .inr (3, [.ref tn, .ref tz, .ref tb, .ref tg, .int c])), (tn, .inl (G.2.1, 384, .inl tfn)), (tz, .inl (G.2.2.1, 16, .inl tfz)), (tb, .inl (G.2.1, 12000, .inl tfb)), (tg, .inl (G.2.2.1, 17, .inl tfg)), (q, .inr (5, [.ref ex, .ref et, .ref ea, .ref eb, .ref ec, .ref ed, .ref ef, .ref er, .int at_, .int en, .int fl])), (ex, .inr (0, [.ref ey, .int xs])), (ey, .inl (G.2.1, 4000, .inl xf)), (et, .inl (G.2.2.1, 316, .inl tf)), (ea, .inr (1, [.ref ea1, .ref ea2, .int eas])), (ea1, .inl (G.2.2.1, 16, .inl eac)), (ea2, .inl (G.2.2.1, 288, .inl eay)), (eb, .inr (1, [.ref eb1, .ref eb2, .int ebs])), (eb1, .inl (G.2.2.1, 16, .inl ebc)), (eb2, .inl (G.2.2.1, 32, .inl eby)), (ef, .inr (1, [.ref ef1, .ref ef2, .int efs])), (ef1, .inl (G.2.2.1, 16, .inl efc)), (ef2, .inl (G.2.2.1, 19, .inl efy)), (ec, .inr (1, [.ref ec1, .ref ec2, .int ecs])), (ec1, .inl (G.2.2.1, 16, .inl ecc)), (ec2, .inl (G.2.2.1, 286, .inl ecy)), (ed, .inr (1, [.ref ed1, .ref ed2, .int eds])), (ed1, .inl (G.2.2.1, 16, .inl edc)), (ed2, .inl (G.2.2.1, 30, .inl edy)), (h, .inr (7, [.ref b])), (b, .inl (G.2.1, N, .inl f))]) ?_
    refine pb_if_ne (pc := 71) (tgt := 76) d_FileReader_readEntry_71 (by decide) (fun w36 => ?_) (fun w36 => ?_)
    · have tw36 : ¬ r_32.toInt = 0 := fun z9 => w36 ((ti_eq rfl (by decide)).mpr z9)
      rename ¬ (_ : Int) = 0 => zq
      have rrF : rr_ A lm.toInt x.toInt := rr_y (by (exact omg_99b4580df8 u42 ti29)) (by omega) (by (exact omg_c0d2bc3c70 u20 tj23 tj24 tj25 tj26 lc4 ti29)) (hid_o rq1 (by (exact omg_d9c3f42b32 rqb zq)))
      clear zq rqb rq1 rq0
      refine pb_iload_n (pc := 76) d_FileReader_readEntry_76 5 rfl rfl ?_
      refine pb_bipush (pc := 77) (v := 46) d_FileReader_readEntry_77 (by decide) ?_
      refine pb_iadd (pc := 79) d_FileReader_readEntry_79 ?_
      refine pb_topi (fun i37 ei37 => ?_)
      try have ti37 : i37.toInt = x.toInt + 46 := t2_add ei37 rfl (by decide) (by (exact omg_8783ee062b h0 h1 hN tq5 fh21 u28))
      refine pb_istore (pc := 80) (lo' := [(13, .int i37), (11, .long j25), (10, .int r_18), (8, .long r_11), (6, .long r_4), (0, .ref h), (1, .int x), (2, .long lm), (4, .ref sp), (5, .ref q)]) d_FileReader_readEntry_80 (by decide) rfl ?_
      refine pb_aload_n (pc := 82) d_FileReader_readEntry_82 5 rfl rfl ?_
      refine pb_get (pc := 83) d_FileReader_readEntry_83 24 0 rfl rfl (by decide) in_FileReader k_306 rfl ?_
      refine pb_iload (pc := 86) d_FileReader_readEntry_86 0 rfl ?_
      refine pb_iload (pc := 88) d_FileReader_readEntry_88 2 rfl ?_
      refine pb_callSN (pc := 90) (I := i_FileReader_readEntry) (nA := 3) (rest := []) (wr := [(sp, .inr (3, [.ref tn, .ref tz, .ref tb, .ref tg, .int c])), (tn, .inl (G.2.1, 384, .inl tfn)), (tz, .inl (G.2.2.1, 16, .inl tfz)), (tb, .inl (G.2.1, 12000, .inl tfb)), (tg, .inl (G.2.2.1, 17, .inl tfg)), (q, .inr (5, [.ref ex, .ref et, .ref ea, .ref eb, .ref ec, .ref ed, .ref ef, .ref er, .int at_, .int en, .int fl])), (ex, .inr (0, [.ref ey, .int xs])), (ey, .inl (G.2.1, 4000, .inl xf)), (et, .inl (G.2.2.1, 316, .inl tf)), (ea, .inr (1, [.ref ea1, .ref ea2, .int eas])), (ea1, .inl (G.2.2.1, 16, .inl eac)), (ea2, .inl (G.2.2.1, 288, .inl eay)), (eb, .inr (1, [.ref eb1, .ref eb2, .int ebs])), (eb1, .inl (G.2.2.1, 16, .inl ebc)), (eb2, .inl (G.2.2.1, 32, .inl eby)), (ef, .inr (1, [.ref ef1, .ref ef2, .int efs])), (ef1, .inl (G.2.2.1, 16, .inl efc)), (ef2, .inl (G.2.2.1, 19, .inl efy)), (ec, .inr (1, [.ref ec1, .ref ec2, .int ecs])), (ec1, .inl (G.2.2.1, 16, .inl ecc)), (ec2, .inl (G.2.2.1, 286, .inl ecy)), (ed, .inr (1, [.ref ed1, .ref ed2, .int eds])), (ed1, .inl (G.2.2.1, 16, .inl edc)), (ed2, .inl (G.2.2.1, 30, .inl edy)), (h, .inr (7, [.ref b]))]) d_FileReader_readEntry_90 (g_isName hl G b N f i37 r_18 (by first | (with_reducible assumption) | (exact omg_0dbf0bae43 h0 ti37) | assumption | omega | decide) (by first | (with_reducible assumption) | exact fun q9 => absurd q9 (by assumption) | exact fun q9 => absurd (by assumption) q9 | exact fun _ => (by (exact omg_85b61f1a8a h1 fh21 ti37)) | omega (splitDisjunctions := false) | assumption | omega | decide) (by first | (with_reducible assumption) | omega (splitDisjunctions := false) | assumption | omega | decide) (by first | (with_reducible assumption) | (exact omg_0d7b0991d2 h1 hN tq5 fh21 u28 ti37) | assumption | omega | decide) F_f) [25] [0, 1, 2, 3, 4, 5, 6, 7, 8, 9, 10, 11, 12, 13, 14, 15, 16, 17, 18, 19, 20, 21, 22, 23, 24] (by decide) rfl rfl rfl (by decide) (by decide) k_622 rfl k_118 k_620 k_621 hy_Book_isName (by decide) rfl rfl (Nat.le_of_ble_eq_true rfl) (by decide) (fun v9 u39 ch38 => ?_)
      obtain ⟨r_40, rfl⟩ : ∃ z9, z9 = u39 := ⟨_, rfl⟩
      obtain ⟨ech38, ch38⟩ := ch38
      have ech38 : v9 = some (.int r_40) := ech38
      subst ech38
      obtain ⟨fh41, fh42, fh43, fh44⟩ : (r_40.toInt = 0 ∨ r_40.toInt = 1) ∧ (r_40.toInt = 1 → 1 ≤ r_18.toInt ∧ r_18.toInt ≤ 24) ∧ (r_40.toInt = 1 → iA_ (gx f) i37.toInt r_18.toInt) ∧ (r_40.toInt = 0 → ¬ iA_ (gx f) i37.toInt r_18.toInt) := ch38
      have iN1 := hid_i fh43
      have iN0 := hid_i fh44
      have iNn := hid_i fh42
      have iNb := fh41
      clear fh41 fh43 fh44 fh42
      refine pb_eq (pc' := 93) (lo' := [(13, .int i37), (11, .long j25), (10, .int r_18), (8, .long r_11), (6, .long r_4), (0, .ref h), (1, .int x), (2, .long lm), (4, .ref sp), (5, .ref q)]) (rest' := [.int r_40]) (ws' := [(sp, .inr (3, [.ref tn, .ref tz, .ref tb, .ref tg, .int c])), (tn, .inl (G.2.1, 384, .inl tfn)), (tz, .inl (G.2.2.1, 16, .inl tfz)), (tb, .inl (G.2.1, 12000, .inl tfb)), (tg, .inl (G.2.2.1, 17, .inl tfg)), (q, .inr (5, [.ref ex, .ref et, .ref ea, .ref eb, .ref ec, .ref ed, .ref ef, .ref er, .int at_, .int en, .int fl])), (ex, .inr (0, [.ref ey, .int xs])), (ey, .inl (G.2.1, 4000, .inl xf)), (et, .inl (G.2.2.1, 316, .inl tf)), (ea, .inr (1, [.ref ea1, .ref ea2, .int eas])), (ea1, .inl (G.2.2.1, 16, .inl eac)), (ea2, .inl (G.2.2.1, 288, .inl eay)), (eb, .inr (1, [.ref eb1, .ref eb2, .int ebs])), (eb1, .inl (G.2.2.1, 16, .inl ebc)), (eb2, .inl (G.2.2.1, 32, .inl eby)), (ef, .inr (1, [.ref ef1, .ref ef2, .int efs])), (ef1, .inl (G.2.2.1, 16, .inl efc)), (ef2, .inl (G.2.2.1, 19, .inl efy)), (ec, .inr (1, [.ref ec1, .ref ec2, .int ecs])), (ec1, .inl (G.2.2.1, 16, .inl ecc)), (ec2, .inl (G.2.2.1, 286, .inl ecy)), (ed, .inr (1, [.ref ed1, .ref ed2, .int eds])), (ed1, .inl (G.2.2.1, 16, .inl edc)), (ed2, .inl (G.2.2.1, 30, .inl edy)), (h, .inr (7, [.ref b])), (b, .inl (G.2.1, N, .inl f))]) ?_
      refine pb_if_eq (pc := 93) (tgt := 112) d_FileReader_readEntry_93 (by decide) (fun w45 => ?_) (fun w45 => ?_)
      · have tw45 : r_40.toInt = 0 := (ti_eq rfl (by decide)).mp w45
        refine pb_iconst (pc := 112) (v := 4) d_FileReader_readEntry_112 (by decide) ?_
        exact pb_iret (pc := 113) hQ d_FileReader_readEntry_113 rfl rfl (4, c, tfn, tfz, tfb, tfg, er, at_, en, fl, xs, xf, tf, efs, efc, efy, ecs, ecc, ecy, eds, edc, edy) ⟨rfl, (by (try dsimp only); first | done | assumption | decide | omega), (by (try dsimp only); first | done | (with_reducible assumption) | omega (splitDisjunctions := false) | assumption | omega | decide), (by (try dsimp only); first | done | (with_reducible assumption) | omega (splitDisjunctions := false) | assumption | omega | decide), (by (try dsimp only); first | done | assumption | decide | omega), (by (try dsimp only); first | done | (with_reducible assumption) | omega (splitDisjunctions := false) | assumption | omega | decide), (by (try dsimp only); first | done | assumption | decide | omega), (by (try dsimp only); first | done | (with_reducible assumption) | omega (splitDisjunctions := false) | assumption | omega | decide), (by (try dsimp only); first | done | assumption | decide | omega), (by (try dsimp only); first | done | (with_reducible assumption) | omega (splitDisjunctions := false) | assumption | omega | decide), (show hid_ (∃ W : VW_, en_R A lm.toInt x.toInt V (4 : Int32).toInt W ∧ ((4 : Int32).toInt = 0 → rC_ c.toInt tfn tfz tfb tfg W)) from (hid_i ⟨V, en_4 (by first | decide | omega) rrF (by first | exact nq_f rfl fF (by omega) | exact nq_i (by omega) (fun q9 => hid_o iN0 (by omega) ((iA_A hA (by omega) (by (exact omg_4716b73c86 h0)) (by (exact omg_015fc1e06f hZ u28))).mpr q9))), fun q9 => absurd q9 (by first | decide | omega)⟩)), F_tfn, F_tfb, F_xf⟩ [24, 25, 0, 1, 2, 3, 4, 5, 6, 7, 8, 9, 10, 11, 12, 13, 14, 15, 16, 17, 18, 19, 20, 21, 22, 23] (by decide) rfl rfl (by decide) (by decide)
      · have tw45 : ¬ r_40.toInt = 0 := fun z9 => w45 ((ti_eq rfl (by decide)).mpr z9)
        rename ¬ (_ : Int) = 0 => zq
        have iNm := hid_o iNn (by omega)
        have iA9 := hid_o iN1 (by omega)
        clear zq iNb iN1 iN0 iNn
        refine pb_aload (pc := 96) d_FileReader_readEntry_96 8 rfl ?_
        refine pb_aload_n (pc := 98) d_FileReader_readEntry_98 5 rfl rfl ?_
        refine pb_get (pc := 99) d_FileReader_readEntry_99 24 0 rfl rfl (by decide) in_FileReader k_306 rfl ?_
        refine pb_iload (pc := 102) d_FileReader_readEntry_102 0 rfl ?_
        refine pb_iload (pc := 104) d_FileReader_readEntry_104 2 rfl ?_
        refine pb_callV (pc := 106) (I := i_FileReader_readEntry) (qb := 0) (ci := 3) (nA := 3) (rest := []) (wr := [(tb, .inl (G.2.1, 12000, .inl tfb)), (tg, .inl (G.2.2.1, 17, .inl tfg)), (q, .inr (5, [.ref ex, .ref et, .ref ea, .ref eb, .ref ec, .ref ed, .ref ef, .ref er, .int at_, .int en, .int fl])), (ex, .inr (0, [.ref ey, .int xs])), (ey, .inl (G.2.1, 4000, .inl xf)), (et, .inl (G.2.2.1, 316, .inl tf)), (ea, .inr (1, [.ref ea1, .ref ea2, .int eas])), (ea1, .inl (G.2.2.1, 16, .inl eac)), (ea2, .inl (G.2.2.1, 288, .inl eay)), (eb, .inr (1, [.ref eb1, .ref eb2, .int ebs])), (eb1, .inl (G.2.2.1, 16, .inl ebc)), (eb2, .inl (G.2.2.1, 32, .inl eby)), (ef, .inr (1, [.ref ef1, .ref ef2, .int efs])), (ef1, .inl (G.2.2.1, 16, .inl efc)), (ef2, .inl (G.2.2.1, 19, .inl efy)), (ec, .inr (1, [.ref ec1, .ref ec2, .int ecs])), (ec1, .inl (G.2.2.1, 16, .inl ecc)), (ec2, .inl (G.2.2.1, 286, .inl ecy)), (ed, .inr (1, [.ref ed1, .ref ed2, .int eds])), (ed1, .inl (G.2.2.1, 16, .inl edc)), (ed2, .inl (G.2.2.1, 30, .inl edy)), (h, .inr (7, [.ref b]))]) d_FileReader_readEntry_106 (g_Shelf_find hl G sp tn tz tb tg c tfn tfz b N f tfg i37 r_18 V (rC_N R) (by first | assumption | decide | omega) (by first | (with_reducible assumption) | omega (splitDisjunctions := false) | assumption | omega | decide) (by first | (with_reducible assumption) | omega (splitDisjunctions := false) | assumption | omega | decide) (by first | (with_reducible assumption) | omega (splitDisjunctions := false) | assumption | omega | decide) F_tfn F_f) rfl rfl [0, 1, 2, 25] [3, 4, 5, 6, 7, 8, 9, 10, 11, 12, 13, 14, 15, 16, 17, 18, 19, 20, 21, 22, 23, 24] (by decide) rfl rfl rfl (by decide) (by decide) k_462 rfl k_127 k_626 k_460 k_461 ⟨rfl, hy_Shelf_find⟩ (by decide) rfl rfl (Nat.le_of_ble_eq_true rfl) (by decide) (fun v9 u47 ch46 => ?_)
        obtain ⟨r_48, rfl⟩ : ∃ z9, z9 = u47 := ⟨_, rfl⟩
        obtain ⟨ech46, ch46⟩ := ch46
        have ech46 : v9 = some (.int r_48) := ech46
        subst ech46
        obtain ⟨fh49, fh50, fh51⟩ : (-1 ≤ r_48.toInt) ∧ (r_48.toInt < c.toInt) ∧ (isF_ V r_18.toInt (fun k => gx f (i37.toInt + k)) r_48.toInt) := ch46
        have fF := isF_cg fh51 (nm_A hA (show i37.toInt = x.toInt + 46 by omega) (by (exact omg_4716b73c86 h0)) (by (exact omg_015fc1e06f hZ u28)))
        rw [show r_18.toInt = aw A (x.toInt + 28) 2 by omega] at fF
        refine pb_eq (pc' := 109) (lo' := [(13, .int i37), (11, .long j25), (10, .int r_18), (8, .long r_11), (6, .long r_4), (0, .ref h), (1, .int x), (2, .long lm), (4, .ref sp), (5, .ref q)]) (rest' := [.int r_48]) (ws' := [(tb, .inl (G.2.1, 12000, .inl tfb)), (tg, .inl (G.2.2.1, 17, .inl tfg)), (q, .inr (5, [.ref ex, .ref et, .ref ea, .ref eb, .ref ec, .ref ed, .ref ef, .ref er, .int at_, .int en, .int fl])), (ex, .inr (0, [.ref ey, .int xs])), (ey, .inl (G.2.1, 4000, .inl xf)), (et, .inl (G.2.2.1, 316, .inl tf)), (ea, .inr (1, [.ref ea1, .ref ea2, .int eas])), (ea1, .inl (G.2.2.1, 16, .inl eac)), (ea2, .inl (G.2.2.1, 288, .inl eay)), (eb, .inr (1, [.ref eb1, .ref eb2, .int ebs])), (eb1, .inl (G.2.2.1, 16, .inl ebc)), (eb2, .inl (G.2.2.1, 32, .inl eby)), (ef, .inr (1, [.ref ef1, .ref ef2, .int efs])), (ef1, .inl (G.2.2.1, 16, .inl efc)), (ef2, .inl (G.2.2.1, 19, .inl efy)), (ec, .inr (1, [.ref ec1, .ref ec2, .int ecs])), (ec1, .inl (G.2.2.1, 16, .inl ecc)), (ec2, .inl (G.2.2.1, 286, .inl ecy)), (ed, .inr (1, [.ref ed1, .ref ed2, .int eds])), (ed1, .inl (G.2.2.1, 16, .inl edc)), (ed2, .inl (G.2.2.1, 30, .inl edy)), (h, .inr (7, [.ref b])), (sp, .inr (3, [.ref tn, .ref tz, .ref tb, .ref tg, .int c])), (tn, .inl (G.2.1, 384, .inl tfn)), (tz, .inl (G.2.2.1, 16, .inl tfz)), (b, .inl (G.2.1, N, .inl f))]) ?_
        refine pb_if_lt (pc := 109) (tgt := 114) d_FileReader_readEntry_109 (by decide) (fun w52 => ?_) (fun w52 => ?_)
        · have tw52 : r_48.toInt < 0 := (ti_lt rfl (by decide)).mp w52
          have nkF : nq_ A x.toInt V := nq_y rfl (by have q9 := (iA_A (x := x.toInt + 46) hA (by omega) (by omega) (by omega)).mp iA9; rw [u28] at q9; exact q9) fF (by omega)
          refine pb_aload_n (pc := 114) d_FileReader_readEntry_114 5 rfl rfl ?_
          refine pb_get (pc := 115) d_FileReader_readEntry_115 21 0 rfl rfl (by decide) in_FileReader k_306 rfl ?_
          refine pb_iload_n (pc := 118) d_FileReader_readEntry_118 6 rfl rfl ?_
          refine pb_bipush (pc := 119) (v := 10) d_FileReader_readEntry_119 (by decide) ?_
          refine pb_iadd (pc := 121) d_FileReader_readEntry_121 ?_
          refine pb_topi (fun i53 ei53 => ?_)
          try have ti53 : i53.toInt = x.toInt + 10 := t2_add ei53 rfl (by decide) (by (exact omg_d51d028838 h0 h1 hN tq5 fh21 u28))
          refine pb_callSN (pc := 122) (I := i_FileReader_readEntry) (nA := 2) (rest := []) (wr := [(tb, .inl (G.2.1, 12000, .inl tfb)), (tg, .inl (G.2.2.1, 17, .inl tfg)), (q, .inr (5, [.ref ex, .ref et, .ref ea, .ref eb, .ref ec, .ref ed, .ref ef, .ref er, .int at_, .int en, .int fl])), (ex, .inr (0, [.ref ey, .int xs])), (ey, .inl (G.2.1, 4000, .inl xf)), (et, .inl (G.2.2.1, 316, .inl tf)), (ea, .inr (1, [.ref ea1, .ref ea2, .int eas])), (ea1, .inl (G.2.2.1, 16, .inl eac)), (ea2, .inl (G.2.2.1, 288, .inl eay)), (eb, .inr (1, [.ref eb1, .ref eb2, .int ebs])), (eb1, .inl (G.2.2.1, 16, .inl ebc)), (eb2, .inl (G.2.2.1, 32, .inl eby)), (ef, .inr (1, [.ref ef1, .ref ef2, .int efs])), (ef1, .inl (G.2.2.1, 16, .inl efc)), (ef2, .inl (G.2.2.1, 19, .inl efy)), (ec, .inr (1, [.ref ec1, .ref ec2, .int ecs])), (ec1, .inl (G.2.2.1, 16, .inl ecc)), (ec2, .inl (G.2.2.1, 286, .inl ecy)), (ed, .inr (1, [.ref ed1, .ref ed2, .int eds])), (ed1, .inl (G.2.2.1, 16, .inl edc)), (ed2, .inl (G.2.2.1, 30, .inl edy)), (h, .inr (7, [.ref b])), (sp, .inr (3, [.ref tn, .ref tz, .ref tb, .ref tg, .int c])), (tn, .inl (G.2.1, 384, .inl tfn)), (tz, .inl (G.2.2.1, 16, .inl tfz))]) d_FileReader_readEntry_122 (g_twoAt hl G b N f i53 (by first | (with_reducible assumption) | (exact omg_c1a971595b h0 ti53) | assumption | omega | decide) (by first | (with_reducible assumption) | (exact omg_e4f58e35f5 h1 fh21 iNm ti53) | assumption | omega | decide) (by first | (with_reducible assumption) | omega (splitDisjunctions := false) | assumption | omega | decide) F_f) [25] [0, 1, 2, 3, 4, 5, 6, 7, 8, 9, 10, 11, 12, 13, 14, 15, 16, 17, 18, 19, 20, 21, 22, 23, 24] (by decide) rfl rfl rfl (by decide) (by decide) k_597 rfl k_118 k_599 k_596 hy_Book_twoAt (by decide) rfl rfl (Nat.le_of_ble_eq_true rfl) (by decide) (fun v9 u55 ch54 => ?_)
          obtain ⟨r_56, rfl⟩ : ∃ z9, z9 = u55 := ⟨_, rfl⟩
          obtain ⟨ech54, ch54⟩ := ch54
          have ech54 : v9 = some (.int r_56) := ech54
          subst ech54
          obtain ⟨fh57, fh58, fh59, fh60⟩ : (0 ≤ r_56.toInt) ∧ (r_56.toInt ≤ 65535) ∧ (r_56.toInt = tw f i53.toInt) ∧ (r_56.toInt = av f i53.toInt 2) := ch54
          have u10 : r_56.toInt = aw A (x.toInt + 10) 2 := by rw [fh60, show i53.toInt = x.toInt + 10 by omega]; exact av_A hA 2 (by (exact omg_7793973aaf h0)) (by (exact omg_37a4731a8a hZ tq5))
          refine pb_eq (pc' := 125) (lo' := [(13, .int i37), (11, .long j25), (10, .int r_18), (8, .long r_11), (6, .long r_4), (0, .ref h), (1, .int x), (2, .long lm), (4, .ref sp), (5, .ref q)]) (rest' := [.int r_56]) (ws' := [(tb, .inl (G.2.1, 12000, .inl tfb)), (tg, .inl (G.2.2.1, 17, .inl tfg)), (q, .inr (5, [.ref ex, .ref et, .ref ea, .ref eb, .ref ec, .ref ed, .ref ef, .ref er, .int at_, .int en, .int fl])), (ex, .inr (0, [.ref ey, .int xs])), (ey, .inl (G.2.1, 4000, .inl xf)), (et, .inl (G.2.2.1, 316, .inl tf)), (ea, .inr (1, [.ref ea1, .ref ea2, .int eas])), (ea1, .inl (G.2.2.1, 16, .inl eac)), (ea2, .inl (G.2.2.1, 288, .inl eay)), (eb, .inr (1, [.ref eb1, .ref eb2, .int ebs])), (eb1, .inl (G.2.2.1, 16, .inl ebc)), (eb2, .inl (G.2.2.1, 32, .inl eby)), (ef, .inr (1, [.ref ef1, .ref ef2, .int efs])), (ef1, .inl (G.2.2.1, 16, .inl efc)), (ef2, .inl (G.2.2.1, 19, .inl efy)), (ec, .inr (1, [.ref ec1, .ref ec2, .int ecs])), (ec1, .inl (G.2.2.1, 16, .inl ecc)), (ec2, .inl (G.2.2.1, 286, .inl ecy)), (ed, .inr (1, [.ref ed1, .ref ed2, .int eds])), (ed1, .inl (G.2.2.1, 16, .inl edc)), (ed2, .inl (G.2.2.1, 30, .inl edy)), (h, .inr (7, [.ref b])), (sp, .inr (3, [.ref tn, .ref tz, .ref tb, .ref tg, .int c])), (tn, .inl (G.2.1, 384, .inl tfn)), (tz, .inl (G.2.2.1, 16, .inl tfz)), (b, .inl (G.2.1, N, .inl f))]) ?_
          refine pb_bipush (pc := 125) (v := 8) d_FileReader_readEntry_125 (by decide) ?_
          refine pb_icmp_ne (pc := 127) (tgt := 134) d_FileReader_readEntry_127 (by decide) (fun w61 => ?_) (fun w61 => ?_)
          · have tw61 : ¬ r_56.toInt = 8 := fun z9 => w61 ((ti_eq rfl (by decide)).mpr z9)
            refine pb_iconst (pc := 134) (v := 0) d_FileReader_readEntry_134 (by decide) ?_
            refine pb_istore (pc := 135) (lo' := [(14, .int 0), (13, .int i37), (11, .long j25), (10, .int r_18), (8, .long r_11), (6, .long r_4), (0, .ref h), (1, .int x), (2, .long lm), (4, .ref sp), (5, .ref q)]) d_FileReader_readEntry_135 (by decide) rfl ?_
            refine pb_iload (pc := 137) d_FileReader_readEntry_137 0 rfl ?_
            refine pb_if_eq (pc := 139) (tgt := 160) d_FileReader_readEntry_139 (by decide) (fun _ => ?_) (fun h9 => absurd h9 (by decide))
            obtain ⟨sX, esX⟩ : ∃ z : Int, z = aw A (x.toInt + 20) 4 := ⟨_, rfl⟩
            obtain ⟨fX, efX⟩ : ∃ z : Int, z = 0 := ⟨_, rfl⟩
            obtain ⟨dX, edX⟩ : ∃ z : Int → Int32, z = fun k => A (aw A (x.toInt + 42) 4 + 30 + aw A (x.toInt + 28) 2 + k) := ⟨_, rfl⟩
            have bsP : hid_ (fX = 0 → bs_ A x.toInt sX dX) := hid_i (fun _ => Or.inr ⟨by (exact omg_21dc92fe3c u10 tw61), esX, edX⟩)
            have bsN : hid_ (¬ fX = 0 → ∀ (s9 : Int) (d9 : Int → Int32), ¬ ok_ A x.toInt s9 d9) := hid_i (fun q9 => absurd efX q9)
            have dxE : ∀ k : Int, 0 ≤ k → k < sX → ∀ Y9 : Int, Y9 = aw A (x.toInt + 42) 4 + 30 + aw A (x.toInt + 28) 2 → gr f (Y9 + k) = dX k := fun k h0 h1 Y9 hY => by rw [edX, hY]; exact (hA _ (by (exact omg_82135b0e70 tq5 fh5 u42 h0)) (by (exact omg_8d5ab7ecf1 hZ2 u42 u20 u28 tj23 tj24 tj25 tj26 lc4 esX h1))).symm
            refine pb_lload (pc := 160) d_FileReader_readEntry_160 4 rfl ?_
            refine pb_l2i (pc := 162) d_FileReader_readEntry_162 rfl ?_
            refine pb_topi (fun i63 ei63 => ?_)
            try have ti63 : i63.toInt = r_11.toInt := ti_l2i ei63 rfl (by (exact omg_829df125db fh12)) (by (exact omg_ac743ef307 h2 hN fh5 tj23 tj24 tj25 tj26 lc4 iNm))
            refine pb_istore (pc := 163) (lo' := [(15, .int i63), (14, .int 0), (13, .int i37), (11, .long j25), (10, .int r_18), (8, .long r_11), (6, .long r_4), (0, .ref h), (1, .int x), (2, .long lm), (4, .ref sp), (5, .ref q)]) d_FileReader_readEntry_163 (by decide) rfl ?_
            refine pb_iload (pc := 165) d_FileReader_readEntry_165 1 rfl ?_
            refine pb_if_eq (pc := 167) (tgt := 181) d_FileReader_readEntry_167 (by decide) (fun _ => ?_) (fun h9 => absurd h9 (by decide))
            refine pb_aload_n (pc := 181) d_FileReader_readEntry_181 7 rfl rfl ?_
            refine pb_get (pc := 182) d_FileReader_readEntry_182 21 0 rfl rfl (by decide) in_FileReader k_306 rfl ?_
            refine pb_astore (pc := 185) (lo' := [(16, .ref b), (15, .int i63), (14, .int 0), (13, .int i37), (11, .long j25), (10, .int r_18), (8, .long r_11), (6, .long r_4), (0, .ref h), (1, .int x), (2, .long lm), (4, .ref sp), (5, .ref q)]) d_FileReader_readEntry_185 (by decide) rfl ?_
            refine pb_iload (pc := 187) d_FileReader_readEntry_187 2 rfl ?_
            refine pb_if_eq (pc := 189) (tgt := 196) d_FileReader_readEntry_189 (by decide) (fun _ => ?_) (fun h9 => absurd h9 (by decide))
            refine pb_lload (pc := 196) d_FileReader_readEntry_196 4 rfl ?_
            refine pb_l2i (pc := 198) d_FileReader_readEntry_198 rfl ?_
            refine pb_topi (fun i66 ei66 => ?_)
            try have ti66 : i66.toInt = j25.toInt := ti_l2i ei66 rfl (by (exact omg_a37679aa87 tq5 fh5 u28 tj23 tj24 tj25)) (by (exact omg_91669a9144 h2 hN fh12 tj26 lc4))
            refine pb_istore (pc := 199) (lo' := [(17, .int i66), (16, .ref b), (15, .int i63), (14, .int 0), (13, .int i37), (11, .long j25), (10, .int r_18), (8, .long r_11), (6, .long r_4), (0, .ref h), (1, .int x), (2, .long lm), (4, .ref sp), (5, .ref q)]) d_FileReader_readEntry_199 (by decide) rfl ?_
            refine pb_iload (pc := 201) d_FileReader_readEntry_201 2 rfl ?_
            refine pb_i2l (pc := 203) d_FileReader_readEntry_203 rfl ?_
            refine pb_topl (fun j67 ej67 => ?_)
            have tj67 : j67.toInt = i63.toInt := tl_i2l ej67 rfl
            refine pb_aload_n (pc := 204) d_FileReader_readEntry_204 9 rfl rfl ?_
            refine pb_get (pc := 205) d_FileReader_readEntry_205 21 0 rfl rfl (by decide) in_FileReader k_306 rfl ?_
            refine pb_iload_n (pc := 208) d_FileReader_readEntry_208 10 rfl rfl ?_
            refine pb_bipush (pc := 209) (v := 24) d_FileReader_readEntry_209 (by decide) ?_
            refine pb_iadd (pc := 211) d_FileReader_readEntry_211 ?_
            refine pb_topi (fun i68 ei68 => ?_)
            try have ti68 : i68.toInt = x.toInt + 24 := t2_add ei68 rfl (by decide) (by (exact omg_7070e9f3c5 h0 h1 hN fh21 iNm))
            refine pb_callSN (pc := 212) (I := i_FileReader_readEntry) (nA := 2) (rest := [.long j67]) (wr := [(tb, .inl (G.2.1, 12000, .inl tfb)), (tg, .inl (G.2.2.1, 17, .inl tfg)), (q, .inr (5, [.ref ex, .ref et, .ref ea, .ref eb, .ref ec, .ref ed, .ref ef, .ref er, .int at_, .int en, .int fl])), (ex, .inr (0, [.ref ey, .int xs])), (ey, .inl (G.2.1, 4000, .inl xf)), (et, .inl (G.2.2.1, 316, .inl tf)), (ea, .inr (1, [.ref ea1, .ref ea2, .int eas])), (ea1, .inl (G.2.2.1, 16, .inl eac)), (ea2, .inl (G.2.2.1, 288, .inl eay)), (eb, .inr (1, [.ref eb1, .ref eb2, .int ebs])), (eb1, .inl (G.2.2.1, 16, .inl ebc)), (eb2, .inl (G.2.2.1, 32, .inl eby)), (ef, .inr (1, [.ref ef1, .ref ef2, .int efs])), (ef1, .inl (G.2.2.1, 16, .inl efc)), (ef2, .inl (G.2.2.1, 19, .inl efy)), (ec, .inr (1, [.ref ec1, .ref ec2, .int ecs])), (ec1, .inl (G.2.2.1, 16, .inl ecc)), (ec2, .inl (G.2.2.1, 286, .inl ecy)), (ed, .inr (1, [.ref ed1, .ref ed2, .int eds])), (ed1, .inl (G.2.2.1, 16, .inl edc)), (ed2, .inl (G.2.2.1, 30, .inl edy)), (h, .inr (7, [.ref b])), (sp, .inr (3, [.ref tn, .ref tz, .ref tb, .ref tg, .int c])), (tn, .inl (G.2.1, 384, .inl tfn)), (tz, .inl (G.2.2.1, 16, .inl tfz))]) d_FileReader_readEntry_212 (g_fourAt hl G b N f i68 (by first | (with_reducible assumption) | (exact omg_3382fd02fe h0 ti68) | assumption | omega | decide) (by first | (with_reducible assumption) | (exact omg_28bf4a5f1e h1 tq5 fh21 u28 ti68) | assumption | omega | decide) (by first | (with_reducible assumption) | omega (splitDisjunctions := false) | assumption | omega | decide) F_f) [25] [0, 1, 2, 3, 4, 5, 6, 7, 8, 9, 10, 11, 12, 13, 14, 15, 16, 17, 18, 19, 20, 21, 22, 23, 24] (by decide) rfl rfl rfl (by decide) (by decide) k_594 rfl k_118 k_592 k_593 hy_Book_fourAt (by decide) rfl rfl (Nat.le_of_ble_eq_true rfl) (by decide) (fun v9 u70 ch69 => ?_)
            obtain ⟨r_71, rfl⟩ : ∃ z9, z9 = u70 := ⟨_, rfl⟩
            obtain ⟨ech69, ch69⟩ := ch69
            have ech69 : v9 = some (.long r_71) := ech69
            subst ech69
            obtain ⟨fh72, fh73, fh74⟩ : (0 ≤ r_71.toInt) ∧ (r_71.toInt < 4294967296) ∧ (r_71.toInt = av f i68.toInt 4) := ch69
            have u24 : r_71.toInt = aw A (x.toInt + 24) 4 := by rw [fh74, show i68.toInt = x.toInt + 24 by omega]; exact av_A hA 4 (by (exact omg_56efbf3b2a h0)) (by (exact omg_a02c705012 hZ tq5))
            refine pb_eq (pc' := 215) (lo' := [(17, .int i66), (16, .ref b), (15, .int i63), (14, .int 0), (13, .int i37), (11, .long j25), (10, .int r_18), (8, .long r_11), (6, .long r_4), (0, .ref h), (1, .int x), (2, .long lm), (4, .ref sp), (5, .ref q)]) (rest' := [.long r_71, .long j67]) (ws' := [(tb, .inl (G.2.1, 12000, .inl tfb)), (tg, .inl (G.2.2.1, 17, .inl tfg)), (q, .inr (5, [.ref ex, .ref et, .ref ea, .ref eb, .ref ec, .ref ed, .ref ef, .ref er, .int at_, .int en, .int fl])), (ex, .inr (0, [.ref ey, .int xs])), (ey, .inl (G.2.1, 4000, .inl xf)), (et, .inl (G.2.2.1, 316, .inl tf)), (ea, .inr (1, [.ref ea1, .ref ea2, .int eas])), (ea1, .inl (G.2.2.1, 16, .inl eac)), (ea2, .inl (G.2.2.1, 288, .inl eay)), (eb, .inr (1, [.ref eb1, .ref eb2, .int ebs])), (eb1, .inl (G.2.2.1, 16, .inl ebc)), (eb2, .inl (G.2.2.1, 32, .inl eby)), (ef, .inr (1, [.ref ef1, .ref ef2, .int efs])), (ef1, .inl (G.2.2.1, 16, .inl efc)), (ef2, .inl (G.2.2.1, 19, .inl efy)), (ec, .inr (1, [.ref ec1, .ref ec2, .int ecs])), (ec1, .inl (G.2.2.1, 16, .inl ecc)), (ec2, .inl (G.2.2.1, 286, .inl ecy)), (ed, .inr (1, [.ref ed1, .ref ed2, .int eds])), (ed1, .inl (G.2.2.1, 16, .inl edc)), (ed2, .inl (G.2.2.1, 30, .inl edy)), (h, .inr (7, [.ref b])), (sp, .inr (3, [.ref tn, .ref tz, .ref tb, .ref tg, .int c])), (tn, .inl (G.2.1, 384, .inl tfn)), (tz, .inl (G.2.2.1, 16, .inl tfz)), (b, .inl (G.2.1, N, .inl f))]) ?_
            refine pb_lcmp (pc := 215) d_FileReader_readEntry_215 ?_
            refine pb_topi (fun i75 ei75 => ?_)
            have ti75 : (i75.toInt < 0 ↔ j67.toInt < r_71.toInt) ∧ (i75.toInt = 0 ↔ j67.toInt = r_71.toInt) ∧ (0 < i75.toInt ↔ r_71.toInt < j67.toInt) := tl_cmp ei75 rfl rfl
            obtain ⟨lc1, lc2, lc3⟩ := ti75
            refine pb_if_ne (pc := 216) (tgt := 243) d_FileReader_readEntry_216 (by decide) (fun w76 => ?_) (fun w76 => ?_)
            · have tw76 : ¬ i75.toInt = 0 := fun z9 => w76 ((ti_eq rfl (by decide)).mpr z9)
              refine pb_iconst (pc := 243) (v := 5) d_FileReader_readEntry_243 (by decide) ?_
              exact pb_iret (pc := 244) hQ d_FileReader_readEntry_244 rfl rfl (5, c, tfn, tfz, tfb, tfg, er, at_, en, fl, xs, xf, tf, efs, efc, efy, ecs, ecc, ecy, eds, edc, edy) ⟨rfl, (by (try dsimp only); first | done | assumption | decide | omega), (by (try dsimp only); first | done | (with_reducible assumption) | omega (splitDisjunctions := false) | assumption | omega | decide), (by (try dsimp only); first | done | (with_reducible assumption) | omega (splitDisjunctions := false) | assumption | omega | decide), (by (try dsimp only); first | done | assumption | decide | omega), (by (try dsimp only); first | done | (with_reducible assumption) | omega (splitDisjunctions := false) | assumption | omega | decide), (by (try dsimp only); first | done | assumption | decide | omega), (by (try dsimp only); first | done | (with_reducible assumption) | omega (splitDisjunctions := false) | assumption | omega | decide), (by (try dsimp only); first | done | assumption | decide | omega), (by (try dsimp only); first | done | (with_reducible assumption) | omega (splitDisjunctions := false) | assumption | omega | decide), (show hid_ (∃ W : VW_, en_R A lm.toInt x.toInt V (5 : Int32).toInt W ∧ ((5 : Int32).toInt = 0 → rC_ c.toInt tfn tfz tfb tfg W)) from (hid_i ⟨V, en_5 (by first | decide | omega) rrF nkF (by first | exact ok_x bsQ smF sdF cE (by omega) (by omega) | exact (if z9 : fX = 0 then ok_no (hid_o bsP z9) (fun q9 => absurd q9.1 (by (exact omg_ac8914fc5e u20 esX ti63 tj67 u24 lc2 tw76))) else hid_o bsN z9)), fun q9 => absurd q9 (by first | decide | omega)⟩)), F_tfn, F_tfb, F_xf⟩ [21, 25, 22, 23, 24, 0, 1, 2, 3, 4, 5, 6, 7, 8, 9, 10, 11, 12, 13, 14, 15, 16, 17, 18, 19, 20] (by decide) rfl rfl (by decide) (by decide)
            · have tw76 : i75.toInt = 0 := (ti_eq rfl (by decide)).mp w76
              have lc5 := lc2.mp (by assumption)
              clear lc1 lc2 lc3
              have fX0 : fX = 0 := by omega
              have bsQ := hid_o bsP fX0
              refine pb_aload (pc := 219) d_FileReader_readEntry_219 1 rfl ?_
              refine pb_iload (pc := 221) d_FileReader_readEntry_221 0 rfl ?_
              refine pb_iload (pc := 223) d_FileReader_readEntry_223 2 rfl ?_
              have mX : i63.toInt = sX := by omega
              try clear xrF xrG
              have fr0 : 0 ≤ (i66 : Int32).toInt := by (exact omg_63435e71db tq5 fh5 u28 tj23 tj24 tj25 ti66)
              refine pb_callSN (pc := 225) (I := i_FileReader_readEntry) (nA := 3) (rest := []) (wr := [(tb, .inl (G.2.1, 12000, .inl tfb)), (tg, .inl (G.2.2.1, 17, .inl tfg)), (q, .inr (5, [.ref ex, .ref et, .ref ea, .ref eb, .ref ec, .ref ed, .ref ef, .ref er, .int at_, .int en, .int fl])), (ex, .inr (0, [.ref ey, .int xs])), (ey, .inl (G.2.1, 4000, .inl xf)), (et, .inl (G.2.2.1, 316, .inl tf)), (ea, .inr (1, [.ref ea1, .ref ea2, .int eas])), (ea1, .inl (G.2.2.1, 16, .inl eac)), (ea2, .inl (G.2.2.1, 288, .inl eay)), (eb, .inr (1, [.ref eb1, .ref eb2, .int ebs])), (eb1, .inl (G.2.2.1, 16, .inl ebc)), (eb2, .inl (G.2.2.1, 32, .inl eby)), (ef, .inr (1, [.ref ef1, .ref ef2, .int efs])), (ef1, .inl (G.2.2.1, 16, .inl efc)), (ef2, .inl (G.2.2.1, 19, .inl efy)), (ec, .inr (1, [.ref ec1, .ref ec2, .int ecs])), (ec1, .inl (G.2.2.1, 16, .inl ecc)), (ec2, .inl (G.2.2.1, 286, .inl ecy)), (ed, .inr (1, [.ref ed1, .ref ed2, .int eds])), (ed1, .inl (G.2.2.1, 16, .inl edc)), (ed2, .inl (G.2.2.1, 30, .inl edy)), (h, .inr (7, [.ref b])), (sp, .inr (3, [.ref tn, .ref tz, .ref tb, .ref tg, .int c])), (tn, .inl (G.2.1, 384, .inl tfn)), (tz, .inl (G.2.2.1, 16, .inl tfz))]) d_FileReader_readEntry_225 (g_sumOf hl G b N f i66 i63 (by first | (with_reducible assumption) | omega (splitDisjunctions := false) | assumption | omega | decide) (by first | (with_reducible assumption) | (exact omg_9421ffe5b8 fh12 ti63) | assumption | omega | decide) (by first | (with_reducible assumption) | (exact omg_4fdb8e29ac h2 tj26 lc4 ti63 ti66) | assumption | omega | decide) (by first | (with_reducible assumption) | omega (splitDisjunctions := false) | assumption | omega | decide) F_f) [25] [0, 1, 2, 3, 4, 5, 6, 7, 8, 9, 10, 11, 12, 13, 14, 15, 16, 17, 18, 19, 20, 21, 22, 23, 24] (by decide) rfl rfl rfl (by decide) (by decide) k_559 rfl k_118 k_692 k_558 hy_Book_sumOf (by decide) rfl rfl (Nat.le_of_ble_eq_true rfl) (by decide) (fun v9 u78 ch77 => ?_)
              obtain ⟨r_79, rfl⟩ : ∃ z9, z9 = u78 := ⟨_, rfl⟩
              obtain ⟨ech77, ch77⟩ := ch77
              have ech77 : v9 = some (.int r_79) := ech77
              subst ech77
              have fh80 : r_79 = cr_n f i66.toInt i63.toInt.toNat ^^^ (-1) := ch77
              have smF := fh80
              rw [show i63.toInt = sX by omega] at smF
              have sdF := fun (k : Int) (h0 : 0 ≤ k) (h1 : k < sX) => dxE k h0 h1 (i66 : Int32).toInt (by (exact omg_ec3eb93f73 u42 u28 tj23 tj24 tj25 ti66))
              refine pb_eq (pc' := 228) (lo' := [(17, .int i66), (16, .ref b), (15, .int i63), (14, .int 0), (13, .int i37), (11, .long j25), (10, .int r_18), (8, .long r_11), (6, .long r_4), (0, .ref h), (1, .int x), (2, .long lm), (4, .ref sp), (5, .ref q)]) (rest' := [.int r_79]) (ws' := [(tb, .inl (G.2.1, 12000, .inl tfb)), (tg, .inl (G.2.2.1, 17, .inl tfg)), (q, .inr (5, [.ref ex, .ref et, .ref ea, .ref eb, .ref ec, .ref ed, .ref ef, .ref er, .int at_, .int en, .int fl])), (ex, .inr (0, [.ref ey, .int xs])), (ey, .inl (G.2.1, 4000, .inl xf)), (et, .inl (G.2.2.1, 316, .inl tf)), (ea, .inr (1, [.ref ea1, .ref ea2, .int eas])), (ea1, .inl (G.2.2.1, 16, .inl eac)), (ea2, .inl (G.2.2.1, 288, .inl eay)), (eb, .inr (1, [.ref eb1, .ref eb2, .int ebs])), (eb1, .inl (G.2.2.1, 16, .inl ebc)), (eb2, .inl (G.2.2.1, 32, .inl eby)), (ef, .inr (1, [.ref ef1, .ref ef2, .int efs])), (ef1, .inl (G.2.2.1, 16, .inl efc)), (ef2, .inl (G.2.2.1, 19, .inl efy)), (ec, .inr (1, [.ref ec1, .ref ec2, .int ecs])), (ec1, .inl (G.2.2.1, 16, .inl ecc)), (ec2, .inl (G.2.2.1, 286, .inl ecy)), (ed, .inr (1, [.ref ed1, .ref ed2, .int eds])), (ed1, .inl (G.2.2.1, 16, .inl edc)), (ed2, .inl (G.2.2.1, 30, .inl edy)), (h, .inr (7, [.ref b])), (sp, .inr (3, [.ref tn, .ref tz, .ref tb, .ref tg, .int c])), (tn, .inl (G.2.1, 384, .inl tfn)), (tz, .inl (G.2.2.1, 16, .inl tfz)), (b, .inl (G.2.1, N, .inl f))]) ?_
              refine pb_aload_n (pc := 228) d_FileReader_readEntry_228 9 rfl rfl ?_
              refine pb_get (pc := 229) d_FileReader_readEntry_229 21 0 rfl rfl (by decide) in_FileReader k_306 rfl ?_
              refine pb_iload_n (pc := 232) d_FileReader_readEntry_232 10 rfl rfl ?_
              refine pb_bipush (pc := 233) (v := 16) d_FileReader_readEntry_233 (by decide) ?_
              refine pb_iadd (pc := 235) d_FileReader_readEntry_235 ?_
              refine pb_topi (fun i81 ei81 => ?_)
              try have ti81 : i81.toInt = x.toInt + 16 := t2_add ei81 rfl (by decide) (by (exact omg_ec74ea49f5 h0 h1 hN fh21 iNm))
              refine pb_callSN (pc := 236) (I := i_FileReader_readEntry) (nA := 2) (rest := [.int r_79]) (wr := [(tb, .inl (G.2.1, 12000, .inl tfb)), (tg, .inl (G.2.2.1, 17, .inl tfg)), (q, .inr (5, [.ref ex, .ref et, .ref ea, .ref eb, .ref ec, .ref ed, .ref ef, .ref er, .int at_, .int en, .int fl])), (ex, .inr (0, [.ref ey, .int xs])), (ey, .inl (G.2.1, 4000, .inl xf)), (et, .inl (G.2.2.1, 316, .inl tf)), (ea, .inr (1, [.ref ea1, .ref ea2, .int eas])), (ea1, .inl (G.2.2.1, 16, .inl eac)), (ea2, .inl (G.2.2.1, 288, .inl eay)), (eb, .inr (1, [.ref eb1, .ref eb2, .int ebs])), (eb1, .inl (G.2.2.1, 16, .inl ebc)), (eb2, .inl (G.2.2.1, 32, .inl eby)), (ef, .inr (1, [.ref ef1, .ref ef2, .int efs])), (ef1, .inl (G.2.2.1, 16, .inl efc)), (ef2, .inl (G.2.2.1, 19, .inl efy)), (ec, .inr (1, [.ref ec1, .ref ec2, .int ecs])), (ec1, .inl (G.2.2.1, 16, .inl ecc)), (ec2, .inl (G.2.2.1, 286, .inl ecy)), (ed, .inr (1, [.ref ed1, .ref ed2, .int eds])), (ed1, .inl (G.2.2.1, 16, .inl edc)), (ed2, .inl (G.2.2.1, 30, .inl edy)), (h, .inr (7, [.ref b])), (sp, .inr (3, [.ref tn, .ref tz, .ref tb, .ref tg, .int c])), (tn, .inl (G.2.1, 384, .inl tfn)), (tz, .inl (G.2.2.1, 16, .inl tfz))]) d_FileReader_readEntry_236 (g_fourAt hl G b N f i81 (by first | (with_reducible assumption) | (exact omg_e394ee9c71 h0 ti81) | assumption | omega | decide) (by first | (with_reducible assumption) | (exact omg_3ba0b9bcc3 h1 tq5 fh21 u28 ti81) | assumption | omega | decide) (by first | (with_reducible assumption) | omega (splitDisjunctions := false) | assumption | omega | decide) F_f) [25] [0, 1, 2, 3, 4, 5, 6, 7, 8, 9, 10, 11, 12, 13, 14, 15, 16, 17, 18, 19, 20, 21, 22, 23, 24] (by decide) rfl rfl rfl (by decide) (by decide) k_594 rfl k_118 k_592 k_593 hy_Book_fourAt (by decide) rfl rfl (Nat.le_of_ble_eq_true rfl) (by decide) (fun v9 u83 ch82 => ?_)
              obtain ⟨r_84, rfl⟩ : ∃ z9, z9 = u83 := ⟨_, rfl⟩
              obtain ⟨ech82, ch82⟩ := ch82
              have ech82 : v9 = some (.long r_84) := ech82
              subst ech82
              obtain ⟨fh85, fh86, fh87⟩ : (0 ≤ r_84.toInt) ∧ (r_84.toInt < 4294967296) ∧ (r_84.toInt = av f i81.toInt 4) := ch82
              have u16 : r_84.toInt = aw A (x.toInt + 16) 4 := by rw [fh87, show i81.toInt = x.toInt + 16 by omega]; exact av_A hA 4 (by (exact omg_f5c65a0819 h0)) (by (exact omg_a6aeb68d88 hZ tq5))
              refine pb_eq (pc' := 239) (lo' := [(17, .int i66), (16, .ref b), (15, .int i63), (14, .int 0), (13, .int i37), (11, .long j25), (10, .int r_18), (8, .long r_11), (6, .long r_4), (0, .ref h), (1, .int x), (2, .long lm), (4, .ref sp), (5, .ref q)]) (rest' := [.long r_84, .int r_79]) (ws' := [(tb, .inl (G.2.1, 12000, .inl tfb)), (tg, .inl (G.2.2.1, 17, .inl tfg)), (q, .inr (5, [.ref ex, .ref et, .ref ea, .ref eb, .ref ec, .ref ed, .ref ef, .ref er, .int at_, .int en, .int fl])), (ex, .inr (0, [.ref ey, .int xs])), (ey, .inl (G.2.1, 4000, .inl xf)), (et, .inl (G.2.2.1, 316, .inl tf)), (ea, .inr (1, [.ref ea1, .ref ea2, .int eas])), (ea1, .inl (G.2.2.1, 16, .inl eac)), (ea2, .inl (G.2.2.1, 288, .inl eay)), (eb, .inr (1, [.ref eb1, .ref eb2, .int ebs])), (eb1, .inl (G.2.2.1, 16, .inl ebc)), (eb2, .inl (G.2.2.1, 32, .inl eby)), (ef, .inr (1, [.ref ef1, .ref ef2, .int efs])), (ef1, .inl (G.2.2.1, 16, .inl efc)), (ef2, .inl (G.2.2.1, 19, .inl efy)), (ec, .inr (1, [.ref ec1, .ref ec2, .int ecs])), (ec1, .inl (G.2.2.1, 16, .inl ecc)), (ec2, .inl (G.2.2.1, 286, .inl ecy)), (ed, .inr (1, [.ref ed1, .ref ed2, .int eds])), (ed1, .inl (G.2.2.1, 16, .inl edc)), (ed2, .inl (G.2.2.1, 30, .inl edy)), (h, .inr (7, [.ref b])), (sp, .inr (3, [.ref tn, .ref tz, .ref tb, .ref tg, .int c])), (tn, .inl (G.2.1, 384, .inl tfn)), (tz, .inl (G.2.2.1, 16, .inl tfz)), (b, .inl (G.2.1, N, .inl f))]) ?_
              refine pb_l2i (pc := 239) d_FileReader_readEntry_239 rfl ?_
              refine pb_topi (fun i88 ei88 => ?_)
              try have ti88 : i88.toInt = r_84.toInt := ti_l2i ei88 rfl (by (exact omg_829df125db fh85)) (by omega)
              have cE := l2i_E ei88 u16
              refine pb_icmp_eq (pc := 240) (tgt := 245) d_FileReader_readEntry_240 (by decide) (fun w89 => ?_) (fun w89 => ?_)
              · have tw89 : r_79.toInt = i88.toInt := (ti_eq rfl rfl).mp w89
                have okF := ok_y bsQ (by (exact omg_d5dd2af696 u20 esX ti63 tj67 u24 lc5)) smF sdF cE (by omega) (by (exact omg_6dbb8d8f27 fh12 u20 esX))
                clear bsP bsN
                refine pb_aload (pc := 245) d_FileReader_readEntry_245 12 rfl ?_
                refine pb_iconst (pc := 247) (v := (-1)) d_FileReader_readEntry_247 (by decide) ?_
                refine pb_iload (pc := 248) d_FileReader_readEntry_248 2 rfl ?_
                refine pb_callV (pc := 250) (I := i_FileReader_readEntry) (qb := 22) (ci := 3) (nA := 2) (rest := []) (wr := [(tb, .inl (G.2.1, 12000, .inl tfb)), (q, .inr (5, [.ref ex, .ref et, .ref ea, .ref eb, .ref ec, .ref ed, .ref ef, .ref er, .int at_, .int en, .int fl])), (ex, .inr (0, [.ref ey, .int xs])), (ey, .inl (G.2.1, 4000, .inl xf)), (et, .inl (G.2.2.1, 316, .inl tf)), (ea, .inr (1, [.ref ea1, .ref ea2, .int eas])), (ea1, .inl (G.2.2.1, 16, .inl eac)), (ea2, .inl (G.2.2.1, 288, .inl eay)), (eb, .inr (1, [.ref eb1, .ref eb2, .int ebs])), (eb1, .inl (G.2.2.1, 16, .inl ebc)), (eb2, .inl (G.2.2.1, 32, .inl eby)), (ef, .inr (1, [.ref ef1, .ref ef2, .int efs])), (ef1, .inl (G.2.2.1, 16, .inl efc)), (ef2, .inl (G.2.2.1, 19, .inl efy)), (ec, .inr (1, [.ref ec1, .ref ec2, .int ecs])), (ec1, .inl (G.2.2.1, 16, .inl ecc)), (ec2, .inl (G.2.2.1, 286, .inl ecy)), (ed, .inr (1, [.ref ed1, .ref ed2, .int eds])), (ed1, .inl (G.2.2.1, 16, .inl edc)), (ed2, .inl (G.2.2.1, 30, .inl edy)), (h, .inr (7, [.ref b])), (tn, .inl (G.2.1, 384, .inl tfn)), (tz, .inl (G.2.2.1, 16, .inl tfz)), (b, .inl (G.2.1, N, .inl f))]) d_FileReader_readEntry_250 (g_Shelf_hasRoom hl G sp tn tz tb tg c tfz tfg (-1) i63 (by first | assumption | decide | omega) (by first | (with_reducible assumption) | (exact omg_9421ffe5b8 fh12 ti63) | assumption | omega | decide)) rfl rfl [22, 1] [0, 2, 3, 4, 5, 6, 7, 8, 9, 10, 11, 12, 13, 14, 15, 16, 17, 18, 19, 20, 21, 23, 24, 25] (by decide) rfl rfl rfl (by decide) (by decide) k_696 rfl k_127 k_693 k_694 k_695 ⟨rfl, hy_Shelf_hasRoom⟩ (by decide) rfl rfl (Nat.le_of_ble_eq_true rfl) (by decide) (fun v9 u91 ch90 => ?_)
                obtain ⟨r_92, rfl⟩ : ∃ z9, z9 = u91 := ⟨_, rfl⟩
                obtain ⟨ech90, ch90⟩ := ch90
                have ech90 : v9 = some (.int r_92) := ech90
                subst ech90
                obtain ⟨fh93, fh94, fh95⟩ : (r_92.toInt = 0 ∨ r_92.toInt = 1) ∧ (r_92.toInt = 1 → i63.toInt ≤ 4000 ∧ ((0 ≤ ((-1) : Int32).toInt ∧ ((-1) : Int32).toInt < c.toInt ∧ gx tfg c.toInt - (gx tfg (((-1) : Int32).toInt + 1) - gx tfg ((-1) : Int32).toInt) + i63.toInt ≤ 12000) ∨ (¬ (0 ≤ ((-1) : Int32).toInt ∧ ((-1) : Int32).toInt < c.toInt) ∧ c.toInt < 16 ∧ gx tfg c.toInt + i63.toInt ≤ 12000))) ∧ (r_92.toInt = 0 → ¬ (i63.toInt ≤ 4000 ∧ ((0 ≤ ((-1) : Int32).toInt ∧ ((-1) : Int32).toInt < c.toInt ∧ gx tfg c.toInt - (gx tfg (((-1) : Int32).toInt + 1) - gx tfg ((-1) : Int32).toInt) + i63.toInt ≤ 12000) ∨ (¬ (0 ≤ ((-1) : Int32).toInt ∧ ((-1) : Int32).toInt < c.toInt) ∧ c.toInt < 16 ∧ gx tfg c.toInt + i63.toInt ≤ 12000)))) := ch90
                have hrF := hid_i fh94
                have hrN := hid_i fh95
                have hrb := fh93
                clear fh93 fh94 fh95
                have rmI := hid_i (RM_C (m := sX) R I hsV fF)
                refine pb_eq (pc' := 253) (lo' := [(17, .int i66), (16, .ref b), (15, .int i63), (14, .int 0), (13, .int i37), (11, .long j25), (10, .int r_18), (8, .long r_11), (6, .long r_4), (0, .ref h), (1, .int x), (2, .long lm), (4, .ref sp), (5, .ref q)]) (rest' := [.int r_92]) (ws' := [(tb, .inl (G.2.1, 12000, .inl tfb)), (q, .inr (5, [.ref ex, .ref et, .ref ea, .ref eb, .ref ec, .ref ed, .ref ef, .ref er, .int at_, .int en, .int fl])), (ex, .inr (0, [.ref ey, .int xs])), (ey, .inl (G.2.1, 4000, .inl xf)), (et, .inl (G.2.2.1, 316, .inl tf)), (ea, .inr (1, [.ref ea1, .ref ea2, .int eas])), (ea1, .inl (G.2.2.1, 16, .inl eac)), (ea2, .inl (G.2.2.1, 288, .inl eay)), (eb, .inr (1, [.ref eb1, .ref eb2, .int ebs])), (eb1, .inl (G.2.2.1, 16, .inl ebc)), (eb2, .inl (G.2.2.1, 32, .inl eby)), (ef, .inr (1, [.ref ef1, .ref ef2, .int efs])), (ef1, .inl (G.2.2.1, 16, .inl efc)), (ef2, .inl (G.2.2.1, 19, .inl efy)), (ec, .inr (1, [.ref ec1, .ref ec2, .int ecs])), (ec1, .inl (G.2.2.1, 16, .inl ecc)), (ec2, .inl (G.2.2.1, 286, .inl ecy)), (ed, .inr (1, [.ref ed1, .ref ed2, .int eds])), (ed1, .inl (G.2.2.1, 16, .inl edc)), (ed2, .inl (G.2.2.1, 30, .inl edy)), (h, .inr (7, [.ref b])), (tn, .inl (G.2.1, 384, .inl tfn)), (tz, .inl (G.2.2.1, 16, .inl tfz)), (b, .inl (G.2.1, N, .inl f)), (sp, .inr (3, [.ref tn, .ref tz, .ref tb, .ref tg, .int c])), (tg, .inl (G.2.2.1, 17, .inl tfg))]) ?_
                refine pb_if_ne (pc := 253) (tgt := 259) d_FileReader_readEntry_253 (by decide) (fun w96 => ?_) (fun w96 => ?_)
                · have tw96 : ¬ r_92.toInt = 0 := fun z9 => w96 ((ti_eq rfl (by decide)).mpr z9)
                  rename ¬ (_ : Int) = 0 => zq
                  have hr8 : sX ≤ 4000 ∧ c.toInt < 16 ∧ gx tfg c.toInt + sX ≤ 12000 := by have q8 := hid_o hrF (by (exact omg_d9c3f42b32 hrb zq)); (exact omg_32d8c4a26d zm1 u20 esX ti63 q8)
                  clear zq hrb hrF hrN
                  refine pb_aload (pc := 259) d_FileReader_readEntry_259 12 rfl ?_
                  refine pb_aload_n (pc := 261) d_FileReader_readEntry_261 9 rfl rfl ?_
                  refine pb_get (pc := 262) d_FileReader_readEntry_262 20 0 rfl rfl (by decide) in_FileReader k_306 rfl ?_
                  refine pb_iload (pc := 265) d_FileReader_readEntry_265 4 rfl ?_
                  refine pb_iload (pc := 267) d_FileReader_readEntry_267 6 rfl ?_
                  refine pb_aload (pc := 269) d_FileReader_readEntry_269 1 rfl ?_
                  refine pb_iload (pc := 271) d_FileReader_readEntry_271 0 rfl ?_
                  refine pb_iload (pc := 273) d_FileReader_readEntry_273 2 rfl ?_
                  refine pb_callV (pc := 275) (I := i_FileReader_readEntry) (qb := 24) (ci := 3) (nA := 6) (rest := []) (wr := [(q, .inr (5, [.ref ex, .ref et, .ref ea, .ref eb, .ref ec, .ref ed, .ref ef, .ref er, .int at_, .int en, .int fl])), (ex, .inr (0, [.ref ey, .int xs])), (ey, .inl (G.2.1, 4000, .inl xf)), (et, .inl (G.2.2.1, 316, .inl tf)), (ea, .inr (1, [.ref ea1, .ref ea2, .int eas])), (ea1, .inl (G.2.2.1, 16, .inl eac)), (ea2, .inl (G.2.2.1, 288, .inl eay)), (eb, .inr (1, [.ref eb1, .ref eb2, .int ebs])), (eb1, .inl (G.2.2.1, 16, .inl ebc)), (eb2, .inl (G.2.2.1, 32, .inl eby)), (ef, .inr (1, [.ref ef1, .ref ef2, .int efs])), (ef1, .inl (G.2.2.1, 16, .inl efc)), (ef2, .inl (G.2.2.1, 19, .inl efy)), (ec, .inr (1, [.ref ec1, .ref ec2, .int ecs])), (ec1, .inl (G.2.2.1, 16, .inl ecc)), (ec2, .inl (G.2.2.1, 286, .inl ecy)), (ed, .inr (1, [.ref ed1, .ref ed2, .int eds])), (ed1, .inl (G.2.2.1, 16, .inl edc)), (ed2, .inl (G.2.2.1, 30, .inl edy)), (h, .inr (7, [.ref b]))]) d_FileReader_readEntry_275 (g_Shelf_bringIn1 hl G sp tn tz tb tg c tfn tfz tfb tfg b N f i37 r_18 i66 i63 V (by first | (with_reducible assumption) | omega (splitDisjunctions := false) | assumption | omega | decide) (by first | assumption | decide | omega) (by first | (with_reducible assumption) | (exact omg_0dbf0bae43 h0 ti37) | assumption | omega | decide) (by first | (with_reducible assumption) | (exact omg_4246dfb81c h1 fh21 ti37) | assumption | omega | decide) (by first | (with_reducible assumption) | (exact omg_d1061a5251 iNm) | assumption | omega | decide) (by first | (with_reducible assumption) | (exact omg_ad7376cc2a iNm) | assumption | omega | decide) (by first | (with_reducible assumption) | omega (splitDisjunctions := false) | assumption | omega | decide) (by first | (with_reducible assumption) | (exact omg_4fdb8e29ac h2 tj26 lc4 ti63 ti66) | assumption | omega | decide) (by first | (with_reducible assumption) | (exact omg_9421ffe5b8 fh12 ti63) | assumption | omega | decide) (by first | (with_reducible assumption) | (exact omg_3da21550d8 u20 esX ti63 hr8) | assumption | omega | decide) (by first | (with_reducible assumption) | omega (splitDisjunctions := false) | assumption | omega | decide) (by first | (with_reducible assumption) | (exact omg_11006c29a9 u20 esX ti63 hr8) | assumption | omega | decide) (by first | (with_reducible assumption) | omega (splitDisjunctions := false) | assumption | omega | decide) (by first | (with_reducible assumption) | omega (splitDisjunctions := false) | assumption | omega | decide) F_tfn F_tfb F_f) rfl rfl [24, 21, 22, 0, 25, 23] [1, 2, 3, 4, 5, 6, 7, 8, 9, 10, 11, 12, 13, 14, 15, 16, 17, 18, 19, 20] (by decide) rfl rfl rfl (by decide) (by decide) k_700 rfl k_127 k_697 k_698 k_699 ⟨rfl, hy_Shelf_bringIn⟩ (by decide) rfl rfl (Nat.le_of_ble_eq_true rfl) (by decide) (fun v9 u98 ch97 => ?_)
                  obtain ⟨c_99, fn_100, fz_101, fb_102, fg_103⟩ := u98
                  obtain ⟨ech97, ch97⟩ := ch97
                  have ech97 : v9 = none := ech97
                  subst ech97
                  obtain ⟨fh104, fh105, fh106, fh107, fh108, fh109⟩ : (sh_I c_99.toInt fz_101 fg_103) ∧ (c_99.toInt = c.toInt + 1) ∧ (gx fg_103 c_99.toInt = gx tfg c.toInt + i63.toInt) ∧ (hid_ (∃ r : Int, 0 ≤ r ∧ r ≤ c.toInt ∧ (∀ j : Int, 0 ≤ j → j < r → lx_ (vN V j) (vZ V j) (fun k => gx f (i37.toInt + k)) r_18.toInt) ∧ (r < c.toInt → ¬ lx_ (vN V r) (vZ V r) (fun k => gx f (i37.toInt + k)) r_18.toInt) ∧ rC_ c_99.toInt fn_100 fz_101 fb_102 fg_103 (vin_ V r r_18.toInt (fun k => gx f (i37.toInt + k)) i63.toInt (fun k => gr f (i66.toInt + k))))) ∧ (sb_Fit fn_100) ∧ (sb_Fit fb_102) := ch97
                  have brF := fh107
                  rw [show r_18.toInt = aw A (x.toInt + 28) 2 by omega, show i63.toInt = sX by omega] at brF
                  obtain ⟨W9, adF, rcF⟩ := AD_R R I hsV (by (exact omg_090295931e tq5)) nkF.2 (nm_A hA (show i37.toInt = x.toInt + 46 by omega) (by (exact omg_4716b73c86 h0)) (by omega)) (fun k h0 h1 => dxE k h0 h1 (i66 : Int32).toInt (by (exact omg_ec3eb93f73 u42 u28 tj23 tj24 tj25 ti66))) (hid_o brF)
                  refine pb_eq (pc' := 278) (lo' := [(17, .int i66), (16, .ref b), (15, .int i63), (14, .int 0), (13, .int i37), (11, .long j25), (10, .int r_18), (8, .long r_11), (6, .long r_4), (0, .ref h), (1, .int x), (2, .long lm), (4, .ref sp), (5, .ref q)]) (rest' := []) (ws' := [(q, .inr (5, [.ref ex, .ref et, .ref ea, .ref eb, .ref ec, .ref ed, .ref ef, .ref er, .int at_, .int en, .int fl])), (ex, .inr (0, [.ref ey, .int xs])), (ey, .inl (G.2.1, 4000, .inl xf)), (et, .inl (G.2.2.1, 316, .inl tf)), (ea, .inr (1, [.ref ea1, .ref ea2, .int eas])), (ea1, .inl (G.2.2.1, 16, .inl eac)), (ea2, .inl (G.2.2.1, 288, .inl eay)), (eb, .inr (1, [.ref eb1, .ref eb2, .int ebs])), (eb1, .inl (G.2.2.1, 16, .inl ebc)), (eb2, .inl (G.2.2.1, 32, .inl eby)), (ef, .inr (1, [.ref ef1, .ref ef2, .int efs])), (ef1, .inl (G.2.2.1, 16, .inl efc)), (ef2, .inl (G.2.2.1, 19, .inl efy)), (ec, .inr (1, [.ref ec1, .ref ec2, .int ecs])), (ec1, .inl (G.2.2.1, 16, .inl ecc)), (ec2, .inl (G.2.2.1, 286, .inl ecy)), (ed, .inr (1, [.ref ed1, .ref ed2, .int eds])), (ed1, .inl (G.2.2.1, 16, .inl edc)), (ed2, .inl (G.2.2.1, 30, .inl edy)), (h, .inr (7, [.ref b])), (sp, .inr (3, [.ref tn, .ref tz, .ref tb, .ref tg, .int c_99])), (tn, .inl (G.2.1, 384, .inl fn_100)), (tz, .inl (G.2.2.1, 16, .inl fz_101)), (tb, .inl (G.2.1, 12000, .inl fb_102)), (tg, .inl (G.2.2.1, 17, .inl fg_103)), (b, .inl (G.2.1, N, .inl f))]) ?_
                  refine pb_iconst (pc := 278) (v := 0) d_FileReader_readEntry_278 (by decide) ?_
                  exact pb_iret (pc := 279) hQ d_FileReader_readEntry_279 rfl rfl (0, c_99, fn_100, fz_101, fb_102, fg_103, er, at_, en, fl, xs, xf, tf, efs, efc, efy, ecs, ecc, ecy, eds, edc, edy) ⟨rfl, (by (try dsimp only); first | done | assumption | decide | omega), (by (try dsimp only); first | done | (with_reducible assumption) | omega (splitDisjunctions := false) | assumption | omega | decide), (by (try dsimp only); first | done | (with_reducible assumption) | omega (splitDisjunctions := false) | assumption | omega | decide), (by (try dsimp only); first | done | assumption | decide | omega), (by (try dsimp only); first | done | (with_reducible assumption) | omega (splitDisjunctions := false) | assumption | omega | decide), (by (try dsimp only); first | done | assumption | decide | omega), (by (try dsimp only); first | done | (with_reducible assumption) | omega (splitDisjunctions := false) | assumption | omega | decide), (by (try dsimp only); first | done | assumption | decide | omega), (by (try dsimp only); first | done | (with_reducible assumption) | omega (splitDisjunctions := false) | assumption | omega | decide), (show hid_ (∃ W : VW_, en_R A lm.toInt x.toInt V (0 : Int32).toInt W ∧ ((0 : Int32).toInt = 0 → rC_ c_99.toInt fn_100 fz_101 fb_102 fg_103 W)) from (hid_i ⟨W9, en_0 (by first | decide | omega) rrF nkF okF ((hid_o rmI).mpr ⟨hr8.1, Or.inr ⟨by omega, hr8.2⟩⟩) adF, fun _ => rcF⟩)), fh108, fh109, F_xf⟩ [19, 25, 20, 21, 22, 23, 24, 0, 1, 2, 3, 4, 5, 6, 7, 8, 9, 10, 11, 12, 13, 14, 15, 16, 17, 18] (by decide) rfl rfl (by decide) (by decide)
                · have tw96 : r_92.toInt = 0 := (ti_eq rfl (by decide)).mp w96
                  refine pb_bipush (pc := 256) (v := 6) d_FileReader_readEntry_256 (by decide) ?_
                  exact pb_iret (pc := 258) hQ d_FileReader_readEntry_258 rfl rfl (6, c, tfn, tfz, tfb, tfg, er, at_, en, fl, xs, xf, tf, efs, efc, efy, ecs, ecc, ecy, eds, edc, edy) ⟨rfl, (by (try dsimp only); first | done | assumption | decide | omega), (by (try dsimp only); first | done | (with_reducible assumption) | omega (splitDisjunctions := false) | assumption | omega | decide), (by (try dsimp only); first | done | (with_reducible assumption) | omega (splitDisjunctions := false) | assumption | omega | decide), (by (try dsimp only); first | done | assumption | decide | omega), (by (try dsimp only); first | done | (with_reducible assumption) | omega (splitDisjunctions := false) | assumption | omega | decide), (by (try dsimp only); first | done | assumption | decide | omega), (by (try dsimp only); first | done | (with_reducible assumption) | omega (splitDisjunctions := false) | assumption | omega | decide), (by (try dsimp only); first | done | assumption | decide | omega), (by (try dsimp only); first | done | (with_reducible assumption) | omega (splitDisjunctions := false) | assumption | omega | decide), (show hid_ (∃ W : VW_, en_R A lm.toInt x.toInt V (6 : Int32).toInt W ∧ ((6 : Int32).toInt = 0 → rC_ c.toInt tfn tfz tfb tfg W)) from (hid_i ⟨V, en_6 (by first | decide | omega) rrF nkF okF (fun q9 => hid_o hrN (by omega) (by have q8 := (hid_o rmI).mp q9; (exact omg_3de9c9e6a5 zm1 u20 tw52 esX ti63 q8))), fun q9 => absurd q9 (by first | decide | omega)⟩)), F_tfn, F_tfb, F_xf⟩ [20, 23, 24, 21, 22, 0, 25, 1, 2, 3, 4, 5, 6, 7, 8, 9, 10, 11, 12, 13, 14, 15, 16, 17, 18, 19] (by decide) rfl rfl (by decide) (by decide)
              · have tw89 : ¬ r_79.toInt = i88.toInt := fun z9 => w89 ((ti_eq rfl rfl).mpr z9)
                refine pb_iconst (pc := 243) (v := 5) d_FileReader_readEntry_243 (by decide) ?_
                exact pb_iret (pc := 244) hQ d_FileReader_readEntry_244 rfl rfl (5, c, tfn, tfz, tfb, tfg, er, at_, en, fl, xs, xf, tf, efs, efc, efy, ecs, ecc, ecy, eds, edc, edy) ⟨rfl, (by (try dsimp only); first | done | assumption | decide | omega), (by (try dsimp only); first | done | (with_reducible assumption) | omega (splitDisjunctions := false) | assumption | omega | decide), (by (try dsimp only); first | done | (with_reducible assumption) | omega (splitDisjunctions := false) | assumption | omega | decide), (by (try dsimp only); first | done | assumption | decide | omega), (by (try dsimp only); first | done | (with_reducible assumption) | omega (splitDisjunctions := false) | assumption | omega | decide), (by (try dsimp only); first | done | assumption | decide | omega), (by (try dsimp only); first | done | (with_reducible assumption) | omega (splitDisjunctions := false) | assumption | omega | decide), (by (try dsimp only); first | done | assumption | decide | omega), (by (try dsimp only); first | done | (with_reducible assumption) | omega (splitDisjunctions := false) | assumption | omega | decide), (show hid_ (∃ W : VW_, en_R A lm.toInt x.toInt V (5 : Int32).toInt W ∧ ((5 : Int32).toInt = 0 → rC_ c.toInt tfn tfz tfb tfg W)) from (hid_i ⟨V, en_5 (by first | decide | omega) rrF nkF (by first | exact ok_x bsQ smF sdF cE (by omega) (by (exact omg_6dbb8d8f27 fh12 u20 esX)) | exact (if z9 : fX = 0 then ok_no (hid_o bsP z9) (fun q9 => absurd q9.1 (by omega)) else hid_o bsN z9)), fun q9 => absurd q9 (by first | decide | omega)⟩)), F_tfn, F_tfb, F_xf⟩ [21, 25, 22, 23, 24, 0, 1, 2, 3, 4, 5, 6, 7, 8, 9, 10, 11, 12, 13, 14, 15, 16, 17, 18, 19, 20] (by decide) rfl rfl (by decide) (by decide)
          · have tw61 : r_56.toInt = 8 := (ti_eq rfl (by decide)).mp w61
            refine pb_iconst (pc := 130) (v := 1) d_FileReader_readEntry_130 (by decide) ?_
            refine pb_goto (pc := 131) (tgt := 135) d_FileReader_readEntry_131 (by decide) ?_
            refine pb_istore (pc := 135) (lo' := [(14, .int 1), (13, .int i37), (11, .long j25), (10, .int r_18), (8, .long r_11), (6, .long r_4), (0, .ref h), (1, .int x), (2, .long lm), (4, .ref sp), (5, .ref q)]) d_FileReader_readEntry_135 (by decide) rfl ?_
            refine pb_iload (pc := 137) d_FileReader_readEntry_137 0 rfl ?_
            refine pb_if_eq (pc := 139) (tgt := 160) d_FileReader_readEntry_139 (by decide) (fun h9 => absurd h9 (by decide)) (fun _ => ?_)
            refine pb_aload (pc := 142) d_FileReader_readEntry_142 10 rfl ?_
            refine pb_aload_n (pc := 144) d_FileReader_readEntry_144 6 rfl rfl ?_
            refine pb_get (pc := 145) d_FileReader_readEntry_145 21 0 rfl rfl (by decide) in_FileReader k_306 rfl ?_
            refine pb_lload (pc := 148) d_FileReader_readEntry_148 2 rfl ?_
            refine pb_l2i (pc := 150) d_FileReader_readEntry_150 rfl ?_
            refine pb_topi (fun i111 ei111 => ?_)
            try have ti111 : i111.toInt = j25.toInt := ti_l2i ei111 rfl (by (exact omg_3d63da7797 fh5 tj23 tj24 tj25 iNm)) (by (exact omg_91669a9144 h2 hN fh12 tj26 lc4))
            refine pb_lload (pc := 151) d_FileReader_readEntry_151 4 rfl ?_
            refine pb_l2i (pc := 153) d_FileReader_readEntry_153 rfl ?_
            refine pb_topi (fun i112 ei112 => ?_)
            try have ti112 : i112.toInt = r_11.toInt := ti_l2i ei112 rfl (by (exact omg_829df125db fh12)) (by (exact omg_ac743ef307 h2 hN fh5 tj23 tj24 tj25 tj26 lc4 iNm))
            refine pb_callV (pc := 154) (I := i_FileReader_readEntry) (qb := 2) (ci := 5) (nA := 3) (rest := []) (wr := [(tb, .inl (G.2.1, 12000, .inl tfb)), (tg, .inl (G.2.2.1, 17, .inl tfg)), (h, .inr (7, [.ref b])), (sp, .inr (3, [.ref tn, .ref tz, .ref tb, .ref tg, .int c])), (tn, .inl (G.2.1, 384, .inl tfn)), (tz, .inl (G.2.2.1, 16, .inl tfz))]) d_FileReader_readEntry_154 (g_Exp_run hl G q ex et ea eb ec ed ef er at_ en fl b N f ey xf xs tf ea1 ea2 eas eac eay eb1 eb2 ebs ebc eby ef1 ef2 efs efc efy ec1 ec2 ecs ecc ecy ed1 ed2 eds edc edy i111 i112 A (by first | (with_reducible assumption) | (exact omg_85863c993a fh5 tj23 tj24 tj25 iNm ti111) | assumption | omega | decide) (by first | (with_reducible assumption) | (exact omg_9421ffe5b8 fh12 ti112) | assumption | omega | decide) (by first | (with_reducible assumption) | omega (splitDisjunctions := false) | assumption | omega | decide) (by first | (with_reducible assumption) | omega (splitDisjunctions := false) | assumption | omega | decide) (fun j h0 h1 => hA j h0 (by omega)) (by first | assumption | decide | omega) (by first | (with_reducible assumption) | omega (splitDisjunctions := false) | assumption | omega | decide) (by first | assumption | decide | omega) (by first | (with_reducible assumption) | omega (splitDisjunctions := false) | assumption | omega | decide) (by first | (with_reducible assumption) | omega (splitDisjunctions := false) | assumption | omega | decide) (by first | (with_reducible assumption) | omega (splitDisjunctions := false) | assumption | omega | decide) (by first | assumption | decide | omega) (by first | (with_reducible assumption) | omega (splitDisjunctions := false) | assumption | omega | decide) (by first | assumption | decide | omega) (by first | (with_reducible assumption) | omega (splitDisjunctions := false) | assumption | omega | decide) (by first | assumption | decide | omega) (by first | (with_reducible assumption) | omega (splitDisjunctions := false) | assumption | omega | decide) F_f F_xf) rfl rfl [2, 25, 3, 4, 5, 6, 7, 8, 9, 10, 11, 12, 13, 14, 15, 16, 17, 18, 19, 20] [0, 1, 21, 22, 23, 24] (by decide) rfl rfl rfl (by decide) (by decide) k_630 rfl k_121 k_627 k_628 k_629 ⟨rfl, hy_Expander_run⟩ (by decide) rfl rfl (Nat.le_of_ble_eq_true rfl) (by decide) (fun v9 u114 ch113 => ?_)
            obtain ⟨r_115, a2__116, e2__117, f2__118, s2__119, xf_120, tf_121, efs_122, efc_123, efy_124, ecs_125, ecc_126, ecy_127, eds_128, edc_129, edy_130⟩ := u114
            obtain ⟨ech113, ch113⟩ := ch113
            have ech113 : v9 = some (.int r_115) := ech113
            subst ech113
            obtain ⟨fh131, fh132, fh133, fh134, fh135, fh136, fh137, fh138, fh139, fh140, fh141, fh142⟩ : (r_115.toInt < 0 ∨ r_115.toInt = s2__119.toInt) ∧ (0 ≤ s2__119.toInt) ∧ (s2__119.toInt ≤ 4000) ∧ (co_I efs_122.toInt efc_123 efy_124 19) ∧ (efs_122.toInt ≤ 19) ∧ (co_I ecs_125.toInt ecc_126 ecy_127 288) ∧ (ecs_125.toInt ≤ 286) ∧ (co_I eds_128.toInt edc_129 edy_130 32) ∧ (eds_128.toInt ≤ 30) ∧ (ex_f A od_ i111.toInt i112.toInt = oz_ f2__118.toInt a2__116.toInt s2__119.toInt (sq xf_120 0 s2__119.toInt)) ∧ (f2__118.toInt = 0 ∧ r_115.toInt = s2__119.toInt ∨ 0 < f2__118.toInt ∧ r_115.toInt = - f2__118.toInt) ∧ (sb_Fit xf_120) := ch113
            have xzF := fh140
            have xrF := fh141
            have xrG := fh131
            clear fh131 fh141
            rw [show i111.toInt = aw A (x.toInt + 42) 4 + 30 + aw A (x.toInt + 28) 2 by (exact omg_ec3eb93f73 u42 u28 tj23 tj24 tj25 ti111), show i112.toInt = aw A (x.toInt + 20) 4 by (exact omg_99b4580df8 u20 ti112)] at xzF
            obtain ⟨sX, esX⟩ : ∃ z : Int, z = s2__119.toInt := ⟨_, rfl⟩
            obtain ⟨fX, efX⟩ : ∃ z : Int, z = f2__118.toInt := ⟨_, rfl⟩
            obtain ⟨dX, edX⟩ : ∃ z : Int → Int32, z = sq xf_120 0 s2__119.toInt := ⟨_, rfl⟩
            rw [← edX, ← esX, ← efX] at xzF
            have bsP : hid_ (fX = 0 → bs_ A x.toInt sX dX) := hid_i (fun q9 => Or.inl ⟨by (exact omg_bef98206d1 u10 tw61), _, by rw [q9] at xzF; exact xzF⟩)
            have bsN : hid_ (¬ fX = 0 → ∀ (s9 : Int) (d9 : Int → Int32), ¬ ok_ A x.toInt s9 d9) := hid_i (fun q9 => ok_nz (by omega) xzF q9)
            have dxE : ∀ k : Int, 0 ≤ k → k < sX → ∀ Y9 : Int, Y9 = 0 → gr xf_120 (Y9 + k) = dX k := fun k h0 h1 Y9 hY => by rw [edX]; exact sq_at0 hY h0 (by omega)
            refine pb_eq (pc' := 157) (lo' := [(14, .int 1), (13, .int i37), (11, .long j25), (10, .int r_18), (8, .long r_11), (6, .long r_4), (0, .ref h), (1, .int x), (2, .long lm), (4, .ref sp), (5, .ref q)]) (rest' := [.int r_115]) (ws' := [(tb, .inl (G.2.1, 12000, .inl tfb)), (tg, .inl (G.2.2.1, 17, .inl tfg)), (h, .inr (7, [.ref b])), (sp, .inr (3, [.ref tn, .ref tz, .ref tb, .ref tg, .int c])), (tn, .inl (G.2.1, 384, .inl tfn)), (tz, .inl (G.2.2.1, 16, .inl tfz)), (q, .inr (5, [.ref ex, .ref et, .ref ea, .ref eb, .ref ec, .ref ed, .ref ef, .ref b, .int a2__116, .int e2__117, .int f2__118])), (b, .inl (G.2.1, N, .inl f)), (ex, .inr (0, [.ref ey, .int s2__119])), (ey, .inl (G.2.1, 4000, .inl xf_120)), (et, .inl (G.2.2.1, 316, .inl tf_121)), (ea, .inr (1, [.ref ea1, .ref ea2, .int eas])), (ea1, .inl (G.2.2.1, 16, .inl eac)), (ea2, .inl (G.2.2.1, 288, .inl eay)), (eb, .inr (1, [.ref eb1, .ref eb2, .int ebs])), (eb1, .inl (G.2.2.1, 16, .inl ebc)), (eb2, .inl (G.2.2.1, 32, .inl eby)), (ef, .inr (1, [.ref ef1, .ref ef2, .int efs_122])), (ef1, .inl (G.2.2.1, 16, .inl efc_123)), (ef2, .inl (G.2.2.1, 19, .inl efy_124)), (ec, .inr (1, [.ref ec1, .ref ec2, .int ecs_125])), (ec1, .inl (G.2.2.1, 16, .inl ecc_126)), (ec2, .inl (G.2.2.1, 286, .inl ecy_127)), (ed, .inr (1, [.ref ed1, .ref ed2, .int eds_128])), (ed1, .inl (G.2.2.1, 16, .inl edc_129)), (ed2, .inl (G.2.2.1, 30, .inl edy_130))]) ?_
            refine pb_goto (pc := 157) (tgt := 163) d_FileReader_readEntry_157 (by decide) ?_
            refine pb_istore (pc := 163) (lo' := [(15, .int r_115), (14, .int 1), (13, .int i37), (11, .long j25), (10, .int r_18), (8, .long r_11), (6, .long r_4), (0, .ref h), (1, .int x), (2, .long lm), (4, .ref sp), (5, .ref q)]) d_FileReader_readEntry_163 (by decide) rfl ?_
            refine pb_iload (pc := 165) d_FileReader_readEntry_165 1 rfl ?_
            refine pb_if_eq (pc := 167) (tgt := 181) d_FileReader_readEntry_167 (by decide) (fun h9 => absurd h9 (by decide)) (fun _ => ?_)
            refine pb_aload (pc := 170) d_FileReader_readEntry_170 11 rfl ?_
            refine pb_getN (pc := 172) d_FileReader_readEntry_172 6 0 rfl rfl (by decide) in_Expander k_249 rfl ?_
            refine pb_getN (pc := 175) d_FileReader_readEntry_175 8 0 rfl rfl (by decide) in_Row k_159 rfl ?_
            refine pb_goto (pc := 178) (tgt := 185) d_FileReader_readEntry_178 (by decide) ?_
            refine pb_astore (pc := 185) (lo' := [(16, .ref ey), (15, .int r_115), (14, .int 1), (13, .int i37), (11, .long j25), (10, .int r_18), (8, .long r_11), (6, .long r_4), (0, .ref h), (1, .int x), (2, .long lm), (4, .ref sp), (5, .ref q)]) d_FileReader_readEntry_185 (by decide) rfl ?_
            refine pb_iload (pc := 187) d_FileReader_readEntry_187 2 rfl ?_
            refine pb_if_eq (pc := 189) (tgt := 196) d_FileReader_readEntry_189 (by decide) (fun h9 => absurd h9 (by decide)) (fun _ => ?_)
            refine pb_iconst (pc := 192) (v := 0) d_FileReader_readEntry_192 (by decide) ?_
            refine pb_goto (pc := 193) (tgt := 199) d_FileReader_readEntry_193 (by decide) ?_
            refine pb_istore (pc := 199) (lo' := [(17, .int 0), (16, .ref ey), (15, .int r_115), (14, .int 1), (13, .int i37), (11, .long j25), (10, .int r_18), (8, .long r_11), (6, .long r_4), (0, .ref h), (1, .int x), (2, .long lm), (4, .ref sp), (5, .ref q)]) d_FileReader_readEntry_199 (by decide) rfl ?_
            refine pb_iload (pc := 201) d_FileReader_readEntry_201 2 rfl ?_
            refine pb_i2l (pc := 203) d_FileReader_readEntry_203 rfl ?_
            refine pb_topl (fun j145 ej145 => ?_)
            have tj145 : j145.toInt = r_115.toInt := tl_i2l ej145 rfl
            refine pb_aload_n (pc := 204) d_FileReader_readEntry_204 9 rfl rfl ?_
            refine pb_get (pc := 205) d_FileReader_readEntry_205 2 0 rfl rfl (by decide) in_FileReader k_306 rfl ?_
            refine pb_iload_n (pc := 208) d_FileReader_readEntry_208 10 rfl rfl ?_
            refine pb_bipush (pc := 209) (v := 24) d_FileReader_readEntry_209 (by decide) ?_
            refine pb_iadd (pc := 211) d_FileReader_readEntry_211 ?_
            refine pb_topi (fun i146 ei146 => ?_)
            try have ti146 : i146.toInt = x.toInt + 24 := t2_add ei146 rfl (by decide) (by (exact omg_7070e9f3c5 h0 h1 hN fh21 iNm))
            refine pb_callSN (pc := 212) (I := i_FileReader_readEntry) (nA := 2) (rest := [.long j145]) (wr := [(tb, .inl (G.2.1, 12000, .inl tfb)), (tg, .inl (G.2.2.1, 17, .inl tfg)), (h, .inr (7, [.ref b])), (sp, .inr (3, [.ref tn, .ref tz, .ref tb, .ref tg, .int c])), (tn, .inl (G.2.1, 384, .inl tfn)), (tz, .inl (G.2.2.1, 16, .inl tfz)), (q, .inr (5, [.ref ex, .ref et, .ref ea, .ref eb, .ref ec, .ref ed, .ref ef, .ref b, .int a2__116, .int e2__117, .int f2__118])), (ex, .inr (0, [.ref ey, .int s2__119])), (ey, .inl (G.2.1, 4000, .inl xf_120)), (et, .inl (G.2.2.1, 316, .inl tf_121)), (ea, .inr (1, [.ref ea1, .ref ea2, .int eas])), (ea1, .inl (G.2.2.1, 16, .inl eac)), (ea2, .inl (G.2.2.1, 288, .inl eay)), (eb, .inr (1, [.ref eb1, .ref eb2, .int ebs])), (eb1, .inl (G.2.2.1, 16, .inl ebc)), (eb2, .inl (G.2.2.1, 32, .inl eby)), (ef, .inr (1, [.ref ef1, .ref ef2, .int efs_122])), (ef1, .inl (G.2.2.1, 16, .inl efc_123)), (ef2, .inl (G.2.2.1, 19, .inl efy_124)), (ec, .inr (1, [.ref ec1, .ref ec2, .int ecs_125])), (ec1, .inl (G.2.2.1, 16, .inl ecc_126)), (ec2, .inl (G.2.2.1, 286, .inl ecy_127)), (ed, .inr (1, [.ref ed1, .ref ed2, .int eds_128])), (ed1, .inl (G.2.2.1, 16, .inl edc_129)), (ed2, .inl (G.2.2.1, 30, .inl edy_130))]) d_FileReader_readEntry_212 (g_fourAt hl G b N f i146 (by first | (with_reducible assumption) | (exact omg_3382fd02fe h0 ti146) | assumption | omega | decide) (by first | (with_reducible assumption) | (exact omg_a2e05eedd6 h1 fh21 iNm ti146) | assumption | omega | decide) (by first | (with_reducible assumption) | omega (splitDisjunctions := false) | assumption | omega | decide) F_f) [7] [0, 1, 2, 3, 4, 5, 6, 8, 9, 10, 11, 12, 13, 14, 15, 16, 17, 18, 19, 20, 21, 22, 23, 24, 25] (by decide) rfl rfl rfl (by decide) (by decide) k_594 rfl k_118 k_592 k_593 hy_Book_fourAt (by decide) rfl rfl (Nat.le_of_ble_eq_true rfl) (by decide) (fun v9 u148 ch147 => ?_)
            obtain ⟨r_149, rfl⟩ : ∃ z9, z9 = u148 := ⟨_, rfl⟩
            obtain ⟨ech147, ch147⟩ := ch147
            have ech147 : v9 = some (.long r_149) := ech147
            subst ech147
            obtain ⟨fh150, fh151, fh152⟩ : (0 ≤ r_149.toInt) ∧ (r_149.toInt < 4294967296) ∧ (r_149.toInt = av f i146.toInt 4) := ch147
            have u24 : r_149.toInt = aw A (x.toInt + 24) 4 := by rw [fh152, show i146.toInt = x.toInt + 24 by omega]; exact av_A hA 4 (by (exact omg_56efbf3b2a h0)) (by (exact omg_a02c705012 hZ tq5))
            refine pb_eq (pc' := 215) (lo' := [(17, .int 0), (16, .ref ey), (15, .int r_115), (14, .int 1), (13, .int i37), (11, .long j25), (10, .int r_18), (8, .long r_11), (6, .long r_4), (0, .ref h), (1, .int x), (2, .long lm), (4, .ref sp), (5, .ref q)]) (rest' := [.long r_149, .long j145]) (ws' := [(tb, .inl (G.2.1, 12000, .inl tfb)), (tg, .inl (G.2.2.1, 17, .inl tfg)), (h, .inr (7, [.ref b])), (sp, .inr (3, [.ref tn, .ref tz, .ref tb, .ref tg, .int c])), (tn, .inl (G.2.1, 384, .inl tfn)), (tz, .inl (G.2.2.1, 16, .inl tfz)), (q, .inr (5, [.ref ex, .ref et, .ref ea, .ref eb, .ref ec, .ref ed, .ref ef, .ref b, .int a2__116, .int e2__117, .int f2__118])), (ex, .inr (0, [.ref ey, .int s2__119])), (ey, .inl (G.2.1, 4000, .inl xf_120)), (et, .inl (G.2.2.1, 316, .inl tf_121)), (ea, .inr (1, [.ref ea1, .ref ea2, .int eas])), (ea1, .inl (G.2.2.1, 16, .inl eac)), (ea2, .inl (G.2.2.1, 288, .inl eay)), (eb, .inr (1, [.ref eb1, .ref eb2, .int ebs])), (eb1, .inl (G.2.2.1, 16, .inl ebc)), (eb2, .inl (G.2.2.1, 32, .inl eby)), (ef, .inr (1, [.ref ef1, .ref ef2, .int efs_122])), (ef1, .inl (G.2.2.1, 16, .inl efc_123)), (ef2, .inl (G.2.2.1, 19, .inl efy_124)), (ec, .inr (1, [.ref ec1, .ref ec2, .int ecs_125])), (ec1, .inl (G.2.2.1, 16, .inl ecc_126)), (ec2, .inl (G.2.2.1, 286, .inl ecy_127)), (ed, .inr (1, [.ref ed1, .ref ed2, .int eds_128])), (ed1, .inl (G.2.2.1, 16, .inl edc_129)), (ed2, .inl (G.2.2.1, 30, .inl edy_130)), (b, .inl (G.2.1, N, .inl f))]) ?_
            refine pb_lcmp (pc := 215) d_FileReader_readEntry_215 ?_
            refine pb_topi (fun i153 ei153 => ?_)
            have ti153 : (i153.toInt < 0 ↔ j145.toInt < r_149.toInt) ∧ (i153.toInt = 0 ↔ j145.toInt = r_149.toInt) ∧ (0 < i153.toInt ↔ r_149.toInt < j145.toInt) := tl_cmp ei153 rfl rfl
            obtain ⟨lc1, lc2, lc3⟩ := ti153
            refine pb_if_ne (pc := 216) (tgt := 243) d_FileReader_readEntry_216 (by decide) (fun w154 => ?_) (fun w154 => ?_)
            · have tw154 : ¬ i153.toInt = 0 := fun z9 => w154 ((ti_eq rfl (by decide)).mpr z9)
              refine pb_iconst (pc := 243) (v := 5) d_FileReader_readEntry_243 (by decide) ?_
              exact pb_iret (pc := 244) hQ d_FileReader_readEntry_244 rfl rfl (5, c, tfn, tfz, tfb, tfg, b, a2__116, e2__117, f2__118, s2__119, xf_120, tf_121, efs_122, efc_123, efy_124, ecs_125, ecc_126, ecy_127, eds_128, edc_129, edy_130) ⟨rfl, (by (try dsimp only); first | done | assumption | decide | omega), (by (try dsimp only); first | done | (with_reducible assumption) | omega (splitDisjunctions := false) | assumption | omega | decide), (by (try dsimp only); first | done | (with_reducible assumption) | omega (splitDisjunctions := false) | assumption | omega | decide), (by (try dsimp only); first | done | assumption | decide | omega), (by (try dsimp only); first | done | (with_reducible assumption) | omega (splitDisjunctions := false) | assumption | omega | decide), (by (try dsimp only); first | done | assumption | decide | omega), (by (try dsimp only); first | done | (with_reducible assumption) | omega (splitDisjunctions := false) | assumption | omega | decide), (by (try dsimp only); first | done | assumption | decide | omega), (by (try dsimp only); first | done | (with_reducible assumption) | omega (splitDisjunctions := false) | assumption | omega | decide), (show hid_ (∃ W : VW_, en_R A lm.toInt x.toInt V (5 : Int32).toInt W ∧ ((5 : Int32).toInt = 0 → rC_ c.toInt tfn tfz tfb tfg W)) from (hid_i ⟨V, en_5 (by first | decide | omega) rrF nkF (by first | exact ok_x bsQ smF sdF cE (by omega) (by omega) | exact (if z9 : fX = 0 then ok_no (hid_o bsP z9) (fun q9 => absurd q9.1 (by (exact omg_5c4b4dd867 xrF esX efX tj145 u24 lc2 tw154 z9))) else hid_o bsN z9)), fun q9 => absurd q9 (by first | decide | omega)⟩)), F_tfn, F_tfb, fh142⟩ [2, 25, 3, 4, 5, 0, 1, 6, 7, 8, 9, 10, 11, 12, 13, 14, 15, 16, 17, 18, 19, 20, 21, 22, 23, 24] (by decide) rfl rfl (by decide) (by decide)
            · have tw154 : i153.toInt = 0 := (ti_eq rfl (by decide)).mp w154
              have lc5 := lc2.mp (by assumption)
              clear lc1 lc2 lc3
              have fX0 : fX = 0 := by (exact omg_f552e1eb59 xrF efX tj145 fh150 lc5)
              have bsQ := hid_o bsP fX0
              refine pb_aload (pc := 219) d_FileReader_readEntry_219 1 rfl ?_
              refine pb_iload (pc := 221) d_FileReader_readEntry_221 0 rfl ?_
              refine pb_iload (pc := 223) d_FileReader_readEntry_223 2 rfl ?_
              have mX : r_115.toInt = sX := by (exact omg_12405d9101 xrG esX tj145 fh150 lc5)
              try clear xrF xrG
              have fr0 : 0 ≤ (0 : Int32).toInt := by omega
              refine pb_callSN (pc := 225) (I := i_FileReader_readEntry) (nA := 3) (rest := []) (wr := [(tb, .inl (G.2.1, 12000, .inl tfb)), (tg, .inl (G.2.2.1, 17, .inl tfg)), (h, .inr (7, [.ref b])), (sp, .inr (3, [.ref tn, .ref tz, .ref tb, .ref tg, .int c])), (tn, .inl (G.2.1, 384, .inl tfn)), (tz, .inl (G.2.2.1, 16, .inl tfz)), (q, .inr (5, [.ref ex, .ref et, .ref ea, .ref eb, .ref ec, .ref ed, .ref ef, .ref b, .int a2__116, .int e2__117, .int f2__118])), (ex, .inr (0, [.ref ey, .int s2__119])), (et, .inl (G.2.2.1, 316, .inl tf_121)), (ea, .inr (1, [.ref ea1, .ref ea2, .int eas])), (ea1, .inl (G.2.2.1, 16, .inl eac)), (ea2, .inl (G.2.2.1, 288, .inl eay)), (eb, .inr (1, [.ref eb1, .ref eb2, .int ebs])), (eb1, .inl (G.2.2.1, 16, .inl ebc)), (eb2, .inl (G.2.2.1, 32, .inl eby)), (ef, .inr (1, [.ref ef1, .ref ef2, .int efs_122])), (ef1, .inl (G.2.2.1, 16, .inl efc_123)), (ef2, .inl (G.2.2.1, 19, .inl efy_124)), (ec, .inr (1, [.ref ec1, .ref ec2, .int ecs_125])), (ec1, .inl (G.2.2.1, 16, .inl ecc_126)), (ec2, .inl (G.2.2.1, 286, .inl ecy_127)), (ed, .inr (1, [.ref ed1, .ref ed2, .int eds_128])), (ed1, .inl (G.2.2.1, 16, .inl edc_129)), (ed2, .inl (G.2.2.1, 30, .inl edy_130)), (b, .inl (G.2.1, N, .inl f))]) d_FileReader_readEntry_225 (g_sumOf hl G ey 4000 xf_120 0 r_115 (by first | (with_reducible assumption) | omega (splitDisjunctions := false) | assumption | omega | decide) (by first | (with_reducible assumption) | (exact omg_e59772ea35 fh132 esX mX) | assumption | omega | decide) (by first | (with_reducible assumption) | (exact omg_3400f448cc zl0 fh133 esX mX) | assumption | omega | decide) (by first | (with_reducible assumption) | omega (splitDisjunctions := false) | assumption | omega | decide) fh142) [8] [0, 1, 2, 3, 4, 5, 6, 7, 9, 10, 11, 12, 13, 14, 15, 16, 17, 18, 19, 20, 21, 22, 23, 24, 25] (by decide) rfl rfl rfl (by decide) (by decide) k_559 rfl k_118 k_692 k_558 hy_Book_sumOf (by decide) rfl rfl (Nat.le_of_ble_eq_true rfl) (by decide) (fun v9 u156 ch155 => ?_)
              obtain ⟨r_157, rfl⟩ : ∃ z9, z9 = u156 := ⟨_, rfl⟩
              obtain ⟨ech155, ch155⟩ := ch155
              have ech155 : v9 = some (.int r_157) := ech155
              subst ech155
              have fh158 : r_157 = cr_n xf_120 (0 : Int32).toInt r_115.toInt.toNat ^^^ (-1) := ch155
              have smF := fh158
              rw [show r_115.toInt = sX by omega] at smF
              have sdF := fun (k : Int) (h0 : 0 ≤ k) (h1 : k < sX) => dxE k h0 h1 (0 : Int32).toInt (by omega)
              refine pb_eq (pc' := 228) (lo' := [(17, .int 0), (16, .ref ey), (15, .int r_115), (14, .int 1), (13, .int i37), (11, .long j25), (10, .int r_18), (8, .long r_11), (6, .long r_4), (0, .ref h), (1, .int x), (2, .long lm), (4, .ref sp), (5, .ref q)]) (rest' := [.int r_157]) (ws' := [(tb, .inl (G.2.1, 12000, .inl tfb)), (tg, .inl (G.2.2.1, 17, .inl tfg)), (h, .inr (7, [.ref b])), (sp, .inr (3, [.ref tn, .ref tz, .ref tb, .ref tg, .int c])), (tn, .inl (G.2.1, 384, .inl tfn)), (tz, .inl (G.2.2.1, 16, .inl tfz)), (q, .inr (5, [.ref ex, .ref et, .ref ea, .ref eb, .ref ec, .ref ed, .ref ef, .ref b, .int a2__116, .int e2__117, .int f2__118])), (ex, .inr (0, [.ref ey, .int s2__119])), (et, .inl (G.2.2.1, 316, .inl tf_121)), (ea, .inr (1, [.ref ea1, .ref ea2, .int eas])), (ea1, .inl (G.2.2.1, 16, .inl eac)), (ea2, .inl (G.2.2.1, 288, .inl eay)), (eb, .inr (1, [.ref eb1, .ref eb2, .int ebs])), (eb1, .inl (G.2.2.1, 16, .inl ebc)), (eb2, .inl (G.2.2.1, 32, .inl eby)), (ef, .inr (1, [.ref ef1, .ref ef2, .int efs_122])), (ef1, .inl (G.2.2.1, 16, .inl efc_123)), (ef2, .inl (G.2.2.1, 19, .inl efy_124)), (ec, .inr (1, [.ref ec1, .ref ec2, .int ecs_125])), (ec1, .inl (G.2.2.1, 16, .inl ecc_126)), (ec2, .inl (G.2.2.1, 286, .inl ecy_127)), (ed, .inr (1, [.ref ed1, .ref ed2, .int eds_128])), (ed1, .inl (G.2.2.1, 16, .inl edc_129)), (ed2, .inl (G.2.2.1, 30, .inl edy_130)), (b, .inl (G.2.1, N, .inl f)), (ey, .inl (G.2.1, 4000, .inl xf_120))]) ?_
              refine pb_aload_n (pc := 228) d_FileReader_readEntry_228 9 rfl rfl ?_
              refine pb_get (pc := 229) d_FileReader_readEntry_229 2 0 rfl rfl (by decide) in_FileReader k_306 rfl ?_
              refine pb_iload_n (pc := 232) d_FileReader_readEntry_232 10 rfl rfl ?_
              refine pb_bipush (pc := 233) (v := 16) d_FileReader_readEntry_233 (by decide) ?_
              refine pb_iadd (pc := 235) d_FileReader_readEntry_235 ?_
              refine pb_topi (fun i159 ei159 => ?_)
              try have ti159 : i159.toInt = x.toInt + 16 := t2_add ei159 rfl (by decide) (by (exact omg_ec74ea49f5 h0 h1 hN fh21 iNm))
              refine pb_callSN (pc := 236) (I := i_FileReader_readEntry) (nA := 2) (rest := [.int r_157]) (wr := [(tb, .inl (G.2.1, 12000, .inl tfb)), (tg, .inl (G.2.2.1, 17, .inl tfg)), (h, .inr (7, [.ref b])), (sp, .inr (3, [.ref tn, .ref tz, .ref tb, .ref tg, .int c])), (tn, .inl (G.2.1, 384, .inl tfn)), (tz, .inl (G.2.2.1, 16, .inl tfz)), (q, .inr (5, [.ref ex, .ref et, .ref ea, .ref eb, .ref ec, .ref ed, .ref ef, .ref b, .int a2__116, .int e2__117, .int f2__118])), (ex, .inr (0, [.ref ey, .int s2__119])), (et, .inl (G.2.2.1, 316, .inl tf_121)), (ea, .inr (1, [.ref ea1, .ref ea2, .int eas])), (ea1, .inl (G.2.2.1, 16, .inl eac)), (ea2, .inl (G.2.2.1, 288, .inl eay)), (eb, .inr (1, [.ref eb1, .ref eb2, .int ebs])), (eb1, .inl (G.2.2.1, 16, .inl ebc)), (eb2, .inl (G.2.2.1, 32, .inl eby)), (ef, .inr (1, [.ref ef1, .ref ef2, .int efs_122])), (ef1, .inl (G.2.2.1, 16, .inl efc_123)), (ef2, .inl (G.2.2.1, 19, .inl efy_124)), (ec, .inr (1, [.ref ec1, .ref ec2, .int ecs_125])), (ec1, .inl (G.2.2.1, 16, .inl ecc_126)), (ec2, .inl (G.2.2.1, 286, .inl ecy_127)), (ed, .inr (1, [.ref ed1, .ref ed2, .int eds_128])), (ed1, .inl (G.2.2.1, 16, .inl edc_129)), (ed2, .inl (G.2.2.1, 30, .inl edy_130)), (ey, .inl (G.2.1, 4000, .inl xf_120))]) d_FileReader_readEntry_236 (g_fourAt hl G b N f i159 (by first | (with_reducible assumption) | (exact omg_e394ee9c71 h0 ti159) | assumption | omega | decide) (by first | (with_reducible assumption) | (exact omg_a8ecfa23c7 h1 fh21 iNm ti159) | assumption | omega | decide) (by first | (with_reducible assumption) | omega (splitDisjunctions := false) | assumption | omega | decide) F_f) [24] [0, 1, 2, 3, 4, 5, 6, 7, 8, 9, 10, 11, 12, 13, 14, 15, 16, 17, 18, 19, 20, 21, 22, 23, 25] (by decide) rfl rfl rfl (by decide) (by decide) k_594 rfl k_118 k_592 k_593 hy_Book_fourAt (by decide) rfl rfl (Nat.le_of_ble_eq_true rfl) (by decide) (fun v9 u161 ch160 => ?_)
              obtain ⟨r_162, rfl⟩ : ∃ z9, z9 = u161 := ⟨_, rfl⟩
              obtain ⟨ech160, ch160⟩ := ch160
              have ech160 : v9 = some (.long r_162) := ech160
              subst ech160
              obtain ⟨fh163, fh164, fh165⟩ : (0 ≤ r_162.toInt) ∧ (r_162.toInt < 4294967296) ∧ (r_162.toInt = av f i159.toInt 4) := ch160
              have u16 : r_162.toInt = aw A (x.toInt + 16) 4 := by rw [fh165, show i159.toInt = x.toInt + 16 by omega]; exact av_A hA 4 (by (exact omg_f5c65a0819 h0)) (by (exact omg_a6aeb68d88 hZ tq5))
              refine pb_eq (pc' := 239) (lo' := [(17, .int 0), (16, .ref ey), (15, .int r_115), (14, .int 1), (13, .int i37), (11, .long j25), (10, .int r_18), (8, .long r_11), (6, .long r_4), (0, .ref h), (1, .int x), (2, .long lm), (4, .ref sp), (5, .ref q)]) (rest' := [.long r_162, .int r_157]) (ws' := [(tb, .inl (G.2.1, 12000, .inl tfb)), (tg, .inl (G.2.2.1, 17, .inl tfg)), (h, .inr (7, [.ref b])), (sp, .inr (3, [.ref tn, .ref tz, .ref tb, .ref tg, .int c])), (tn, .inl (G.2.1, 384, .inl tfn)), (tz, .inl (G.2.2.1, 16, .inl tfz)), (q, .inr (5, [.ref ex, .ref et, .ref ea, .ref eb, .ref ec, .ref ed, .ref ef, .ref b, .int a2__116, .int e2__117, .int f2__118])), (ex, .inr (0, [.ref ey, .int s2__119])), (et, .inl (G.2.2.1, 316, .inl tf_121)), (ea, .inr (1, [.ref ea1, .ref ea2, .int eas])), (ea1, .inl (G.2.2.1, 16, .inl eac)), (ea2, .inl (G.2.2.1, 288, .inl eay)), (eb, .inr (1, [.ref eb1, .ref eb2, .int ebs])), (eb1, .inl (G.2.2.1, 16, .inl ebc)), (eb2, .inl (G.2.2.1, 32, .inl eby)), (ef, .inr (1, [.ref ef1, .ref ef2, .int efs_122])), (ef1, .inl (G.2.2.1, 16, .inl efc_123)), (ef2, .inl (G.2.2.1, 19, .inl efy_124)), (ec, .inr (1, [.ref ec1, .ref ec2, .int ecs_125])), (ec1, .inl (G.2.2.1, 16, .inl ecc_126)), (ec2, .inl (G.2.2.1, 286, .inl ecy_127)), (ed, .inr (1, [.ref ed1, .ref ed2, .int eds_128])), (ed1, .inl (G.2.2.1, 16, .inl edc_129)), (ed2, .inl (G.2.2.1, 30, .inl edy_130)), (ey, .inl (G.2.1, 4000, .inl xf_120)), (b, .inl (G.2.1, N, .inl f))]) ?_
              refine pb_l2i (pc := 239) d_FileReader_readEntry_239 rfl ?_
              refine pb_topi (fun i166 ei166 => ?_)
              try have ti166 : i166.toInt = r_162.toInt := ti_l2i ei166 rfl (by (exact omg_829df125db fh163)) (by omega)
              have cE := l2i_E ei166 u16
              refine pb_icmp_eq (pc := 240) (tgt := 245) d_FileReader_readEntry_240 (by decide) (fun w167 => ?_) (fun w167 => ?_)
              · have tw167 : r_157.toInt = i166.toInt := (ti_eq rfl rfl).mp w167
                have okF := ok_y bsQ (by omega) smF sdF cE (by omega) (by (exact omg_9421ffe5b8 fh132 esX))
                clear bsP bsN
                refine pb_aload (pc := 245) d_FileReader_readEntry_245 12 rfl ?_
                refine pb_iconst (pc := 247) (v := (-1)) d_FileReader_readEntry_247 (by decide) ?_
                refine pb_iload (pc := 248) d_FileReader_readEntry_248 2 rfl ?_
                refine pb_callV (pc := 250) (I := i_FileReader_readEntry) (qb := 3) (ci := 3) (nA := 2) (rest := []) (wr := [(tb, .inl (G.2.1, 12000, .inl tfb)), (h, .inr (7, [.ref b])), (tn, .inl (G.2.1, 384, .inl tfn)), (tz, .inl (G.2.2.1, 16, .inl tfz)), (q, .inr (5, [.ref ex, .ref et, .ref ea, .ref eb, .ref ec, .ref ed, .ref ef, .ref b, .int a2__116, .int e2__117, .int f2__118])), (ex, .inr (0, [.ref ey, .int s2__119])), (et, .inl (G.2.2.1, 316, .inl tf_121)), (ea, .inr (1, [.ref ea1, .ref ea2, .int eas])), (ea1, .inl (G.2.2.1, 16, .inl eac)), (ea2, .inl (G.2.2.1, 288, .inl eay)), (eb, .inr (1, [.ref eb1, .ref eb2, .int ebs])), (eb1, .inl (G.2.2.1, 16, .inl ebc)), (eb2, .inl (G.2.2.1, 32, .inl eby)), (ef, .inr (1, [.ref ef1, .ref ef2, .int efs_122])), (ef1, .inl (G.2.2.1, 16, .inl efc_123)), (ef2, .inl (G.2.2.1, 19, .inl efy_124)), (ec, .inr (1, [.ref ec1, .ref ec2, .int ecs_125])), (ec1, .inl (G.2.2.1, 16, .inl ecc_126)), (ec2, .inl (G.2.2.1, 286, .inl ecy_127)), (ed, .inr (1, [.ref ed1, .ref ed2, .int eds_128])), (ed1, .inl (G.2.2.1, 16, .inl edc_129)), (ed2, .inl (G.2.2.1, 30, .inl edy_130)), (ey, .inl (G.2.1, 4000, .inl xf_120)), (b, .inl (G.2.1, N, .inl f))]) d_FileReader_readEntry_250 (g_Shelf_hasRoom hl G sp tn tz tb tg c tfz tfg (-1) r_115 (by first | assumption | decide | omega) (by first | (with_reducible assumption) | (exact omg_e59772ea35 fh132 esX mX) | assumption | omega | decide)) rfl rfl [3, 1] [0, 2, 4, 5, 6, 7, 8, 9, 10, 11, 12, 13, 14, 15, 16, 17, 18, 19, 20, 21, 22, 23, 24, 25] (by decide) rfl rfl rfl (by decide) (by decide) k_696 rfl k_127 k_693 k_694 k_695 ⟨rfl, hy_Shelf_hasRoom⟩ (by decide) rfl rfl (Nat.le_of_ble_eq_true rfl) (by decide) (fun v9 u169 ch168 => ?_)
                obtain ⟨r_170, rfl⟩ : ∃ z9, z9 = u169 := ⟨_, rfl⟩
                obtain ⟨ech168, ch168⟩ := ch168
                have ech168 : v9 = some (.int r_170) := ech168
                subst ech168
                obtain ⟨fh171, fh172, fh173⟩ : (r_170.toInt = 0 ∨ r_170.toInt = 1) ∧ (r_170.toInt = 1 → r_115.toInt ≤ 4000 ∧ ((0 ≤ ((-1) : Int32).toInt ∧ ((-1) : Int32).toInt < c.toInt ∧ gx tfg c.toInt - (gx tfg (((-1) : Int32).toInt + 1) - gx tfg ((-1) : Int32).toInt) + r_115.toInt ≤ 12000) ∨ (¬ (0 ≤ ((-1) : Int32).toInt ∧ ((-1) : Int32).toInt < c.toInt) ∧ c.toInt < 16 ∧ gx tfg c.toInt + r_115.toInt ≤ 12000))) ∧ (r_170.toInt = 0 → ¬ (r_115.toInt ≤ 4000 ∧ ((0 ≤ ((-1) : Int32).toInt ∧ ((-1) : Int32).toInt < c.toInt ∧ gx tfg c.toInt - (gx tfg (((-1) : Int32).toInt + 1) - gx tfg ((-1) : Int32).toInt) + r_115.toInt ≤ 12000) ∨ (¬ (0 ≤ ((-1) : Int32).toInt ∧ ((-1) : Int32).toInt < c.toInt) ∧ c.toInt < 16 ∧ gx tfg c.toInt + r_115.toInt ≤ 12000)))) := ch168
                have hrF := hid_i fh172
                have hrN := hid_i fh173
                have hrb := fh171
                clear fh171 fh172 fh173
                have rmI := hid_i (RM_C (m := sX) R I hsV fF)
                refine pb_eq (pc' := 253) (lo' := [(17, .int 0), (16, .ref ey), (15, .int r_115), (14, .int 1), (13, .int i37), (11, .long j25), (10, .int r_18), (8, .long r_11), (6, .long r_4), (0, .ref h), (1, .int x), (2, .long lm), (4, .ref sp), (5, .ref q)]) (rest' := [.int r_170]) (ws' := [(tb, .inl (G.2.1, 12000, .inl tfb)), (h, .inr (7, [.ref b])), (tn, .inl (G.2.1, 384, .inl tfn)), (tz, .inl (G.2.2.1, 16, .inl tfz)), (q, .inr (5, [.ref ex, .ref et, .ref ea, .ref eb, .ref ec, .ref ed, .ref ef, .ref b, .int a2__116, .int e2__117, .int f2__118])), (ex, .inr (0, [.ref ey, .int s2__119])), (et, .inl (G.2.2.1, 316, .inl tf_121)), (ea, .inr (1, [.ref ea1, .ref ea2, .int eas])), (ea1, .inl (G.2.2.1, 16, .inl eac)), (ea2, .inl (G.2.2.1, 288, .inl eay)), (eb, .inr (1, [.ref eb1, .ref eb2, .int ebs])), (eb1, .inl (G.2.2.1, 16, .inl ebc)), (eb2, .inl (G.2.2.1, 32, .inl eby)), (ef, .inr (1, [.ref ef1, .ref ef2, .int efs_122])), (ef1, .inl (G.2.2.1, 16, .inl efc_123)), (ef2, .inl (G.2.2.1, 19, .inl efy_124)), (ec, .inr (1, [.ref ec1, .ref ec2, .int ecs_125])), (ec1, .inl (G.2.2.1, 16, .inl ecc_126)), (ec2, .inl (G.2.2.1, 286, .inl ecy_127)), (ed, .inr (1, [.ref ed1, .ref ed2, .int eds_128])), (ed1, .inl (G.2.2.1, 16, .inl edc_129)), (ed2, .inl (G.2.2.1, 30, .inl edy_130)), (ey, .inl (G.2.1, 4000, .inl xf_120)), (b, .inl (G.2.1, N, .inl f)), (sp, .inr (3, [.ref tn, .ref tz, .ref tb, .ref tg, .int c])), (tg, .inl (G.2.2.1, 17, .inl tfg))]) ?_
                refine pb_if_ne (pc := 253) (tgt := 259) d_FileReader_readEntry_253 (by decide) (fun w174 => ?_) (fun w174 => ?_)
                · have tw174 : ¬ r_170.toInt = 0 := fun z9 => w174 ((ti_eq rfl (by decide)).mpr z9)
                  rename ¬ (_ : Int) = 0 => zq
                  have hr8 : sX ≤ 4000 ∧ c.toInt < 16 ∧ gx tfg c.toInt + sX ≤ 12000 := by have q8 := hid_o hrF (by (exact omg_d9c3f42b32 hrb zq)); (exact omg_f6a3186c42 zm1 mX q8)
                  clear zq hrb hrF hrN
                  refine pb_aload (pc := 259) d_FileReader_readEntry_259 12 rfl ?_
                  refine pb_aload_n (pc := 261) d_FileReader_readEntry_261 9 rfl rfl ?_
                  refine pb_get (pc := 262) d_FileReader_readEntry_262 1 0 rfl rfl (by decide) in_FileReader k_306 rfl ?_
                  refine pb_iload (pc := 265) d_FileReader_readEntry_265 4 rfl ?_
                  refine pb_iload (pc := 267) d_FileReader_readEntry_267 6 rfl ?_
                  refine pb_aload (pc := 269) d_FileReader_readEntry_269 1 rfl ?_
                  refine pb_iload (pc := 271) d_FileReader_readEntry_271 0 rfl ?_
                  refine pb_iload (pc := 273) d_FileReader_readEntry_273 2 rfl ?_
                  refine pb_callV (pc := 275) (I := i_FileReader_readEntry) (qb := 24) (ci := 3) (nA := 6) (rest := []) (wr := [(h, .inr (7, [.ref b])), (q, .inr (5, [.ref ex, .ref et, .ref ea, .ref eb, .ref ec, .ref ed, .ref ef, .ref b, .int a2__116, .int e2__117, .int f2__118])), (ex, .inr (0, [.ref ey, .int s2__119])), (et, .inl (G.2.2.1, 316, .inl tf_121)), (ea, .inr (1, [.ref ea1, .ref ea2, .int eas])), (ea1, .inl (G.2.2.1, 16, .inl eac)), (ea2, .inl (G.2.2.1, 288, .inl eay)), (eb, .inr (1, [.ref eb1, .ref eb2, .int ebs])), (eb1, .inl (G.2.2.1, 16, .inl ebc)), (eb2, .inl (G.2.2.1, 32, .inl eby)), (ef, .inr (1, [.ref ef1, .ref ef2, .int efs_122])), (ef1, .inl (G.2.2.1, 16, .inl efc_123)), (ef2, .inl (G.2.2.1, 19, .inl efy_124)), (ec, .inr (1, [.ref ec1, .ref ec2, .int ecs_125])), (ec1, .inl (G.2.2.1, 16, .inl ecc_126)), (ec2, .inl (G.2.2.1, 286, .inl ecy_127)), (ed, .inr (1, [.ref ed1, .ref ed2, .int eds_128])), (ed1, .inl (G.2.2.1, 16, .inl edc_129)), (ed2, .inl (G.2.2.1, 30, .inl edy_130))]) d_FileReader_readEntry_275 (g_Shelf_bringIn hl G sp tn tz tb tg c tfn tfz tfb tfg b N f ey 4000 xf_120 i37 r_18 0 r_115 V (by first | (with_reducible assumption) | omega (splitDisjunctions := false) | assumption | omega | decide) (by first | assumption | decide | omega) (by first | (with_reducible assumption) | (exact omg_0dbf0bae43 h0 ti37) | assumption | omega | decide) (by first | (with_reducible assumption) | (exact omg_4246dfb81c h1 fh21 ti37) | assumption | omega | decide) (by first | (with_reducible assumption) | (exact omg_d1061a5251 iNm) | assumption | omega | decide) (by first | (with_reducible assumption) | (exact omg_ad7376cc2a iNm) | assumption | omega | decide) (by first | (with_reducible assumption) | omega (splitDisjunctions := false) | assumption | omega | decide) (by first | (with_reducible assumption) | (exact omg_3400f448cc zl0 fh133 esX mX) | assumption | omega | decide) (by first | (with_reducible assumption) | (exact omg_e59772ea35 fh132 esX mX) | assumption | omega | decide) (by first | (with_reducible assumption) | omega (splitDisjunctions := false) | assumption | omega | decide) (by first | (with_reducible assumption) | omega (splitDisjunctions := false) | assumption | omega | decide) (by first | (with_reducible assumption) | omega (splitDisjunctions := false) | assumption | omega | decide) (by first | (with_reducible assumption) | omega (splitDisjunctions := false) | assumption | omega | decide) (by first | (with_reducible assumption) | omega (splitDisjunctions := false) | assumption | omega | decide) F_tfn F_tfb F_f fh142) rfl rfl [24, 2, 3, 0, 25, 23, 22] [1, 4, 5, 6, 7, 8, 9, 10, 11, 12, 13, 14, 15, 16, 17, 18, 19, 20, 21] (by decide) rfl rfl rfl (by decide) (by decide) k_700 rfl k_127 k_697 k_698 k_699 ⟨rfl, hy_Shelf_bringIn⟩ (by decide) rfl rfl (Nat.le_of_ble_eq_true rfl) (by decide) (fun v9 u176 ch175 => ?_)
                  obtain ⟨c_177, fn_178, fz_179, fb_180, fg_181⟩ := u176
                  obtain ⟨ech175, ch175⟩ := ch175
                  have ech175 : v9 = none := ech175
                  subst ech175
                  obtain ⟨fh182, fh183, fh184, fh185, fh186, fh187⟩ : (sh_I c_177.toInt fz_179 fg_181) ∧ (c_177.toInt = c.toInt + 1) ∧ (gx fg_181 c_177.toInt = gx tfg c.toInt + r_115.toInt) ∧ (hid_ (∃ r : Int, 0 ≤ r ∧ r ≤ c.toInt ∧ (∀ j : Int, 0 ≤ j → j < r → lx_ (vN V j) (vZ V j) (fun k => gx f (i37.toInt + k)) r_18.toInt) ∧ (r < c.toInt → ¬ lx_ (vN V r) (vZ V r) (fun k => gx f (i37.toInt + k)) r_18.toInt) ∧ rC_ c_177.toInt fn_178 fz_179 fb_180 fg_181 (vin_ V r r_18.toInt (fun k => gx f (i37.toInt + k)) r_115.toInt (fun k => gr xf_120 ((0 : Int32).toInt + k))))) ∧ (sb_Fit fn_178) ∧ (sb_Fit fb_180) := ch175
                  have brF := fh185
                  rw [show r_18.toInt = aw A (x.toInt + 28) 2 by omega, show r_115.toInt = sX by omega] at brF
                  obtain ⟨W9, adF, rcF⟩ := AD_R R I hsV (by (exact omg_090295931e tq5)) nkF.2 (nm_A hA (show i37.toInt = x.toInt + 46 by omega) (by (exact omg_4716b73c86 h0)) (by omega)) (fun k h0 h1 => dxE k h0 h1 (0 : Int32).toInt (by omega)) (hid_o brF)
                  refine pb_eq (pc' := 278) (lo' := [(17, .int 0), (16, .ref ey), (15, .int r_115), (14, .int 1), (13, .int i37), (11, .long j25), (10, .int r_18), (8, .long r_11), (6, .long r_4), (0, .ref h), (1, .int x), (2, .long lm), (4, .ref sp), (5, .ref q)]) (rest' := []) (ws' := [(h, .inr (7, [.ref b])), (q, .inr (5, [.ref ex, .ref et, .ref ea, .ref eb, .ref ec, .ref ed, .ref ef, .ref b, .int a2__116, .int e2__117, .int f2__118])), (ex, .inr (0, [.ref ey, .int s2__119])), (et, .inl (G.2.2.1, 316, .inl tf_121)), (ea, .inr (1, [.ref ea1, .ref ea2, .int eas])), (ea1, .inl (G.2.2.1, 16, .inl eac)), (ea2, .inl (G.2.2.1, 288, .inl eay)), (eb, .inr (1, [.ref eb1, .ref eb2, .int ebs])), (eb1, .inl (G.2.2.1, 16, .inl ebc)), (eb2, .inl (G.2.2.1, 32, .inl eby)), (ef, .inr (1, [.ref ef1, .ref ef2, .int efs_122])), (ef1, .inl (G.2.2.1, 16, .inl efc_123)), (ef2, .inl (G.2.2.1, 19, .inl efy_124)), (ec, .inr (1, [.ref ec1, .ref ec2, .int ecs_125])), (ec1, .inl (G.2.2.1, 16, .inl ecc_126)), (ec2, .inl (G.2.2.1, 286, .inl ecy_127)), (ed, .inr (1, [.ref ed1, .ref ed2, .int eds_128])), (ed1, .inl (G.2.2.1, 16, .inl edc_129)), (ed2, .inl (G.2.2.1, 30, .inl edy_130)), (sp, .inr (3, [.ref tn, .ref tz, .ref tb, .ref tg, .int c_177])), (tn, .inl (G.2.1, 384, .inl fn_178)), (tz, .inl (G.2.2.1, 16, .inl fz_179)), (tb, .inl (G.2.1, 12000, .inl fb_180)), (tg, .inl (G.2.2.1, 17, .inl fg_181)), (b, .inl (G.2.1, N, .inl f)), (ey, .inl (G.2.1, 4000, .inl xf_120))]) ?_
                  refine pb_iconst (pc := 278) (v := 0) d_FileReader_readEntry_278 (by decide) ?_
                  exact pb_iret (pc := 279) hQ d_FileReader_readEntry_279 rfl rfl (0, c_177, fn_178, fz_179, fb_180, fg_181, b, a2__116, e2__117, f2__118, s2__119, xf_120, tf_121, efs_122, efc_123, efy_124, ecs_125, ecc_126, ecy_127, eds_128, edc_129, edy_130) ⟨rfl, (by (try dsimp only); first | done | assumption | decide | omega), (by (try dsimp only); first | done | (with_reducible assumption) | omega (splitDisjunctions := false) | assumption | omega | decide), (by (try dsimp only); first | done | (with_reducible assumption) | omega (splitDisjunctions := false) | assumption | omega | decide), (by (try dsimp only); first | done | assumption | decide | omega), (by (try dsimp only); first | done | (with_reducible assumption) | omega (splitDisjunctions := false) | assumption | omega | decide), (by (try dsimp only); first | done | assumption | decide | omega), (by (try dsimp only); first | done | (with_reducible assumption) | omega (splitDisjunctions := false) | assumption | omega | decide), (by (try dsimp only); first | done | assumption | decide | omega), (by (try dsimp only); first | done | (with_reducible assumption) | omega (splitDisjunctions := false) | assumption | omega | decide), (show hid_ (∃ W : VW_, en_R A lm.toInt x.toInt V (0 : Int32).toInt W ∧ ((0 : Int32).toInt = 0 → rC_ c_177.toInt fn_178 fz_179 fb_180 fg_181 W)) from (hid_i ⟨W9, en_0 (by first | decide | omega) rrF nkF okF ((hid_o rmI).mpr ⟨hr8.1, Or.inr ⟨by omega, hr8.2⟩⟩) adF, fun _ => rcF⟩)), fh186, fh187, fh142⟩ [0, 24, 19, 20, 21, 22, 23, 1, 2, 25, 3, 4, 5, 6, 7, 8, 9, 10, 11, 12, 13, 14, 15, 16, 17, 18] (by decide) rfl rfl (by decide) (by decide)
                · have tw174 : r_170.toInt = 0 := (ti_eq rfl (by decide)).mp w174
                  refine pb_bipush (pc := 256) (v := 6) d_FileReader_readEntry_256 (by decide) ?_
                  exact pb_iret (pc := 258) hQ d_FileReader_readEntry_258 rfl rfl (6, c, tfn, tfz, tfb, tfg, b, a2__116, e2__117, f2__118, s2__119, xf_120, tf_121, efs_122, efc_123, efy_124, ecs_125, ecc_126, ecy_127, eds_128, edc_129, edy_130) ⟨rfl, (by (try dsimp only); first | done | assumption | decide | omega), (by (try dsimp only); first | done | (with_reducible assumption) | omega (splitDisjunctions := false) | assumption | omega | decide), (by (try dsimp only); first | done | (with_reducible assumption) | omega (splitDisjunctions := false) | assumption | omega | decide), (by (try dsimp only); first | done | assumption | decide | omega), (by (try dsimp only); first | done | (with_reducible assumption) | omega (splitDisjunctions := false) | assumption | omega | decide), (by (try dsimp only); first | done | assumption | decide | omega), (by (try dsimp only); first | done | (with_reducible assumption) | omega (splitDisjunctions := false) | assumption | omega | decide), (by (try dsimp only); first | done | assumption | decide | omega), (by (try dsimp only); first | done | (with_reducible assumption) | omega (splitDisjunctions := false) | assumption | omega | decide), (show hid_ (∃ W : VW_, en_R A lm.toInt x.toInt V (6 : Int32).toInt W ∧ ((6 : Int32).toInt = 0 → rC_ c.toInt tfn tfz tfb tfg W)) from (hid_i ⟨V, en_6 (by first | decide | omega) rrF nkF okF (fun q9 => hid_o hrN (by omega) (by have q8 := (hid_o rmI).mp q9; (exact omg_fef1ddefda zm1 tw52 mX q8))), fun q9 => absurd q9 (by first | decide | omega)⟩)), F_tfn, F_tfb, fh142⟩ [1, 23, 24, 2, 3, 0, 25, 4, 5, 22, 6, 7, 8, 9, 10, 11, 12, 13, 14, 15, 16, 17, 18, 19, 20, 21] (by decide) rfl rfl (by decide) (by decide)
              · have tw167 : ¬ r_157.toInt = i166.toInt := fun z9 => w167 ((ti_eq rfl rfl).mpr z9)
                refine pb_iconst (pc := 243) (v := 5) d_FileReader_readEntry_243 (by decide) ?_
                exact pb_iret (pc := 244) hQ d_FileReader_readEntry_244 rfl rfl (5, c, tfn, tfz, tfb, tfg, b, a2__116, e2__117, f2__118, s2__119, xf_120, tf_121, efs_122, efc_123, efy_124, ecs_125, ecc_126, ecy_127, eds_128, edc_129, edy_130) ⟨rfl, (by (try dsimp only); first | done | assumption | decide | omega), (by (try dsimp only); first | done | (with_reducible assumption) | omega (splitDisjunctions := false) | assumption | omega | decide), (by (try dsimp only); first | done | (with_reducible assumption) | omega (splitDisjunctions := false) | assumption | omega | decide), (by (try dsimp only); first | done | assumption | decide | omega), (by (try dsimp only); first | done | (with_reducible assumption) | omega (splitDisjunctions := false) | assumption | omega | decide), (by (try dsimp only); first | done | assumption | decide | omega), (by (try dsimp only); first | done | (with_reducible assumption) | omega (splitDisjunctions := false) | assumption | omega | decide), (by (try dsimp only); first | done | assumption | decide | omega), (by (try dsimp only); first | done | (with_reducible assumption) | omega (splitDisjunctions := false) | assumption | omega | decide), (show hid_ (∃ W : VW_, en_R A lm.toInt x.toInt V (5 : Int32).toInt W ∧ ((5 : Int32).toInt = 0 → rC_ c.toInt tfn tfz tfb tfg W)) from (hid_i ⟨V, en_5 (by first | decide | omega) rrF nkF (by first | exact ok_x bsQ smF sdF cE (by omega) (by (exact omg_9421ffe5b8 fh132 esX)) | exact (if z9 : fX = 0 then ok_no (hid_o bsP z9) (fun q9 => absurd q9.1 (by omega)) else hid_o bsN z9)), fun q9 => absurd q9 (by first | decide | omega)⟩)), F_tfn, F_tfb, fh142⟩ [2, 25, 3, 4, 5, 0, 1, 6, 7, 24, 8, 9, 10, 11, 12, 13, 14, 15, 16, 17, 18, 19, 20, 21, 22, 23] (by decide) rfl rfl (by decide) (by decide)
        · have tw52 : ¬ r_48.toInt < 0 := fun z9 => w52 ((ti_lt rfl (by decide)).mpr z9)
          refine pb_iconst (pc := 112) (v := 4) d_FileReader_readEntry_112 (by decide) ?_
          exact pb_iret (pc := 113) hQ d_FileReader_readEntry_113 rfl rfl (4, c, tfn, tfz, tfb, tfg, er, at_, en, fl, xs, xf, tf, efs, efc, efy, ecs, ecc, ecy, eds, edc, edy) ⟨rfl, (by (try dsimp only); first | done | assumption | decide | omega), (by (try dsimp only); first | done | (with_reducible assumption) | omega (splitDisjunctions := false) | assumption | omega | decide), (by (try dsimp only); first | done | (with_reducible assumption) | omega (splitDisjunctions := false) | assumption | omega | decide), (by (try dsimp only); first | done | assumption | decide | omega), (by (try dsimp only); first | done | (with_reducible assumption) | omega (splitDisjunctions := false) | assumption | omega | decide), (by (try dsimp only); first | done | assumption | decide | omega), (by (try dsimp only); first | done | (with_reducible assumption) | omega (splitDisjunctions := false) | assumption | omega | decide), (by (try dsimp only); first | done | assumption | decide | omega), (by (try dsimp only); first | done | (with_reducible assumption) | omega (splitDisjunctions := false) | assumption | omega | decide), (show hid_ (∃ W : VW_, en_R A lm.toInt x.toInt V (4 : Int32).toInt W ∧ ((4 : Int32).toInt = 0 → rC_ c.toInt tfn tfz tfb tfg W)) from (hid_i ⟨V, en_4 (by first | decide | omega) rrF (by first | exact nq_f rfl fF (by omega) | exact nq_i (by omega) (fun q9 => hid_o iN0 (by omega) ((iA_A hA (by omega) (by omega) (by omega)).mpr q9))), fun q9 => absurd q9 (by first | decide | omega)⟩)), F_tfn, F_tfb, F_xf⟩ [21, 25, 22, 23, 24, 0, 1, 2, 3, 4, 5, 6, 7, 8, 9, 10, 11, 12, 13, 14, 15, 16, 17, 18, 19, 20] (by decide) rfl rfl (by decide) (by decide)
    · have tw36 : r_32.toInt = 0 := (ti_eq rfl (by decide)).mp w36
      refine pb_iconst (pc := 74) (v := 3) d_FileReader_readEntry_74 (by decide) ?_
      exact pb_iret (pc := 75) hQ d_FileReader_readEntry_75 rfl rfl (3, c, tfn, tfz, tfb, tfg, er, at_, en, fl, xs, xf, tf, efs, efc, efy, ecs, ecc, ecy, eds, edc, edy) ⟨rfl, (by (try dsimp only); first | done | assumption | decide | omega), (by (try dsimp only); first | done | (with_reducible assumption) | omega (splitDisjunctions := false) | assumption | omega | decide), (by (try dsimp only); first | done | (with_reducible assumption) | omega (splitDisjunctions := false) | assumption | omega | decide), (by (try dsimp only); first | done | assumption | decide | omega), (by (try dsimp only); first | done | (with_reducible assumption) | omega (splitDisjunctions := false) | assumption | omega | decide), (by (try dsimp only); first | done | assumption | decide | omega), (by (try dsimp only); first | done | (with_reducible assumption) | omega (splitDisjunctions := false) | assumption | omega | decide), (by (try dsimp only); first | done | assumption | decide | omega), (by (try dsimp only); first | done | (with_reducible assumption) | omega (splitDisjunctions := false) | assumption | omega | decide), (show hid_ (∃ W : VW_, en_R A lm.toInt x.toInt V (3 : Int32).toInt W ∧ ((3 : Int32).toInt = 0 → rC_ c.toInt tfn tfz tfb tfg W)) from (hid_i ⟨V, en_3 (by first | decide | omega) (by first | exact rr_n2 (by (exact omg_99b4580df8 u42 ti29)) (by omega) (hid_o rq0 (by omega)) | exact rr_n1 (by omega)), fun q9 => absurd q9 (by first | decide | omega)⟩)), F_tfn, F_tfb, F_xf⟩ [24, 25, 0, 1, 2, 3, 4, 5, 6, 7, 8, 9, 10, 11, 12, 13, 14, 15, 16, 17, 18, 19, 20, 21, 22, 23] (by decide) rfl rfl (by decide) (by decide)
/-! ROWS OF NUMBERS -/
theorem omg_7b9874a233 {x0 : Int} {x1 : Int} {x2 : Int} (a0 : (x0 = (x1 - (22 : Int)))) (a1 : (x2 = (x0 + (16 : Int)))) : (x2 = ((x1 - (22 : Int)) + (16 : Int))) := by omega
theorem omg_8dfcb45615 {x0 : Int} {x1 : Int} (a0 : (x0 = (x1 - (22 : Int)))) (a1 : (¬ (x0 < (0 : Int)))) : ((0 : Int) ≤ ((x1 - (22 : Int)) + (12 : Int))) := by omega
theorem omg_72b34b9ca2 {x0 : Int} {x1 : Int} {x2 : Int} (a0 : (x0 = (x1 - (22 : Int)))) (a1 : (x2 = (x0 + (12 : Int)))) : (x2 = ((x1 - (22 : Int)) + (12 : Int))) := by omega
theorem omg_aeeff30375 {x0 : Int} {x1 : Int} (a0 : (x0 < (4294967296 : Int))) (a1 : (x1 < (4294967296 : Int))) : ((x0 + x1) < (9223372036854775808 : Int)) := by omega
theorem omg_19de973fa8 {x0 : Int} {x1 : Int} (a0 : ((0 : Int) ≤ x0)) (a1 : ((0 : Int) ≤ x1)) : ((-(9223372036854775808 : Int)) ≤ (x0 + x1)) := by omega
theorem omg_62e25a5eb4 {x0 : Int} {x1 : Int} {x2 : Int} {x3 : Int} {x4 : Int} {x5 : Int} {x6 : Int} {x7 : Int} {x8 : Int} (a0 : (x0 = (x1 - (22 : Int)))) (a1 : (x2 = x3)) (a2 : (x4 = x5)) (a3 : (x6 = (x2 + x4))) (a4 : (x7 = x0)) (a5 : ((x8 = (0 : Int)) ↔ (x6 = x7))) (a6 : (¬ (x8 = (0 : Int)))) : (¬ ((x3 + x5) = (x1 - (22 : Int)))) := by omega
theorem omg_323c347f16 {x0 : Int} {x1 : Int} (a0 : (x0 = (x1 - (22 : Int)))) (a1 : (¬ (x0 < (0 : Int)))) : ((22 : Int) ≤ x1) := by omega
theorem omg_9ee6a526e5 {x0 : Int} {x1 : Nat} {x2 : Int} {x3 : Int} {x4 : Int} {x5 : Int} {x6 : Int} (a0 : (x0 ≤ ((x1 : Nat) : Int))) (a1 : (x1 ≤ (100000 : Nat))) (a2 : (x2 = (x0 - (22 : Int)))) (a3 : ((0 : Int) ≤ x3)) (a4 : (x4 = (x5 + x3))) (a5 : (x6 = x2)) (a6 : (x4 = x6)) : (x5 < (2147483648 : Int)) := by omega
theorem omg_f2771421b3 {x0 : Int} {x1 : Int} {x2 : Int} {x3 : Int} {x4 : Int} {x5 : Int} (a0 : ((0 : Int) ≤ x0)) (a1 : (x1 = (x2 + x0))) (a2 : (x3 = x4)) (a3 : (x1 = x3)) (a4 : (x5 = x2)) : (x5 ≤ x4) := by omega
theorem omg_9fc2149cc9 {x0 : Int} {x1 : Int} (a0 : (x0 ≤ x1)) : ((Int.toNat x0) ≤ (Int.toNat x1)) := by omega
theorem omg_b5b9877705 {x0 : Int} {x1 : Int} (a0 : ((x0 + (22 : Int)) = x1)) : ((x1 - (22 : Int)) = x0) := by omega
theorem omg_b17edbdafe {x0 : Int} {x1 : Int} {x2 : Int} (a0 : (¬ (x0 = (0 : Int)))) (a1 : (x0 = (0 : Int))) : ((Int.toNat x1) = (Int.toNat x2)) := by omega
theorem omg_f5c6edad51 {x0 : Int} {x1 : Int} (a0 : (¬ (x0 ≤ x1))) : ((Int.toNat x1) ≤ (Int.toNat x0)) := by omega
theorem omg_03acb65c92 {x0 : Int} {x1 : Int} {x2 : Int} {x3 : Int} {x4 : Int} {x5 : Int} {x6 : Int} {x7 : Int} {x8 : Int} (a0 : (x0 ≤ x1)) (a1 : (x2 = (x0 - (22 : Int)))) (a2 : (x3 = x4)) (a3 : ((0 : Int) ≤ x5)) (a4 : (x6 = (x3 + x5))) (a5 : (x7 = x2)) (a6 : (x6 = x7)) (a7 : (x8 = x4)) : (x8 ≤ x1) := by omega
theorem omg_a142593d1a {x0 : Int} {x1 : Int} {x2 : Int} {x3 : Int} {x4 : Int} {x5 : Int} {x6 : Int} (a0 : (x0 ≤ x1)) (a1 : ((x2 + (22 : Int)) = x0)) (a2 : ((x3 ≤ x4) ∧ ((((x4 + (46 : Int)) + x5) ≤ x2) ∧ (x6 = ((x4 + (46 : Int)) + x5))))) : (((x4 + (46 : Int)) + x5) ≤ x1) := by omega
theorem omg_d381ecdfc8 {x0 : Int} {x1 : Nat} {x2 : Int} {x3 : Int} {x4 : Int} {x5 : Int} {x6 : Int} {x7 : Int} {x8 : Int} (a0 : (x0 ≤ ((x1 : Nat) : Int))) (a1 : (x2 = (x0 - (22 : Int)))) (a2 : (x3 = x4)) (a3 : ((0 : Int) ≤ x5)) (a4 : (x6 = (x3 + x5))) (a5 : (x7 = x2)) (a6 : (x6 = x7)) (a7 : (x8 = x4)) : (x8 ≤ ((x1 : Nat) : Int)) := by omega
theorem omg_275a795333 {x0 : Int} {x1 : Nat} {x2 : Int} {x3 : Int} {x4 : Int} {x5 : Int} {x6 : Int} (a0 : (x0 ≤ ((x1 : Nat) : Int))) (a1 : ((x2 + (22 : Int)) = x0)) (a2 : (x3 = x2)) (a3 : (x4 = (x5 + ((46 : Int) + x6)))) (a4 : (x4 ≤ x3)) : ((x5 + ((46 : Int) + x6)) ≤ ((x1 : Nat) : Int)) := by omega
theorem omg_930e66a707 {x0 : Int} {x1 : Int} {x2 : Int} {x3 : Int} {x4 : Int} {x5 : Int} {x6 : Int} (a0 : ((0 : Int) ≤ x0)) (a1 : (x0 = x1)) (a2 : (x2 = x1)) (a3 : ((x2 ≤ x3) ∧ ((((x3 + (46 : Int)) + x4) ≤ x5) ∧ (x6 = ((x3 + (46 : Int)) + x4))))) : ((0 : Int) ≤ x3) := by omega
theorem omg_79bce6b5c1 {x0 : Int} {x1 : Nat} {x2 : Int} {x3 : Int} {x4 : Int} {x5 : Int} {x6 : Int} (a0 : (x0 ≤ ((x1 : Nat) : Int))) (a1 : (x1 ≤ (100000 : Nat))) (a2 : ((0 : Int) ≤ x2)) (a3 : (x2 = x3)) (a4 : ((x4 + (22 : Int)) = x0)) (a5 : (x5 = x3)) (a6 : ((x6 + (46 : Int)) ≤ x4)) (a7 : (x5 ≤ x6)) : (((-(2147483648 : Int)) ≤ (x6 + (28 : Int))) ∧ ((x6 + (28 : Int)) < (2147483648 : Int))) := by omega
theorem omg_1704ebcfea {x0 : Int} {x1 : Nat} {x2 : Int} {x3 : Int} {x4 : Int} (a0 : (x0 ≤ ((x1 : Nat) : Int))) (a1 : ((x2 + (22 : Int)) = x0)) (a2 : ((x3 + (46 : Int)) ≤ x2)) (a3 : (x4 = (x3 + (28 : Int)))) : ((x4 + (2 : Int)) ≤ ((x1 : Nat) : Int)) := by omega
theorem omg_69d84520e8 {x0 : Int} {x1 : Int} {x2 : Int} {x3 : Int} {x4 : Int} {x5 : Int} {x6 : Int} {x7 : Int} (a0 : ((0 : Int) ≤ x0)) (a1 : (x0 = x1)) (a2 : (x2 = x1)) (a3 : ((x2 ≤ x3) ∧ ((((x3 + (46 : Int)) + x4) ≤ x5) ∧ (x6 = ((x3 + (46 : Int)) + x4))))) (a4 : (x7 = (x3 + (28 : Int)))) : ((0 : Int) ≤ x7) := by omega
theorem omg_c3fee7227c {x0 : Int} {x1 : Int} {x2 : Int} {x3 : Int} (a0 : (x0 ≤ x1)) (a1 : ((x2 + (22 : Int)) = x0)) (a2 : ((x3 + (46 : Int)) ≤ x2)) : (((x3 + (28 : Int)) + (((2 : Nat) : Nat) : Int)) ≤ x1) := by omega
theorem omg_31aeb32dd8 {x0 : Int} {x1 : Int} {x2 : Int} {x3 : Int} {x4 : Int} {x5 : Int} {x6 : Int} (a0 : ((0 : Int) ≤ x0)) (a1 : (x0 = x1)) (a2 : (x2 = x1)) (a3 : ((x2 ≤ x3) ∧ ((((x3 + (46 : Int)) + x4) ≤ x5) ∧ (x6 = ((x3 + (46 : Int)) + x4))))) : ((0 : Int) ≤ (x3 + (28 : Int))) := by omega
theorem omg_3b913755f2 {x0 : Int} {x1 : Nat} {x2 : Int} {x3 : Int} {x4 : Int} {x5 : Int} {x6 : Int} {x7 : Int} {x8 : Int} {x9 : Int} {x10 : Int} (a0 : (x0 ≤ ((x1 : Nat) : Int))) (a1 : (x1 ≤ (100000 : Nat))) (a2 : ((0 : Int) ≤ x2)) (a3 : (x2 = x3)) (a4 : ((x4 + (22 : Int)) = x0)) (a5 : (x5 = x3)) (a6 : ((x5 ≤ x6) ∧ ((((x6 + (46 : Int)) + x7) ≤ x4) ∧ (x8 = ((x6 + (46 : Int)) + x7))))) (a7 : ((0 : Int) ≤ x9)) (a8 : (x9 = x7)) (a9 : (x10 = ((46 : Int) + x9))) : (((-(2147483648 : Int)) ≤ (x6 + x10)) ∧ ((x6 + x10) < (2147483648 : Int))) := by omega
theorem omg_880dfb5173 {x0 : Int} {x1 : Int} {x2 : Int} {x3 : Int} (a0 : (x0 ≤ (65535 : Int))) (a1 : (x0 = x1)) (a2 : ((0 : Int) ≤ x2)) (a3 : (x3 = x1)) (a4 : (¬ (x3 ≤ x2))) : (((-(2147483648 : Int)) ≤ (x2 + (1 : Int))) ∧ ((x2 + (1 : Int)) < (2147483648 : Int))) := by omega
theorem omg_91d728ae1e {x0 : Int} {x1 : Int} {x2 : Int} {x3 : Int} {x4 : Int} {x5 : Int} {x6 : Int} {x7 : Int} (a0 : (x0 = (x1 - (22 : Int)))) (a1 : (x2 = x3)) (a2 : (x4 = x5)) (a3 : (x6 = (x2 + x4))) (a4 : (x7 = x0)) (a5 : (x6 = x7)) : ((x3 + x5) = (x1 - (22 : Int))) := by omega
theorem omg_8029ddfc60 {x0 : Int} {x1 : Int} {x2 : Int} {x3 : Int} {x4 : Int} (a0 : ((0 : Int) ≤ x0)) (a1 : (x1 = (x2 + x0))) (a2 : (x3 = x4)) (a3 : (x1 = x3)) : (x2 ≤ x4) := by omega
theorem omg_716964f056 {x0 : Int} {x1 : Int} (a0 : (x0 = (0 : Int))) (a1 : ((0 : Int) ≤ x1)) : (x0 ≤ x1) := by omega
theorem d_FileReader_run_0 : decode prog_5_method_2_code 0 = .ok (.aload_n 0, 1) := by decide +kernel
theorem d_FileReader_run_1 : decode prog_5_method_2_code 1 = .ok (.aload_n 1, 1) := by decide +kernel
theorem d_FileReader_run_2 : decode prog_5_method_2_code 2 = .ok (.putfield 9, 3) := by decide +kernel
theorem d_FileReader_run_5 : decode prog_5_method_2_code 5 = .ok (.aload_n 3, 1) := by decide +kernel
theorem d_FileReader_run_6 : decode prog_5_method_2_code 6 = .ok (.invokevirtual 15, 3) := by decide +kernel
theorem k_584 : (Jvm.Cond.methodLink "PackageBook$FileReader" (15 : Nat) ({ cls := "PackageBook$Shelf", name := "clear", desc := "()V" } : Jvm.MethodName)) ∈ uW := uW_c1 227 rfl (by decide +kernel)
theorem k_587 : (Jvm.Cond.code ({ cls := "PackageBook$Shelf", name := "clear", desc := "()V" } : Jvm.MethodName) prog_10_method_2_code (1 : Nat) (Option.none : Option Jvm.ClassFile.FieldType)) ∈ uW := uW_c1 230 rfl (by decide +kernel)
theorem k_585 : (Jvm.Cond.instanceMethod ({ cls := "PackageBook$Shelf", name := "clear", desc := "()V" } : Jvm.MethodName)) ∈ uW := uW_c1 228 rfl (by decide +kernel)
theorem k_586 : (Jvm.Cond.selects "PackageBook$Shelf" ({ cls := "PackageBook$Shelf", name := "clear", desc := "()V" } : Jvm.MethodName) ({ cls := "PackageBook$Shelf", name := "clear", desc := "()V" } : Jvm.MethodName)) ∈ uW := uW_c1 229 rfl (by decide +kernel)
theorem hy_Shelf_clear : (y_Shelf_clear).cls ≠ "java/lang/invoke/MethodHandle" ∧ (y_Shelf_clear).cls ≠ "java/lang/invoke/VarHandle" ∧ (parseMethodDescriptor (y_Shelf_clear).desc).map (fun d => d.parameters.length) = some 0 := by decide +kernel
theorem d_FileReader_run_9 : decode prog_5_method_2_code 9 = .ok (.iload_n 2, 1) := by decide +kernel
theorem d_FileReader_run_10 : decode prog_5_method_2_code 10 = .ok (.bipush 22, 2) := by decide +kernel
theorem d_FileReader_run_12 : decode prog_5_method_2_code 12 = .ok (.isub, 1) := by decide +kernel
theorem d_FileReader_run_13 : decode prog_5_method_2_code 13 = .ok (.istore 5, 2) := by decide +kernel
theorem d_FileReader_run_15 : decode prog_5_method_2_code 15 = .ok (.iload 5, 2) := by decide +kernel
theorem d_FileReader_run_17 : decode prog_5_method_2_code 17 = .ok (.ifCond .lt 12, 3) := by decide +kernel
theorem d_FileReader_run_29 : decode prog_5_method_2_code 29 = .ok (.iconst 1, 1) := by decide +kernel
theorem d_FileReader_run_30 : decode prog_5_method_2_code 30 = .ok (.ireturn, 1) := by decide +kernel
theorem d_FileReader_run_20 : decode prog_5_method_2_code 20 = .ok (.aload_n 0, 1) := by decide +kernel
theorem d_FileReader_run_21 : decode prog_5_method_2_code 21 = .ok (.iload 5, 2) := by decide +kernel
theorem d_FileReader_run_23 : decode prog_5_method_2_code 23 = .ok (.invokevirtual 20, 3) := by decide +kernel
theorem k_588 : (Jvm.Cond.methodLink "PackageBook$FileReader" (20 : Nat) ({ cls := "PackageBook$FileReader", name := "isEnd", desc := "(I)Z" } : Jvm.MethodName)) ∈ uW := uW_c1 231 rfl (by decide +kernel)
theorem k_591 : (Jvm.Cond.code ({ cls := "PackageBook$FileReader", name := "isEnd", desc := "(I)Z" } : Jvm.MethodName) prog_5_method_3_code (2 : Nat) (Option.some Jvm.ClassFile.FieldType.boolean)) ∈ uW := uW_c1 234 rfl (by decide +kernel)
theorem k_590 : (Jvm.Cond.instanceMethod ({ cls := "PackageBook$FileReader", name := "isEnd", desc := "(I)Z" } : Jvm.MethodName)) ∈ uW := uW_c1 233 rfl (by decide +kernel)
theorem k_12 : Cond.selects "PackageBook$FileReader" ⟨"PackageBook$FileReader", "isEnd", "(I)Z"⟩ ⟨"PackageBook$FileReader", "isEnd", "(I)Z"⟩ ∈ uW := uW_of 12 (by decide +kernel) (by decide +kernel)
theorem hy_FileReader_isEnd : (y_FileReader_isEnd).cls ≠ "java/lang/invoke/MethodHandle" ∧ (y_FileReader_isEnd).cls ≠ "java/lang/invoke/VarHandle" ∧ (parseMethodDescriptor (y_FileReader_isEnd).desc).map (fun d => d.parameters.length) = some 1 := by decide +kernel
theorem d_FileReader_run_26 : decode prog_5_method_2_code 26 = .ok (.ifCond .ne 5, 3) := by decide +kernel
theorem d_FileReader_run_31 : decode prog_5_method_2_code 31 = .ok (.aload_n 0, 1) := by decide +kernel
theorem d_FileReader_run_32 : decode prog_5_method_2_code 32 = .ok (.getfield 9, 3) := by decide +kernel
theorem d_FileReader_run_35 : decode prog_5_method_2_code 35 = .ok (.iload 5, 2) := by decide +kernel
theorem d_FileReader_run_37 : decode prog_5_method_2_code 37 = .ok (.bipush 8, 2) := by decide +kernel
theorem d_FileReader_run_39 : decode prog_5_method_2_code 39 = .ok (.iadd, 1) := by decide +kernel
theorem d_FileReader_run_40 : decode prog_5_method_2_code 40 = .ok (.invokestatic 24, 3) := by decide +kernel
theorem d_FileReader_run_43 : decode prog_5_method_2_code 43 = .ok (.istore 6, 2) := by decide +kernel
theorem d_FileReader_run_45 : decode prog_5_method_2_code 45 = .ok (.aload_n 0, 1) := by decide +kernel
theorem d_FileReader_run_46 : decode prog_5_method_2_code 46 = .ok (.getfield 9, 3) := by decide +kernel
theorem d_FileReader_run_49 : decode prog_5_method_2_code 49 = .ok (.iload 5, 2) := by decide +kernel
theorem d_FileReader_run_51 : decode prog_5_method_2_code 51 = .ok (.bipush 16, 2) := by decide +kernel
theorem d_FileReader_run_53 : decode prog_5_method_2_code 53 = .ok (.iadd, 1) := by decide +kernel
theorem d_FileReader_run_54 : decode prog_5_method_2_code 54 = .ok (.invokestatic 28, 3) := by decide +kernel
theorem d_FileReader_run_57 : decode prog_5_method_2_code 57 = .ok (.lstore 7, 2) := by decide +kernel
theorem d_FileReader_run_59 : decode prog_5_method_2_code 59 = .ok (.lload 7, 2) := by decide +kernel
theorem d_FileReader_run_61 : decode prog_5_method_2_code 61 = .ok (.aload_n 0, 1) := by decide +kernel
theorem d_FileReader_run_62 : decode prog_5_method_2_code 62 = .ok (.getfield 9, 3) := by decide +kernel
theorem d_FileReader_run_65 : decode prog_5_method_2_code 65 = .ok (.iload 5, 2) := by decide +kernel
theorem d_FileReader_run_67 : decode prog_5_method_2_code 67 = .ok (.bipush 12, 2) := by decide +kernel
theorem d_FileReader_run_69 : decode prog_5_method_2_code 69 = .ok (.iadd, 1) := by decide +kernel
theorem d_FileReader_run_70 : decode prog_5_method_2_code 70 = .ok (.invokestatic 28, 3) := by decide +kernel
theorem d_FileReader_run_73 : decode prog_5_method_2_code 73 = .ok (.ladd, 1) := by decide +kernel
theorem d_FileReader_run_74 : decode prog_5_method_2_code 74 = .ok (.iload 5, 2) := by decide +kernel
theorem d_FileReader_run_76 : decode prog_5_method_2_code 76 = .ok (.i2l, 1) := by decide +kernel
theorem d_FileReader_run_77 : decode prog_5_method_2_code 77 = .ok (.lcmp, 1) := by decide +kernel
theorem d_FileReader_run_78 : decode prog_5_method_2_code 78 = .ok (.ifCond .ne 17, 3) := by decide +kernel
theorem d_FileReader_run_95 : decode prog_5_method_2_code 95 = .ok (.iconst 2, 1) := by decide +kernel
theorem d_FileReader_run_96 : decode prog_5_method_2_code 96 = .ok (.ireturn, 1) := by decide +kernel
theorem d_FileReader_run_81 : decode prog_5_method_2_code 81 = .ok (.aload_n 0, 1) := by decide +kernel
theorem d_FileReader_run_82 : decode prog_5_method_2_code 82 = .ok (.lload 7, 2) := by decide +kernel
theorem d_FileReader_run_84 : decode prog_5_method_2_code 84 = .ok (.l2i, 1) := by decide +kernel
theorem d_FileReader_run_85 : decode prog_5_method_2_code 85 = .ok (.iload 5, 2) := by decide +kernel
theorem d_FileReader_run_87 : decode prog_5_method_2_code 87 = .ok (.iload 6, 2) := by decide +kernel
theorem d_FileReader_run_89 : decode prog_5_method_2_code 89 = .ok (.invokevirtual 32, 3) := by decide +kernel
theorem k_600 : (Jvm.Cond.methodLink "PackageBook$FileReader" (32 : Nat) ({ cls := "PackageBook$FileReader", name := "isDirectory", desc := "(III)Z" } : Jvm.MethodName)) ∈ uW := uW_c2 3 rfl (by decide +kernel)
theorem k_603 : (Jvm.Cond.code ({ cls := "PackageBook$FileReader", name := "isDirectory", desc := "(III)Z" } : Jvm.MethodName) prog_5_method_4_code (6 : Nat) (Option.some Jvm.ClassFile.FieldType.boolean)) ∈ uW := uW_c2 6 rfl (by decide +kernel)
theorem k_602 : (Jvm.Cond.instanceMethod ({ cls := "PackageBook$FileReader", name := "isDirectory", desc := "(III)Z" } : Jvm.MethodName)) ∈ uW := uW_c2 5 rfl (by decide +kernel)
theorem k_13 : Cond.selects "PackageBook$FileReader" ⟨"PackageBook$FileReader", "isDirectory", "(III)Z"⟩ ⟨"PackageBook$FileReader", "isDirectory", "(III)Z"⟩ ∈ uW := uW_of 13 (by decide +kernel) (by decide +kernel)
theorem hy_FileReader_isDirectory : (y_FileReader_isDirectory).cls ≠ "java/lang/invoke/MethodHandle" ∧ (y_FileReader_isDirectory).cls ≠ "java/lang/invoke/VarHandle" ∧ (parseMethodDescriptor (y_FileReader_isDirectory).desc).map (fun d => d.parameters.length) = some 3 := by decide +kernel
theorem d_FileReader_run_92 : decode prog_5_method_2_code 92 = .ok (.ifCond .ne 5, 3) := by decide +kernel
theorem d_FileReader_run_97 : decode prog_5_method_2_code 97 = .ok (.iconst 0, 1) := by decide +kernel
theorem d_FileReader_run_98 : decode prog_5_method_2_code 98 = .ok (.istore 9, 2) := by decide +kernel
theorem d_FileReader_run_100 : decode prog_5_method_2_code 100 = .ok (.lload 7, 2) := by decide +kernel
theorem d_FileReader_run_102 : decode prog_5_method_2_code 102 = .ok (.l2i, 1) := by decide +kernel
theorem d_FileReader_run_103 : decode prog_5_method_2_code 103 = .ok (.istore 10, 2) := by decide +kernel
theorem d_FileReader_run_105 : decode prog_5_method_2_code 105 = .ok (.iconst 0, 1) := by decide +kernel
theorem d_FileReader_run_106 : decode prog_5_method_2_code 106 = .ok (.istore 11, 2) := by decide +kernel
theorem d_FileReader_run_108 : decode prog_5_method_2_code 108 = .ok (.iload 11, 2) := by decide +kernel
theorem d_FileReader_run_110 : decode prog_5_method_2_code 110 = .ok (.iload 6, 2) := by decide +kernel
theorem d_FileReader_run_112 : decode prog_5_method_2_code 112 = .ok (.if_icmp .ge 47, 3) := by decide +kernel
theorem d_FileReader_run_159 : decode prog_5_method_2_code 159 = .ok (.iload 9, 2) := by decide +kernel
theorem d_FileReader_run_161 : decode prog_5_method_2_code 161 = .ok (.ireturn, 1) := by decide +kernel
theorem d_FileReader_run_115 : decode prog_5_method_2_code 115 = .ok (.iload 9, 2) := by decide +kernel
theorem d_FileReader_run_117 : decode prog_5_method_2_code 117 = .ok (.ifCond .ne 42, 3) := by decide +kernel
theorem d_FileReader_run_120 : decode prog_5_method_2_code 120 = .ok (.aload_n 0, 1) := by decide +kernel
theorem d_FileReader_run_121 : decode prog_5_method_2_code 121 = .ok (.iload 10, 2) := by decide +kernel
theorem d_FileReader_run_123 : decode prog_5_method_2_code 123 = .ok (.lload 7, 2) := by decide +kernel
theorem d_FileReader_run_125 : decode prog_5_method_2_code 125 = .ok (.aload_n 3, 1) := by decide +kernel
theorem d_FileReader_run_126 : decode prog_5_method_2_code 126 = .ok (.aload 4, 2) := by decide +kernel
theorem d_FileReader_run_128 : decode prog_5_method_2_code 128 = .ok (.invokevirtual 36, 3) := by decide +kernel
theorem k_609 : (Jvm.Cond.methodLink "PackageBook$FileReader" (36 : Nat) ({ cls := "PackageBook$FileReader", name := "readEntry", desc := "(IJLPackageBook$Shelf;LPackageBook$Expander;)I" } : Jvm.MethodName)) ∈ uW := uW_c2 12 rfl (by decide +kernel)
theorem k_612 : (Jvm.Cond.code ({ cls := "PackageBook$FileReader", name := "readEntry", desc := "(IJLPackageBook$Shelf;LPackageBook$Expander;)I" } : Jvm.MethodName) prog_5_method_6_code (18 : Nat) (Option.some Jvm.ClassFile.FieldType.int)) ∈ uW := uW_c2 15 rfl (by decide +kernel)
theorem k_611 : (Jvm.Cond.instanceMethod ({ cls := "PackageBook$FileReader", name := "readEntry", desc := "(IJLPackageBook$Shelf;LPackageBook$Expander;)I" } : Jvm.MethodName)) ∈ uW := uW_c2 14 rfl (by decide +kernel)
theorem k_15 : Cond.selects "PackageBook$FileReader" ⟨"PackageBook$FileReader", "readEntry", "(IJLPackageBook$Shelf;LPackageBook$Expander;)I"⟩ ⟨"PackageBook$FileReader", "readEntry", "(IJLPackageBook$Shelf;LPackageBook$Expander;)I"⟩ ∈ uW := uW_of 15 (by decide +kernel) (by decide +kernel)
theorem hy_FileReader_readEntry : (y_FileReader_readEntry).cls ≠ "java/lang/invoke/MethodHandle" ∧ (y_FileReader_readEntry).cls ≠ "java/lang/invoke/VarHandle" ∧ (parseMethodDescriptor (y_FileReader_readEntry).desc).map (fun d => d.parameters.length) = some 4 := by decide +kernel
theorem d_FileReader_run_131 : decode prog_5_method_2_code 131 = .ok (.istore 9, 2) := by decide +kernel
theorem d_FileReader_run_133 : decode prog_5_method_2_code 133 = .ok (.iload 10, 2) := by decide +kernel
theorem d_FileReader_run_135 : decode prog_5_method_2_code 135 = .ok (.bipush 46, 2) := by decide +kernel
theorem d_FileReader_run_137 : decode prog_5_method_2_code 137 = .ok (.aload_n 0, 1) := by decide +kernel
theorem d_FileReader_run_138 : decode prog_5_method_2_code 138 = .ok (.getfield 9, 3) := by decide +kernel
theorem d_FileReader_run_141 : decode prog_5_method_2_code 141 = .ok (.iload 10, 2) := by decide +kernel
theorem d_FileReader_run_143 : decode prog_5_method_2_code 143 = .ok (.bipush 28, 2) := by decide +kernel
theorem d_FileReader_run_145 : decode prog_5_method_2_code 145 = .ok (.iadd, 1) := by decide +kernel
theorem d_FileReader_run_146 : decode prog_5_method_2_code 146 = .ok (.invokestatic 24, 3) := by decide +kernel
theorem d_FileReader_run_149 : decode prog_5_method_2_code 149 = .ok (.iadd, 1) := by decide +kernel
theorem d_FileReader_run_150 : decode prog_5_method_2_code 150 = .ok (.iadd, 1) := by decide +kernel
theorem d_FileReader_run_151 : decode prog_5_method_2_code 151 = .ok (.istore 10, 2) := by decide +kernel
theorem d_FileReader_run_153 : decode prog_5_method_2_code 153 = .ok (.iinc 11 1, 3) := by decide +kernel
theorem d_FileReader_run_156 : decode prog_5_method_2_code 156 = .ok (.goto (-48), 3) := by decide +kernel
abbrev y_FileReader_run : MethodName := ⟨"PackageBook$FileReader", "run", "([BILPackageBook$Shelf;LPackageBook$Expander;)I"⟩
abbrev i_FileReader_run : pb_I := (y_FileReader_run, prog_5_method_2_code, 12, (some Jvm.ClassFile.FieldType.int), [], { frames := 5, cells := 0, slots := 0, locals := 140 })
set_option maxRecDepth 100000 in
set_option maxHeartbeats 4000000 in
theorem g_Rd_run {l : Launch} (hl : l.stackTraces = false) (G : pb_G) (h : Nat) (b : Nat) (N : Nat) (ro : Nat) (f : Nat → Int32) (sp : Nat) (tn : Nat) (tz : Nat) (tb : Nat) (tg : Nat) (c : Int32) (tfn : Nat → Int32) (tfz : Nat → Int32) (tfb : Nat → Int32) (tfg : Nat → Int32) (q : Nat) (ex : Nat) (et : Nat) (ea : Nat) (eb : Nat) (ec : Nat) (ed : Nat) (ef : Nat) (er : Nat) (at_ : Int32) (en : Int32) (fl : Int32) (ey : Nat) (xf : Nat → Int32) (xs : Int32) (tf : Nat → Int32) (ea1 : Nat) (ea2 : Nat) (eas : Int32) (eac : Nat → Int32) (eay : Nat → Int32) (eb1 : Nat) (eb2 : Nat) (ebs : Int32) (ebc : Nat → Int32) (eby : Nat → Int32) (ef1 : Nat) (ef2 : Nat) (efs : Int32) (efc : Nat → Int32) (efy : Nat → Int32) (ec1 : Nat) (ec2 : Nat) (ecs : Int32) (ecc : Nat → Int32) (ecy : Nat → Int32) (ed1 : Nat) (ed2 : Nat) (eds : Int32) (edc : Nat → Int32) (edy : Nat → Int32) (x : Int32) (A : Int → Int32) (Zs : Int) (Ia : co_I eas.toInt eac eay 288) (Ma : eas.toInt ≤ 288) (Ib : co_I ebs.toInt ebc eby 32) (Mb : ebs.toInt ≤ 32) (Fa : cs_R eas.toInt eac eay fx_1 288) (Fb : cs_R ebs.toInt ebc eby fx_2 32) (If : co_I efs.toInt efc efy 19) (Mf : efs.toInt ≤ 19) (Ic : co_I ecs.toInt ecc ecy 288) (Mc : ecs.toInt ≤ 286) (Id : co_I eds.toInt edc edy 32) (Md : eds.toInt ≤ 30) (a0_ : 0 ≤ xs.toInt) (a1_ : xs.toInt ≤ 4000) (h0 : 0 ≤ x.toInt) (h1 : x.toInt ≤ N) (hN : N ≤ 100000) (hA : ∀ j : Int, 0 ≤ j → j < Zs → A j = gr f j) (hZ : x.toInt ≤ Zs) (F_f : sb_Fit f) (F_tfn : sb_Fit tfn) (F_tfb : sb_Fit tfb) (F_xf : sb_Fit xf) : Cn l G i_FileReader_run [.ref h, .ref b, .int x, .ref sp, .ref q] [(h, .inr (7, [.ref ro])), (b, .inl (G.2.1, N, .inl f)), (sp, .inr (3, [.ref tn, .ref tz, .ref tb, .ref tg, .int c])), (tn, .inl (G.2.1, 384, .inl tfn)), (tz, .inl (G.2.2.1, 16, .inl tfz)), (tb, .inl (G.2.1, 12000, .inl tfb)), (tg, .inl (G.2.2.1, 17, .inl tfg)), (q, .inr (5, [.ref ex, .ref et, .ref ea, .ref eb, .ref ec, .ref ed, .ref ef, .ref er, .int at_, .int en, .int fl])), (ex, .inr (0, [.ref ey, .int xs])), (ey, .inl (G.2.1, 4000, .inl xf)), (et, .inl (G.2.2.1, 316, .inl tf)), (ea, .inr (1, [.ref ea1, .ref ea2, .int eas])), (ea1, .inl (G.2.2.1, 16, .inl eac)), (ea2, .inl (G.2.2.1, 288, .inl eay)), (eb, .inr (1, [.ref eb1, .ref eb2, .int ebs])), (eb1, .inl (G.2.2.1, 16, .inl ebc)), (eb2, .inl (G.2.2.1, 32, .inl eby)), (ef, .inr (1, [.ref ef1, .ref ef2, .int efs])), (ef1, .inl (G.2.2.1, 16, .inl efc)), (ef2, .inl (G.2.2.1, 19, .inl efy)), (ec, .inr (1, [.ref ec1, .ref ec2, .int ecs])), (ec1, .inl (G.2.2.1, 16, .inl ecc)), (ec2, .inl (G.2.2.1, 286, .inl ecy)), (ed, .inr (1, [.ref ed1, .ref ed2, .int eds])), (ed1, .inl (G.2.2.1, 16, .inl edc)), (ed2, .inl (G.2.2.1, 30, .inl edy))] (S := Int32 × Int32 × (Nat → Int32) × (Nat → Int32) × (Nat → Int32) × (Nat → Int32) × Nat × Int32 × Int32 × Int32 × Int32 × (Nat → Int32) × (Nat → Int32) × Int32 × (Nat → Int32) × (Nat → Int32) × Int32 × (Nat → Int32) × (Nat → Int32) × Int32 × (Nat → Int32) × (Nat → Int32)) (fun rv_ u => rv_ = some (.int u.1) ∧ (sh_I u.2.1.toInt u.2.2.2.1 u.2.2.2.2.2.1) ∧ (0 ≤ u.2.2.2.2.2.2.2.2.2.2.1.toInt) ∧ (u.2.2.2.2.2.2.2.2.2.2.1.toInt ≤ 4000) ∧ (co_I u.2.2.2.2.2.2.2.2.2.2.2.2.2.1.toInt u.2.2.2.2.2.2.2.2.2.2.2.2.2.2.1 u.2.2.2.2.2.2.2.2.2.2.2.2.2.2.2.1 19) ∧ (u.2.2.2.2.2.2.2.2.2.2.2.2.2.1.toInt ≤ 19) ∧ (co_I u.2.2.2.2.2.2.2.2.2.2.2.2.2.2.2.2.1.toInt u.2.2.2.2.2.2.2.2.2.2.2.2.2.2.2.2.2.1 u.2.2.2.2.2.2.2.2.2.2.2.2.2.2.2.2.2.2.1 288) ∧ (u.2.2.2.2.2.2.2.2.2.2.2.2.2.2.2.2.1.toInt ≤ 286) ∧ (co_I u.2.2.2.2.2.2.2.2.2.2.2.2.2.2.2.2.2.2.2.1.toInt u.2.2.2.2.2.2.2.2.2.2.2.2.2.2.2.2.2.2.2.2.1 u.2.2.2.2.2.2.2.2.2.2.2.2.2.2.2.2.2.2.2.2.2 32) ∧ (u.2.2.2.2.2.2.2.2.2.2.2.2.2.2.2.2.2.2.2.1.toInt ≤ 30) ∧ (hid_ (∃ W : VW_, rd_ A x.toInt u.1.toInt W ∧ (u.1.toInt = 0 → rC_ u.2.1.toInt u.2.2.1 u.2.2.2.1 u.2.2.2.2.1 u.2.2.2.2.2.1 W))) ∧ (sb_Fit u.2.2.1) ∧ (sb_Fit u.2.2.2.2.1) ∧ (sb_Fit u.2.2.2.2.2.2.2.2.2.2.2.1)) (fun u => [(h, .inr (7, [.ref b])), (b, .inl (G.2.1, N, .inl f)), (sp, .inr (3, [.ref tn, .ref tz, .ref tb, .ref tg, .int u.2.1])), (tn, .inl (G.2.1, 384, .inl u.2.2.1)), (tz, .inl (G.2.2.1, 16, .inl u.2.2.2.1)), (tb, .inl (G.2.1, 12000, .inl u.2.2.2.2.1)), (tg, .inl (G.2.2.1, 17, .inl u.2.2.2.2.2.1)), (q, .inr (5, [.ref ex, .ref et, .ref ea, .ref eb, .ref ec, .ref ed, .ref ef, .ref u.2.2.2.2.2.2.1, .int u.2.2.2.2.2.2.2.1, .int u.2.2.2.2.2.2.2.2.1, .int u.2.2.2.2.2.2.2.2.2.1])), (ex, .inr (0, [.ref ey, .int u.2.2.2.2.2.2.2.2.2.2.1])), (ey, .inl (G.2.1, 4000, .inl u.2.2.2.2.2.2.2.2.2.2.2.1)), (et, .inl (G.2.2.1, 316, .inl u.2.2.2.2.2.2.2.2.2.2.2.2.1)), (ea, .inr (1, [.ref ea1, .ref ea2, .int eas])), (ea1, .inl (G.2.2.1, 16, .inl eac)), (ea2, .inl (G.2.2.1, 288, .inl eay)), (eb, .inr (1, [.ref eb1, .ref eb2, .int ebs])), (eb1, .inl (G.2.2.1, 16, .inl ebc)), (eb2, .inl (G.2.2.1, 32, .inl eby)), (ef, .inr (1, [.ref ef1, .ref ef2, .int u.2.2.2.2.2.2.2.2.2.2.2.2.2.1])), (ef1, .inl (G.2.2.1, 16, .inl u.2.2.2.2.2.2.2.2.2.2.2.2.2.2.1)), (ef2, .inl (G.2.2.1, 19, .inl u.2.2.2.2.2.2.2.2.2.2.2.2.2.2.2.1)), (ec, .inr (1, [.ref ec1, .ref ec2, .int u.2.2.2.2.2.2.2.2.2.2.2.2.2.2.2.2.1])), (ec1, .inl (G.2.2.1, 16, .inl u.2.2.2.2.2.2.2.2.2.2.2.2.2.2.2.2.2.1)), (ec2, .inl (G.2.2.1, 286, .inl u.2.2.2.2.2.2.2.2.2.2.2.2.2.2.2.2.2.2.1)), (ed, .inr (1, [.ref ed1, .ref ed2, .int u.2.2.2.2.2.2.2.2.2.2.2.2.2.2.2.2.2.2.2.1])), (ed1, .inl (G.2.2.1, 16, .inl u.2.2.2.2.2.2.2.2.2.2.2.2.2.2.2.2.2.2.2.2.1)), (ed2, .inl (G.2.2.1, 30, .inl u.2.2.2.2.2.2.2.2.2.2.2.2.2.2.2.2.2.2.2.2.2))]) := by
  refine Cn.of hl (by decide +kernel) rfl (Nat.le_of_ble_eq_true rfl) (fun M hQ => ?_)
  refine pb_eq (pc' := 0) (lo' := [(0, .ref h), (1, .ref b), (2, .int x), (3, .ref sp), (4, .ref q)]) (rest' := []) (ws' := [(h, .inr (7, [.ref ro])), (b, .inl (G.2.1, N, .inl f)), (sp, .inr (3, [.ref tn, .ref tz, .ref tb, .ref tg, .int c])), (tn, .inl (G.2.1, 384, .inl tfn)), (tz, .inl (G.2.2.1, 16, .inl tfz)), (tb, .inl (G.2.1, 12000, .inl tfb)), (tg, .inl (G.2.2.1, 17, .inl tfg)), (q, .inr (5, [.ref ex, .ref et, .ref ea, .ref eb, .ref ec, .ref ed, .ref ef, .ref er, .int at_, .int en, .int fl])), (ex, .inr (0, [.ref ey, .int xs])), (ey, .inl (G.2.1, 4000, .inl xf)), (et, .inl (G.2.2.1, 316, .inl tf)), (ea, .inr (1, [.ref ea1, .ref ea2, .int eas])), (ea1, .inl (G.2.2.1, 16, .inl eac)), (ea2, .inl (G.2.2.1, 288, .inl eay)), (eb, .inr (1, [.ref eb1, .ref eb2, .int ebs])), (eb1, .inl (G.2.2.1, 16, .inl ebc)), (eb2, .inl (G.2.2.1, 32, .inl eby)), (ef, .inr (1, [.ref ef1, .ref ef2, .int efs])), (ef1, .inl (G.2.2.1, 16, .inl efc)), (ef2, .inl (G.2.2.1, 19, .inl efy)), (ec, .inr (1, [.ref ec1, .ref ec2, .int ecs])), (ec1, .inl (G.2.2.1, 16, .inl ecc)), (ec2, .inl (G.2.2.1, 286, .inl ecy)), (ed, .inr (1, [.ref ed1, .ref ed2, .int eds])), (ed1, .inl (G.2.2.1, 16, .inl edc)), (ed2, .inl (G.2.2.1, 30, .inl edy))]) ?_
  have zl0 : (0 : Int32).toInt = 0 := by decide
  have zl1 : (1 : Int32).toInt = 1 := by decide
  have zl2 : (2 : Int32).toInt = 2 := by decide
  have zl46 : (46 : Int32).toInt = 46 := by decide
  refine pb_aload_n (pc := 0) d_FileReader_run_0 0 rfl rfl ?_
  refine pb_aload_n (pc := 1) d_FileReader_run_1 1 rfl rfl ?_
  refine pb_put (pc := 2) (ty := (.array .byte)) (ws' := [(h, .inr (7, [.ref b])), (b, .inl (G.2.1, N, .inl f)), (sp, .inr (3, [.ref tn, .ref tz, .ref tb, .ref tg, .int c])), (tn, .inl (G.2.1, 384, .inl tfn)), (tz, .inl (G.2.2.1, 16, .inl tfz)), (tb, .inl (G.2.1, 12000, .inl tfb)), (tg, .inl (G.2.2.1, 17, .inl tfg)), (q, .inr (5, [.ref ex, .ref et, .ref ea, .ref eb, .ref ec, .ref ed, .ref ef, .ref er, .int at_, .int en, .int fl])), (ex, .inr (0, [.ref ey, .int xs])), (ey, .inl (G.2.1, 4000, .inl xf)), (et, .inl (G.2.2.1, 316, .inl tf)), (ea, .inr (1, [.ref ea1, .ref ea2, .int eas])), (ea1, .inl (G.2.2.1, 16, .inl eac)), (ea2, .inl (G.2.2.1, 288, .inl eay)), (eb, .inr (1, [.ref eb1, .ref eb2, .int ebs])), (eb1, .inl (G.2.2.1, 16, .inl ebc)), (eb2, .inl (G.2.2.1, 32, .inl eby)), (ef, .inr (1, [.ref ef1, .ref ef2, .int efs])), (ef1, .inl (G.2.2.1, 16, .inl efc)), (ef2, .inl (G.2.2.1, 19, .inl efy)), (ec, .inr (1, [.ref ec1, .ref ec2, .int ecs])), (ec1, .inl (G.2.2.1, 16, .inl ecc)), (ec2, .inl (G.2.2.1, 286, .inl ecy)), (ed, .inr (1, [.ref ed1, .ref ed2, .int eds])), (ed1, .inl (G.2.2.1, 16, .inl edc)), (ed2, .inl (G.2.2.1, 30, .inl edy))]) d_FileReader_run_2 0 0 t_FileReader t_FileReader_ok n_FileReader rfl rfl (by decide) in_FileReader k_306 rfl (by decide +kernel) rfl rfl (Nat.le_of_ble_eq_true rfl) rfl ?_
  refine pb_aload_n (pc := 5) d_FileReader_run_5 3 rfl rfl ?_
  refine pb_callV (pc := 6) (I := i_FileReader_run) (qb := 2) (ci := 3) (nA := 0) (rest := []) (wr := [(h, .inr (7, [.ref b])), (b, .inl (G.2.1, N, .inl f)), (tn, .inl (G.2.1, 384, .inl tfn)), (tz, .inl (G.2.2.1, 16, .inl tfz)), (tb, .inl (G.2.1, 12000, .inl tfb)), (q, .inr (5, [.ref ex, .ref et, .ref ea, .ref eb, .ref ec, .ref ed, .ref ef, .ref er, .int at_, .int en, .int fl])), (ex, .inr (0, [.ref ey, .int xs])), (ey, .inl (G.2.1, 4000, .inl xf)), (et, .inl (G.2.2.1, 316, .inl tf)), (ea, .inr (1, [.ref ea1, .ref ea2, .int eas])), (ea1, .inl (G.2.2.1, 16, .inl eac)), (ea2, .inl (G.2.2.1, 288, .inl eay)), (eb, .inr (1, [.ref eb1, .ref eb2, .int ebs])), (eb1, .inl (G.2.2.1, 16, .inl ebc)), (eb2, .inl (G.2.2.1, 32, .inl eby)), (ef, .inr (1, [.ref ef1, .ref ef2, .int efs])), (ef1, .inl (G.2.2.1, 16, .inl efc)), (ef2, .inl (G.2.2.1, 19, .inl efy)), (ec, .inr (1, [.ref ec1, .ref ec2, .int ecs])), (ec1, .inl (G.2.2.1, 16, .inl ecc)), (ec2, .inl (G.2.2.1, 286, .inl ecy)), (ed, .inr (1, [.ref ed1, .ref ed2, .int eds])), (ed1, .inl (G.2.2.1, 16, .inl edc)), (ed2, .inl (G.2.2.1, 30, .inl edy))]) d_FileReader_run_6 (g_Shelf_clear hl G sp tn tz tb tg c tfg) rfl rfl [2, 6] [0, 1, 3, 4, 5, 7, 8, 9, 10, 11, 12, 13, 14, 15, 16, 17, 18, 19, 20, 21, 22, 23, 24, 25] (by decide) rfl rfl rfl (by decide) (by decide) k_587 rfl k_127 k_584 k_585 k_586 ⟨rfl, hy_Shelf_clear⟩ (by decide) rfl rfl (Nat.le_of_ble_eq_true rfl) (by decide) (fun v9 u2 ch1 => ?_)
  obtain ⟨g_3, rfl⟩ : ∃ z9, z9 = u2 := ⟨_, rfl⟩
  obtain ⟨ech1, ch1⟩ := ch1
  have ech1 : v9 = none := ech1
  subst ech1
  have fh4 : ∀ z : Nat → Int32, sh_I 0 z g_3 := ch1
  have I0 := fh4 tfz
  refine pb_eq (pc' := 9) (lo' := [(0, .ref h), (1, .ref b), (2, .int x), (3, .ref sp), (4, .ref q)]) (rest' := []) (ws' := [(h, .inr (7, [.ref b])), (b, .inl (G.2.1, N, .inl f)), (tn, .inl (G.2.1, 384, .inl tfn)), (tz, .inl (G.2.2.1, 16, .inl tfz)), (tb, .inl (G.2.1, 12000, .inl tfb)), (q, .inr (5, [.ref ex, .ref et, .ref ea, .ref eb, .ref ec, .ref ed, .ref ef, .ref er, .int at_, .int en, .int fl])), (ex, .inr (0, [.ref ey, .int xs])), (ey, .inl (G.2.1, 4000, .inl xf)), (et, .inl (G.2.2.1, 316, .inl tf)), (ea, .inr (1, [.ref ea1, .ref ea2, .int eas])), (ea1, .inl (G.2.2.1, 16, .inl eac)), (ea2, .inl (G.2.2.1, 288, .inl eay)), (eb, .inr (1, [.ref eb1, .ref eb2, .int ebs])), (eb1, .inl (G.2.2.1, 16, .inl ebc)), (eb2, .inl (G.2.2.1, 32, .inl eby)), (ef, .inr (1, [.ref ef1, .ref ef2, .int efs])), (ef1, .inl (G.2.2.1, 16, .inl efc)), (ef2, .inl (G.2.2.1, 19, .inl efy)), (ec, .inr (1, [.ref ec1, .ref ec2, .int ecs])), (ec1, .inl (G.2.2.1, 16, .inl ecc)), (ec2, .inl (G.2.2.1, 286, .inl ecy)), (ed, .inr (1, [.ref ed1, .ref ed2, .int eds])), (ed1, .inl (G.2.2.1, 16, .inl edc)), (ed2, .inl (G.2.2.1, 30, .inl edy)), (sp, .inr (3, [.ref tn, .ref tz, .ref tb, .ref tg, .int 0])), (tg, .inl (G.2.2.1, 17, .inl g_3))]) ?_
  refine pb_iload_n (pc := 9) d_FileReader_run_9 2 rfl rfl ?_
  refine pb_bipush (pc := 10) (v := 22) d_FileReader_run_10 (by decide) ?_
  refine pb_isub (pc := 12) d_FileReader_run_12 ?_
  refine pb_topi (fun i5 ei5 => ?_)
  try have ti5 : i5.toInt = x.toInt - 22 := t2_sub ei5 rfl (by decide) (by omega)
  refine pb_istore (pc := 13) (lo' := [(5, .int i5), (0, .ref h), (1, .ref b), (2, .int x), (3, .ref sp), (4, .ref q)]) d_FileReader_run_13 (by decide) rfl ?_
  refine pb_iload (pc := 15) d_FileReader_run_15 0 rfl ?_
  refine pb_if_lt (pc := 17) (tgt := 29) d_FileReader_run_17 (by decide) (fun w6 => ?_) (fun w6 => ?_)
  · have tw6 : i5.toInt < 0 := (ti_lt rfl (by decide)).mp w6
    refine pb_iconst (pc := 29) (v := 1) d_FileReader_run_29 (by decide) ?_
    exact pb_iret (pc := 30) hQ d_FileReader_run_30 rfl rfl (1, 0, tfn, tfz, tfb, g_3, er, at_, en, fl, xs, xf, tf, efs, efc, efy, ecs, ecc, ecy, eds, edc, edy) ⟨rfl, (by (try dsimp only); first | done | assumption | decide | omega), (by (try dsimp only); first | done | (with_reducible assumption) | omega (splitDisjunctions := false) | assumption | omega | decide), (by (try dsimp only); first | done | (with_reducible assumption) | omega (splitDisjunctions := false) | assumption | omega | decide), (by (try dsimp only); first | done | assumption | decide | omega), (by (try dsimp only); first | done | (with_reducible assumption) | omega (splitDisjunctions := false) | assumption | omega | decide), (by (try dsimp only); first | done | assumption | decide | omega), (by (try dsimp only); first | done | (with_reducible assumption) | omega (splitDisjunctions := false) | assumption | omega | decide), (by (try dsimp only); first | done | assumption | decide | omega), (by (try dsimp only); first | done | (with_reducible assumption) | omega (splitDisjunctions := false) | assumption | omega | decide), (show hid_ (∃ W : VW_, rd_ A x.toInt (1 : Int32).toInt W ∧ ((1 : Int32).toInt = 0 → rC_ (0 : Int32).toInt tfn tfz tfb g_3 W)) from (hid_i ⟨nl_, rd_1 (by first | decide | omega) (by first | exact fun q9 => hid_o edF0 (by omega) q9.2 | exact fun q9 => absurd q9.1 (by omega)), fun q9 => absurd q9 (by first | decide | omega)⟩)), F_tfn, F_tfb, F_xf⟩ [0, 1, 24, 2, 3, 4, 25, 5, 6, 7, 8, 9, 10, 11, 12, 13, 14, 15, 16, 17, 18, 19, 20, 21, 22, 23] (by decide) rfl rfl (by decide) (by decide)
  · have tw6 : ¬ i5.toInt < 0 := fun z9 => w6 ((ti_lt rfl (by decide)).mpr z9)
    refine pb_aload_n (pc := 20) d_FileReader_run_20 1 rfl rfl ?_
    refine pb_iload (pc := 21) d_FileReader_run_21 0 rfl ?_
    refine pb_callV (pc := 23) (I := i_FileReader_run) (qb := 0) (ci := 7) (nA := 1) (rest := []) (wr := [(tn, .inl (G.2.1, 384, .inl tfn)), (tz, .inl (G.2.2.1, 16, .inl tfz)), (tb, .inl (G.2.1, 12000, .inl tfb)), (q, .inr (5, [.ref ex, .ref et, .ref ea, .ref eb, .ref ec, .ref ed, .ref ef, .ref er, .int at_, .int en, .int fl])), (ex, .inr (0, [.ref ey, .int xs])), (ey, .inl (G.2.1, 4000, .inl xf)), (et, .inl (G.2.2.1, 316, .inl tf)), (ea, .inr (1, [.ref ea1, .ref ea2, .int eas])), (ea1, .inl (G.2.2.1, 16, .inl eac)), (ea2, .inl (G.2.2.1, 288, .inl eay)), (eb, .inr (1, [.ref eb1, .ref eb2, .int ebs])), (eb1, .inl (G.2.2.1, 16, .inl ebc)), (eb2, .inl (G.2.2.1, 32, .inl eby)), (ef, .inr (1, [.ref ef1, .ref ef2, .int efs])), (ef1, .inl (G.2.2.1, 16, .inl efc)), (ef2, .inl (G.2.2.1, 19, .inl efy)), (ec, .inr (1, [.ref ec1, .ref ec2, .int ecs])), (ec1, .inl (G.2.2.1, 16, .inl ecc)), (ec2, .inl (G.2.2.1, 286, .inl ecy)), (ed, .inr (1, [.ref ed1, .ref ed2, .int eds])), (ed1, .inl (G.2.2.1, 16, .inl edc)), (ed2, .inl (G.2.2.1, 30, .inl edy)), (sp, .inr (3, [.ref tn, .ref tz, .ref tb, .ref tg, .int 0])), (tg, .inl (G.2.2.1, 17, .inl g_3))]) d_FileReader_run_23 (g_Rd_isEnd hl G h b N f i5 A Zs (by first | (with_reducible assumption) | omega (splitDisjunctions := false) | assumption | omega | decide) (by first | (with_reducible assumption) | omega (splitDisjunctions := false) | assumption | omega | decide) (by first | (with_reducible assumption) | omega (splitDisjunctions := false) | assumption | omega | decide) (by first | assumption | decide | omega) (by first | (with_reducible assumption) | omega (splitDisjunctions := false) | assumption | omega | decide) F_f) rfl rfl [0, 1] [2, 3, 4, 5, 6, 7, 8, 9, 10, 11, 12, 13, 14, 15, 16, 17, 18, 19, 20, 21, 22, 23, 24, 25] (by decide) rfl rfl rfl (by decide) (by decide) k_591 rfl k_124 k_588 k_590 k_12 ⟨rfl, hy_FileReader_isEnd⟩ (by decide) rfl rfl (Nat.le_of_ble_eq_true rfl) (by decide) (fun v9 u8 ch7 => ?_)
    obtain ⟨r_9, rfl⟩ : ∃ z9, z9 = u8 := ⟨_, rfl⟩
    obtain ⟨ech7, ch7⟩ := ch7
    have ech7 : v9 = some (.int r_9) := ech7
    subst ech7
    obtain ⟨fh10, fh11, fh12⟩ : (r_9.toInt = 0 ∨ r_9.toInt = 1) ∧ (r_9.toInt = 1 → ed_ A i5.toInt) ∧ (r_9.toInt = 0 → ¬ ed_ A i5.toInt) := ch7
    have edF1 := hid_i fh11
    have edF0 := hid_i fh12
    have edb := fh10
    clear fh10 fh11 fh12
    rw [show i5.toInt = x.toInt - 22 by omega] at edF1 edF0
    refine pb_eq (pc' := 26) (lo' := [(5, .int i5), (0, .ref h), (1, .ref b), (2, .int x), (3, .ref sp), (4, .ref q)]) (rest' := [.int r_9]) (ws' := [(tn, .inl (G.2.1, 384, .inl tfn)), (tz, .inl (G.2.2.1, 16, .inl tfz)), (tb, .inl (G.2.1, 12000, .inl tfb)), (q, .inr (5, [.ref ex, .ref et, .ref ea, .ref eb, .ref ec, .ref ed, .ref ef, .ref er, .int at_, .int en, .int fl])), (ex, .inr (0, [.ref ey, .int xs])), (ey, .inl (G.2.1, 4000, .inl xf)), (et, .inl (G.2.2.1, 316, .inl tf)), (ea, .inr (1, [.ref ea1, .ref ea2, .int eas])), (ea1, .inl (G.2.2.1, 16, .inl eac)), (ea2, .inl (G.2.2.1, 288, .inl eay)), (eb, .inr (1, [.ref eb1, .ref eb2, .int ebs])), (eb1, .inl (G.2.2.1, 16, .inl ebc)), (eb2, .inl (G.2.2.1, 32, .inl eby)), (ef, .inr (1, [.ref ef1, .ref ef2, .int efs])), (ef1, .inl (G.2.2.1, 16, .inl efc)), (ef2, .inl (G.2.2.1, 19, .inl efy)), (ec, .inr (1, [.ref ec1, .ref ec2, .int ecs])), (ec1, .inl (G.2.2.1, 16, .inl ecc)), (ec2, .inl (G.2.2.1, 286, .inl ecy)), (ed, .inr (1, [.ref ed1, .ref ed2, .int eds])), (ed1, .inl (G.2.2.1, 16, .inl edc)), (ed2, .inl (G.2.2.1, 30, .inl edy)), (sp, .inr (3, [.ref tn, .ref tz, .ref tb, .ref tg, .int 0])), (tg, .inl (G.2.2.1, 17, .inl g_3)), (h, .inr (7, [.ref b])), (b, .inl (G.2.1, N, .inl f))]) ?_
    refine pb_if_ne (pc := 26) (tgt := 31) d_FileReader_run_26 (by decide) (fun w13 => ?_) (fun w13 => ?_)
    · have tw13 : ¬ r_9.toInt = 0 := fun z9 => w13 ((ti_eq rfl (by decide)).mpr z9)
      rename ¬ (_ : Int) = 0 => zq
      have edY := hid_o edF1 (by omega)
      clear zq edb edF1 edF0
      refine pb_aload_n (pc := 31) d_FileReader_run_31 1 rfl rfl ?_
      refine pb_get (pc := 32) d_FileReader_run_32 24 0 rfl rfl (by decide) in_FileReader k_306 rfl ?_
      refine pb_iload (pc := 35) d_FileReader_run_35 0 rfl ?_
      refine pb_bipush (pc := 37) (v := 8) d_FileReader_run_37 (by decide) ?_
      refine pb_iadd (pc := 39) d_FileReader_run_39 ?_
      refine pb_topi (fun i14 ei14 => ?_)
      try have ti14 : i14.toInt = i5.toInt + 8 := t2_add ei14 rfl (by decide) (by omega)
      refine pb_callSN (pc := 40) (I := i_FileReader_run) (nA := 2) (rest := []) (wr := [(tn, .inl (G.2.1, 384, .inl tfn)), (tz, .inl (G.2.2.1, 16, .inl tfz)), (tb, .inl (G.2.1, 12000, .inl tfb)), (q, .inr (5, [.ref ex, .ref et, .ref ea, .ref eb, .ref ec, .ref ed, .ref ef, .ref er, .int at_, .int en, .int fl])), (ex, .inr (0, [.ref ey, .int xs])), (ey, .inl (G.2.1, 4000, .inl xf)), (et, .inl (G.2.2.1, 316, .inl tf)), (ea, .inr (1, [.ref ea1, .ref ea2, .int eas])), (ea1, .inl (G.2.2.1, 16, .inl eac)), (ea2, .inl (G.2.2.1, 288, .inl eay)), (eb, .inr (1, [.ref eb1, .ref eb2, .int ebs])), (eb1, .inl (G.2.2.1, 16, .inl ebc)), (eb2, .inl (G.2.2.1, 32, .inl eby)), (ef, .inr (1, [.ref ef1, .ref ef2, .int efs])), (ef1, .inl (G.2.2.1, 16, .inl efc)), (ef2, .inl (G.2.2.1, 19, .inl efy)), (ec, .inr (1, [.ref ec1, .ref ec2, .int ecs])), (ec1, .inl (G.2.2.1, 16, .inl ecc)), (ec2, .inl (G.2.2.1, 286, .inl ecy)), (ed, .inr (1, [.ref ed1, .ref ed2, .int eds])), (ed1, .inl (G.2.2.1, 16, .inl edc)), (ed2, .inl (G.2.2.1, 30, .inl edy)), (sp, .inr (3, [.ref tn, .ref tz, .ref tb, .ref tg, .int 0])), (tg, .inl (G.2.2.1, 17, .inl g_3)), (h, .inr (7, [.ref b]))]) d_FileReader_run_40 (g_twoAt hl G b N f i14 (by first | (with_reducible assumption) | omega (splitDisjunctions := false) | assumption | omega | decide) (by first | (with_reducible assumption) | omega (splitDisjunctions := false) | assumption | omega | decide) (by first | (with_reducible assumption) | omega (splitDisjunctions := false) | assumption | omega | decide) F_f) [25] [0, 1, 2, 3, 4, 5, 6, 7, 8, 9, 10, 11, 12, 13, 14, 15, 16, 17, 18, 19, 20, 21, 22, 23, 24] (by decide) rfl rfl rfl (by decide) (by decide) k_597 rfl k_118 k_599 k_596 hy_Book_twoAt (by decide) rfl rfl (Nat.le_of_ble_eq_true rfl) (by decide) (fun v9 u16 ch15 => ?_)
      obtain ⟨r_17, rfl⟩ : ∃ z9, z9 = u16 := ⟨_, rfl⟩
      obtain ⟨ech15, ch15⟩ := ch15
      have ech15 : v9 = some (.int r_17) := ech15
      subst ech15
      obtain ⟨fh18, fh19, fh20, fh21⟩ : (0 ≤ r_17.toInt) ∧ (r_17.toInt ≤ 65535) ∧ (r_17.toInt = tw f i14.toInt) ∧ (r_17.toInt = av f i14.toInt 2) := ch15
      have u8 : r_17.toInt = aw A (x.toInt - 22 + 8) 2 := by rw [fh21, show i14.toInt = x.toInt - 22 + 8 by omega]; exact av_A hA 2 (by omega) (by omega)
      refine pb_eq (pc' := 43) (lo' := [(5, .int i5), (0, .ref h), (1, .ref b), (2, .int x), (3, .ref sp), (4, .ref q)]) (rest' := [.int r_17]) (ws' := [(tn, .inl (G.2.1, 384, .inl tfn)), (tz, .inl (G.2.2.1, 16, .inl tfz)), (tb, .inl (G.2.1, 12000, .inl tfb)), (q, .inr (5, [.ref ex, .ref et, .ref ea, .ref eb, .ref ec, .ref ed, .ref ef, .ref er, .int at_, .int en, .int fl])), (ex, .inr (0, [.ref ey, .int xs])), (ey, .inl (G.2.1, 4000, .inl xf)), (et, .inl (G.2.2.1, 316, .inl tf)), (ea, .inr (1, [.ref ea1, .ref ea2, .int eas])), (ea1, .inl (G.2.2.1, 16, .inl eac)), (ea2, .inl (G.2.2.1, 288, .inl eay)), (eb, .inr (1, [.ref eb1, .ref eb2, .int ebs])), (eb1, .inl (G.2.2.1, 16, .inl ebc)), (eb2, .inl (G.2.2.1, 32, .inl eby)), (ef, .inr (1, [.ref ef1, .ref ef2, .int efs])), (ef1, .inl (G.2.2.1, 16, .inl efc)), (ef2, .inl (G.2.2.1, 19, .inl efy)), (ec, .inr (1, [.ref ec1, .ref ec2, .int ecs])), (ec1, .inl (G.2.2.1, 16, .inl ecc)), (ec2, .inl (G.2.2.1, 286, .inl ecy)), (ed, .inr (1, [.ref ed1, .ref ed2, .int eds])), (ed1, .inl (G.2.2.1, 16, .inl edc)), (ed2, .inl (G.2.2.1, 30, .inl edy)), (sp, .inr (3, [.ref tn, .ref tz, .ref tb, .ref tg, .int 0])), (tg, .inl (G.2.2.1, 17, .inl g_3)), (h, .inr (7, [.ref b])), (b, .inl (G.2.1, N, .inl f))]) ?_
      refine pb_istore (pc := 43) (lo' := [(6, .int r_17), (5, .int i5), (0, .ref h), (1, .ref b), (2, .int x), (3, .ref sp), (4, .ref q)]) d_FileReader_run_43 (by decide) rfl ?_
      refine pb_aload_n (pc := 45) d_FileReader_run_45 2 rfl rfl ?_
      refine pb_get (pc := 46) d_FileReader_run_46 24 0 rfl rfl (by decide) in_FileReader k_306 rfl ?_
      refine pb_iload (pc := 49) d_FileReader_run_49 1 rfl ?_
      refine pb_bipush (pc := 51) (v := 16) d_FileReader_run_51 (by decide) ?_
      refine pb_iadd (pc := 53) d_FileReader_run_53 ?_
      refine pb_topi (fun i22 ei22 => ?_)
      try have ti22 : i22.toInt = i5.toInt + 16 := t2_add ei22 rfl (by decide) (by omega)
      refine pb_callSN (pc := 54) (I := i_FileReader_run) (nA := 2) (rest := []) (wr := [(tn, .inl (G.2.1, 384, .inl tfn)), (tz, .inl (G.2.2.1, 16, .inl tfz)), (tb, .inl (G.2.1, 12000, .inl tfb)), (q, .inr (5, [.ref ex, .ref et, .ref ea, .ref eb, .ref ec, .ref ed, .ref ef, .ref er, .int at_, .int en, .int fl])), (ex, .inr (0, [.ref ey, .int xs])), (ey, .inl (G.2.1, 4000, .inl xf)), (et, .inl (G.2.2.1, 316, .inl tf)), (ea, .inr (1, [.ref ea1, .ref ea2, .int eas])), (ea1, .inl (G.2.2.1, 16, .inl eac)), (ea2, .inl (G.2.2.1, 288, .inl eay)), (eb, .inr (1, [.ref eb1, .ref eb2, .int ebs])), (eb1, .inl (G.2.2.1, 16, .inl ebc)), (eb2, .inl (G.2.2.1, 32, .inl eby)), (ef, .inr (1, [.ref ef1, .ref ef2, .int efs])), (ef1, .inl (G.2.2.1, 16, .inl efc)), (ef2, .inl (G.2.2.1, 19, .inl efy)), (ec, .inr (1, [.ref ec1, .ref ec2, .int ecs])), (ec1, .inl (G.2.2.1, 16, .inl ecc)), (ec2, .inl (G.2.2.1, 286, .inl ecy)), (ed, .inr (1, [.ref ed1, .ref ed2, .int eds])), (ed1, .inl (G.2.2.1, 16, .inl edc)), (ed2, .inl (G.2.2.1, 30, .inl edy)), (sp, .inr (3, [.ref tn, .ref tz, .ref tb, .ref tg, .int 0])), (tg, .inl (G.2.2.1, 17, .inl g_3)), (h, .inr (7, [.ref b]))]) d_FileReader_run_54 (g_fourAt hl G b N f i22 (by first | (with_reducible assumption) | omega (splitDisjunctions := false) | assumption | omega | decide) (by first | (with_reducible assumption) | omega (splitDisjunctions := false) | assumption | omega | decide) (by first | (with_reducible assumption) | omega (splitDisjunctions := false) | assumption | omega | decide) F_f) [25] [0, 1, 2, 3, 4, 5, 6, 7, 8, 9, 10, 11, 12, 13, 14, 15, 16, 17, 18, 19, 20, 21, 22, 23, 24] (by decide) rfl rfl rfl (by decide) (by decide) k_594 rfl k_118 k_592 k_593 hy_Book_fourAt (by decide) rfl rfl (Nat.le_of_ble_eq_true rfl) (by decide) (fun v9 u24 ch23 => ?_)
      obtain ⟨r_25, rfl⟩ : ∃ z9, z9 = u24 := ⟨_, rfl⟩
      obtain ⟨ech23, ch23⟩ := ch23
      have ech23 : v9 = some (.long r_25) := ech23
      subst ech23
      obtain ⟨fh26, fh27, fh28⟩ : (0 ≤ r_25.toInt) ∧ (r_25.toInt < 4294967296) ∧ (r_25.toInt = av f i22.toInt 4) := ch23
      have u16 : r_25.toInt = aw A (x.toInt - 22 + 16) 4 := by rw [fh28, show i22.toInt = x.toInt - 22 + 16 by (exact omg_7b9874a233 ti5 ti22)]; exact av_A hA 4 (by omega) (by omega)
      refine pb_eq (pc' := 57) (lo' := [(6, .int r_17), (5, .int i5), (0, .ref h), (1, .ref b), (2, .int x), (3, .ref sp), (4, .ref q)]) (rest' := [.long r_25]) (ws' := [(tn, .inl (G.2.1, 384, .inl tfn)), (tz, .inl (G.2.2.1, 16, .inl tfz)), (tb, .inl (G.2.1, 12000, .inl tfb)), (q, .inr (5, [.ref ex, .ref et, .ref ea, .ref eb, .ref ec, .ref ed, .ref ef, .ref er, .int at_, .int en, .int fl])), (ex, .inr (0, [.ref ey, .int xs])), (ey, .inl (G.2.1, 4000, .inl xf)), (et, .inl (G.2.2.1, 316, .inl tf)), (ea, .inr (1, [.ref ea1, .ref ea2, .int eas])), (ea1, .inl (G.2.2.1, 16, .inl eac)), (ea2, .inl (G.2.2.1, 288, .inl eay)), (eb, .inr (1, [.ref eb1, .ref eb2, .int ebs])), (eb1, .inl (G.2.2.1, 16, .inl ebc)), (eb2, .inl (G.2.2.1, 32, .inl eby)), (ef, .inr (1, [.ref ef1, .ref ef2, .int efs])), (ef1, .inl (G.2.2.1, 16, .inl efc)), (ef2, .inl (G.2.2.1, 19, .inl efy)), (ec, .inr (1, [.ref ec1, .ref ec2, .int ecs])), (ec1, .inl (G.2.2.1, 16, .inl ecc)), (ec2, .inl (G.2.2.1, 286, .inl ecy)), (ed, .inr (1, [.ref ed1, .ref ed2, .int eds])), (ed1, .inl (G.2.2.1, 16, .inl edc)), (ed2, .inl (G.2.2.1, 30, .inl edy)), (sp, .inr (3, [.ref tn, .ref tz, .ref tb, .ref tg, .int 0])), (tg, .inl (G.2.2.1, 17, .inl g_3)), (h, .inr (7, [.ref b])), (b, .inl (G.2.1, N, .inl f))]) ?_
      refine pb_lstore (pc := 57) (lo' := [(7, .long r_25), (6, .int r_17), (5, .int i5), (0, .ref h), (1, .ref b), (2, .int x), (3, .ref sp), (4, .ref q)]) d_FileReader_run_57 (by decide) rfl ?_
      refine pb_lload (pc := 59) d_FileReader_run_59 0 rfl ?_
      refine pb_aload_n (pc := 61) d_FileReader_run_61 3 rfl rfl ?_
      refine pb_get (pc := 62) d_FileReader_run_62 24 0 rfl rfl (by decide) in_FileReader k_306 rfl ?_
      refine pb_iload (pc := 65) d_FileReader_run_65 2 rfl ?_
      refine pb_bipush (pc := 67) (v := 12) d_FileReader_run_67 (by decide) ?_
      refine pb_iadd (pc := 69) d_FileReader_run_69 ?_
      refine pb_topi (fun i29 ei29 => ?_)
      try have ti29 : i29.toInt = i5.toInt + 12 := t2_add ei29 rfl (by decide) (by omega)
      refine pb_callSN (pc := 70) (I := i_FileReader_run) (nA := 2) (rest := [.long r_25]) (wr := [(tn, .inl (G.2.1, 384, .inl tfn)), (tz, .inl (G.2.2.1, 16, .inl tfz)), (tb, .inl (G.2.1, 12000, .inl tfb)), (q, .inr (5, [.ref ex, .ref et, .ref ea, .ref eb, .ref ec, .ref ed, .ref ef, .ref er, .int at_, .int en, .int fl])), (ex, .inr (0, [.ref ey, .int xs])), (ey, .inl (G.2.1, 4000, .inl xf)), (et, .inl (G.2.2.1, 316, .inl tf)), (ea, .inr (1, [.ref ea1, .ref ea2, .int eas])), (ea1, .inl (G.2.2.1, 16, .inl eac)), (ea2, .inl (G.2.2.1, 288, .inl eay)), (eb, .inr (1, [.ref eb1, .ref eb2, .int ebs])), (eb1, .inl (G.2.2.1, 16, .inl ebc)), (eb2, .inl (G.2.2.1, 32, .inl eby)), (ef, .inr (1, [.ref ef1, .ref ef2, .int efs])), (ef1, .inl (G.2.2.1, 16, .inl efc)), (ef2, .inl (G.2.2.1, 19, .inl efy)), (ec, .inr (1, [.ref ec1, .ref ec2, .int ecs])), (ec1, .inl (G.2.2.1, 16, .inl ecc)), (ec2, .inl (G.2.2.1, 286, .inl ecy)), (ed, .inr (1, [.ref ed1, .ref ed2, .int eds])), (ed1, .inl (G.2.2.1, 16, .inl edc)), (ed2, .inl (G.2.2.1, 30, .inl edy)), (sp, .inr (3, [.ref tn, .ref tz, .ref tb, .ref tg, .int 0])), (tg, .inl (G.2.2.1, 17, .inl g_3)), (h, .inr (7, [.ref b]))]) d_FileReader_run_70 (g_fourAt hl G b N f i29 (by first | (with_reducible assumption) | omega (splitDisjunctions := false) | assumption | omega | decide) (by first | (with_reducible assumption) | omega (splitDisjunctions := false) | assumption | omega | decide) (by first | (with_reducible assumption) | omega (splitDisjunctions := false) | assumption | omega | decide) F_f) [25] [0, 1, 2, 3, 4, 5, 6, 7, 8, 9, 10, 11, 12, 13, 14, 15, 16, 17, 18, 19, 20, 21, 22, 23, 24] (by decide) rfl rfl rfl (by decide) (by decide) k_594 rfl k_118 k_592 k_593 hy_Book_fourAt (by decide) rfl rfl (Nat.le_of_ble_eq_true rfl) (by decide) (fun v9 u31 ch30 => ?_)
      obtain ⟨r_32, rfl⟩ : ∃ z9, z9 = u31 := ⟨_, rfl⟩
      obtain ⟨ech30, ch30⟩ := ch30
      have ech30 : v9 = some (.long r_32) := ech30
      subst ech30
      obtain ⟨fh33, fh34, fh35⟩ : (0 ≤ r_32.toInt) ∧ (r_32.toInt < 4294967296) ∧ (r_32.toInt = av f i29.toInt 4) := ch30
      have u12 : r_32.toInt = aw A (x.toInt - 22 + 12) 4 := by rw [fh35, show i29.toInt = x.toInt - 22 + 12 by (exact omg_72b34b9ca2 ti5 ti29)]; exact av_A hA 4 (by (exact omg_8dfcb45615 ti5 tw6)) (by omega)
      refine pb_eq (pc' := 73) (lo' := [(7, .long r_25), (6, .int r_17), (5, .int i5), (0, .ref h), (1, .ref b), (2, .int x), (3, .ref sp), (4, .ref q)]) (rest' := [.long r_32, .long r_25]) (ws' := [(tn, .inl (G.2.1, 384, .inl tfn)), (tz, .inl (G.2.2.1, 16, .inl tfz)), (tb, .inl (G.2.1, 12000, .inl tfb)), (q, .inr (5, [.ref ex, .ref et, .ref ea, .ref eb, .ref ec, .ref ed, .ref ef, .ref er, .int at_, .int en, .int fl])), (ex, .inr (0, [.ref ey, .int xs])), (ey, .inl (G.2.1, 4000, .inl xf)), (et, .inl (G.2.2.1, 316, .inl tf)), (ea, .inr (1, [.ref ea1, .ref ea2, .int eas])), (ea1, .inl (G.2.2.1, 16, .inl eac)), (ea2, .inl (G.2.2.1, 288, .inl eay)), (eb, .inr (1, [.ref eb1, .ref eb2, .int ebs])), (eb1, .inl (G.2.2.1, 16, .inl ebc)), (eb2, .inl (G.2.2.1, 32, .inl eby)), (ef, .inr (1, [.ref ef1, .ref ef2, .int efs])), (ef1, .inl (G.2.2.1, 16, .inl efc)), (ef2, .inl (G.2.2.1, 19, .inl efy)), (ec, .inr (1, [.ref ec1, .ref ec2, .int ecs])), (ec1, .inl (G.2.2.1, 16, .inl ecc)), (ec2, .inl (G.2.2.1, 286, .inl ecy)), (ed, .inr (1, [.ref ed1, .ref ed2, .int eds])), (ed1, .inl (G.2.2.1, 16, .inl edc)), (ed2, .inl (G.2.2.1, 30, .inl edy)), (sp, .inr (3, [.ref tn, .ref tz, .ref tb, .ref tg, .int 0])), (tg, .inl (G.2.2.1, 17, .inl g_3)), (h, .inr (7, [.ref b])), (b, .inl (G.2.1, N, .inl f))]) ?_
      refine pb_ladd (pc := 73) d_FileReader_run_73 ?_
      refine pb_topl (fun j36 ej36 => ?_)
      try have tj36 : j36.toInt = r_25.toInt + r_32.toInt := tl_add ej36 rfl rfl (by (exact omg_19de973fa8 fh26 fh33)) (by (exact omg_aeeff30375 fh27 fh34))
      refine pb_iload (pc := 74) d_FileReader_run_74 2 rfl ?_
      refine pb_i2l (pc := 76) d_FileReader_run_76 rfl ?_
      refine pb_topl (fun j37 ej37 => ?_)
      have tj37 : j37.toInt = i5.toInt := tl_i2l ej37 rfl
      refine pb_lcmp (pc := 77) d_FileReader_run_77 ?_
      refine pb_topi (fun i38 ei38 => ?_)
      have ti38 : (i38.toInt < 0 ↔ j36.toInt < j37.toInt) ∧ (i38.toInt = 0 ↔ j36.toInt = j37.toInt) ∧ (0 < i38.toInt ↔ j37.toInt < j36.toInt) := tl_cmp ei38 rfl rfl
      obtain ⟨lc1, lc2, lc3⟩ := ti38
      refine pb_if_ne (pc := 78) (tgt := 95) d_FileReader_run_78 (by decide) (fun w39 => ?_) (fun w39 => ?_)
      · have tw39 : ¬ i38.toInt = 0 := fun z9 => w39 ((ti_eq rfl (by decide)).mpr z9)
        refine pb_iconst (pc := 95) (v := 2) d_FileReader_run_95 (by decide) ?_
        exact pb_iret (pc := 96) hQ d_FileReader_run_96 rfl rfl (2, 0, tfn, tfz, tfb, g_3, er, at_, en, fl, xs, xf, tf, efs, efc, efy, ecs, ecc, ecy, eds, edc, edy) ⟨rfl, (by (try dsimp only); first | done | assumption | decide | omega), (by (try dsimp only); first | done | (with_reducible assumption) | omega (splitDisjunctions := false) | assumption | omega | decide), (by (try dsimp only); first | done | (with_reducible assumption) | omega (splitDisjunctions := false) | assumption | omega | decide), (by (try dsimp only); first | done | assumption | decide | omega), (by (try dsimp only); first | done | (with_reducible assumption) | omega (splitDisjunctions := false) | assumption | omega | decide), (by (try dsimp only); first | done | assumption | decide | omega), (by (try dsimp only); first | done | (with_reducible assumption) | omega (splitDisjunctions := false) | assumption | omega | decide), (by (try dsimp only); first | done | assumption | decide | omega), (by (try dsimp only); first | done | (with_reducible assumption) | omega (splitDisjunctions := false) | assumption | omega | decide), (show hid_ (∃ W : VW_, rd_ A x.toInt (2 : Int32).toInt W ∧ ((2 : Int32).toInt = 0 → rC_ (0 : Int32).toInt tfn tfz tfb g_3 W)) from (hid_i ⟨nl_, rd_2 (by first | decide | omega) ⟨by (exact omg_323c347f16 ti5 tw6), edY⟩ (by first | exact fun q9 => hid_o dyF0 (by omega) q9.2 | exact fun q9 => absurd q9.1 (by (exact omg_62e25a5eb4 ti5 u16 u12 tj36 tj37 lc2 tw39))), fun q9 => absurd q9 (by first | decide | omega)⟩)), F_tfn, F_tfb, F_xf⟩ [24, 25, 22, 0, 1, 2, 23, 3, 4, 5, 6, 7, 8, 9, 10, 11, 12, 13, 14, 15, 16, 17, 18, 19, 20, 21] (by decide) rfl rfl (by decide) (by decide)
      · have tw39 : i38.toInt = 0 := (ti_eq rfl (by decide)).mp w39
        have lc5 := lc2.mp (by assumption)
        clear lc1 lc2 lc3
        refine pb_aload_n (pc := 81) d_FileReader_run_81 3 rfl rfl ?_
        refine pb_lload (pc := 82) d_FileReader_run_82 0 rfl ?_
        refine pb_l2i (pc := 84) d_FileReader_run_84 rfl ?_
        refine pb_topi (fun i40 ei40 => ?_)
        try have ti40 : i40.toInt = r_25.toInt := ti_l2i ei40 rfl (by (exact omg_829df125db fh26)) (by (exact omg_9ee6a526e5 h1 hN ti5 fh33 tj36 tj37 lc5))
        refine pb_iload (pc := 85) d_FileReader_run_85 2 rfl ?_
        refine pb_iload (pc := 87) d_FileReader_run_87 1 rfl ?_
        refine pb_callV (pc := 89) (I := i_FileReader_run) (qb := 24) (ci := 7) (nA := 3) (rest := []) (wr := [(tn, .inl (G.2.1, 384, .inl tfn)), (tz, .inl (G.2.2.1, 16, .inl tfz)), (tb, .inl (G.2.1, 12000, .inl tfb)), (q, .inr (5, [.ref ex, .ref et, .ref ea, .ref eb, .ref ec, .ref ed, .ref ef, .ref er, .int at_, .int en, .int fl])), (ex, .inr (0, [.ref ey, .int xs])), (ey, .inl (G.2.1, 4000, .inl xf)), (et, .inl (G.2.2.1, 316, .inl tf)), (ea, .inr (1, [.ref ea1, .ref ea2, .int eas])), (ea1, .inl (G.2.2.1, 16, .inl eac)), (ea2, .inl (G.2.2.1, 288, .inl eay)), (eb, .inr (1, [.ref eb1, .ref eb2, .int ebs])), (eb1, .inl (G.2.2.1, 16, .inl ebc)), (eb2, .inl (G.2.2.1, 32, .inl eby)), (ef, .inr (1, [.ref ef1, .ref ef2, .int efs])), (ef1, .inl (G.2.2.1, 16, .inl efc)), (ef2, .inl (G.2.2.1, 19, .inl efy)), (ec, .inr (1, [.ref ec1, .ref ec2, .int ecs])), (ec1, .inl (G.2.2.1, 16, .inl ecc)), (ec2, .inl (G.2.2.1, 286, .inl ecy)), (ed, .inr (1, [.ref ed1, .ref ed2, .int eds])), (ed1, .inl (G.2.2.1, 16, .inl edc)), (ed2, .inl (G.2.2.1, 30, .inl edy)), (sp, .inr (3, [.ref tn, .ref tz, .ref tb, .ref tg, .int 0])), (tg, .inl (G.2.2.1, 17, .inl g_3))]) d_FileReader_run_89 (g_Rd_isDirectory hl G h b N f i40 i5 r_17 r_25.toInt A Zs (by first | (with_reducible assumption) | omega (splitDisjunctions := false) | assumption | omega | decide) (by first | (with_reducible assumption) | (exact omg_9421ffe5b8 fh26 ti40) | assumption | omega | decide) (by first | (with_reducible assumption) | omega (splitDisjunctions := false) | assumption | omega | decide) (by first | (with_reducible assumption) | omega (splitDisjunctions := false) | assumption | omega | decide) (by first | (with_reducible assumption) | (exact omg_f2771421b3 fh33 tj36 tj37 lc5 ti40) | assumption | omega | decide) (by first | (with_reducible assumption) | omega (splitDisjunctions := false) | assumption | omega | decide) (by first | assumption | decide | omega) (by first | (with_reducible assumption) | omega (splitDisjunctions := false) | assumption | omega | decide) F_f) rfl rfl [24, 25] [0, 1, 2, 3, 4, 5, 6, 7, 8, 9, 10, 11, 12, 13, 14, 15, 16, 17, 18, 19, 20, 21, 22, 23] (by decide) rfl rfl rfl (by decide) (by decide) k_603 rfl k_124 k_600 k_602 k_13 ⟨rfl, hy_FileReader_isDirectory⟩ (by decide) rfl rfl (Nat.le_of_ble_eq_true rfl) (by decide) (fun v9 u42 ch41 => ?_)
        obtain ⟨r_43, rfl⟩ : ∃ z9, z9 = u42 := ⟨_, rfl⟩
        obtain ⟨ech41, ch41⟩ := ch41
        have ech41 : v9 = some (.int r_43) := ech41
        subst ech41
        obtain ⟨fh44, fh45, fh46, fh47⟩ : (r_43.toInt = 0 ∨ r_43.toInt = 1) ∧ (r_43.toInt = 1 → dp f r_25.toInt r_17.toInt = i5.toInt ∧ ∀ j : Int, 0 ≤ j → j < r_17.toInt → dp f r_25.toInt j + 46 ≤ i5.toInt) ∧ (r_43.toInt = 1 → dy_ A r_25.toInt i5.toInt r_17.toInt.toNat) ∧ (r_43.toInt = 0 → ¬ dy_ A r_25.toInt i5.toInt r_17.toInt.toNat) := ch41
        have dirF := hid_i fh45
        have dyF1 := hid_i fh46
        have dyF0 := hid_i fh47
        have dyb := fh44
        clear fh44 fh45 fh46 fh47
        rw [u16, show i5.toInt = x.toInt - 22 by omega, show r_17.toInt = aw A (x.toInt - 22 + 8) 2 by omega] at dyF1 dyF0
        refine pb_eq (pc' := 92) (lo' := [(7, .long r_25), (6, .int r_17), (5, .int i5), (0, .ref h), (1, .ref b), (2, .int x), (3, .ref sp), (4, .ref q)]) (rest' := [.int r_43]) (ws' := [(tn, .inl (G.2.1, 384, .inl tfn)), (tz, .inl (G.2.2.1, 16, .inl tfz)), (tb, .inl (G.2.1, 12000, .inl tfb)), (q, .inr (5, [.ref ex, .ref et, .ref ea, .ref eb, .ref ec, .ref ed, .ref ef, .ref er, .int at_, .int en, .int fl])), (ex, .inr (0, [.ref ey, .int xs])), (ey, .inl (G.2.1, 4000, .inl xf)), (et, .inl (G.2.2.1, 316, .inl tf)), (ea, .inr (1, [.ref ea1, .ref ea2, .int eas])), (ea1, .inl (G.2.2.1, 16, .inl eac)), (ea2, .inl (G.2.2.1, 288, .inl eay)), (eb, .inr (1, [.ref eb1, .ref eb2, .int ebs])), (eb1, .inl (G.2.2.1, 16, .inl ebc)), (eb2, .inl (G.2.2.1, 32, .inl eby)), (ef, .inr (1, [.ref ef1, .ref ef2, .int efs])), (ef1, .inl (G.2.2.1, 16, .inl efc)), (ef2, .inl (G.2.2.1, 19, .inl efy)), (ec, .inr (1, [.ref ec1, .ref ec2, .int ecs])), (ec1, .inl (G.2.2.1, 16, .inl ecc)), (ec2, .inl (G.2.2.1, 286, .inl ecy)), (ed, .inr (1, [.ref ed1, .ref ed2, .int eds])), (ed1, .inl (G.2.2.1, 16, .inl edc)), (ed2, .inl (G.2.2.1, 30, .inl edy)), (sp, .inr (3, [.ref tn, .ref tz, .ref tb, .ref tg, .int 0])), (tg, .inl (G.2.2.1, 17, .inl g_3)), (h, .inr (7, [.ref b])), (b, .inl (G.2.1, N, .inl f))]) ?_
        refine pb_if_ne (pc := 92) (tgt := 97) d_FileReader_run_92 (by decide) (fun w48 => ?_) (fun w48 => ?_)
        · have tw48 : ¬ r_43.toInt = 0 := fun z9 => w48 ((ti_eq rfl (by decide)).mpr z9)
          rename ¬ (_ : Int) = 0 => zq
          have hd := hid_o dirF (by (exact omg_d9c3f42b32 dyb zq))
          have dyY := hid_o dyF1 (by omega)
          clear zq dyb dirF dyF1 dyF0
          refine pb_iconst (pc := 97) (v := 0) d_FileReader_run_97 (by decide) ?_
          refine pb_istore (pc := 98) (lo' := [(9, .int 0), (7, .long r_25), (6, .int r_17), (5, .int i5), (0, .ref h), (1, .ref b), (2, .int x), (3, .ref sp), (4, .ref q)]) d_FileReader_run_98 (by decide) rfl ?_
          refine pb_lload (pc := 100) d_FileReader_run_100 1 rfl ?_
          refine pb_l2i (pc := 102) d_FileReader_run_102 rfl ?_
          refine pb_topi (fun i49 ei49 => ?_)
          try have ti49 : i49.toInt = r_25.toInt := ti_l2i ei49 rfl (by (exact omg_829df125db fh26)) (by (exact omg_9ee6a526e5 h1 hN ti5 fh33 tj36 tj37 lc5))
          refine pb_istore (pc := 103) (lo' := [(10, .int i49), (9, .int 0), (7, .long r_25), (6, .int r_17), (5, .int i5), (0, .ref h), (1, .ref b), (2, .int x), (3, .ref sp), (4, .ref q)]) d_FileReader_run_103 (by decide) rfl ?_
          refine pb_iconst (pc := 105) (v := 0) d_FileReader_run_105 (by decide) ?_
          refine pb_istore (pc := 106) (lo' := [(11, .int 0), (10, .int i49), (9, .int 0), (7, .long r_25), (6, .int r_17), (5, .int i5), (0, .ref h), (1, .ref b), (2, .int x), (3, .ref sp), (4, .ref q)]) d_FileReader_run_106 (by decide) rfl ?_
          have hL108_50 : ∀ (N9 : Nat) (k : Int32) (a : Int32) (fa : Int32) (en_ : Int32) (e_ : Int32) (dr : Int64) (c2 : Int32) (fn2 : Nat → Int32) (fz2 : Nat → Int32) (fb2 : Nat → Int32) (fg2 : Nat → Int32) (er9 : Nat) (at9 : Int32) (en9 : Int32) (fl9 : Int32) (s2_ : Int32) (xf2 : Nat → Int32) (tf2 : Nat → Int32) (efs9 : Int32) (efc9 : Nat → Int32) (efy9 : Nat → Int32) (ecs9 : Int32) (ecc9 : Nat → Int32) (ecy9 : Nat → Int32) (eds9 : Int32) (edc9 : Nat → Int32) (edy9 : Nat → Int32), (sb_Fit fn2) → (sb_Fit fb2) → (sb_Fit xf2) → (0 ≤ k.toInt) → (k.toInt ≤ en_.toInt) → (0 ≤ dr.toInt) → (dr.toInt ≤ e_.toInt) → (e_.toInt + 22 = x.toInt) → (a.toInt = dp f dr.toInt k.toInt) → (dp f dr.toInt en_.toInt = e_.toInt) → (∀ j : Int, 0 ≤ j → j < en_.toInt → dp f dr.toInt j + 46 ≤ e_.toInt) → (sh_I c2.toInt fz2 fg2) → (0 ≤ s2_.toInt) → (s2_.toInt ≤ 4000) → (co_I efs9.toInt efc9 efy9 19) → (efs9.toInt ≤ 19) → (co_I ecs9.toInt ecc9 ecy9 288) → (ecs9.toInt ≤ 286) → (co_I eds9.toInt edc9 edy9 32) → (eds9.toInt ≤ 30) → (a.toInt = dz A dr.toInt k.toInt.toNat) → (dy_ A dr.toInt e_.toInt en_.toInt.toNat) → (22 ≤ x.toInt ∧ ed_ A (x.toInt - 22)) → (dr.toInt = aw A (x.toInt - 22 + 16) 4) → (en_.toInt = aw A (x.toInt - 22 + 8) 2) → (aw A (x.toInt - 22 + 16) 4 + aw A (x.toInt - 22 + 12) 4 = x.toInt - 22) → (hid_ (∃ W : VW_, rs_ A dr.toInt k.toInt.toNat fa.toInt W ∧ (fa.toInt = 0 → rC_ c2.toInt fn2 fz2 fb2 fg2 W))) → ((en_.toInt - k.toInt).toNat) < N9 → pb_P l G M i_FileReader_run 108 [(11, .int k), (10, .int a), (9, .int fa), (6, .int en_), (7, .long dr), (5, .int e_), (0, .ref h), (1, .ref b), (2, .int x), (3, .ref sp), (4, .ref q)] [] [(h, .inr (7, [.ref b])), (b, .inl (G.2.1, N, .inl f)), (sp, .inr (3, [.ref tn, .ref tz, .ref tb, .ref tg, .int c2])), (tn, .inl (G.2.1, 384, .inl fn2)), (tz, .inl (G.2.2.1, 16, .inl fz2)), (tb, .inl (G.2.1, 12000, .inl fb2)), (tg, .inl (G.2.2.1, 17, .inl fg2)), (q, .inr (5, [.ref ex, .ref et, .ref ea, .ref eb, .ref ec, .ref ed, .ref ef, .ref er9, .int at9, .int en9, .int fl9])), (ex, .inr (0, [.ref ey, .int s2_])), (ey, .inl (G.2.1, 4000, .inl xf2)), (et, .inl (G.2.2.1, 316, .inl tf2)), (ea, .inr (1, [.ref ea1, .ref ea2, .int eas])), (ea1, .inl (G.2.2.1, 16, .inl eac)), (ea2, .inl (G.2.2.1, 288, .inl eay)), (eb, .inr (1, [.ref eb1, .ref eb2, .int ebs])), (eb1, .inl (G.2.2.1, 16, .inl ebc)), (eb2, .inl (G.2.2.1, 32, .inl eby)), (ef, .inr (1, [.ref ef1, .ref ef2, .int efs9])), (ef1, .inl (G.2.2.1, 16, .inl efc9)), (ef2, .inl (G.2.2.1, 19, .inl efy9)), (ec, .inr (1, [.ref ec1, .ref ec2, .int ecs9])), (ec1, .inl (G.2.2.1, 16, .inl ecc9)), (ec2, .inl (G.2.2.1, 286, .inl ecy9)), (ed, .inr (1, [.ref ed1, .ref ed2, .int eds9])), (ed1, .inl (G.2.2.1, 16, .inl edc9)), (ed2, .inl (G.2.2.1, 30, .inl edy9))] 0 0 := by
            intro N9
            induction N9 with
            | zero => intro k a fa en_ e_ dr c2 fn2 fz2 fb2 fg2 er9 at9 en9 fl9 s2_ xf2 tf2 efs9 efc9 efy9 ecs9 ecc9 ecy9 eds9 edc9 edy9 F_fn2 F_fb2 F_xf2 hk hk2 hd0 he0 he1 ha He Hd hI y0 y1 If9 Mf9 Ic9 Mc9 Id9 Md9 hz hD5 hE5 hu16 hu8 hw5 hS hm9; exact absurd hm9 (Nat.not_lt_zero _)
            | succ N9 ih108 =>
              intro k a fa en_ e_ dr c2 fn2 fz2 fb2 fg2 er9 at9 en9 fl9 s2_ xf2 tf2 efs9 efc9 efy9 ecs9 ecc9 ecy9 eds9 edc9 edy9 F_fn2 F_fb2 F_xf2 hk hk2 hd0 he0 he1 ha He Hd hI y0 y1 If9 Mf9 Ic9 Mc9 Id9 Md9 hz hD5 hE5 hu16 hu8 hw5 hS hm9
              have rn := ti_rng en_
              refine pb_iload (pc := 108) d_FileReader_run_108 0 rfl ?_
              refine pb_iload (pc := 110) d_FileReader_run_110 3 rfl ?_
              refine pb_icmp_ge (pc := 112) (tgt := 159) d_FileReader_run_112 (by decide) (fun w51 => ?_) (fun w51 => ?_)
              · have tw51 : en_.toInt ≤ k.toInt := (ti_le rfl rfl).mp w51
                refine pb_iload (pc := 159) d_FileReader_run_159 2 rfl ?_
                exact pb_iret (pc := 161) hQ d_FileReader_run_161 rfl rfl (fa, c2, fn2, fz2, fb2, fg2, er9, at9, en9, fl9, s2_, xf2, tf2, efs9, efc9, efy9, ecs9, ecc9, ecy9, eds9, edc9, edy9) ⟨rfl, (by (try dsimp only); first | done | assumption | decide | omega), (by (try dsimp only); first | done | (with_reducible assumption) | omega (splitDisjunctions := false) | assumption | omega | decide), (by (try dsimp only); first | done | (with_reducible assumption) | omega (splitDisjunctions := false) | assumption | omega | decide), (by (try dsimp only); first | done | assumption | decide | omega), (by (try dsimp only); first | done | (with_reducible assumption) | omega (splitDisjunctions := false) | assumption | omega | decide), (by (try dsimp only); first | done | assumption | decide | omega), (by (try dsimp only); first | done | (with_reducible assumption) | omega (splitDisjunctions := false) | assumption | omega | decide), (by (try dsimp only); first | done | assumption | decide | omega), (by (try dsimp only); first | done | (with_reducible assumption) | omega (splitDisjunctions := false) | assumption | omega | decide), (show hid_ (∃ W : VW_, rd_ A x.toInt fa.toInt W ∧ (fa.toInt = 0 → rC_ c2.toInt fn2 fz2 fb2 fg2 W)) from (by obtain ⟨W8, rsF, rcF⟩ := hid_o hS; exact hid_i ⟨W8, rd_3 hE5 ⟨hw5, by rw [← hu16, ← hu8, show x.toInt - 22 = e_.toInt by (exact omg_b5b9877705 he1)]; exact hD5⟩ (by rw [← hu16, ← hu8]; exact rs_to rsF (by (exact omg_9fc2149cc9 hk2)) (fun q9 => by (exact omg_52b1024fe2 hk2 tw51))), rcF⟩)), F_fn2, F_fb2, F_xf2⟩ [0, 1, 2, 3, 4, 5, 6, 7, 8, 9, 10, 11, 12, 13, 14, 15, 16, 17, 18, 19, 20, 21, 22, 23, 24, 25] (by decide) rfl rfl (by decide) (by decide)
              · have tw51 : ¬ en_.toInt ≤ k.toInt := fun z9 => w51 ((ti_le rfl rfl).mpr z9)
                refine pb_iload (pc := 115) d_FileReader_run_115 2 rfl ?_
                refine pb_if_ne (pc := 117) (tgt := 159) d_FileReader_run_117 (by decide) (fun w52 => ?_) (fun w52 => ?_)
                · have tw52 : ¬ fa.toInt = 0 := fun z9 => w52 ((ti_eq rfl (by decide)).mpr z9)
                  refine pb_iload (pc := 159) d_FileReader_run_159 2 rfl ?_
                  exact pb_iret (pc := 161) hQ d_FileReader_run_161 rfl rfl (fa, c2, fn2, fz2, fb2, fg2, er9, at9, en9, fl9, s2_, xf2, tf2, efs9, efc9, efy9, ecs9, ecc9, ecy9, eds9, edc9, edy9) ⟨rfl, (by (try dsimp only); first | done | assumption | decide | omega), (by (try dsimp only); first | done | (with_reducible assumption) | omega (splitDisjunctions := false) | assumption | omega | decide), (by (try dsimp only); first | done | (with_reducible assumption) | omega (splitDisjunctions := false) | assumption | omega | decide), (by (try dsimp only); first | done | assumption | decide | omega), (by (try dsimp only); first | done | (with_reducible assumption) | omega (splitDisjunctions := false) | assumption | omega | decide), (by (try dsimp only); first | done | assumption | decide | omega), (by (try dsimp only); first | done | (with_reducible assumption) | omega (splitDisjunctions := false) | assumption | omega | decide), (by (try dsimp only); first | done | assumption | decide | omega), (by (try dsimp only); first | done | (with_reducible assumption) | omega (splitDisjunctions := false) | assumption | omega | decide), (show hid_ (∃ W : VW_, rd_ A x.toInt fa.toInt W ∧ (fa.toInt = 0 → rC_ c2.toInt fn2 fz2 fb2 fg2 W)) from (by obtain ⟨W8, rsF, rcF⟩ := hid_o hS; exact hid_i ⟨W8, rd_3 hE5 ⟨hw5, by rw [← hu16, ← hu8, show x.toInt - 22 = e_.toInt by (exact omg_b5b9877705 he1)]; exact hD5⟩ (by rw [← hu16, ← hu8]; exact rs_to rsF (by (exact omg_f5c6edad51 tw51)) (fun q9 => by (exact omg_b17edbdafe tw52 q9))), rcF⟩)), F_fn2, F_fb2, F_xf2⟩ [0, 1, 2, 3, 4, 5, 6, 7, 8, 9, 10, 11, 12, 13, 14, 15, 16, 17, 18, 19, 20, 21, 22, 23, 24, 25] (by decide) rfl rfl (by decide) (by decide)
                · have tw52 : fa.toInt = 0 := (ti_eq rfl (by decide)).mp w52
                  have d0 := Hd k.toInt hk (by omega)
                  have d1 := dp_s (f := f) (a := dr.toInt) (k := k.toInt) (m := k.toInt + 1) hk rfl
                  have d2 := dp_le (f := f) (a := dr.toInt) (j := k.toInt + 1) (k := en_.toInt) (by omega) (by omega)
                  have d4 := dp_le (f := f) (a := dr.toInt) (j := 0) (k := k.toInt) (by omega) hk
                  rw [dp_0] at d4
                  rw [← ha] at d0 d1 d4
                  have d3 := tw_rng f (a.toInt + 28)
                  obtain ⟨W8, rsF, rcF⟩ := hid_o hS
                  have hz1 := dz_in hD5 (k := k.toInt.toNat) (by (exact omg_5eb2dff31e hk tw51))
                  rw [← hz] at hz1
                  have rcG9 := rcF (by omega)
                  have srG9 := rs_srt _ rsF (by omega)
                  clear rcF
                  refine pb_aload_n (pc := 120) d_FileReader_run_120 6 rfl rfl ?_
                  refine pb_iload (pc := 121) d_FileReader_run_121 1 rfl ?_
                  refine pb_lload (pc := 123) d_FileReader_run_123 4 rfl ?_
                  refine pb_aload_n (pc := 125) d_FileReader_run_125 9 rfl rfl ?_
                  refine pb_aload (pc := 126) d_FileReader_run_126 10 rfl ?_
                  refine pb_callV (pc := 128) (I := i_FileReader_run) (qb := 0) (ci := 7) (nA := 4) (rest := []) (wr := []) d_FileReader_run_128 (g_Rd_readEntry hl G h b N f sp tn tz tb tg c2 fn2 fz2 fb2 fg2 q ex et ea eb ec ed ef er9 at9 en9 fl9 ey xf2 s2_ tf2 ea1 ea2 eas eac eay eb1 eb2 ebs ebc eby ef1 ef2 efs9 efc9 efy9 ec1 ec2 ecs9 ecc9 ecy9 ed1 ed2 eds9 edc9 edy9 a dr W8 A Zs (by first | assumption | decide | omega) (by first | assumption | decide | omega) (by first | (with_reducible assumption) | omega (splitDisjunctions := false) | assumption | omega | decide) (by first | assumption | decide | omega) (by first | (with_reducible assumption) | omega (splitDisjunctions := false) | assumption | omega | decide) (by first | (with_reducible assumption) | omega (splitDisjunctions := false) | assumption | omega | decide) (by first | (with_reducible assumption) | omega (splitDisjunctions := false) | assumption | omega | decide) (by first | assumption | decide | omega) (by first | (with_reducible assumption) | omega (splitDisjunctions := false) | assumption | omega | decide) (by first | assumption | decide | omega) (by first | (with_reducible assumption) | omega (splitDisjunctions := false) | assumption | omega | decide) (by first | assumption | decide | omega) (by first | (with_reducible assumption) | omega (splitDisjunctions := false) | assumption | omega | decide) (by first | (with_reducible assumption) | omega (splitDisjunctions := false) | assumption | omega | decide) (by first | (with_reducible assumption) | omega (splitDisjunctions := false) | assumption | omega | decide) (by first | (with_reducible assumption) | (exact omg_930e66a707 fh26 u16 hu16 hz1) | assumption | omega | decide) (by first | (with_reducible assumption) | (exact omg_275a795333 h1 he1 He d1 d2) | assumption | omega | decide) (by first | (with_reducible assumption) | (exact omg_d381ecdfc8 h1 ti5 u16 fh33 tj36 tj37 lc5 hu16) | assumption | omega | decide) (by first | (with_reducible assumption) | omega (splitDisjunctions := false) | assumption | omega | decide) rcG9 srG9 (by first | assumption | decide | omega) (by first | (with_reducible assumption) | (exact omg_a142593d1a hZ he1 hz1) | assumption | omega | decide) (by first | (with_reducible assumption) | (exact omg_03acb65c92 hZ ti5 u16 fh33 tj36 tj37 lc5 hu16) | assumption | omega | decide) F_f F_fn2 F_fb2 F_xf2) rfl rfl [0, 1, 2, 3, 4, 5, 6, 7, 8, 9, 10, 11, 12, 13, 14, 15, 16, 17, 18, 19, 20, 21, 22, 23, 24, 25] [] (by decide) rfl rfl rfl (by decide) (by decide) k_612 rfl k_124 k_609 k_611 k_15 ⟨rfl, hy_FileReader_readEntry⟩ (by decide) rfl rfl (Nat.le_of_ble_eq_true rfl) (by decide) (fun v9 u54 ch53 => ?_)
                  obtain ⟨r_55, c_56, fn_57, fz_58, fb_59, fg_60, er_61, at_62, en_63, fl_64, s2__65, xf_66, tf_67, efs_68, efc_69, efy_70, ecs_71, ecc_72, ecy_73, eds_74, edc_75, edy_76⟩ := u54
                  obtain ⟨ech53, ch53⟩ := ch53
                  have ech53 : v9 = some (.int r_55) := ech53
                  subst ech53
                  obtain ⟨fh77, fh78, fh79, fh80, fh81, fh82, fh83, fh84, fh85, fh86, fh87, fh88, fh89⟩ : (sh_I c_56.toInt fz_58 fg_60) ∧ (0 ≤ s2__65.toInt) ∧ (s2__65.toInt ≤ 4000) ∧ (co_I efs_68.toInt efc_69 efy_70 19) ∧ (efs_68.toInt ≤ 19) ∧ (co_I ecs_71.toInt ecc_72 ecy_73 288) ∧ (ecs_71.toInt ≤ 286) ∧ (co_I eds_74.toInt edc_75 edy_76 32) ∧ (eds_74.toInt ≤ 30) ∧ (hid_ (∃ W : VW_, en_R A dr.toInt a.toInt W8 r_55.toInt W ∧ (r_55.toInt = 0 → rC_ c_56.toInt fn_57 fz_58 fb_59 fg_60 W))) ∧ (sb_Fit fn_57) ∧ (sb_Fit fb_59) ∧ (sb_Fit xf_66) := ch53
                  have enF := fh86
                  refine pb_eq (pc' := 131) (lo' := [(11, .int k), (10, .int a), (9, .int fa), (6, .int en_), (7, .long dr), (5, .int e_), (0, .ref h), (1, .ref b), (2, .int x), (3, .ref sp), (4, .ref q)]) (rest' := [.int r_55]) (ws' := [(h, .inr (7, [.ref b])), (b, .inl (G.2.1, N, .inl f)), (sp, .inr (3, [.ref tn, .ref tz, .ref tb, .ref tg, .int c_56])), (tn, .inl (G.2.1, 384, .inl fn_57)), (tz, .inl (G.2.2.1, 16, .inl fz_58)), (tb, .inl (G.2.1, 12000, .inl fb_59)), (tg, .inl (G.2.2.1, 17, .inl fg_60)), (q, .inr (5, [.ref ex, .ref et, .ref ea, .ref eb, .ref ec, .ref ed, .ref ef, .ref er_61, .int at_62, .int en_63, .int fl_64])), (ex, .inr (0, [.ref ey, .int s2__65])), (ey, .inl (G.2.1, 4000, .inl xf_66)), (et, .inl (G.2.2.1, 316, .inl tf_67)), (ea, .inr (1, [.ref ea1, .ref ea2, .int eas])), (ea1, .inl (G.2.2.1, 16, .inl eac)), (ea2, .inl (G.2.2.1, 288, .inl eay)), (eb, .inr (1, [.ref eb1, .ref eb2, .int ebs])), (eb1, .inl (G.2.2.1, 16, .inl ebc)), (eb2, .inl (G.2.2.1, 32, .inl eby)), (ef, .inr (1, [.ref ef1, .ref ef2, .int efs_68])), (ef1, .inl (G.2.2.1, 16, .inl efc_69)), (ef2, .inl (G.2.2.1, 19, .inl efy_70)), (ec, .inr (1, [.ref ec1, .ref ec2, .int ecs_71])), (ec1, .inl (G.2.2.1, 16, .inl ecc_72)), (ec2, .inl (G.2.2.1, 286, .inl ecy_73)), (ed, .inr (1, [.ref ed1, .ref ed2, .int eds_74])), (ed1, .inl (G.2.2.1, 16, .inl edc_75)), (ed2, .inl (G.2.2.1, 30, .inl edy_76))]) ?_
                  refine pb_istore (pc := 131) (lo' := [(9, .int r_55), (11, .int k), (10, .int a), (6, .int en_), (7, .long dr), (5, .int e_), (0, .ref h), (1, .ref b), (2, .int x), (3, .ref sp), (4, .ref q)]) d_FileReader_run_131 (by decide) rfl ?_
                  refine pb_iload (pc := 133) d_FileReader_run_133 2 rfl ?_
                  refine pb_bipush (pc := 135) (v := 46) d_FileReader_run_135 (by decide) ?_
                  refine pb_aload_n (pc := 137) d_FileReader_run_137 6 rfl rfl ?_
                  refine pb_get (pc := 138) d_FileReader_run_138 0 0 rfl rfl (by decide) in_FileReader k_306 rfl ?_
                  refine pb_iload (pc := 141) d_FileReader_run_141 2 rfl ?_
                  refine pb_bipush (pc := 143) (v := 28) d_FileReader_run_143 (by decide) ?_
                  refine pb_iadd (pc := 145) d_FileReader_run_145 ?_
                  refine pb_topi (fun i90 ei90 => ?_)
                  try have ti90 : i90.toInt = a.toInt + 28 := t2_add ei90 rfl (by decide) (by (exact omg_79bce6b5c1 h1 hN fh26 u16 he1 hu16 d0 d4))
                  refine pb_callSN (pc := 146) (I := i_FileReader_run) (nA := 2) (rest := [.int 46, .int a]) (wr := [(h, .inr (7, [.ref b])), (sp, .inr (3, [.ref tn, .ref tz, .ref tb, .ref tg, .int c_56])), (tn, .inl (G.2.1, 384, .inl fn_57)), (tz, .inl (G.2.2.1, 16, .inl fz_58)), (tb, .inl (G.2.1, 12000, .inl fb_59)), (tg, .inl (G.2.2.1, 17, .inl fg_60)), (q, .inr (5, [.ref ex, .ref et, .ref ea, .ref eb, .ref ec, .ref ed, .ref ef, .ref er_61, .int at_62, .int en_63, .int fl_64])), (ex, .inr (0, [.ref ey, .int s2__65])), (ey, .inl (G.2.1, 4000, .inl xf_66)), (et, .inl (G.2.2.1, 316, .inl tf_67)), (ea, .inr (1, [.ref ea1, .ref ea2, .int eas])), (ea1, .inl (G.2.2.1, 16, .inl eac)), (ea2, .inl (G.2.2.1, 288, .inl eay)), (eb, .inr (1, [.ref eb1, .ref eb2, .int ebs])), (eb1, .inl (G.2.2.1, 16, .inl ebc)), (eb2, .inl (G.2.2.1, 32, .inl eby)), (ef, .inr (1, [.ref ef1, .ref ef2, .int efs_68])), (ef1, .inl (G.2.2.1, 16, .inl efc_69)), (ef2, .inl (G.2.2.1, 19, .inl efy_70)), (ec, .inr (1, [.ref ec1, .ref ec2, .int ecs_71])), (ec1, .inl (G.2.2.1, 16, .inl ecc_72)), (ec2, .inl (G.2.2.1, 286, .inl ecy_73)), (ed, .inr (1, [.ref ed1, .ref ed2, .int eds_74])), (ed1, .inl (G.2.2.1, 16, .inl edc_75)), (ed2, .inl (G.2.2.1, 30, .inl edy_76))]) d_FileReader_run_146 (g_twoAt hl G b N f i90 (by first | (with_reducible assumption) | (exact omg_69d84520e8 fh26 u16 hu16 hz1 ti90) | assumption | omega | decide) (by first | (with_reducible assumption) | (exact omg_1704ebcfea h1 he1 d0 ti90) | assumption | omega | decide) (by first | (with_reducible assumption) | omega (splitDisjunctions := false) | assumption | omega | decide) F_f) [1] [0, 2, 3, 4, 5, 6, 7, 8, 9, 10, 11, 12, 13, 14, 15, 16, 17, 18, 19, 20, 21, 22, 23, 24, 25] (by decide) rfl rfl rfl (by decide) (by decide) k_597 rfl k_118 k_599 k_596 hy_Book_twoAt (by decide) rfl rfl (Nat.le_of_ble_eq_true rfl) (by decide) (fun v9 u92 ch91 => ?_)
                  obtain ⟨r_93, rfl⟩ : ∃ z9, z9 = u92 := ⟨_, rfl⟩
                  obtain ⟨ech91, ch91⟩ := ch91
                  have ech91 : v9 = some (.int r_93) := ech91
                  subst ech91
                  obtain ⟨fh94, fh95, fh96, fh97⟩ : (0 ≤ r_93.toInt) ∧ (r_93.toInt ≤ 65535) ∧ (r_93.toInt = tw f i90.toInt) ∧ (r_93.toInt = av f i90.toInt 2) := ch91
                  rw [show i90.toInt = a.toInt + 28 by omega] at fh96
                  have u28 : r_93.toInt = aw A (a.toInt + 28) 2 := by rw [fh97, show i90.toInt = a.toInt + 28 by omega]; exact av_A hA 2 (by (exact omg_31aeb32dd8 fh26 u16 hu16 hz1)) (by (exact omg_c3fee7227c hZ he1 d0))
                  refine pb_eq (pc' := 149) (lo' := [(9, .int r_55), (11, .int k), (10, .int a), (6, .int en_), (7, .long dr), (5, .int e_), (0, .ref h), (1, .ref b), (2, .int x), (3, .ref sp), (4, .ref q)]) (rest' := [.int r_93, .int 46, .int a]) (ws' := [(h, .inr (7, [.ref b])), (sp, .inr (3, [.ref tn, .ref tz, .ref tb, .ref tg, .int c_56])), (tn, .inl (G.2.1, 384, .inl fn_57)), (tz, .inl (G.2.2.1, 16, .inl fz_58)), (tb, .inl (G.2.1, 12000, .inl fb_59)), (tg, .inl (G.2.2.1, 17, .inl fg_60)), (q, .inr (5, [.ref ex, .ref et, .ref ea, .ref eb, .ref ec, .ref ed, .ref ef, .ref er_61, .int at_62, .int en_63, .int fl_64])), (ex, .inr (0, [.ref ey, .int s2__65])), (ey, .inl (G.2.1, 4000, .inl xf_66)), (et, .inl (G.2.2.1, 316, .inl tf_67)), (ea, .inr (1, [.ref ea1, .ref ea2, .int eas])), (ea1, .inl (G.2.2.1, 16, .inl eac)), (ea2, .inl (G.2.2.1, 288, .inl eay)), (eb, .inr (1, [.ref eb1, .ref eb2, .int ebs])), (eb1, .inl (G.2.2.1, 16, .inl ebc)), (eb2, .inl (G.2.2.1, 32, .inl eby)), (ef, .inr (1, [.ref ef1, .ref ef2, .int efs_68])), (ef1, .inl (G.2.2.1, 16, .inl efc_69)), (ef2, .inl (G.2.2.1, 19, .inl efy_70)), (ec, .inr (1, [.ref ec1, .ref ec2, .int ecs_71])), (ec1, .inl (G.2.2.1, 16, .inl ecc_72)), (ec2, .inl (G.2.2.1, 286, .inl ecy_73)), (ed, .inr (1, [.ref ed1, .ref ed2, .int eds_74])), (ed1, .inl (G.2.2.1, 16, .inl edc_75)), (ed2, .inl (G.2.2.1, 30, .inl edy_76)), (b, .inl (G.2.1, N, .inl f))]) ?_
                  refine pb_iadd (pc := 149) d_FileReader_run_149 ?_
                  refine pb_topi (fun i98 ei98 => ?_)
                  try have ti98 : i98.toInt = 46 + r_93.toInt := t2_add ei98 (by decide) rfl (by omega)
                  refine pb_iadd (pc := 150) d_FileReader_run_150 ?_
                  refine pb_topi (fun i99 ei99 => ?_)
                  try have ti99 : i99.toInt = a.toInt + i98.toInt := t2_add ei99 rfl rfl (by (exact omg_3b913755f2 h1 hN fh26 u16 he1 hu16 hz1 fh94 u28 ti98))
                  refine pb_istore (pc := 151) (lo' := [(10, .int i99), (9, .int r_55), (11, .int k), (6, .int en_), (7, .long dr), (5, .int e_), (0, .ref h), (1, .ref b), (2, .int x), (3, .ref sp), (4, .ref q)]) d_FileReader_run_151 (by decide) rfl ?_
                  refine pb_iincN (pc := 153) (c := 1) d_FileReader_run_153 2 rfl (by decide) (by decide) (fun i100 ei100 => ?_)
                  have ti100 : i100.toInt = k.toInt + 1 := t2_add ei100 rfl (by decide) (by (exact omg_880dfb5173 fh19 u8 hk hu8 tw51))
                  refine pb_eq (pc' := 156) (lo' := [(11, .int i100), (10, .int i99), (9, .int r_55), (6, .int en_), (7, .long dr), (5, .int e_), (0, .ref h), (1, .ref b), (2, .int x), (3, .ref sp), (4, .ref q)]) (rest' := []) (ws' := [(h, .inr (7, [.ref b])), (sp, .inr (3, [.ref tn, .ref tz, .ref tb, .ref tg, .int c_56])), (tn, .inl (G.2.1, 384, .inl fn_57)), (tz, .inl (G.2.2.1, 16, .inl fz_58)), (tb, .inl (G.2.1, 12000, .inl fb_59)), (tg, .inl (G.2.2.1, 17, .inl fg_60)), (q, .inr (5, [.ref ex, .ref et, .ref ea, .ref eb, .ref ec, .ref ed, .ref ef, .ref er_61, .int at_62, .int en_63, .int fl_64])), (ex, .inr (0, [.ref ey, .int s2__65])), (ey, .inl (G.2.1, 4000, .inl xf_66)), (et, .inl (G.2.2.1, 316, .inl tf_67)), (ea, .inr (1, [.ref ea1, .ref ea2, .int eas])), (ea1, .inl (G.2.2.1, 16, .inl eac)), (ea2, .inl (G.2.2.1, 288, .inl eay)), (eb, .inr (1, [.ref eb1, .ref eb2, .int ebs])), (eb1, .inl (G.2.2.1, 16, .inl ebc)), (eb2, .inl (G.2.2.1, 32, .inl eby)), (ef, .inr (1, [.ref ef1, .ref ef2, .int efs_68])), (ef1, .inl (G.2.2.1, 16, .inl efc_69)), (ef2, .inl (G.2.2.1, 19, .inl efy_70)), (ec, .inr (1, [.ref ec1, .ref ec2, .int ecs_71])), (ec1, .inl (G.2.2.1, 16, .inl ecc_72)), (ec2, .inl (G.2.2.1, 286, .inl ecy_73)), (ed, .inr (1, [.ref ed1, .ref ed2, .int eds_74])), (ed1, .inl (G.2.2.1, 16, .inl edc_75)), (ed2, .inl (G.2.2.1, 30, .inl edy_76)), (b, .inl (G.2.1, N, .inl f))]) ?_
                  refine pb_goto (pc := 156) (tgt := 108) d_FileReader_run_156 (by decide) ?_
                  refine pb_re (ws' := [(h, .inr (7, [.ref b])), (b, .inl (G.2.1, N, .inl f)), (sp, .inr (3, [.ref tn, .ref tz, .ref tb, .ref tg, .int c_56])), (tn, .inl (G.2.1, 384, .inl fn_57)), (tz, .inl (G.2.2.1, 16, .inl fz_58)), (tb, .inl (G.2.1, 12000, .inl fb_59)), (tg, .inl (G.2.2.1, 17, .inl fg_60)), (q, .inr (5, [.ref ex, .ref et, .ref ea, .ref eb, .ref ec, .ref ed, .ref ef, .ref er_61, .int at_62, .int en_63, .int fl_64])), (ex, .inr (0, [.ref ey, .int s2__65])), (ey, .inl (G.2.1, 4000, .inl xf_66)), (et, .inl (G.2.2.1, 316, .inl tf_67)), (ea, .inr (1, [.ref ea1, .ref ea2, .int eas])), (ea1, .inl (G.2.2.1, 16, .inl eac)), (ea2, .inl (G.2.2.1, 288, .inl eay)), (eb, .inr (1, [.ref eb1, .ref eb2, .int ebs])), (eb1, .inl (G.2.2.1, 16, .inl ebc)), (eb2, .inl (G.2.2.1, 32, .inl eby)), (ef, .inr (1, [.ref ef1, .ref ef2, .int efs_68])), (ef1, .inl (G.2.2.1, 16, .inl efc_69)), (ef2, .inl (G.2.2.1, 19, .inl efy_70)), (ec, .inr (1, [.ref ec1, .ref ec2, .int ecs_71])), (ec1, .inl (G.2.2.1, 16, .inl ecc_72)), (ec2, .inl (G.2.2.1, 286, .inl ecy_73)), (ed, .inr (1, [.ref ed1, .ref ed2, .int eds_74])), (ed1, .inl (G.2.2.1, 16, .inl edc_75)), (ed2, .inl (G.2.2.1, 30, .inl edy_76))]) (lo' := [(11, .int i100), (10, .int i99), (9, .int r_55), (6, .int en_), (7, .long dr), (5, .int e_), (0, .ref h), (1, .ref b), (2, .int x), (3, .ref sp), (4, .ref q)]) [0, 25, 1, 2, 3, 4, 5, 6, 7, 8, 9, 10, 11, 12, 13, 14, 15, 16, 17, 18, 19, 20, 21, 22, 23, 24] [0, 1, 2, 3, 4, 5, 6, 7, 8, 9, 10] (by decide) rfl rfl rfl ?_
                  exact ih108 i100 i99 r_55 en_ e_ dr c_56 fn_57 fz_58 fb_59 fg_60 er_61 at_62 en_63 fl_64 s2__65 xf_66 tf_67 efs_68 efc_69 efy_70 ecs_71 ecc_72 ecy_73 eds_74 edc_75 edy_76 fh87 fh88 fh89 (by first | (with_reducible assumption) | (exact omg_c14412231a hk ti100) | assumption | omega | decide) (by first | (with_reducible assumption) | (exact omg_1d77bbf042 tw51 ti100) | assumption | omega | decide) (by first | (with_reducible assumption) | omega (splitDisjunctions := false) | assumption | omega | decide) (by first | (with_reducible assumption) | omega (splitDisjunctions := false) | assumption | omega | decide) (by first | (with_reducible assumption) | omega (splitDisjunctions := false) | assumption | omega | decide) (by rw [show i100.toInt = k.toInt + 1 by omega, d1]; (exact omg_799cf5ff21 fh96 ti98 ti99)) He Hd (by first | assumption | decide | omega) (by first | (with_reducible assumption) | omega (splitDisjunctions := false) | assumption | omega | decide) (by first | (with_reducible assumption) | omega (splitDisjunctions := false) | assumption | omega | decide) (by first | assumption | decide | omega) (by first | (with_reducible assumption) | omega (splitDisjunctions := false) | assumption | omega | decide) (by first | assumption | decide | omega) (by first | (with_reducible assumption) | omega (splitDisjunctions := false) | assumption | omega | decide) (by first | assumption | decide | omega) (by first | (with_reducible assumption) | omega (splitDisjunctions := false) | assumption | omega | decide) (by rw [show i100.toInt.toNat = k.toInt.toNat + 1 by (exact omg_c719e3dd87 hk ti100), hz1.2.2]; (exact omg_09e96b719d u28 ti98 ti99)) hD5 hE5 (by first | (with_reducible assumption) | omega (splitDisjunctions := false) | assumption | omega | decide) (by first | (with_reducible assumption) | omega (splitDisjunctions := false) | assumption | omega | decide) (by first | (with_reducible assumption) | omega (splitDisjunctions := false) | assumption | omega | decide) (by obtain ⟨W7, enG, rcG⟩ := hid_o enF; exact hid_i ⟨W7, by rw [show i100.toInt.toNat = k.toInt.toNat + 1 by omega]; exact rs_s rsF (by omega) (by rw [← hz]; exact enG), rcG⟩) (by (exact omg_7c8a06b1f5 hm9 tw51 ti100))
          refine pb_re (ws' := [(h, .inr (7, [.ref b])), (b, .inl (G.2.1, N, .inl f)), (sp, .inr (3, [.ref tn, .ref tz, .ref tb, .ref tg, .int 0])), (tn, .inl (G.2.1, 384, .inl tfn)), (tz, .inl (G.2.2.1, 16, .inl tfz)), (tb, .inl (G.2.1, 12000, .inl tfb)), (tg, .inl (G.2.2.1, 17, .inl g_3)), (q, .inr (5, [.ref ex, .ref et, .ref ea, .ref eb, .ref ec, .ref ed, .ref ef, .ref er, .int at_, .int en, .int fl])), (ex, .inr (0, [.ref ey, .int xs])), (ey, .inl (G.2.1, 4000, .inl xf)), (et, .inl (G.2.2.1, 316, .inl tf)), (ea, .inr (1, [.ref ea1, .ref ea2, .int eas])), (ea1, .inl (G.2.2.1, 16, .inl eac)), (ea2, .inl (G.2.2.1, 288, .inl eay)), (eb, .inr (1, [.ref eb1, .ref eb2, .int ebs])), (eb1, .inl (G.2.2.1, 16, .inl ebc)), (eb2, .inl (G.2.2.1, 32, .inl eby)), (ef, .inr (1, [.ref ef1, .ref ef2, .int efs])), (ef1, .inl (G.2.2.1, 16, .inl efc)), (ef2, .inl (G.2.2.1, 19, .inl efy)), (ec, .inr (1, [.ref ec1, .ref ec2, .int ecs])), (ec1, .inl (G.2.2.1, 16, .inl ecc)), (ec2, .inl (G.2.2.1, 286, .inl ecy)), (ed, .inr (1, [.ref ed1, .ref ed2, .int eds])), (ed1, .inl (G.2.2.1, 16, .inl edc)), (ed2, .inl (G.2.2.1, 30, .inl edy))]) (lo' := [(11, .int 0), (10, .int i49), (9, .int 0), (6, .int r_17), (7, .long r_25), (5, .int i5), (0, .ref h), (1, .ref b), (2, .int x), (3, .ref sp), (4, .ref q)]) [24, 25, 22, 0, 1, 2, 23, 3, 4, 5, 6, 7, 8, 9, 10, 11, 12, 13, 14, 15, 16, 17, 18, 19, 20, 21] [0, 1, 2, 4, 3, 5, 6, 7, 8, 9, 10] (by decide) rfl rfl rfl ?_
          exact hL108_50 _ 0 i49 0 r_17 i5 r_25 0 tfn tfz tfb g_3 er at_ en fl xs xf tf efs efc efy ecs ecc ecy eds edc edy F_tfn F_tfb F_xf (by first | (with_reducible assumption) | omega (splitDisjunctions := false) | assumption | omega | decide) (by first | (with_reducible assumption) | (exact omg_716964f056 zl0 fh18) | assumption | omega | decide) (by first | (with_reducible assumption) | omega (splitDisjunctions := false) | assumption | omega | decide) (by first | (with_reducible assumption) | (exact omg_8029ddfc60 fh33 tj36 tj37 lc5) | assumption | omega | decide) (by first | (with_reducible assumption) | omega (splitDisjunctions := false) | assumption | omega | decide) (by rw [zl0, dp_0]; omega) hd.1 (fun j h0 h1 => hd.2 j h0 h1) (by first | assumption | decide | omega) (by first | (with_reducible assumption) | omega (splitDisjunctions := false) | assumption | omega | decide) (by first | (with_reducible assumption) | omega (splitDisjunctions := false) | assumption | omega | decide) (by first | assumption | decide | omega) (by first | (with_reducible assumption) | omega (splitDisjunctions := false) | assumption | omega | decide) (by first | assumption | decide | omega) (by first | (with_reducible assumption) | omega (splitDisjunctions := false) | assumption | omega | decide) (by first | assumption | decide | omega) (by first | (with_reducible assumption) | omega (splitDisjunctions := false) | assumption | omega | decide) (by rw [show (0 : Int32).toInt.toNat = 0 by omega]; show _ = (r_25 : Int64).toInt; omega) (by rw [show (r_25 : Int64).toInt = aw A (x.toInt - 22 + 16) 4 by omega, show (i5 : Int32).toInt = x.toInt - 22 by omega, show (r_17 : Int32).toInt = aw A (x.toInt - 22 + 8) 2 by omega]; exact dyY) ⟨by (exact omg_323c347f16 ti5 tw6), edY⟩ (by first | (with_reducible assumption) | omega (splitDisjunctions := false) | assumption | omega | decide) (by first | (with_reducible assumption) | omega (splitDisjunctions := false) | assumption | omega | decide) (by first | (with_reducible assumption) | omega (splitDisjunctions := false) | assumption | (exact omg_91d728ae1e ti5 u16 u12 tj36 tj37 lc5) | decide) (hid_i ⟨nl_, by rw [show (0 : Int32).toInt.toNat = 0 by omega]; exact rs_0 (by first | omega | decide), fun _ => by rw [show (0 : Int32).toInt = 0 by first | omega | decide]; exact rC_nil rfl⟩) (Nat.lt_succ_self _)
        · have tw48 : r_43.toInt = 0 := (ti_eq rfl (by decide)).mp w48
          refine pb_iconst (pc := 95) (v := 2) d_FileReader_run_95 (by decide) ?_
          exact pb_iret (pc := 96) hQ d_FileReader_run_96 rfl rfl (2, 0, tfn, tfz, tfb, g_3, er, at_, en, fl, xs, xf, tf, efs, efc, efy, ecs, ecc, ecy, eds, edc, edy) ⟨rfl, (by (try dsimp only); first | done | assumption | decide | omega), (by (try dsimp only); first | done | (with_reducible assumption) | omega (splitDisjunctions := false) | assumption | omega | decide), (by (try dsimp only); first | done | (with_reducible assumption) | omega (splitDisjunctions := false) | assumption | omega | decide), (by (try dsimp only); first | done | assumption | decide | omega), (by (try dsimp only); first | done | (with_reducible assumption) | omega (splitDisjunctions := false) | assumption | omega | decide), (by (try dsimp only); first | done | assumption | decide | omega), (by (try dsimp only); first | done | (with_reducible assumption) | omega (splitDisjunctions := false) | assumption | omega | decide), (by (try dsimp only); first | done | assumption | decide | omega), (by (try dsimp only); first | done | (with_reducible assumption) | omega (splitDisjunctions := false) | assumption | omega | decide), (show hid_ (∃ W : VW_, rd_ A x.toInt (2 : Int32).toInt W ∧ ((2 : Int32).toInt = 0 → rC_ (0 : Int32).toInt tfn tfz tfb g_3 W)) from (hid_i ⟨nl_, rd_2 (by first | decide | omega) ⟨by (exact omg_323c347f16 ti5 tw6), edY⟩ (by first | exact fun q9 => hid_o dyF0 (by omega) q9.2 | exact fun q9 => absurd q9.1 (by omega)), fun q9 => absurd q9 (by first | decide | omega)⟩)), F_tfn, F_tfb, F_xf⟩ [24, 25, 22, 0, 1, 2, 23, 3, 4, 5, 6, 7, 8, 9, 10, 11, 12, 13, 14, 15, 16, 17, 18, 19, 20, 21] (by decide) rfl rfl (by decide) (by decide)
    · have tw13 : r_9.toInt = 0 := (ti_eq rfl (by decide)).mp w13
      refine pb_iconst (pc := 29) (v := 1) d_FileReader_run_29 (by decide) ?_
      exact pb_iret (pc := 30) hQ d_FileReader_run_30 rfl rfl (1, 0, tfn, tfz, tfb, g_3, er, at_, en, fl, xs, xf, tf, efs, efc, efy, ecs, ecc, ecy, eds, edc, edy) ⟨rfl, (by (try dsimp only); first | done | assumption | decide | omega), (by (try dsimp only); first | done | (with_reducible assumption) | omega (splitDisjunctions := false) | assumption | omega | decide), (by (try dsimp only); first | done | (with_reducible assumption) | omega (splitDisjunctions := false) | assumption | omega | decide), (by (try dsimp only); first | done | assumption | decide | omega), (by (try dsimp only); first | done | (with_reducible assumption) | omega (splitDisjunctions := false) | assumption | omega | decide), (by (try dsimp only); first | done | assumption | decide | omega), (by (try dsimp only); first | done | (with_reducible assumption) | omega (splitDisjunctions := false) | assumption | omega | decide), (by (try dsimp only); first | done | assumption | decide | omega), (by (try dsimp only); first | done | (with_reducible assumption) | omega (splitDisjunctions := false) | assumption | omega | decide), (show hid_ (∃ W : VW_, rd_ A x.toInt (1 : Int32).toInt W ∧ ((1 : Int32).toInt = 0 → rC_ (0 : Int32).toInt tfn tfz tfb g_3 W)) from (hid_i ⟨nl_, rd_1 (by first | decide | omega) (by first | exact fun q9 => hid_o edF0 (by omega) q9.2 | exact fun q9 => absurd q9.1 (by omega)), fun q9 => absurd q9 (by first | decide | omega)⟩)), F_tfn, F_tfb, F_xf⟩ [24, 25, 22, 0, 1, 2, 23, 3, 4, 5, 6, 7, 8, 9, 10, 11, 12, 13, 14, 15, 16, 17, 18, 19, 20, 21] (by decide) rfl rfl (by decide) (by decide)
/-! ROWS OF NUMBERS -/
theorem omg_9b35dc6088 {x0 : Int} {x1 : Int} (a0 : (((x0 = x1) ∧ (x1 ≤ (6 : Int))) ∨ ((x0 = (6 : Int)) ∧ ((6 : Int) ≤ x1)))) (a1 : (x1 = (0 : Int))) : ((Int.toNat x0) = (0 : Nat)) := by omega
theorem omg_feeafdd60a {x0 : Int} {x1 : Int} (a0 : (((x0 = x1) ∧ (x1 ≤ (6 : Int))) ∨ ((x0 = (6 : Int)) ∧ ((6 : Int) ≤ x1)))) (a1 : (x1 = (1 : Int))) : ((Int.toNat x0) = (1 : Nat)) := by omega
theorem omg_cf7e839a53 {x0 : Int} {x1 : Int} (a0 : (((x0 = x1) ∧ (x1 ≤ (6 : Int))) ∨ ((x0 = (6 : Int)) ∧ ((6 : Int) ≤ x1)))) (a1 : (x1 = (2 : Int))) : ((Int.toNat x0) = (2 : Nat)) := by omega
theorem omg_535a05ac42 {x0 : Int} {x1 : Int} {x2 : Int} {x3 : Int} {x4 : Int} {x5 : Int} {x6 : Int} (a0 : (x0 = (x1 - (96 : Int)))) (a1 : (x2 = ((((27 : Int) * x0) + x3) - (96 : Int)))) (a2 : (x4 = (2 : Int))) (a3 : (x5 = x2)) (a4 : (((97 : Int) ≤ x3) ∧ (x3 ≤ (122 : Int)))) (a5 : ((x5 = (344 : Int)) ∧ (x6 = (60 : Int)))) : ((x4 = (2 : Int)) ∧ ((x1 = (108 : Int)) ∧ (x3 = (116 : Int)))) := by omega
theorem omg_9f77401627 {x0 : Int} {x1 : Int} (a0 : (((x0 = x1) ∧ (x1 ≤ (6 : Int))) ∨ ((x0 = (6 : Int)) ∧ ((6 : Int) ≤ x1)))) (a1 : (x1 = (3 : Int))) : ((Int.toNat x0) = (3 : Nat)) := by omega
theorem omg_1ad0792003 {x0 : Int} {x1 : Int} {x2 : Int} {x3 : Int} {x4 : Int} {x5 : Int} {x6 : Int} {x7 : Int} {x8 : Int} (a0 : (x0 = (x1 - (96 : Int)))) (a1 : (x2 = ((((27 : Int) * x0) + x3) - (96 : Int)))) (a2 : (x4 = ((((27 : Int) * x2) + x5) - (96 : Int)))) (a3 : (x6 = (3 : Int))) (a4 : (x7 = x4)) (a5 : (((97 : Int) ≤ x3) ∧ (x3 ≤ (122 : Int)))) (a6 : (((97 : Int) ≤ x5) ∧ (x5 ≤ (122 : Int)))) (a7 : ((x7 = (1096 : Int)) ∧ (x8 = (38 : Int)))) : ((x6 = (3 : Int)) ∧ ((x1 = (97 : Int)) ∧ ((x3 = (109 : Int)) ∧ (x5 = (112 : Int))))) := by omega
theorem omg_67a86a9f1f {x0 : Int} {x1 : Int} (a0 : (((x0 = x1) ∧ (x1 ≤ (6 : Int))) ∨ ((x0 = (6 : Int)) ∧ ((6 : Int) ≤ x1)))) (a1 : (x1 = (4 : Int))) : ((Int.toNat x0) = (4 : Nat)) := by omega
theorem omg_9f272434c0 {x0 : Int} {x1 : Int} {x2 : Int} {x3 : Int} {x4 : Int} {x5 : Int} {x6 : Int} {x7 : Int} {x8 : Int} {x9 : Int} {x10 : Int} (a0 : (x0 = (x1 - (96 : Int)))) (a1 : (x2 = ((((27 : Int) * x0) + x3) - (96 : Int)))) (a2 : (x4 = ((((27 : Int) * x2) + x5) - (96 : Int)))) (a3 : (x6 = ((((27 : Int) * x4) + x7) - (96 : Int)))) (a4 : (x8 = (4 : Int))) (a5 : (x9 = x6)) (a6 : (((97 : Int) ≤ x3) ∧ (x3 ≤ (122 : Int)))) (a7 : (((97 : Int) ≤ x5) ∧ (x5 ≤ (122 : Int)))) (a8 : (((97 : Int) ≤ x7) ∧ (x7 ≤ (122 : Int)))) (a9 : ((x9 = (350345 : Int)) ∧ (x10 = (34 : Int)))) : ((x8 = (4 : Int)) ∧ ((x1 = (113 : Int)) ∧ ((x3 = (117 : Int)) ∧ ((x5 = (111 : Int)) ∧ (x7 = (116 : Int)))))) := by omega
theorem omg_7c2f854cde {x0 : Int} {x1 : Int} {x2 : Int} {x3 : Int} {x4 : Int} {x5 : Int} {x6 : Int} {x7 : Int} {x8 : Int} {x9 : Int} {x10 : Int} (a0 : (x0 = (x1 - (96 : Int)))) (a1 : (x2 = ((((27 : Int) * x0) + x3) - (96 : Int)))) (a2 : (x4 = ((((27 : Int) * x2) + x5) - (96 : Int)))) (a3 : (x6 = ((((27 : Int) * x4) + x7) - (96 : Int)))) (a4 : (x8 = (4 : Int))) (a5 : (x9 = x6)) (a6 : (((97 : Int) ≤ x3) ∧ (x3 ≤ (122 : Int)))) (a7 : (((97 : Int) ≤ x5) ∧ (x5 ≤ (122 : Int)))) (a8 : (((97 : Int) ≤ x7) ∧ (x7 ≤ (122 : Int)))) (a9 : ((x9 = (31771 : Int)) ∧ (x10 = (39 : Int)))) : ((x8 = (4 : Int)) ∧ ((x1 = (97 : Int)) ∧ ((x3 = (112 : Int)) ∧ ((x5 = (111 : Int)) ∧ (x7 = (115 : Int)))))) := by omega
theorem omg_aba1d320db {x0 : Int} {x1 : Int} (a0 : (((x0 = x1) ∧ (x1 ≤ (6 : Int))) ∨ ((x0 = (6 : Int)) ∧ ((6 : Int) ≤ x1)))) (a1 : (x1 = (5 : Int))) : ((Int.toNat x0) = (5 : Nat)) := by omega
theorem omg_8456cbc76d {x0 : Int} {x1 : Int} {x2 : Int} {x3 : Int} {x4 : Int} {x5 : Int} {x6 : Int} {x7 : Int} {x8 : Int} {x9 : Int} {x10 : Int} {x11 : Int} {x12 : Int} (a0 : (((x0 = (1096 : Int)) ∧ (x1 = (38 : Int))) ∨ (((x0 = (344 : Int)) ∧ (x1 = (60 : Int))) ∨ (((x0 = (209 : Int)) ∧ (x1 = (62 : Int))) ∨ (((x0 = (350345 : Int)) ∧ (x1 = (34 : Int))) ∨ (((x0 = (31771 : Int)) ∧ (x1 = (39 : Int))) ∨ ((¬ (x0 = (1096 : Int))) ∧ ((¬ (x0 = (344 : Int))) ∧ ((¬ (x0 = (209 : Int))) ∧ ((¬ (x0 = (350345 : Int))) ∧ ((¬ (x0 = (31771 : Int))) ∧ (x1 = (0 : Int))))))))))))) (a1 : (x2 = (x3 - (96 : Int)))) (a2 : (x4 = ((((27 : Int) * x2) + x5) - (96 : Int)))) (a3 : (x6 = ((((27 : Int) * x4) + x7) - (96 : Int)))) (a4 : (x8 = ((((27 : Int) * x6) + x9) - (96 : Int)))) (a5 : (x10 = ((((27 : Int) * x8) + x11) - (96 : Int)))) (a6 : (x0 = x10)) (a7 : (((97 : Int) ≤ x3) ∧ (x3 ≤ (122 : Int)))) (a8 : (((97 : Int) ≤ x5) ∧ (x5 ≤ (122 : Int)))) (a9 : (((97 : Int) ≤ x7) ∧ (x7 ≤ (122 : Int)))) (a10 : (((97 : Int) ≤ x9) ∧ (x9 ≤ (122 : Int)))) (a11 : (((97 : Int) ≤ x11) ∧ (x11 ≤ (122 : Int)))) (a12 : (x12 = (0 : Int))) : (x1 = x12) := by omega
theorem omg_034d1e5524 {x0 : Int} {x1 : Int} (a0 : (((x0 = x1) ∧ (x1 ≤ (6 : Int))) ∨ ((x0 = (6 : Int)) ∧ ((6 : Int) ≤ x1)))) (a1 : ((6 : Int) ≤ x1)) : ((Int.toNat x0) = (6 : Nat)) := by omega
theorem omg_a2a1e2938a {x0 : Int} {x1 : Int} {x2 : Int} {x3 : Int} {x4 : Int} {x5 : Int} {x6 : Int} {x7 : Int} {x8 : Int} {x9 : Int} {x10 : Int} {x11 : Int} {x12 : Int} {x13 : Int} (a0 : (((x0 = (1096 : Int)) ∧ (x1 = (38 : Int))) ∨ (((x0 = (344 : Int)) ∧ (x1 = (60 : Int))) ∨ (((x0 = (209 : Int)) ∧ (x1 = (62 : Int))) ∨ (((x0 = (350345 : Int)) ∧ (x1 = (34 : Int))) ∨ (((x0 = (31771 : Int)) ∧ (x1 = (39 : Int))) ∨ ((¬ (x0 = (1096 : Int))) ∧ ((¬ (x0 = (344 : Int))) ∧ ((¬ (x0 = (209 : Int))) ∧ ((¬ (x0 = (350345 : Int))) ∧ ((¬ (x0 = (31771 : Int))) ∧ (x1 = (0 : Int))))))))))))) (a1 : (x2 = ((((27 : Int) * x3) + x4) - (96 : Int)))) (a2 : (x5 = ((((27 : Int) * x2) + x6) - (96 : Int)))) (a3 : (x7 = ((((27 : Int) * x5) + x8) - (96 : Int)))) (a4 : (x9 = ((((27 : Int) * x7) + x10) - (96 : Int)))) (a5 : (x11 = ((((27 : Int) * x9) + x12) - (96 : Int)))) (a6 : (x0 = x11)) (a7 : (((97 : Int) ≤ x4) ∧ (x4 ≤ (122 : Int)))) (a8 : (((97 : Int) ≤ x6) ∧ (x6 ≤ (122 : Int)))) (a9 : (((97 : Int) ≤ x8) ∧ (x8 ≤ (122 : Int)))) (a10 : (((97 : Int) ≤ x10) ∧ (x10 ≤ (122 : Int)))) (a11 : (((97 : Int) ≤ x12) ∧ (x12 ≤ (122 : Int)))) (a12 : (x13 = (0 : Int))) : (x1 = x13) := by omega
theorem omg_fa71de776b {x0 : Int} (a0 : (((x0 + (2 : Int)) % (2 : Int)) = (1 : Int))) : ((x0 % (2 : Int)) = (1 : Int)) := by omega
/-! THE MARKUP: the pure picture; B the bytes, n how many -/
def cm_ (B : Int → Int32) (n j : Int) : Int := if 0 ≤ j ∧ j < n then (B j &&& 255).toInt else -1
theorem cm_rng (B : Int → Int32) (n j : Int) : -1 ≤ cm_ B n j ∧ cm_ B n j ≤ 255 := by
  unfold cm_
  by_cases c : 0 ≤ j ∧ j < n
  · rw [if_pos c]
    have h := ti_and (z := B j &&& 255) (m := 255) (b := 255) 8 rfl (by decide) (by decide)
    omega
  · rw [if_neg c]
    omega
theorem cm_in {B : Int → Int32} {n j : Int} (h : 0 ≤ cm_ B n j) : j < n := by
  unfold cm_ at h
  by_cases c : 0 ≤ j ∧ j < n
  · exact c.2
  · rw [if_neg c] at h
    omega
theorem cm_out {B : Int → Int32} {n j : Int} (h : ¬ j < n) : cm_ B n j = -1 := if_neg (fun q => h q.2)
theorem cm_at {B : Int → Int32} {n j : Int} (h0 : 0 ≤ j) (h : j < n) : cm_ B n j = (B j &&& 255).toInt := if_pos ⟨h0, h⟩
theorem cm_ld {B : Int → Int32} {n j : Int} {x z : Int32} (hz : z = x &&& 255) (hx : x = B j) (h0 : 0 ≤ j) (hj : j < n) : z.toInt = cm_ B n j := by
  rw [cm_at h0 hj, ← hx, hz]
theorem cm_sg {B : Int → Int32} {n j : Int} {x : Int32} (hx : x = B j) (hf : -128 ≤ x.toInt ∧ x.toInt ≤ 127) (h0 : 0 ≤ j) (hj : j < n) : (0 ≤ x.toInt ∧ cm_ B n j = x.toInt) ∨ (x.toInt < 0 ∧ 128 ≤ cm_ B n j) := by
  have e : cm_ B n j = x.toInt % 256 := by rw [cm_at h0 hj, ← hx]; exact ti_255 rfl
  omega
theorem cm_g {B B' : Int → Int32} {n : Int} (h : ∀ j : Int, 0 ≤ j → j < n → B j = B' j) (j : Int) : cm_ B n j = cm_ B' n j := by
  unfold cm_
  by_cases c : 0 ≤ j ∧ j < n
  · rw [if_pos c, if_pos c, h j c.1 c.2]
  · rw [if_neg c, if_neg c]
/-- a state that may be bad; an answer with a place -/
def om_ (b a : Int) : Option Int := if b = 0 then some a else none
def oy_ (r a : Int) : Option Int := if r = 0 then none else some a
theorem om_t {b a : Int} (h : b = 0) : om_ b a = some a := if_pos h
theorem om_f {b a : Int} (h : ¬ b = 0) : om_ b a = none := if_neg h
theorem oy_t {r a : Int} (h : ¬ r = 0) : oy_ r a = some a := if_neg h
theorem oy_f {r a : Int} (h : r = 0) : oy_ r a = none := if_pos h
theorem om_e {b a a' : Int} (h : b = 0 → a = a') : om_ b a = om_ b a' := by
  by_cases c : b = 0
  · rw [h c]
  · rw [om_f c, om_f c]
theorem om_n {b a : Int} (h : om_ b a = none) : ¬ b = 0 := fun c => by
  rw [om_t c] at h
  exact absurd h (by simp)
theorem om_s {b a p : Int} (h : om_ b a = some p) : b = 0 ∧ a = p := by
  by_cases c : b = 0
  · rw [om_t c] at h
    exact ⟨c, Option.some.inj h⟩
  · rw [om_f c] at h
    exact absurd h (by simp)
theorem oy_n {r a : Int} (h : oy_ r a = none) : r = 0 := by
  by_cases c : r = 0
  · exact c
  · rw [oy_t c] at h
    exact absurd h (by simp)
theorem oy_s {r a p : Int} (h : oy_ r a = some p) : ¬ r = 0 ∧ a = p := by
  by_cases c : r = 0
  · rw [oy_f c] at h
    exact absurd h (by simp)
  · rw [oy_t c] at h
    exact ⟨c, Option.some.inj h⟩
/-- one byte -/
def nQ6_ (B : Int → Int32) (n c p : Int) : Option Int := if cm_ B n p = c then some p else none
def nd_ (B : Int → Int32) (n c p : Int) : Option Int := if cm_ B n p = c then some (p + 1) else none
theorem nd_y {B : Int → Int32} {n c p : Int} (h : cm_ B n p = c) : nd_ B n c p = some (p + 1) := if_pos h
theorem nd_x {B : Int → Int32} {n c p : Int} (h : ¬ cm_ B n p = c) : nd_ B n c p = none := if_neg h
theorem nQ6_t {B : Int → Int32} {n c p b : Int} (h : cm_ B n p = c) : om_ b p = (om_ b p).bind (nQ6_ B n c) := by
  by_cases w : b = 0
  · rw [om_t w]
    show some p = nQ6_ B n c p
    unfold nQ6_
    rw [if_pos h]
  · rw [om_f w]
    rfl
theorem nQ6_f {B : Int → Int32} {n c p b a v : Int} (hb : ¬ b = 0) (h : ¬ cm_ B n p = c) : om_ b a = (om_ v p).bind (nQ6_ B n c) := by
  rw [om_f hb]
  by_cases w : v = 0
  · rw [om_t w]
    show none = nQ6_ B n c p
    unfold nQ6_
    rw [if_neg h]
  · rw [om_f w]
    rfl
theorem nd_j {B : Int → Int32} {n c b a a2 : Int} {X : Option Int} (h : om_ b a = X.bind (nQ6_ B n c)) (hb : b = 0) (e : a2 = a + 1) : om_ b a2 = X.bind (nd_ B n c) := by
  rw [om_t hb] at h
  rw [om_t hb, e]
  cases X with
  | none => exact absurd h (by simp)
  | some p =>
    have h2 : some a = nQ6_ B n c p := h
    unfold nQ6_ at h2
    show some (a + 1) = nd_ B n c p
    by_cases w : cm_ B n p = c
    · rw [if_pos w] at h2
      rw [nd_y w, Option.some.inj h2]
    · rw [if_neg w] at h2
      exact absurd h2 (by simp)
theorem nd_k {B : Int → Int32} {n c b a a2 : Int} {X : Option Int} (h : om_ b a = X.bind (nQ6_ B n c)) (hb : ¬ b = 0) : om_ b a2 = X.bind (nd_ B n c) := by
  rw [om_f hb] at h
  rw [om_f hb]
  cases X with
  | none => rfl
  | some p =>
    have h2 : none = nQ6_ B n c p := h
    unfold nQ6_ at h2
    show none = nd_ B n c p
    by_cases w : cm_ B n p = c
    · rw [if_pos w] at h2
      exact absurd h2 (by simp)
    · rw [nd_x w]
/-- a text -/
def tx_ (T : List Int) (j : Int) : Int := T.getD j.toNat 0
def wk_ (B : Int → Int32) (n : Int) (t : Int → Int) : Nat → Int → Option Int
  | 0, p => some p
  | k + 1, p => (wk_ B n t k p).bind (nd_ B n (t k))
theorem wk_n {B : Int → Int32} {n k k2 c : Int} {t : Int → Int} {X Y Z : Option Int} (h : Y = X.bind (wk_ B n t k.toNat)) (h2 : Z = Y.bind (nd_ B n c)) (hc : c = t k) (h0 : 0 ≤ k) (hk : k2 = k + 1) : Z = X.bind (wk_ B n t k2.toNat) := by
  obtain ⟨m, hm⟩ : ∃ m : Nat, k = m := ⟨k.toNat, by omega⟩
  rw [h2, h, hk, show (k + 1).toNat = m + 1 by omega, show k.toNat = m by omega, hc, hm]
  cases X with
  | none => rfl
  | some p => rfl
theorem wk_0 {B : Int → Int32} {n k : Int} {t : Int → Int} {X : Option Int} (hk : k = 0) : X = X.bind (wk_ B n t k.toNat) := by
  rw [hk]
  cases X with
  | none => rfl
  | some p => rfl
theorem wk_c {B : Int → Int32} {n p : Int} {t u : Int → Int} : ∀ (m : Nat), (∀ j : Int, 0 ≤ j → j < m → t j = u j) → wk_ B n t m p = wk_ B n u m p
  | 0, _ => rfl
  | m + 1, h => by
    show (wk_ B n t m p).bind (nd_ B n (t m)) = (wk_ B n u m p).bind (nd_ B n (u m))
    rw [wk_c m (fun j a b => h j a (by omega)), h m (by omega) (by omega)]
theorem wk_up {B : Int → Int32} {n p : Int} {t : Int → Int} : ∀ (m : Nat) {q : Int}, wk_ B n t m p = some q → (∀ j : Int, 0 ≤ j → j < m → 0 ≤ t j) → p ≤ n → q = p + m ∧ q ≤ n
  | 0, q, e, _, h => by
    have e2 : p = q := Option.some.inj e
    omega
  | m + 1, q, e, h0, h => by
    have e2 : (wk_ B n t m p).bind (nd_ B n (t m)) = some q := e
    cases c : wk_ B n t m p with
    | none =>
      rw [c] at e2
      exact absurd e2 (by simp)
    | some r =>
      have ih := wk_up m c (fun j a b => h0 j a (by omega)) h
      rw [c] at e2
      have e3 : nd_ B n (t m) r = some q := e2
      by_cases w : cm_ B n r = t m
      · rw [nd_y w] at e3
        have e4 := Option.some.inj e3
        have l := cm_in (B := B) (n := n) (j := r) (by rw [w]; exact h0 m (by omega) (by omega))
        omega
      · rw [nd_x w] at e3
        exact absurd e3 (by simp)
/-- as far as bytes of a kind go -/
def rn_ (Q : Int → Bool) (B : Int → Int32) (n : Int) : Nat → Int → Int
  | 0, p => p
  | m + 1, p => if Q (cm_ B n p) = true then rn_ Q B n m (p + 1) else p
def rF_ (Q : Int → Bool) (B : Int → Int32) (n p : Int) : Int := rn_ Q B n (n - p).toNat p
theorem rF_y {Q : Int → Bool} {B : Int → Int32} {n p : Int} (hp : p < n) (h : Q (cm_ B n p) = true) : rF_ Q B n p = rF_ Q B n (p + 1) := by
  unfold rF_
  rw [show (n - p).toNat = (n - (p + 1)).toNat + 1 by omega]
  exact if_pos h
theorem rF_n {Q : Int → Bool} {B : Int → Int32} {n p : Int} (h : ¬ Q (cm_ B n p) = true) : rF_ Q B n p = p := by
  unfold rF_
  cases (n - p).toNat with
  | zero => rfl
  | succ m => exact if_neg h
theorem rF_o {Q : Int → Bool} {B : Int → Int32} {n p : Int} (h : ¬ p < n) : rF_ Q B n p = p := by
  unfold rF_
  rw [show (n - p).toNat = 0 by omega]
  rfl
theorem rn_le {Q : Int → Bool} {B : Int → Int32} {n : Int} : ∀ (m : Nat) (p : Int), p ≤ rn_ Q B n m p ∧ rn_ Q B n m p ≤ p + m
  | 0, p => ⟨Int.le_refl _, by show p ≤ p + ((0 : Nat) : Int); omega⟩
  | m + 1, p => by
    have ih := rn_le (Q := Q) (B := B) (n := n) m (p + 1)
    show p ≤ (if Q (cm_ B n p) = true then rn_ Q B n m (p + 1) else p) ∧ (if Q (cm_ B n p) = true then rn_ Q B n m (p + 1) else p) ≤ p + ((m + 1 : Nat) : Int)
    by_cases c : Q (cm_ B n p) = true
    · rw [if_pos c]
      omega
    · rw [if_neg c]
      omega
theorem rF_le {Q : Int → Bool} {B : Int → Int32} {n p : Int} (h : p ≤ n) : p ≤ rF_ Q B n p ∧ rF_ Q B n p ≤ n := by
  have q := rn_le (Q := Q) (B := B) (n := n) (n - p).toNat p
  unfold rF_
  omega
theorem rn_al {Q : Int → Bool} {B : Int → Int32} {n : Int} : ∀ (m : Nat) (p j : Int), p ≤ j → j < rn_ Q B n m p → Q (cm_ B n j) = true
  | 0, p, j, h, h1 => by
    have h2 : j < p := h1
    omega
  | m + 1, p, j, h, h1 => by
    have h2 : j < (if Q (cm_ B n p) = true then rn_ Q B n m (p + 1) else p) := h1
    by_cases c : Q (cm_ B n p) = true
    · rw [if_pos c] at h2
      by_cases w : j = p
      · rw [w]
        exact c
      · exact rn_al m (p + 1) j (by omega) h2
    · rw [if_neg c] at h2
      omega
def sp_c (c : Int) : Bool := decide (c = 32 ∨ c = 9 ∨ c = 10 ∨ c = 13)
def le_c2 (c : Int) : Bool := decide (97 ≤ c ∧ c ≤ 122)
def sF (B : Int → Int32) (n p : Int) : Int := rF_ sp_c B n p
def lF (B : Int → Int32) (n p : Int) : Int := rF_ le_c2 B n p
theorem sF_le {B : Int → Int32} {n p : Int} (h : p ≤ n) : p ≤ sF B n p ∧ sF B n p ≤ n := rF_le h
theorem lF_le {B : Int → Int32} {n p : Int} (h : p ≤ n) : p ≤ lF B n p ∧ lF B n p ≤ n := rF_le h
theorem sp_i {c : Int} : (sp_c c = true) ↔ (c = 32 ∨ c = 9 ∨ c = 10 ∨ c = 13) := by
  unfold sp_c
  exact decide_eq_true_iff
theorem le_i {c : Int} : (le_c2 c = true) ↔ (97 ≤ c ∧ c ≤ 122) := by
  unfold le_c2
  exact decide_eq_true_iff
theorem lF_al {B : Int → Int32} {n p j : Int} (h : p ≤ j) (h1 : j < lF B n p) : 97 ≤ cm_ B n j ∧ cm_ B n j ≤ 122 := le_i.mp (rn_al _ p j h h1)
theorem sF_y {B : Int → Int32} {n p q : Int} (h : sp_c (cm_ B n p) = true) (e : q = p + 1) : sF B n q = sF B n p := by
  have w := sp_i.mp h
  have l := cm_in (B := B) (n := n) (j := p) (by omega)
  rw [e]
  exact (rF_y l h).symm
theorem sF_n {B : Int → Int32} {n p : Int} (h : ¬ sp_c (cm_ B n p) = true) : sF B n p = p := rF_n h
theorem sF_o {B : Int → Int32} {n p : Int} (h : ¬ p < n) : sF B n p = p := rF_o h
theorem lF_y {B : Int → Int32} {n p q : Int} (h : 97 ≤ cm_ B n p ∧ cm_ B n p ≤ 122) (e : q = p + 1) : lF B n q = lF B n p := by
  have l := cm_in (B := B) (n := n) (j := p) (by omega)
  rw [e]
  exact (rF_y l (le_i.mpr h)).symm
theorem lF_n {B : Int → Int32} {n p : Int} (h : ¬ (97 ≤ cm_ B n p ∧ cm_ B n p ≤ 122)) : lF B n p = p := rF_n (fun q => h (le_i.mp q))
theorem lF_o {B : Int → Int32} {n p : Int} (h : ¬ p < n) : lF B n p = p := rF_o h
/-- the reference's space -/
theorem sS_y {B : Int → Int32} {n b a a2 : Int} {X : Option Int} (h : (om_ b a).map (sF B n) = X) (hs : sp_c (cm_ B n a) = true) (e : a2 = a + 1) : (om_ b a2).map (sF B n) = X := by
  rw [← h]
  by_cases w : b = 0
  · rw [om_t w, om_t w]
    show some (sF B n a2) = some (sF B n a)
    rw [sF_y hs e]
  · rw [om_f w, om_f w]
theorem sS_n {B : Int → Int32} {n b a : Int} {X : Option Int} (h : (om_ b a).map (sF B n) = X) (hs : ¬ sp_c (cm_ B n a) = true) : om_ b a = X := by
  rw [← h]
  by_cases w : b = 0
  · rw [om_t w]
    show some a = some (sF B n a)
    rw [sF_n hs]
  · rw [om_f w]
    rfl
theorem sS_b {B : Int → Int32} {n b a : Int} {X : Option Int} (h : (om_ b a).map (sF B n) = X) (hb : ¬ b = 0) : om_ b a = X := by
  rw [← h, om_f hb]
  rfl
/-- up to two dashes -/
def dh_ (B : Int → Int32) (n : Int) : Nat → Int → Int
  | 0, p => p
  | m + 1, p => if cm_ B n p = 45 ∧ cm_ B n (p + 1) = 45 then p else dh_ B n m (p + 1)
def dF (B : Int → Int32) (n p : Int) : Int := dh_ B n (n - p).toNat p
theorem dF_y {B : Int → Int32} {n p : Int} (h : cm_ B n p = 45) (h' : cm_ B n (p + 1) = 45) : dF B n p = p := by
  unfold dF
  cases (n - p).toNat with
  | zero => rfl
  | succ m => exact if_pos ⟨h, h'⟩
theorem dF_n {B : Int → Int32} {n p : Int} (hp : p < n) (h : ¬ (cm_ B n p = 45 ∧ cm_ B n (p + 1) = 45)) : dF B n p = dF B n (p + 1) := by
  unfold dF
  rw [show (n - p).toNat = (n - (p + 1)).toNat + 1 by omega]
  exact if_neg h
theorem dF_o {B : Int → Int32} {n p : Int} (h : ¬ p < n) : dF B n p = p := by
  unfold dF
  rw [show (n - p).toNat = 0 by omega]
  rfl
theorem dh_le {B : Int → Int32} {n : Int} : ∀ (m : Nat) (p : Int), p ≤ dh_ B n m p ∧ dh_ B n m p ≤ p + m
  | 0, p => ⟨Int.le_refl _, by show p ≤ p + ((0 : Nat) : Int); omega⟩
  | m + 1, p => by
    have ih := dh_le (B := B) (n := n) m (p + 1)
    show p ≤ (if cm_ B n p = 45 ∧ cm_ B n (p + 1) = 45 then p else dh_ B n m (p + 1)) ∧ (if cm_ B n p = 45 ∧ cm_ B n (p + 1) = 45 then p else dh_ B n m (p + 1)) ≤ p + ((m + 1 : Nat) : Int)
    by_cases c : cm_ B n p = 45 ∧ cm_ B n (p + 1) = 45
    · rw [if_pos c]
      omega
    · rw [if_neg c]
      omega
theorem dF_le {B : Int → Int32} {n p : Int} (h : p ≤ n) : p ≤ dF B n p ∧ dF B n p ≤ n := by
  have q := dh_le (B := B) (n := n) (n - p).toNat p
  unfold dF
  omega
/-- a comment, and what is behind its first four bytes -/
def tC_ : Int → Int := tx_ [60, 33, 45, 45]
def tD_ : Int → Int := tx_ [45, 45, 62]
def dD_ (B : Int → Int32) (n p : Int) : Option Int := wk_ B n tD_ 3 (dF B n p)
def cF (B : Int → Int32) (n p : Int) : Option Int := (wk_ B n tC_ 4 p).bind (dD_ B n)
theorem tx_nn {T : List Int} (h : ∀ c ∈ T, 0 ≤ c) (j : Int) : 0 ≤ tx_ T j := by
  unfold tx_
  rw [List.getD_eq_getElem?_getD]
  cases c : T[j.toNat]? with
  | none => exact Int.le_refl 0
  | some x => exact h x (List.mem_of_getElem? c)
theorem cF_up {B : Int → Int32} {n p q : Int} (h : cF B n p = some q) (hp : p ≤ n) : p + 7 ≤ q ∧ q ≤ n := by
  unfold cF at h
  cases c : wk_ B n tC_ 4 p with
  | none =>
    rw [c] at h
    exact absurd h (by simp)
  | some r =>
    have u := wk_up 4 c (fun j _ _ => tx_nn (by decide) j) hp
    rw [c] at h
    have h2 : wk_ B n tD_ 3 (dF B n r) = some q := h
    have d := dF_le (B := B) u.2
    have u2 := wk_up 3 h2 (fun j _ _ => tx_nn (by decide) j) d.2
    omega
def ga_ (B : Int → Int32) (n : Int) : Nat → Int → Option Int
  | 0, _ => none
  | m + 1, p => if cm_ B n (sF B n p) = 60 ∧ cm_ B n (sF B n p + 1) = 33 then (cF B n (sF B n p)).bind (ga_ B n m) else some (sF B n p)
theorem ga_st {B : Int → Int32} {n : Int} : ∀ (m k : Nat) (p : Int), p ≤ n → n - p < m → n - p < k → ga_ B n m p = ga_ B n k p
  | 0, _, p, h, h1, _ => absurd h1 (by omega)
  | m + 1, 0, p, h, _, h2 => absurd h2 (by omega)
  | m + 1, k + 1, p, h, h1, h2 => by
    have s' : p ≤ sF B n p ∧ sF B n p ≤ n := sF_le h
    show (if cm_ B n (sF B n p) = 60 ∧ cm_ B n (sF B n p + 1) = 33 then (cF B n (sF B n p)).bind (ga_ B n m) else some (sF B n p)) = (if cm_ B n (sF B n p) = 60 ∧ cm_ B n (sF B n p + 1) = 33 then (cF B n (sF B n p)).bind (ga_ B n k) else some (sF B n p))
    by_cases c : cm_ B n (sF B n p) = 60 ∧ cm_ B n (sF B n p + 1) = 33
    · rw [if_pos c, if_pos c]
      cases e : cF B n (sF B n p) with
      | none => rfl
      | some q =>
        have u := cF_up e s'.2
        exact ga_st m k q (by omega) (by omega) (by omega)
    · rw [if_neg c, if_neg c]
def gF (B : Int → Int32) (n p : Int) : Option Int := ga_ B n ((n - p).toNat + 1) p
def gG (B : Int → Int32) (n p : Int) : Option Int := if cm_ B n p = 60 ∧ cm_ B n (p + 1) = 33 then (cF B n p).bind (gF B n) else some p
theorem gG_y {B : Int → Int32} {n p : Int} (h : cm_ B n p = 60) (h' : cm_ B n (p + 1) = 33) : gG B n p = (cF B n p).bind (gF B n) := if_pos ⟨h, h'⟩
theorem gG_n {B : Int → Int32} {n p : Int} (h : ¬ (cm_ B n p = 60 ∧ cm_ B n (p + 1) = 33)) : gG B n p = some p := if_neg h
theorem gF_e {B : Int → Int32} {n p : Int} (hp : p ≤ n) : gF B n p = gG B n (sF B n p) := by
  have s := sF_le (B := B) hp
  show (if cm_ B n (sF B n p) = 60 ∧ cm_ B n (sF B n p + 1) = 33 then (cF B n (sF B n p)).bind (ga_ B n (n - p).toNat) else some (sF B n p)) = _
  by_cases c : cm_ B n (sF B n p) = 60 ∧ cm_ B n (sF B n p + 1) = 33
  · rw [if_pos c, gG_y c.1 c.2]
    cases e : cF B n (sF B n p) with
    | none => rfl
    | some q =>
      have u := cF_up e s.2
      exact ga_st _ _ q u.2 (by omega) (by omega)
  · rw [if_neg c, gG_n c]
theorem ga_up {B : Int → Int32} {n : Int} : ∀ (m : Nat) (p q : Int), p ≤ n → ga_ B n m p = some q → p ≤ q ∧ q ≤ n
  | 0, p, q, h, e => absurd e (by simp [ga_])
  | m + 1, p, q, h, e => by
    have s := sF_le (B := B) h
    have e2 : (if cm_ B n (sF B n p) = 60 ∧ cm_ B n (sF B n p + 1) = 33 then (cF B n (sF B n p)).bind (ga_ B n m) else some (sF B n p)) = some q := e
    by_cases c : cm_ B n (sF B n p) = 60 ∧ cm_ B n (sF B n p + 1) = 33
    · rw [if_pos c] at e2
      cases e3 : cF B n (sF B n p) with
      | none =>
        rw [e3] at e2
        exact absurd e2 (by simp)
      | some r =>
        have u := cF_up e3 s.2
        rw [e3] at e2
        have ih := ga_up m r q u.2 e2
        omega
    · rw [if_neg c] at e2
      have e3 := Option.some.inj e2
      omega
theorem gF_up {B : Int → Int32} {n p q : Int} (h : p ≤ n) (e : gF B n p = some q) : p ≤ q ∧ q ≤ n := ga_up _ p q h e
/-- the reference's gaps -/
theorem gl_00 {F G : Int → Option Int} {s : Int → Int} {b a p : Int} (h : om_ b a = (om_ b p).map s) (e : F p = G (s p)) : (om_ b a).bind G = (om_ b p).bind F := by
  rw [h]
  by_cases w : b = 0
  · rw [om_t w]
    exact e.symm
  · rw [om_f w]
    rfl
theorem gl_0 {B : Int → Int32} {n b a p : Int} (h : om_ b a = (om_ b p).map (sF B n)) (hp : p ≤ n) : (om_ b a).bind (gG B n) = (om_ b p).bind (gF B n) := gl_00 h (gF_e hp)
theorem gl_s {B : Int → Int32} {n b3 a3 b a a2 : Int} {X : Option Int} (h : (om_ b3 a3).bind (gG B n) = X) (hb : b3 = 0) (c1 : cm_ B n a3 = 60) (c2 : cm_ B n (a3 + 1) = 33) (hc : om_ b a = cF B n a3) (hs : om_ b a2 = (om_ b a).map (sF B n)) (ha : a ≤ n) : (om_ b a2).bind (gG B n) = X := by
  rw [om_t hb] at h
  have h2 : gG B n a3 = X := h
  rw [gG_y c1 c2, ← hc] at h2
  rw [← h2]
  exact gl_0 hs ha
theorem gl_x {B : Int → Int32} {n b3 a3 : Int} {X : Option Int} (h : (om_ b3 a3).bind (gG B n) = X) (hc : ¬ (b3 = 0 ∧ cm_ B n a3 = 60 ∧ cm_ B n (a3 + 1) = 33)) : om_ b3 a3 = X := by
  rw [← h]
  by_cases w : b3 = 0
  · rw [om_t w]
    show some a3 = gG B n a3
    rw [gG_n (fun q => hc ⟨w, q⟩)]
  · rw [om_f w]
    rfl
/-- the dashes in it -/
theorem dl_0 {B : Int → Int32} {n b3 a3 b a : Int} {t : Int → Int} {m : Nat} (h : om_ b a = (om_ b3 a3).bind (wk_ B n t m)) (hb : b3 = 0) (hm : m = 4) (ht : ∀ j : Int, 0 ≤ j → j < 4 → t j = tC_ j) : (om_ b a).bind (dD_ B n) = cF B n a3 := by
  rw [h, om_t hb, hm]
  show (wk_ B n t 4 a3).bind (dD_ B n) = _
  rw [wk_c 4 ht]
  rfl
theorem dl_s {B : Int → Int32} {n b a a2 : Int} {X : Option Int} (h : (om_ b a).bind (dD_ B n) = X) (hc : ¬ (cm_ B n a = 45 ∧ cm_ B n (a + 1) = 45)) (h0 : 0 ≤ cm_ B n a) (e : a2 = a + 1) : (om_ b a2).bind (dD_ B n) = X := by
  have l := cm_in h0
  rw [← h]
  by_cases w : b = 0
  · rw [om_t w, om_t w]
    show wk_ B n tD_ 3 (dF B n a2) = wk_ B n tD_ 3 (dF B n a)
    rw [dF_n l hc, e]
  · rw [om_f w, om_f w]
theorem dD_o {B : Int → Int32} {n a : Int} (h : ¬ a < n) : dD_ B n a = none := by
  unfold dD_
  rw [dF_o h]
  show (((some a).bind (nd_ B n (tD_ 0))).bind (nd_ B n (tD_ 1))).bind (nd_ B n (tD_ 2)) = none
  have e : nd_ B n (tD_ 0) a = none := nd_x (by rw [cm_out h]; decide)
  show ((nd_ B n (tD_ 0) a).bind (nd_ B n (tD_ 1))).bind (nd_ B n (tD_ 2)) = none
  rw [e]
  rfl
theorem dl_b {B : Int → Int32} {n b a b2 a2 : Int} {X : Option Int} (h : (om_ b a).bind (dD_ B n) = X) (ha : 0 ≤ a) (h0 : cm_ B n a < 0) (hb : ¬ b2 = 0) : (om_ b2 a2).bind (dD_ B n) = X := by
  have l : ¬ a < n := fun q => by
    have r := ti_and (z := B a &&& 255) (m := 255) (b := 255) 8 rfl (by decide) (by decide)
    rw [cm_at ha q] at h0
    omega
  rw [← h, om_f hb]
  by_cases w : b = 0
  · rw [om_t w]
    exact (dD_o l).symm
  · rw [om_f w]
theorem dl_x {B : Int → Int32} {n b a b1 a1 b2 a2 b3 a3 : Int} {X : Option Int} (h : (om_ b a).bind (dD_ B n) = X) (hc : ¬ b = 0 ∨ (cm_ B n a = 45 ∧ cm_ B n (a + 1) = 45)) (h1 : om_ b1 a1 = (om_ b a).bind (nd_ B n 45)) (h2 : om_ b2 a2 = (om_ b1 a1).bind (nd_ B n 45)) (h3 : om_ b3 a3 = (om_ b2 a2).bind (nd_ B n 62)) : om_ b3 a3 = X := by
  rw [h3, h2, h1, ← h]
  by_cases w : b = 0
  · have c : cm_ B n a = 45 ∧ cm_ B n (a + 1) = 45 := by
      rcases hc with q | q
      · exact absurd w q
      · exact q
    rw [om_t w]
    show ((nd_ B n 45 a).bind (nd_ B n 45)).bind (nd_ B n 62) = wk_ B n tD_ 3 (dF B n a)
    rw [dF_y c.1 c.2]
    rfl
  · rw [om_f w]
    rfl
/-- a closing -/
def cl_ (B : Int → Int32) (n : Int) (t : Int → Int) (m : Nat) (p : Int) : Option Int := ((wk_ B n t m p).map (sF B n)).bind (nd_ B n 62)
theorem cl_m {B : Int → Int32} {n b0 a0 b1 a1 a2 b3 a3 : Int} {t : Int → Int} {m : Nat} (h1 : om_ b1 a1 = (om_ b0 a0).bind (wk_ B n t m)) (h2 : om_ b1 a2 = (om_ b1 a1).map (sF B n)) (h3 : om_ b3 a3 = (om_ b1 a2).bind (nd_ B n 62)) : om_ b3 a3 = (om_ b0 a0).bind (cl_ B n t m) := by
  rw [h3, h2, h1]
  cases om_ b0 a0 with
  | none => rfl
  | some p => rfl
/-- behind an and: a name, a number -/
def nc_ (B : Int → Int32) (n p z : Int) : Int := if z = 3 ∧ cm_ B n p = 97 ∧ cm_ B n (p + 1) = 109 ∧ cm_ B n (p + 2) = 112 then 38 else if z = 2 ∧ cm_ B n p = 108 ∧ cm_ B n (p + 1) = 116 then 60 else if z = 2 ∧ cm_ B n p = 103 ∧ cm_ B n (p + 1) = 116 then 62 else if z = 4 ∧ cm_ B n p = 113 ∧ cm_ B n (p + 1) = 117 ∧ cm_ B n (p + 2) = 111 ∧ cm_ B n (p + 3) = 116 then 34 else if z = 4 ∧ cm_ B n p = 97 ∧ cm_ B n (p + 1) = 112 ∧ cm_ B n (p + 2) = 111 ∧ cm_ B n (p + 3) = 115 then 39 else 0
theorem nc_rng (B : Int → Int32) (n p z : Int) : nc_ B n p z = 0 ∨ (34 ≤ nc_ B n p z ∧ nc_ B n p z ≤ 62) := by
  unfold nc_
  (repeat' split) <;> omega
def nv_ (B : Int → Int32) (n p : Int) : Nat → Int
  | 0 => 0
  | k + 1 => 27 * nv_ B n p k + cm_ B n (p + k) - 96
def p27 : Nat → Int
  | 0 => 1
  | k + 1 => 27 * p27 k
theorem p27_m : ∀ k : Nat, k ≤ 6 → p27 k ≤ 387420489
  | 0, _ => by decide
  | 1, _ => by decide
  | 2, _ => by decide
  | 3, _ => by decide
  | 4, _ => by decide
  | 5, _ => by decide
  | 6, _ => by decide
  | k + 7, h => absurd h (by omega)
def ls_ (B : Int → Int32) (n p z : Int) : Prop := ∀ j : Int, 0 ≤ j → j < z → 97 ≤ cm_ B n (p + j) ∧ cm_ B n (p + j) ≤ 122
theorem nv_b {B : Int → Int32} {n p z : Int} (h : ls_ B n p z) : ∀ k : Nat, (k : Int) ≤ z → 0 ≤ nv_ B n p k ∧ nv_ B n p k < p27 k
  | 0, _ => ⟨Int.le_refl _, by show (0 : Int) < 1; decide⟩
  | k + 1, hk => by
    have ih := nv_b h k (by omega)
    have d := h (k : Int) (by omega) (by omega)
    show 0 ≤ 27 * nv_ B n p k + cm_ B n (p + k) - 96 ∧ 27 * nv_ B n p k + cm_ B n (p + k) - 96 < 27 * p27 k
    omega
theorem nv_B {B : Int → Int32} {n p z k v : Int} (h : ls_ B n p z) (hv : v = nv_ B n p k.toNat) (h0 : 0 ≤ k) (h1 : k ≤ z) (h2 : k ≤ 6) : 0 ≤ v ∧ v ≤ 387420488 := by
  have b := nv_b h k.toNat (by omega)
  have m := p27_m k.toNat (by omega)
  omega
theorem nv_s {B : Int → Int32} {n p k k2 x v v2 : Int} (hv : v = nv_ B n p k.toNat) (h0 : 0 ≤ k) (hk : k2 = k + 1) (hx : x = cm_ B n (p + k)) (h : v2 = 27 * v + x - 96) : v2 = nv_ B n p k2.toNat := by
  obtain ⟨m, hm⟩ : ∃ m : Nat, k = m := ⟨k.toNat, by omega⟩
  rw [hk, show (k + 1).toNat = m + 1 by omega]
  show v2 = 27 * nv_ B n p m + cm_ B n (p + m) - 96
  rw [h, hx, hv, show k.toNat = m by omega, hm]
theorem nc_V {B : Int → Int32} {n p z k v r : Int} (h : ls_ B n p z) (hv : v = nv_ B n p k.toNat) (hz : 0 ≤ z) (hk : (k = z ∧ z ≤ 6) ∨ (k = 6 ∧ 6 ≤ z)) (hr : (v = 1096 ∧ r = 38) ∨ (v = 344 ∧ r = 60) ∨ (v = 209 ∧ r = 62) ∨ (v = 350345 ∧ r = 34) ∨ (v = 31771 ∧ r = 39) ∨ (¬ v = 1096 ∧ ¬ v = 344 ∧ ¬ v = 209 ∧ ¬ v = 350345 ∧ ¬ v = 31771 ∧ r = 0)) : r = nc_ B n p z := by
  have c1 : nv_ B n p 1 = cm_ B n p - 96 := by
    show 27 * 0 + cm_ B n (p + ((0 : Nat) : Int)) - 96 = _
    rw [show p + ((0 : Nat) : Int) = p by omega]
    omega
  have c2 : nv_ B n p 2 = 27 * nv_ B n p 1 + cm_ B n (p + 1) - 96 := rfl
  have c3 : nv_ B n p 3 = 27 * nv_ B n p 2 + cm_ B n (p + 2) - 96 := rfl
  have c4 : nv_ B n p 4 = 27 * nv_ B n p 3 + cm_ B n (p + 3) - 96 := rfl
  have c5 : nv_ B n p 5 = 27 * nv_ B n p 4 + cm_ B n (p + 4) - 96 := rfl
  have c6 : nv_ B n p 6 = 27 * nv_ B n p 5 + cm_ B n (p + 5) - 96 := rfl
  have l0 : 1 ≤ z → 97 ≤ cm_ B n p ∧ cm_ B n p ≤ 122 := fun q => by
    have l := h 0 (by omega) (by omega)
    rw [Int.add_zero] at l
    exact l
  have l1 : 2 ≤ z → 97 ≤ cm_ B n (p + 1) ∧ cm_ B n (p + 1) ≤ 122 := fun q => h 1 (by omega) (by omega)
  have l2 : 3 ≤ z → 97 ≤ cm_ B n (p + 2) ∧ cm_ B n (p + 2) ≤ 122 := fun q => h 2 (by omega) (by omega)
  have l3 : 4 ≤ z → 97 ≤ cm_ B n (p + 3) ∧ cm_ B n (p + 3) ≤ 122 := fun q => h 3 (by omega) (by omega)
  have l4 : 5 ≤ z → 97 ≤ cm_ B n (p + 4) ∧ cm_ B n (p + 4) ≤ 122 := fun q => h 4 (by omega) (by omega)
  have l5 : 6 ≤ z → 97 ≤ cm_ B n (p + 5) ∧ cm_ B n (p + 5) ≤ 122 := fun q => h 5 (by omega) (by omega)
  have zz : z = 0 ∨ z = 1 ∨ z = 2 ∨ z = 3 ∨ z = 4 ∨ z = 5 ∨ 6 ≤ z := by omega
  rcases zz with q | q | q | q | q | q | q
  · have e : v = 0 := by rw [hv, show k.toNat = 0 by (exact omg_9b35dc6088 hk q)]; rfl
    have f : nc_ B n p z = 0 := by
      unfold nc_
      rw [if_neg (by omega), if_neg (by omega), if_neg (by omega), if_neg (by omega), if_neg (by omega)]
    clear l0 l1 l2 l3 l4 l5 c1 c2 c3 c4 c5 c6
    omega
  · have e : v = nv_ B n p 1 := by rw [hv, show k.toNat = 1 by (exact omg_feeafdd60a hk q)]
    have b := l0 (by omega)
    have f : nc_ B n p z = 0 := by
      unfold nc_
      rw [if_neg (by omega), if_neg (by omega), if_neg (by omega), if_neg (by omega), if_neg (by omega)]
    clear l0 l1 l2 l3 l4 l5 c2 c3 c4 c5 c6
    omega
  · have e : v = nv_ B n p 2 := by rw [hv, show k.toNat = 2 by (exact omg_cf7e839a53 hk q)]
    have b := l0 (by omega)
    have b1 := l1 (by omega)
    clear l0 l1 l2 l3 l4 l5 c3 c4 c5 c6 hv hk h
    unfold nc_
    rw [if_neg (by omega)]
    rcases hr with w | w | w | w | w | w
    · omega
    · rw [if_pos (by (exact omg_535a05ac42 c1 c2 q e b1 w))]
      omega
    · rw [if_neg (by omega), if_pos (by omega)]
      omega
    · omega
    · omega
    · rw [if_neg (by omega), if_neg (by omega), if_neg (by omega), if_neg (by omega)]
      omega
  · have e : v = nv_ B n p 3 := by rw [hv, show k.toNat = 3 by (exact omg_9f77401627 hk q)]
    have b := l0 (by omega)
    have b1 := l1 (by omega)
    have b2 := l2 (by omega)
    clear l0 l1 l2 l3 l4 l5 c4 c5 c6 hv hk h
    unfold nc_
    rcases hr with w | w | w | w | w | w
    · rw [if_pos (by (exact omg_1ad0792003 c1 c2 c3 q e b1 b2 w))]
      omega
    · omega
    · omega
    · omega
    · omega
    · rw [if_neg (by omega), if_neg (by omega), if_neg (by omega), if_neg (by omega), if_neg (by omega)]
      omega
  · have e : v = nv_ B n p 4 := by rw [hv, show k.toNat = 4 by (exact omg_67a86a9f1f hk q)]
    have b := l0 (by omega)
    have b1 := l1 (by omega)
    have b2 := l2 (by omega)
    have b3 := l3 (by omega)
    clear l0 l1 l2 l3 l4 l5 c5 c6 hv hk h
    unfold nc_
    rw [if_neg (by omega), if_neg (by omega), if_neg (by omega)]
    rcases hr with w | w | w | w | w | w
    · omega
    · omega
    · omega
    · rw [if_pos (by (exact omg_9f272434c0 c1 c2 c3 c4 q e b1 b2 b3 w))]
      omega
    · rw [if_neg (by omega), if_pos (by (exact omg_7c2f854cde c1 c2 c3 c4 q e b1 b2 b3 w))]
      omega
    · rw [if_neg (by omega), if_neg (by omega)]
      omega
  · have e : v = nv_ B n p 5 := by rw [hv, show k.toNat = 5 by (exact omg_aba1d320db hk q)]
    have b := l0 (by omega)
    have b1 := l1 (by omega)
    have b2 := l2 (by omega)
    have b3 := l3 (by omega)
    have b4 := l4 (by omega)
    have f : nc_ B n p z = 0 := by
      unfold nc_
      rw [if_neg (by omega), if_neg (by omega), if_neg (by omega), if_neg (by omega), if_neg (by omega)]
    clear l0 l1 l2 l3 l4 l5 c6 hv hk h
    (exact omg_8456cbc76d hr c1 c2 c3 c4 c5 e b b1 b2 b3 b4 f)
  · have e : v = nv_ B n p 6 := by rw [hv, show k.toNat = 6 by (exact omg_034d1e5524 hk q)]
    have b := l0 (by omega)
    have b1 := l1 (by omega)
    have b2 := l2 (by omega)
    have b3 := l3 (by omega)
    have b4 := l4 (by omega)
    have b5 := l5 (by omega)
    have f : nc_ B n p z = 0 := by
      unfold nc_
      rw [if_neg (by omega), if_neg (by omega), if_neg (by omega), if_neg (by omega), if_neg (by omega)]
    clear l0 l1 l2 l3 l4 l5 hv hk h
    (exact omg_a2a1e2938a hr c2 c3 c4 c5 c6 e b1 b2 b3 b4 b5 f)
def nM6_ (B : Int → Int32) (n p : Int) : Option (Int × Int) := if nc_ B n p (lF B n p - p) = 0 then none else some (lF B n p, nc_ B n p (lF B n p - p))
def dg_ (B : Int → Int32) (n : Int) : Nat → Int → Int → Int × Int
  | 0, p, v => (p, v)
  | m + 1, p, v => if 48 ≤ cm_ B n p ∧ cm_ B n p ≤ 57 then dg_ B n m (p + 1) (10 * v + cm_ B n p - 48) else (p, v)
def nu_ (B : Int → Int32) (n p : Int) : Option (Int × Int) := if cm_ B n (p + 1) = 48 ∨ (dg_ B n 3 (p + 1) 0).2 < 32 ∨ 126 < (dg_ B n 3 (p + 1) 0).2 then none else some (dg_ B n 3 (p + 1) 0)
def rf_ (B : Int → Int32) (n p : Int) : Option (Int × Int) := (if cm_ B n p = 35 then nu_ B n p else nM6_ B n p).bind (fun o => (nd_ B n 59 o.1).map (fun q => (q, o.2)))
def or2_ (b a r : Int) : Option (Int × Int) := if b = 0 then some (a, r) else none
theorem or2_h {B : Int → Int32} {n b2 a2 b3 a3 r : Int} (hb : b3 = 0) (h : om_ b2 a2 = (om_ b3 a3).bind (nd_ B n 59)) : or2_ b2 a2 r = (nd_ B n 59 a3).map (fun q => (q, r)) := by
  rw [om_t hb] at h
  have h2 : om_ b2 a2 = nd_ B n 59 a3 := h
  rw [← h2]
  unfold or2_ om_
  by_cases c : b2 = 0
  · rw [if_pos c, if_pos c]
    rfl
  · rw [if_neg c, if_neg c]
    rfl
theorem or2_z {B : Int → Int32} {n b2 a2 b3 a3 r : Int} (hb : ¬ b3 = 0) (h : om_ b2 a2 = (om_ b3 a3).bind (nd_ B n 59)) : or2_ b2 a2 r = none := by
  rw [om_f hb] at h
  have c := om_n h
  unfold or2_
  rw [if_neg c]
theorem rO_m {B : Int → Int32} {n p z r b3 a3 b2 a2 : Int} (hc : ¬ cm_ B n p = 35) (hz : p + z = lF B n p) (hr : r = nc_ B n p z) (hq : (r = 0 ∧ ¬ b3 = 0) ∨ (¬ r = 0 ∧ b3 = 0 ∧ a3 = p + z)) (h : om_ b2 a2 = (om_ b3 a3).bind (nd_ B n 59)) : or2_ b2 a2 r = rf_ B n p := by
  unfold rf_
  rw [if_neg hc]
  unfold nM6_
  rw [← hz, show p + z - p = z by omega, ← hr]
  rcases hq with ⟨q1, q2⟩ | ⟨q1, q2, q3⟩
  · rw [if_pos q1, or2_z q2 h]
    rfl
  · rw [if_neg q1, or2_h q2 h, q3]
    rfl
theorem rO_n {B : Int → Int32} {n p r a5 b3 a3 b2 a2 : Int} (hc : cm_ B n p = 35) (hd : dg_ B n 3 (p + 1) 0 = (a5, r)) (hq : ((cm_ B n (p + 1) = 48 ∨ r < 32 ∨ 126 < r) ∧ ¬ b3 = 0) ∨ (¬ (cm_ B n (p + 1) = 48 ∨ r < 32 ∨ 126 < r) ∧ b3 = 0 ∧ a3 = a5)) (h : om_ b2 a2 = (om_ b3 a3).bind (nd_ B n 59)) : or2_ b2 a2 r = rf_ B n p := by
  unfold rf_
  rw [if_pos hc]
  unfold nu_
  rw [hd]
  dsimp only
  rcases hq with ⟨q1, q2⟩ | ⟨q1, q2, q3⟩
  · rw [if_pos q1, or2_z q2 h]
    rfl
  · rw [if_neg q1, or2_h q2 h, q3]
    rfl
theorem dg_s {B : Int → Int32} {n f a v a2 v2 : Int} {X : Int × Int} (h : dg_ B n (f + 3 - a).toNat a v = X) (h0 : a < f + 3) (c1 : 48 ≤ cm_ B n a) (c2 : cm_ B n a ≤ 57) (e1 : a2 = a + 1) (e2 : v2 = 10 * v + cm_ B n a - 48) : dg_ B n (f + 3 - a2).toNat a2 v2 = X := by
  rw [← h, show (f + 3 - a).toNat = (f + 3 - a2).toNat + 1 by omega]
  show _ = (if 48 ≤ cm_ B n a ∧ cm_ B n a ≤ 57 then dg_ B n (f + 3 - a2).toNat (a + 1) (10 * v + cm_ B n a - 48) else (a, v))
  rw [if_pos ⟨c1, c2⟩, e1, e2]
theorem dg_x {B : Int → Int32} {n f a v : Int} {X : Int × Int} (h : dg_ B n (f + 3 - a).toNat a v = X) (hx : ¬ (a < f + 3 ∧ 48 ≤ cm_ B n a ∧ cm_ B n a ≤ 57)) : X = (a, v) := by
  rw [← h]
  by_cases c : a < f + 3
  · rw [show (f + 3 - a).toNat = (f + 3 - a - 1).toNat + 1 by omega]
    show (if 48 ≤ cm_ B n a ∧ cm_ B n a ≤ 57 then dg_ B n (f + 3 - a - 1).toNat (a + 1) (10 * v + cm_ B n a - 48) else (a, v)) = _
    rw [if_neg (fun q => hx ⟨c, q⟩)]
  · rw [show (f + 3 - a).toNat = 0 by omega]
    rfl
theorem dg_up {B : Int → Int32} {n : Int} : ∀ (m : Nat) (p v : Int), p ≤ n → p ≤ (dg_ B n m p v).1 ∧ (dg_ B n m p v).1 ≤ n
  | 0, p, v, h => ⟨Int.le_refl _, h⟩
  | m + 1, p, v, h => by
    show p ≤ (if 48 ≤ cm_ B n p ∧ cm_ B n p ≤ 57 then dg_ B n m (p + 1) (10 * v + cm_ B n p - 48) else (p, v)).1 ∧ (if 48 ≤ cm_ B n p ∧ cm_ B n p ≤ 57 then dg_ B n m (p + 1) (10 * v + cm_ B n p - 48) else (p, v)).1 ≤ n
    by_cases c : 48 ≤ cm_ B n p ∧ cm_ B n p ≤ 57
    · have e := cm_in (B := B) (n := n) (j := p) (by omega)
      have ih := dg_up (B := B) (n := n) m (p + 1) (10 * v + cm_ B n p - 48) (by omega)
      rw [if_pos c]
      omega
    · rw [if_neg c]
      exact ⟨Int.le_refl _, h⟩
theorem rf_up {B : Int → Int32} {n p : Int} {o : Int × Int} (h : rf_ B n p = some o) (hp : p ≤ n) : (p + 1 ≤ o.1 ∧ o.1 ≤ n) ∧ (32 ≤ o.2 ∧ o.2 ≤ 126) := by
  have key : ∀ (x : Int × Int), p ≤ x.1 → (32 ≤ x.2 ∧ x.2 ≤ 126) → (nd_ B n 59 x.1).map (fun q => (q, x.2)) = some o → (p + 1 ≤ o.1 ∧ o.1 ≤ n) ∧ (32 ≤ o.2 ∧ o.2 ≤ 126) := fun x x0 x1 e => by
    by_cases c : cm_ B n x.1 = 59
    · rw [nd_y c] at e
      have l := cm_in (B := B) (n := n) (j := x.1) (by omega)
      have e2 : (x.1 + 1, x.2) = o := Option.some.inj e
      rw [← e2]
      dsimp only
      omega
    · rw [nd_x c] at e
      exact absurd e (by simp)
  unfold rf_ at h
  by_cases c : cm_ B n p = 35
  · rw [if_pos c] at h
    unfold nu_ at h
    have l := cm_in (B := B) (n := n) (j := p) (by omega)
    by_cases c2 : cm_ B n (p + 1) = 48 ∨ (dg_ B n 3 (p + 1) 0).2 < 32 ∨ 126 < (dg_ B n 3 (p + 1) 0).2
    · rw [if_pos c2] at h
      exact absurd h (by simp)
    · rw [if_neg c2] at h
      have d := dg_up (B := B) 3 (p + 1) 0 (show p + 1 ≤ n by omega)
      exact key _ (by omega) (by omega) h
  · rw [if_neg c] at h
    unfold nM6_ at h
    have s := lF_le (B := B) hp
    have r := nc_rng B n p (lF B n p - p)
    by_cases c2 : nc_ B n p (lF B n p - p) = 0
    · rw [if_pos c2] at h
      exact absurd h (by simp)
    · rw [if_neg c2] at h
      exact key (lF B n p, nc_ B n p (lF B n p - p)) s.1 (by dsimp only; omega) h
/-- a value, up to its quote -/
def vl_ (B : Int → Int32) (n q : Int) : Nat → Int → Int → (Int → Int) → Option (Int × Int × (Int → Int))
  | 0, _, _, _ => none
  | m + 1, p, z, W => if cm_ B n p = q then some (p, z, W) else if cm_ B n p < 32 ∨ 126 < cm_ B n p ∨ cm_ B n p = 60 then none else if cm_ B n p = 38 then (rf_ B n (p + 1)).bind (fun o => vl_ B n q m o.1 (z + 1) (fun j => if j = z then o.2 else W j)) else vl_ B n q m (p + 1) (z + 1) (fun j => if j = z then cm_ B n p else W j)
def vG (B : Int → Int32) (n q p z : Int) (W : Int → Int) : Option (Int × Int × (Int → Int)) := vl_ B n q ((n - p).toNat + 1) p z W
theorem vl_st {B : Int → Int32} {n q : Int} : ∀ (m k : Nat) (p z : Int) (W : Int → Int), p ≤ n → n - p < m → n - p < k → vl_ B n q m p z W = vl_ B n q k p z W
  | 0, _, p, _, _, h, h1, _ => absurd h1 (by omega)
  | m + 1, 0, p, _, _, h, _, h2 => absurd h2 (by omega)
  | m + 1, k + 1, p, z, W, h, h1, h2 => by
    show (if cm_ B n p = q then some (p, z, W) else if cm_ B n p < 32 ∨ 126 < cm_ B n p ∨ cm_ B n p = 60 then none else if cm_ B n p = 38 then (rf_ B n (p + 1)).bind (fun o => vl_ B n q m o.1 (z + 1) (fun j => if j = z then o.2 else W j)) else vl_ B n q m (p + 1) (z + 1) (fun j => if j = z then cm_ B n p else W j)) = (if cm_ B n p = q then some (p, z, W) else if cm_ B n p < 32 ∨ 126 < cm_ B n p ∨ cm_ B n p = 60 then none else if cm_ B n p = 38 then (rf_ B n (p + 1)).bind (fun o => vl_ B n q k o.1 (z + 1) (fun j => if j = z then o.2 else W j)) else vl_ B n q k (p + 1) (z + 1) (fun j => if j = z then cm_ B n p else W j))
    by_cases c1 : cm_ B n p = q
    · rw [if_pos c1, if_pos c1]
    · rw [if_neg c1, if_neg c1]
      by_cases c2 : cm_ B n p < 32 ∨ 126 < cm_ B n p ∨ cm_ B n p = 60
      · rw [if_pos c2, if_pos c2]
      · rw [if_neg c2, if_neg c2]
        have e := cm_in (B := B) (n := n) (j := p) (by omega)
        by_cases c3 : cm_ B n p = 38
        · rw [if_pos c3, if_pos c3]
          cases e2 : rf_ B n (p + 1) with
          | none => rfl
          | some o =>
            have u := (rf_up e2 (by omega)).1
            exact vl_st m k o.1 (z + 1) _ (by omega) (by omega) (by omega)
        · rw [if_neg c3, if_neg c3]
          exact vl_st m k (p + 1) (z + 1) _ (by omega) (by omega) (by omega)
theorem vG_e {B : Int → Int32} {n q p z : Int} {W : Int → Int} : vG B n q p z W = (if cm_ B n p = q then some (p, z, W) else if cm_ B n p < 32 ∨ 126 < cm_ B n p ∨ cm_ B n p = 60 then none else if cm_ B n p = 38 then (rf_ B n (p + 1)).bind (fun o => vl_ B n q (n - p).toNat o.1 (z + 1) (fun j => if j = z then o.2 else W j)) else vl_ B n q (n - p).toNat (p + 1) (z + 1) (fun j => if j = z then cm_ B n p else W j)) := rfl
theorem vG_q {B : Int → Int32} {n q p z : Int} {W : Int → Int} (h : cm_ B n p = q) : vG B n q p z W = some (p, z, W) := by
  rw [vG_e, if_pos h]
theorem vG_x {B : Int → Int32} {n q p z : Int} {W : Int → Int} (h : ¬ cm_ B n p = q) (h2 : cm_ B n p < 32 ∨ 126 < cm_ B n p ∨ cm_ B n p = 60) : vG B n q p z W = none := by
  rw [vG_e, if_neg h, if_pos h2]
theorem vG_f {B : Int → Int32} {n q p z : Int} {W : Int → Int} (h : ¬ cm_ B n p = q) (h3 : cm_ B n p = 38) (e : rf_ B n (p + 1) = none) : vG B n q p z W = none := by
  rw [vG_e, if_neg h, if_neg (by omega), if_pos h3, e]
  rfl
theorem vG_a {B : Int → Int32} {n q p z : Int} {W : Int → Int} {o : Int × Int} (h : ¬ cm_ B n p = q) (h3 : cm_ B n p = 38) (e : rf_ B n (p + 1) = some o) : vG B n q p z W = vG B n q o.1 (z + 1) (fun j => if j = z then o.2 else W j) := by
  have e1 := cm_in (B := B) (n := n) (j := p) (by omega)
  have u := (rf_up e (by omega)).1
  rw [vG_e, if_neg h, if_neg (by omega), if_pos h3, e]
  exact vl_st _ _ o.1 (z + 1) _ (by omega) (by omega) (by omega)
theorem vG_c {B : Int → Int32} {n q p z : Int} {W : Int → Int} (h : ¬ cm_ B n p = q) (h2 : ¬ (cm_ B n p < 32 ∨ 126 < cm_ B n p ∨ cm_ B n p = 60)) (h3 : ¬ cm_ B n p = 38) : vG B n q p z W = vG B n q (p + 1) (z + 1) (fun j => if j = z then cm_ B n p else W j) := by
  have e1 := cm_in (B := B) (n := n) (j := p) (by omega)
  rw [vG_e, if_neg h, if_neg h2, if_neg h3]
  exact vl_st _ _ (p + 1) (z + 1) _ (by omega) (by omega) (by omega)
/-- a value read, and while it is read: x bytes of it are kept -/
def vR_ (x : Int) (T : Option (Int × Int × (Int → Int))) (b a z : Int) (g : Nat → Int32) : Prop := (b = 0 ∧ ∃ W : Int → Int, T = some (a, z, W) ∧ ∀ j : Int, 0 ≤ j → j < z → j < x → gx g j = W j) ∨ (¬ b = 0 ∧ T = none)
def vL_ (B : Int → Int32) (n q x : Int) (T : Option (Int × Int × (Int → Int))) (b a z : Int) (g : Nat → Int32) : Prop := (b = 0 ∧ ∃ W : Int → Int, vG B n q a z W = T ∧ ∀ j : Int, 0 ≤ j → j < z → j < x → gx g j = W j) ∨ (¬ b = 0 ∧ T = none)
theorem vL_o {B : Int → Int32} {n q x b a z : Int} {g : Nat → Int32} {T : Option (Int × Int × (Int → Int))} (h : vL_ B n q x T b a z g) (hb : b = 0) : ∃ W : Int → Int, vG B n q a z W = T ∧ ∀ j : Int, 0 ≤ j → j < z → j < x → gx g j = W j := by
  rcases h with ⟨_, k⟩ | ⟨k, _⟩
  · exact k
  · exact absurd hb k
theorem vL_c {B : Int → Int32} {n q x b a z b2 a2 z2 : Int} {g g2 : Nat → Int32} {T : Option (Int × Int × (Int → Int))} (h : vL_ B n q x T b a z g) (hb : b = 0) (h1 : ¬ cm_ B n a = q) (h2 : ¬ (cm_ B n a < 32 ∨ 126 < cm_ B n a ∨ cm_ B n a = 60)) (h3 : ¬ cm_ B n a = 38) (eb : b2 = 0) (ea : a2 = a + 1) (ez : z2 = z + 1) (hg : ∀ j : Int, 0 ≤ j → j < z + 1 → j < x → gx g2 j = if j = z then cm_ B n a else gx g j) : vL_ B n q x T b2 a2 z2 g2 := by
  obtain ⟨W, w1, w2⟩ := vL_o h hb
  refine Or.inl ⟨eb, fun j => if j = z then cm_ B n a else W j, ?_, fun j j0 j1 j2 => ?_⟩
  · rw [ea, ez, ← vG_c h1 h2 h3, w1]
  · show gx g2 j = if j = z then cm_ B n a else W j
    rw [hg j j0 (by omega) j2]
    by_cases c : j = z
    · rw [if_pos c, if_pos c]
    · rw [if_neg c, if_neg c, w2 j j0 (by omega) j2]
theorem vL_r {B : Int → Int32} {n q x b a z b2 a2 z2 r p : Int} {g g2 : Nat → Int32} {T : Option (Int × Int × (Int → Int))} (h : vL_ B n q x T b a z g) (hb : b = 0) (h1 : ¬ cm_ B n a = q) (h3 : cm_ B n a = 38) (hp : p = a + 1) (hr : or2_ b2 a2 r = rf_ B n p) (ez : z2 = z + 1) (hg : 32 ≤ r → r ≤ 126 → ∀ j : Int, 0 ≤ j → j < z + 1 → j < x → gx g2 j = if j = z then r else gx g j) : vL_ B n q x T b2 a2 z2 g2 := by
  obtain ⟨W, w1, w2⟩ := vL_o h hb
  rw [hp] at hr
  by_cases c : b2 = 0
  · unfold or2_ at hr
    rw [if_pos c] at hr
    have l := cm_in (B := B) (n := n) (j := a) (by omega)
    have u := (rf_up hr.symm (by omega)).2
    dsimp only at u
    refine Or.inl ⟨c, fun j => if j = z then r else W j, ?_, fun j j0 j1 j2 => ?_⟩
    · rw [ez, ← w1, vG_a h1 h3 hr.symm]
    · show gx g2 j = if j = z then r else W j
      rw [hg u.1 u.2 j j0 (by omega) j2]
      by_cases c : j = z
      · rw [if_pos c, if_pos c]
      · rw [if_neg c, if_neg c, w2 j j0 (by omega) j2]
  · unfold or2_ at hr
    rw [if_neg c] at hr
    exact Or.inr ⟨c, by rw [← w1, vG_f h1 h3 hr.symm]⟩
theorem vL_x {B : Int → Int32} {n q x b a z b2 a2 z2 : Int} {g g2 : Nat → Int32} {T : Option (Int × Int × (Int → Int))} (h : vL_ B n q x T b a z g) (hb : b = 0) (h1 : ¬ cm_ B n a = q) (h2 : cm_ B n a < 32 ∨ 126 < cm_ B n a ∨ cm_ B n a = 60) (hb2 : ¬ b2 = 0) : vL_ B n q x T b2 a2 z2 g2 := by
  obtain ⟨W, w1, w2⟩ := vL_o h hb
  exact Or.inr ⟨hb2, by rw [← w1, vG_x h1 h2]⟩
theorem vL_e {B : Int → Int32} {n q x b a z : Int} {g : Nat → Int32} {T : Option (Int × Int × (Int → Int))} (h : vL_ B n q x T b a z g) (hx : ¬ b = 0 ∨ cm_ B n a = q) : vR_ x T b a z g := by
  rcases h with ⟨k0, W, k1, k2⟩ | ⟨k0, k1⟩
  · refine Or.inl ⟨k0, W, ?_, k2⟩
    rcases hx with c | c
    · exact absurd k0 c
    · rw [← k1, vG_q c]
  · exact Or.inr ⟨k0, k1⟩
def vq_ (B : Int → Int32) (n p : Int) : Option (Int × Int × (Int → Int)) := if cm_ B n p = 34 ∨ cm_ B n p = 39 then vG B n (cm_ B n p) (p + 1) 0 (fun _ => 0) else none
theorem vL_0 {B : Int → Int32} {n q x b a z p : Int} {g : Nat → Int32} (hq : (b = 0 ∧ (q = 34 ∨ q = 39) ∧ a = p + 1) ∨ (¬ b = 0 ∧ ¬ (q = 34 ∨ q = 39))) (e : q = cm_ B n p) (hz : z = 0) : vL_ B n q x (vq_ B n p) b a z g := by
  unfold vq_
  rcases hq with ⟨h1, h2, h3⟩ | ⟨h1, h2⟩
  · rw [e] at h2
    rw [if_pos h2]
    exact Or.inl ⟨h1, fun _ => 0, by rw [h3, hz, e], fun j j0 j1 => absurd j1 (by omega)⟩
  · rw [e] at h2
    rw [if_neg h2]
    exact Or.inr ⟨h1, rfl⟩
/-- an attribute: where it ends, which it is, its value -/
def wh_ (B : Int → Int32) (n had p : Int) : Int := if lF B n p - p = 2 ∧ cm_ B n p = 105 ∧ cm_ B n (p + 1) = 100 ∧ had % 2 = 0 then 1 else if lF B n p - p = 2 ∧ cm_ B n p = 116 ∧ cm_ B n (p + 1) = 111 ∧ had < 2 then 2 else 0
noncomputable def va_ (w : Int) (o : Int × Int × (Int → Int)) : Option (Int × Int × Int × (Int → Int)) := @ite _ ((w = 1 ∧ 1 ≤ o.2.1 ∧ o.2.1 ≤ 8) ∨ (¬ w = 1 ∧ iA_ o.2.2 0 o.2.1)) (Classical.propDecidable _) (some (o.1 + 1, w, o.2.1, o.2.2)) none
theorem va_y {w a z : Int} {W : Int → Int} (h : (w = 1 ∧ 1 ≤ z ∧ z ≤ 8) ∨ (¬ w = 1 ∧ iA_ W 0 z)) : va_ w (a, z, W) = some (a + 1, w, z, W) := by
  unfold va_
  rw [if_pos h]
theorem va_n {w a z : Int} {W : Int → Int} (h : ¬ ((w = 1 ∧ 1 ≤ z ∧ z ≤ 8) ∨ (¬ w = 1 ∧ iA_ W 0 z))) : va_ w (a, z, W) = none := by
  unfold va_
  rw [if_neg h]
noncomputable def at_F (B : Int → Int32) (n had p : Int) : Option (Int × Int × Int × (Int → Int)) := if wh_ B n had p = 0 then none else (nd_ B n 61 (lF B n p)).bind (fun q => (vq_ B n q).bind (va_ (wh_ B n had p)))
theorem wh_3 {B : Int → Int32} {n had p : Int} (h : had = 3) : wh_ B n had p = 0 := by
  unfold wh_
  rw [if_neg (by omega), if_neg (by omega)]
theorem wh_rng (B : Int → Int32) (n had p : Int) : (wh_ B n had p = 0) ∨ (wh_ B n had p = 1 ∧ had % 2 = 0 ∧ lF B n p = p + 2) ∨ (wh_ B n had p = 2 ∧ had < 2 ∧ lF B n p = p + 2) := by
  unfold wh_
  (repeat' split) <;> omega
theorem vG_up {B : Int → Int32} {n q : Int} : ∀ (m : Nat) (p z : Int) (W : Int → Int) (o : Int × Int × (Int → Int)), vl_ B n q m p z W = some o → p ≤ n → 0 ≤ q → p ≤ o.1 ∧ o.1 < n ∧ z ≤ o.2.1 ∧ o.2.1 - z ≤ o.1 - p
  | 0, p, z, W, o, h, _, _ => absurd h (by simp [vl_])
  | m + 1, p, z, W, o, h, hp, hq => by
    have h2 : (if cm_ B n p = q then some (p, z, W) else if cm_ B n p < 32 ∨ 126 < cm_ B n p ∨ cm_ B n p = 60 then none else if cm_ B n p = 38 then (rf_ B n (p + 1)).bind (fun o => vl_ B n q m o.1 (z + 1) (fun j => if j = z then o.2 else W j)) else vl_ B n q m (p + 1) (z + 1) (fun j => if j = z then cm_ B n p else W j)) = some o := h
    by_cases c1 : cm_ B n p = q
    · rw [if_pos c1] at h2
      have e := Option.some.inj h2
      have l := cm_in (B := B) (n := n) (j := p) (by omega)
      rw [← e]
      dsimp only
      omega
    · rw [if_neg c1] at h2
      by_cases c2 : cm_ B n p < 32 ∨ 126 < cm_ B n p ∨ cm_ B n p = 60
      · rw [if_pos c2] at h2
        exact absurd h2 (by simp)
      · rw [if_neg c2] at h2
        have l := cm_in (B := B) (n := n) (j := p) (by omega)
        by_cases c3 : cm_ B n p = 38
        · rw [if_pos c3] at h2
          cases e2 : rf_ B n (p + 1) with
          | none =>
            rw [e2] at h2
            exact absurd h2 (by simp)
          | some x =>
            have u := (rf_up e2 (by omega)).1
            rw [e2] at h2
            have ih := vG_up m x.1 (z + 1) _ o h2 (by omega) hq
            omega
        · rw [if_neg c3] at h2
          have ih := vG_up m (p + 1) (z + 1) _ o h2 (by omega) hq
          omega
theorem vq_up {B : Int → Int32} {n p : Int} {o : Int × Int × (Int → Int)} (h : vq_ B n p = some o) : p + 1 ≤ o.1 ∧ o.1 < n ∧ 0 ≤ o.2.1 ∧ o.2.1 ≤ o.1 - (p + 1) := by
  unfold vq_ at h
  by_cases c : cm_ B n p = 34 ∨ cm_ B n p = 39
  · rw [if_pos c] at h
    have l := cm_in (B := B) (n := n) (j := p) (by omega)
    have u := vG_up _ _ _ _ _ h (by omega) (by omega)
    omega
  · rw [if_neg c] at h
    exact absurd h (by simp)
theorem at_up {B : Int → Int32} {n had p a w z : Int} {W : Int → Int} (h : at_F B n had p = some (a, w, z, W)) : (w = 1 ∧ had % 2 = 0 ∧ 1 ≤ z ∧ z ≤ 8 ∨ w = 2 ∧ had < 2 ∧ iA_ W 0 z) ∧ p + 6 ≤ a ∧ a ≤ n := by
  unfold at_F at h
  have r := wh_rng B n had p
  by_cases c : wh_ B n had p = 0
  · rw [if_pos c] at h
    exact absurd h (by simp)
  · rw [if_neg c] at h
    by_cases c2 : cm_ B n (lF B n p) = 61
    · rw [nd_y c2] at h
      have h2 : (vq_ B n (lF B n p + 1)).bind (va_ (wh_ B n had p)) = some (a, w, z, W) := h
      cases e : vq_ B n (lF B n p + 1) with
      | none =>
        rw [e] at h2
        exact absurd h2 (by simp)
      | some o =>
        obtain ⟨x, y, Y⟩ := o
        have u := vq_up e
        dsimp only at u
        rw [e] at h2
        have h3 : va_ (wh_ B n had p) (x, y, Y) = some (a, w, z, W) := h2
        by_cases c3 : (wh_ B n had p = 1 ∧ 1 ≤ y ∧ y ≤ 8) ∨ (¬ wh_ B n had p = 1 ∧ iA_ Y 0 y)
        · rw [va_y c3] at h3
          have e3 := Option.some.inj h3
          injection e3 with f1 f2
          injection f2 with f2 f3
          injection f3 with f3 f4
          subst f1 f3 f4
          rcases c3 with q | q
          · exact ⟨Or.inl (by omega), by omega, by omega⟩
          · have y1 := q.2.1
            exact ⟨Or.inr ⟨by omega, by omega, q.2⟩, by omega, by omega⟩
        · rw [va_n c3] at h3
          exact absurd h3 (by simp)
    · rw [nd_x c2] at h
      exact absurd h (by simp)
/-- a relation: how many bytes its id has, which; its goal's -/
abbrev RE_ := Int × (Int → Int) × Int × (Int → Int)
def rp_ (R : RE_) (w z : Int) (W : Int → Int) : RE_ := if w = 1 then (z, W, R.2.2.1, R.2.2.2) else (R.1, R.2.1, z, W)
def fu_ (had : Int) : Nat := if had = 0 then 3 else if had = 3 then 1 else 2
noncomputable def el_ (B : Int → Int32) (n : Int) : Nat → Int → RE_ → Int → Int → Option (Int × Int × RE_)
  | 0, _, _, _, _ => none
  | m + 1, had, R, p, sp => if cm_ B n p = 47 ∨ cm_ B n p = 62 then some (p, had, R) else if sp = 0 then none else (at_F B n had p).bind (fun o => el_ B n m (had + o.2.1) (rp_ R o.2.1 o.2.2.1 o.2.2.2) (sF B n o.1) (if o.1 < sF B n o.1 then 1 else 0))
theorem el_q {B : Int → Int32} {n had p sp : Int} {R : RE_} {m : Nat} (h : cm_ B n p = 47 ∨ cm_ B n p = 62) : el_ B n (m + 1) had R p sp = some (p, had, R) := if_pos h
theorem el_0 {B : Int → Int32} {n had p sp : Int} {R : RE_} {m : Nat} (h : ¬ (cm_ B n p = 47 ∨ cm_ B n p = 62)) (hs : sp = 0) : el_ B n (m + 1) had R p sp = none := by
  show (if cm_ B n p = 47 ∨ cm_ B n p = 62 then some (p, had, R) else if sp = 0 then none else _) = none
  rw [if_neg h, if_pos hs]
theorem el_f {B : Int → Int32} {n had p sp : Int} {R : RE_} {m : Nat} (h : ¬ (cm_ B n p = 47 ∨ cm_ B n p = 62)) (e : at_F B n had p = none) : el_ B n (m + 1) had R p sp = none := by
  show (if cm_ B n p = 47 ∨ cm_ B n p = 62 then some (p, had, R) else if sp = 0 then none else (at_F B n had p).bind (fun o => el_ B n m (had + o.2.1) (rp_ R o.2.1 o.2.2.1 o.2.2.2) (sF B n o.1) (if o.1 < sF B n o.1 then 1 else 0))) = none
  rw [if_neg h, e]
  by_cases c : sp = 0
  · rw [if_pos c]
  · rw [if_neg c]
    rfl
theorem el_s {B : Int → Int32} {n had p sp a w z : Int} {W : Int → Int} {R : RE_} {m : Nat} (h : ¬ (cm_ B n p = 47 ∨ cm_ B n p = 62)) (hs : ¬ sp = 0) (e : at_F B n had p = some (a, w, z, W)) : el_ B n (m + 1) had R p sp = el_ B n m (had + w) (rp_ R w z W) (sF B n a) (if a < sF B n a then 1 else 0) := by
  show (if cm_ B n p = 47 ∨ cm_ B n p = 62 then some (p, had, R) else if sp = 0 then none else (at_F B n had p).bind (fun o => el_ B n m (had + o.2.1) (rp_ R o.2.1 o.2.2.1 o.2.2.2) (sF B n o.1) (if o.1 < sF B n o.1 then 1 else 0))) = _
  rw [if_neg h, if_neg hs, e]
  rfl
def tE_ : Int → Int := tx_ [60, 114, 101, 108]
def tF_ : Int → Int := tx_ [60, 47, 114, 101, 108]
def tG_ : Int → Int := tx_ [47, 62]
def tH_ : Int → Int := tx_ [60, 114, 101, 108, 115]
def tI_ : Int → Int := tx_ [60, 47, 114, 101, 108, 115]
def RZ_ : RE_ := (0, fun _ => 0, 0, fun _ => 0)
/-- an element's end, behind its attributes -/
def ee_ (B : Int → Int32) (n : Int) (o : Int × Int × RE_) : Option (Int × RE_) := if ¬ o.2.1 = 3 then none else (if cm_ B n o.1 = 47 then wk_ B n tG_ 2 o.1 else ((nd_ B n 62 o.1).bind (gF B n)).bind (cl_ B n tF_ 5)).map (fun e => (e, o.2.2))
noncomputable def eA_ (B : Int → Int32) (n q : Int) : Option (Int × Int × RE_) := el_ B n 3 0 RZ_ (sF B n q) (if q < sF B n q then 1 else 0)
noncomputable def eF_ (B : Int → Int32) (n p : Int) : Option (Int × RE_) := (wk_ B n tE_ 4 p).bind (fun q => (eA_ B n q).bind (ee_ B n))
def cnt2_ (h : Int) : Int := if h = 0 then 0 else if h = 3 then 2 else 1
def PQ6_ (h : Int) (R : RE_) : Prop := (h % 2 = 1 → 1 ≤ R.1 ∧ R.1 ≤ 8) ∧ (2 ≤ h → iA_ R.2.2.2 0 R.2.2.1)
theorem PQ6_s {h w z : Int} {W : Int → Int} {R : RE_} (k : PQ6_ h R) (h0 : 0 ≤ h) (h3 : h ≤ 3) (c : w = 1 ∧ h % 2 = 0 ∧ 1 ≤ z ∧ z ≤ 8 ∨ w = 2 ∧ h < 2 ∧ iA_ W 0 z) : PQ6_ (h + w) (rp_ R w z W) ∧ 0 ≤ h + w ∧ h + w ≤ 3 ∧ cnt2_ (h + w) = cnt2_ h + 1 := by
  have e : h = 0 ∨ h = 1 ∨ h = 2 ∨ h = 3 := by omega
  unfold rp_ cnt2_
  rcases c with ⟨c1, c2, c3, c4⟩ | ⟨c1, c2, c3⟩
  · rw [if_pos c1, c1]
    refine ⟨⟨fun _ => ⟨c3, c4⟩, fun q => k.2 (by omega)⟩, by omega, by omega, ?_⟩
    (repeat' split) <;> omega
  · rw [if_neg (by omega), c1]
    refine ⟨⟨fun q => k.1 (by (exact omg_fa71de776b q)), fun _ => c3⟩, by omega, by omega, ?_⟩
    (repeat' split) <;> omega
theorem el_up {B : Int → Int32} {n : Int} : ∀ (m : Nat) (had : Int) (R : RE_) (p sp : Int) (a h : Int) (R' : RE_), el_ B n m had R p sp = some (a, h, R') → p ≤ n → 0 ≤ had → had ≤ 3 → PQ6_ had R → (sp = 0 ∨ sp = 1) → a < n ∧ p ≤ a ∧ 0 ≤ h ∧ h ≤ 3 ∧ PQ6_ h R' ∧ p - sp + 7 * (cnt2_ h - cnt2_ had) ≤ a
  | 0, _, _, _, _, _, _, _, e, _, _, _, _, _ => absurd e (by simp [el_])
  | m + 1, had, R, p, sp, a, h, R', e, hp, h0, h3, k, hs => by
    by_cases c : cm_ B n p = 47 ∨ cm_ B n p = 62
    · rw [el_q c] at e
      have f := Option.some.inj e
      injection f with f1 f2
      injection f2 with f2 f3
      subst f1 f2 f3
      have l := cm_in (B := B) (n := n) (j := p) (by omega)
      exact ⟨l, Int.le_refl _, h0, h3, k, by omega⟩
    · by_cases c2 : sp = 0
      · rw [el_0 c c2] at e
        exact absurd e (by simp)
      · cases e2 : at_F B n had p with
        | none =>
          rw [el_f c e2] at e
          exact absurd e (by simp)
        | some o =>
          obtain ⟨x, w, z, W⟩ := o
          rw [el_s c c2 e2] at e
          have u := at_up e2
          have s := sF_le (B := B) u.2.2
          obtain ⟨q1, q2, q3, q4⟩ := PQ6_s (R := R) k h0 h3 u.1
          have ih := el_up m (had + w) (rp_ R w z W) (sF B n x) (if x < sF B n x then 1 else 0) a h R' e s.2 q2 q3 q1 (by split <;> omega)
          obtain ⟨i1, i2, i3, i4, i5, i6⟩ := ih
          refine ⟨i1, by omega, i3, i4, i5, ?_⟩
          split at i6 <;> omega
theorem wk_up5 {B : Int → Int32} {n p q : Int} {T : List Int} {m : Nat} (h : ∀ c ∈ T, 0 ≤ c) (e : wk_ B n (tx_ T) m p = some q) (hp : p ≤ n) : q = p + m ∧ q ≤ n := wk_up m e (fun j _ _ => tx_nn h j) hp
theorem cl_up {B : Int → Int32} {n p q : Int} {T : List Int} {m : Nat} (h : ∀ c ∈ T, 0 ≤ c) (e : cl_ B n (tx_ T) m p = some q) (hp : p ≤ n) : p + m + 1 ≤ q ∧ q ≤ n := by
  unfold cl_ at e
  cases c : wk_ B n (tx_ T) m p with
  | none =>
    rw [c] at e
    exact absurd e (by simp)
  | some r =>
    have u := wk_up5 h c hp
    rw [c] at e
    have e2 : nd_ B n 62 (sF B n r) = some q := e
    have s := sF_le (B := B) u.2
    by_cases w : cm_ B n (sF B n r) = 62
    · rw [nd_y w] at e2
      have e3 := Option.some.inj e2
      have l := cm_in (B := B) (n := n) (j := sF B n r) (by omega)
      omega
    · rw [nd_x w] at e2
      exact absurd e2 (by simp)
theorem ee_up {B : Int → Int32} {n a h e : Int} {R R' : RE_} (k : ee_ B n (a, h, R) = some (e, R')) (ha : a ≤ n) : h = 3 ∧ R' = R ∧ a + 2 ≤ e ∧ e ≤ n := by
  unfold ee_ at k
  dsimp only at k
  by_cases c : h = 3
  · rw [if_neg (by omega)] at k
    by_cases c2 : cm_ B n a = 47
    · rw [if_pos c2] at k
      cases w : wk_ B n tG_ 2 a with
      | none =>
        rw [w] at k
        exact absurd k (by simp)
      | some r =>
        have u := wk_up5 (by decide) w ha
        rw [w] at k
        have k2 : (r, R) = (e, R') := Option.some.inj k
        injection k2 with k3 k4
        exact ⟨c, k4.symm, by omega, by omega⟩
    · rw [if_neg c2] at k
      by_cases c3 : cm_ B n a = 62
      · rw [nd_y c3] at k
        have l := cm_in (B := B) (n := n) (j := a) (by omega)
        cases w : gF B n (a + 1) with
        | none =>
          have k2 : (((gF B n (a + 1)).bind (cl_ B n tF_ 5)).map (fun e => (e, R))) = some (e, R') := k
          rw [w] at k2
          exact absurd k2 (by simp)
        | some g =>
          have k2 : (((gF B n (a + 1)).bind (cl_ B n tF_ 5)).map (fun e => (e, R))) = some (e, R') := k
          rw [w] at k2
          have ug := gF_up (show a + 1 ≤ n by omega) w
          have k3 : (cl_ B n tF_ 5 g).map (fun e => (e, R)) = some (e, R') := k2
          cases w2 : cl_ B n tF_ 5 g with
          | none =>
            rw [w2] at k3
            exact absurd k3 (by simp)
          | some r =>
            have u := cl_up (by decide) w2 ug.2
            rw [w2] at k3
            have k4 : (r, R) = (e, R') := Option.some.inj k3
            injection k4 with k5 k6
            exact ⟨c, k6.symm, by omega, by omega⟩
      · rw [nd_x c3] at k
        exact absurd k (by simp)
  · rw [if_pos (by omega)] at k
    exact absurd k (by simp)
theorem eA_up {B : Int → Int32} {n q a h : Int} {R : RE_} (e : eA_ B n q = some (a, h, R)) (hq : q ≤ n) : a < n ∧ q ≤ a ∧ PQ6_ h R ∧ (h = 3 → q + 14 ≤ a) := by
  have s := sF_le (B := B) hq
  unfold eA_ at e
  obtain ⟨i1, i2, i3, i4, i5, i6⟩ := el_up 3 0 RZ_ (sF B n q) (if q < sF B n q then 1 else 0) a h R e s.2 (by omega) (by omega) ⟨fun w => absurd w (by decide), fun w => absurd w (by decide)⟩ (by split <;> omega)
  refine ⟨i1, by omega, i5, fun w => ?_⟩
  have c0 : cnt2_ 0 = 0 := rfl
  have c3 : cnt2_ 3 = 2 := rfl
  rw [w, c0, c3] at i6
  split at i6 <;> omega
theorem eF_up {B : Int → Int32} {n p e : Int} {R : RE_} (k : eF_ B n p = some (e, R)) (hp : p ≤ n) : p + 20 ≤ e ∧ e ≤ n ∧ PQ6_ 3 R := by
  unfold eF_ at k
  cases w : wk_ B n tE_ 4 p with
  | none =>
    rw [w] at k
    exact absurd k (by simp)
  | some q =>
    have u := wk_up5 (by decide) w hp
    rw [w] at k
    have k2 : (eA_ B n q).bind (ee_ B n) = some (e, R) := k
    cases w2 : eA_ B n q with
    | none =>
      rw [w2] at k2
      exact absurd k2 (by simp)
    | some o =>
      obtain ⟨a, h, S⟩ := o
      have v := eA_up w2 u.2
      rw [w2] at k2
      have k3 : ee_ B n (a, h, S) = some (e, R) := k2
      have y := ee_up k3 (by omega)
      have z := v.2.2.2 y.1
      have x := v.2.2.1
      rw [y.1, ← y.2.1] at x
      exact ⟨by omega, by omega, x⟩
/-- the elements, up to the closing -/
noncomputable def es_ (B : Int → Int32) (n : Int) : Nat → Int → List RE_ → Option (Int × List RE_)
  | 0, _, _ => none
  | m + 1, p, L => if cm_ B n p = 60 ∧ cm_ B n (p + 1) = 47 then some (p, L) else (eF_ B n p).bind (fun o => (gF B n o.1).bind (fun g => es_ B n m g (L ++ [o.2])))
noncomputable def eS (B : Int → Int32) (n p : Int) (L : List RE_) : Option (Int × List RE_) := es_ B n ((n - p).toNat + 1) p L
theorem es_st {B : Int → Int32} {n : Int} : ∀ (m k : Nat) (p : Int) (L : List RE_), p ≤ n → n - p < m → n - p < k → es_ B n m p L = es_ B n k p L
  | 0, _, p, _, h, h1, _ => absurd h1 (by omega)
  | m + 1, 0, p, _, h, _, h2 => absurd h2 (by omega)
  | m + 1, k + 1, p, L, h, h1, h2 => by
    show (if cm_ B n p = 60 ∧ cm_ B n (p + 1) = 47 then some (p, L) else (eF_ B n p).bind (fun o => (gF B n o.1).bind (fun g => es_ B n m g (L ++ [o.2])))) = (if cm_ B n p = 60 ∧ cm_ B n (p + 1) = 47 then some (p, L) else (eF_ B n p).bind (fun o => (gF B n o.1).bind (fun g => es_ B n k g (L ++ [o.2]))))
    by_cases c : cm_ B n p = 60 ∧ cm_ B n (p + 1) = 47
    · rw [if_pos c, if_pos c]
    · rw [if_neg c, if_neg c]
      cases e : eF_ B n p with
      | none => rfl
      | some o =>
        obtain ⟨x, R⟩ := o
        have u := eF_up e h
        show (gF B n x).bind (fun g => es_ B n m g (L ++ [R])) = (gF B n x).bind (fun g => es_ B n k g (L ++ [R]))
        cases e2 : gF B n x with
        | none => rfl
        | some g =>
          have v := gF_up u.2.1 e2
          exact es_st m k g _ v.2 (by omega) (by omega)
theorem eS_q {B : Int → Int32} {n p : Int} {L : List RE_} (h : cm_ B n p = 60 ∧ cm_ B n (p + 1) = 47) : eS B n p L = some (p, L) := if_pos h
theorem eS_f {B : Int → Int32} {n p : Int} {L : List RE_} (h : ¬ (cm_ B n p = 60 ∧ cm_ B n (p + 1) = 47)) (e : eF_ B n p = none) : eS B n p L = none := by
  show (if cm_ B n p = 60 ∧ cm_ B n (p + 1) = 47 then some (p, L) else (eF_ B n p).bind (fun o => (gF B n o.1).bind (fun g => es_ B n (n - p).toNat g (L ++ [o.2])))) = none
  rw [if_neg h, e]
  rfl
theorem eS_g {B : Int → Int32} {n p x : Int} {R : RE_} {L : List RE_} (h : ¬ (cm_ B n p = 60 ∧ cm_ B n (p + 1) = 47)) (e : eF_ B n p = some (x, R)) (e2 : gF B n x = none) : eS B n p L = none := by
  show (if cm_ B n p = 60 ∧ cm_ B n (p + 1) = 47 then some (p, L) else (eF_ B n p).bind (fun o => (gF B n o.1).bind (fun g => es_ B n (n - p).toNat g (L ++ [o.2])))) = none
  rw [if_neg h, e]
  show (gF B n x).bind (fun g => es_ B n (n - p).toNat g (L ++ [R])) = none
  rw [e2]
  rfl
theorem eS_s {B : Int → Int32} {n p x g : Int} {R : RE_} {L : List RE_} (hp : p ≤ n) (h : ¬ (cm_ B n p = 60 ∧ cm_ B n (p + 1) = 47)) (e : eF_ B n p = some (x, R)) (e2 : gF B n x = some g) : eS B n p L = eS B n g (L ++ [R]) := by
  have u := eF_up e hp
  have v := gF_up u.2.1 e2
  show (if cm_ B n p = 60 ∧ cm_ B n (p + 1) = 47 then some (p, L) else (eF_ B n p).bind (fun o => (gF B n o.1).bind (fun g => es_ B n (n - p).toNat g (L ++ [o.2])))) = _
  rw [if_neg h, e]
  show (gF B n x).bind (fun g => es_ B n (n - p).toNat g (L ++ [R])) = _
  rw [e2]
  exact es_st _ _ g _ v.2 (by omega) (by omega)
/-- the whole of it -/
def tA6_ (B : Int → Int32) (n : Int) (L : List RE_) (p : Int) : Option (List RE_) := (gF B n p).bind (fun g => if g = n then some L else none)
def hs_ (B : Int → Int32) (n : Int) : Option Int := ((gF B n 0).bind (wk_ B n tH_ 5)).map (sF B n)
noncomputable def mT6_ (B : Int → Int32) (n : Int) (o : Int × List RE_) : Option (List RE_) := (cl_ B n tI_ 6 o.1).bind (tA6_ B n o.2)
noncomputable def mk_ (B : Int → Int32) (n : Int) : Option (List RE_) := (hs_ B n).bind (fun s => if cm_ B n s = 47 then (wk_ B n tG_ 2 s).bind (tA6_ B n []) else ((nd_ B n 62 s).bind (gF B n)).bind (fun g => (eS B n g []).bind (mT6_ B n)))
/-- it looks at no byte but the first n -/
theorem nd_g {B B' : Int → Int32} {n : Int} (h : ∀ j : Int, cm_ B n j = cm_ B' n j) : nd_ B n = nd_ B' n := by
  funext c p
  unfold nd_
  rw [h]
theorem wk_g {B B' : Int → Int32} {n : Int} (h : ∀ j : Int, cm_ B n j = cm_ B' n j) : wk_ B n = wk_ B' n := by
  funext t m p
  induction m with
  | zero => rfl
  | succ m ih =>
    show (wk_ B n t m p).bind (nd_ B n (t m)) = (wk_ B' n t m p).bind (nd_ B' n (t m))
    rw [ih, nd_g h]
theorem rn_g {B B' : Int → Int32} {n : Int} {Q : Int → Bool} (h : ∀ j : Int, cm_ B n j = cm_ B' n j) : ∀ (m : Nat) (p : Int), rn_ Q B n m p = rn_ Q B' n m p
  | 0, _ => rfl
  | m + 1, p => by
    show (if Q (cm_ B n p) = true then rn_ Q B n m (p + 1) else p) = (if Q (cm_ B' n p) = true then rn_ Q B' n m (p + 1) else p)
    rw [h, rn_g h m]
theorem sF_g {B B' : Int → Int32} {n : Int} (h : ∀ j : Int, cm_ B n j = cm_ B' n j) : sF B n = sF B' n := by
  funext p
  exact rn_g h _ p
theorem lF_g {B B' : Int → Int32} {n : Int} (h : ∀ j : Int, cm_ B n j = cm_ B' n j) : lF B n = lF B' n := by
  funext p
  exact rn_g h _ p
theorem dh_g {B B' : Int → Int32} {n : Int} (h : ∀ j : Int, cm_ B n j = cm_ B' n j) : ∀ (m : Nat) (p : Int), dh_ B n m p = dh_ B' n m p
  | 0, _ => rfl
  | m + 1, p => by
    show (if cm_ B n p = 45 ∧ cm_ B n (p + 1) = 45 then p else dh_ B n m (p + 1)) = (if cm_ B' n p = 45 ∧ cm_ B' n (p + 1) = 45 then p else dh_ B' n m (p + 1))
    rw [h, h, dh_g h m]
theorem dD_g {B B' : Int → Int32} {n : Int} (h : ∀ j : Int, cm_ B n j = cm_ B' n j) : dD_ B n = dD_ B' n := by
  funext p
  show wk_ B n tD_ 3 (dh_ B n (n - p).toNat p) = wk_ B' n tD_ 3 (dh_ B' n (n - p).toNat p)
  rw [wk_g h, dh_g h]
theorem cF_g {B B' : Int → Int32} {n : Int} (h : ∀ j : Int, cm_ B n j = cm_ B' n j) : cF B n = cF B' n := by
  funext p
  unfold cF
  rw [wk_g h, dD_g h]
theorem ga_g {B B' : Int → Int32} {n : Int} (h : ∀ j : Int, cm_ B n j = cm_ B' n j) : ∀ (m : Nat), ga_ B n m = ga_ B' n m
  | 0 => rfl
  | m + 1 => by
    funext p
    show (if cm_ B n (sF B n p) = 60 ∧ cm_ B n (sF B n p + 1) = 33 then (cF B n (sF B n p)).bind (ga_ B n m) else some (sF B n p)) = (if cm_ B' n (sF B' n p) = 60 ∧ cm_ B' n (sF B' n p + 1) = 33 then (cF B' n (sF B' n p)).bind (ga_ B' n m) else some (sF B' n p))
    rw [ga_g h m, sF_g h, cF_g h, h, h]
theorem gF_g {B B' : Int → Int32} {n : Int} (h : ∀ j : Int, cm_ B n j = cm_ B' n j) : gF B n = gF B' n := by
  funext p
  unfold gF
  rw [ga_g h]
theorem cl_g {B B' : Int → Int32} {n : Int} (h : ∀ j : Int, cm_ B n j = cm_ B' n j) : cl_ B n = cl_ B' n := by
  funext t m p
  unfold cl_
  rw [wk_g h, sF_g h, nd_g h]
theorem dg_g {B B' : Int → Int32} {n : Int} (h : ∀ j : Int, cm_ B n j = cm_ B' n j) : ∀ (m : Nat) (p v : Int), dg_ B n m p v = dg_ B' n m p v
  | 0, _, _ => rfl
  | m + 1, p, v => by
    show (if 48 ≤ cm_ B n p ∧ cm_ B n p ≤ 57 then dg_ B n m (p + 1) (10 * v + cm_ B n p - 48) else (p, v)) = (if 48 ≤ cm_ B' n p ∧ cm_ B' n p ≤ 57 then dg_ B' n m (p + 1) (10 * v + cm_ B' n p - 48) else (p, v))
    rw [h, dg_g h m]
theorem nc_g {B B' : Int → Int32} {n : Int} (h : ∀ j : Int, cm_ B n j = cm_ B' n j) (p z : Int) : nc_ B n p z = nc_ B' n p z := by
  unfold nc_
  rw [h p, h (p + 1), h (p + 2), h (p + 3)]
theorem rf_g {B B' : Int → Int32} {n : Int} (h : ∀ j : Int, cm_ B n j = cm_ B' n j) : rf_ B n = rf_ B' n := by
  funext p
  unfold rf_ nu_ nM6_
  rw [nd_g h, lF_g h, nc_g h, dg_g h, h p, h (p + 1)]
theorem vl_g {B B' : Int → Int32} {n q : Int} (h : ∀ j : Int, cm_ B n j = cm_ B' n j) : ∀ (m : Nat) (p z : Int) (W : Int → Int), vl_ B n q m p z W = vl_ B' n q m p z W
  | 0, _, _, _ => rfl
  | m + 1, p, z, W => by
    show (if cm_ B n p = q then some (p, z, W) else if cm_ B n p < 32 ∨ 126 < cm_ B n p ∨ cm_ B n p = 60 then none else if cm_ B n p = 38 then (rf_ B n (p + 1)).bind (fun o => vl_ B n q m o.1 (z + 1) (fun j => if j = z then o.2 else W j)) else vl_ B n q m (p + 1) (z + 1) (fun j => if j = z then cm_ B n p else W j)) = (if cm_ B' n p = q then some (p, z, W) else if cm_ B' n p < 32 ∨ 126 < cm_ B' n p ∨ cm_ B' n p = 60 then none else if cm_ B' n p = 38 then (rf_ B' n (p + 1)).bind (fun o => vl_ B' n q m o.1 (z + 1) (fun j => if j = z then o.2 else W j)) else vl_ B' n q m (p + 1) (z + 1) (fun j => if j = z then cm_ B' n p else W j))
    have e : (fun (o : Int × Int) => vl_ B n q m o.1 (z + 1) (fun j => if j = z then o.2 else W j)) = (fun (o : Int × Int) => vl_ B' n q m o.1 (z + 1) (fun j => if j = z then o.2 else W j)) := by
      funext o
      exact vl_g h m _ _ _
    rw [e, vl_g h m, h p, rf_g h]
theorem vq_g {B B' : Int → Int32} {n : Int} (h : ∀ j : Int, cm_ B n j = cm_ B' n j) : vq_ B n = vq_ B' n := by
  funext p
  unfold vq_ vG
  rw [vl_g h, h p]
theorem wh_g {B B' : Int → Int32} {n : Int} (h : ∀ j : Int, cm_ B n j = cm_ B' n j) (d p : Int) : wh_ B n d p = wh_ B' n d p := by
  unfold wh_
  rw [lF_g h, h p, h (p + 1)]
theorem at_g {B B' : Int → Int32} {n : Int} (h : ∀ j : Int, cm_ B n j = cm_ B' n j) : at_F B n = at_F B' n := by
  funext d p
  unfold at_F
  rw [wh_g h, nd_g h, lF_g h, vq_g h]
theorem el_g {B B' : Int → Int32} {n : Int} (h : ∀ j : Int, cm_ B n j = cm_ B' n j) : ∀ (m : Nat) (d : Int) (R : RE_) (p s : Int), el_ B n m d R p s = el_ B' n m d R p s
  | 0, _, _, _, _ => rfl
  | m + 1, d, R, p, s => by
    show (if cm_ B n p = 47 ∨ cm_ B n p = 62 then some (p, d, R) else if s = 0 then none else (at_F B n d p).bind (fun o => el_ B n m (d + o.2.1) (rp_ R o.2.1 o.2.2.1 o.2.2.2) (sF B n o.1) (if o.1 < sF B n o.1 then 1 else 0))) = (if cm_ B' n p = 47 ∨ cm_ B' n p = 62 then some (p, d, R) else if s = 0 then none else (at_F B' n d p).bind (fun o => el_ B' n m (d + o.2.1) (rp_ R o.2.1 o.2.2.1 o.2.2.2) (sF B' n o.1) (if o.1 < sF B' n o.1 then 1 else 0)))
    have e : (fun (o : Int × Int × Int × (Int → Int)) => el_ B n m (d + o.2.1) (rp_ R o.2.1 o.2.2.1 o.2.2.2) (sF B n o.1) (if o.1 < sF B n o.1 then 1 else 0)) = (fun (o : Int × Int × Int × (Int → Int)) => el_ B' n m (d + o.2.1) (rp_ R o.2.1 o.2.2.1 o.2.2.2) (sF B' n o.1) (if o.1 < sF B' n o.1 then 1 else 0)) := by
      funext o
      rw [el_g h m, sF_g h]
    rw [e, h p, at_g h]
theorem ee_g {B B' : Int → Int32} {n : Int} (h : ∀ j : Int, cm_ B n j = cm_ B' n j) : ee_ B n = ee_ B' n := by
  funext o
  unfold ee_
  rw [wk_g h, nd_g h, gF_g h, cl_g h, h o.1]
theorem eF_g {B B' : Int → Int32} {n : Int} (h : ∀ j : Int, cm_ B n j = cm_ B' n j) : eF_ B n = eF_ B' n := by
  funext p
  have e : (fun q => (eA_ B n q).bind (ee_ B n)) = (fun q => (eA_ B' n q).bind (ee_ B' n)) := by
    funext q
    unfold eA_
    rw [el_g h, sF_g h, ee_g h]
  unfold eF_
  rw [wk_g h, e]
theorem es_g {B B' : Int → Int32} {n : Int} (h : ∀ j : Int, cm_ B n j = cm_ B' n j) : ∀ (m : Nat) (p : Int) (L : List RE_), es_ B n m p L = es_ B' n m p L
  | 0, _, _ => rfl
  | m + 1, p, L => by
    show (if cm_ B n p = 60 ∧ cm_ B n (p + 1) = 47 then some (p, L) else (eF_ B n p).bind (fun o => (gF B n o.1).bind (fun g => es_ B n m g (L ++ [o.2])))) = (if cm_ B' n p = 60 ∧ cm_ B' n (p + 1) = 47 then some (p, L) else (eF_ B' n p).bind (fun o => (gF B' n o.1).bind (fun g => es_ B' n m g (L ++ [o.2]))))
    have e : (fun (o : Int × RE_) => (gF B n o.1).bind (fun g => es_ B n m g (L ++ [o.2]))) = (fun (o : Int × RE_) => (gF B' n o.1).bind (fun g => es_ B' n m g (L ++ [o.2]))) := by
      funext o
      rw [gF_g h]
      congr 1
      funext g
      exact es_g h m _ _
    rw [e, h p, h (p + 1), eF_g h]
theorem tA6_g {B B' : Int → Int32} {n : Int} (h : ∀ j : Int, cm_ B n j = cm_ B' n j) : tA6_ B n = tA6_ B' n := by
  funext L p
  unfold tA6_
  rw [gF_g h]
theorem mT6_g {B B' : Int → Int32} {n : Int} (h : ∀ j : Int, cm_ B n j = cm_ B' n j) : mT6_ B n = mT6_ B' n := by
  funext o
  unfold mT6_
  rw [cl_g h, tA6_g h]
theorem mk_g {B B' : Int → Int32} {n : Int} (h : ∀ j : Int, 0 ≤ j → j < n → B j = B' j) : mk_ B n = mk_ B' n := by
  have c := cm_g h
  have e : (fun s => if cm_ B n s = 47 then (wk_ B n tG_ 2 s).bind (tA6_ B n []) else ((nd_ B n 62 s).bind (gF B n)).bind (fun g => (eS B n g []).bind (mT6_ B n))) = (fun s => if cm_ B' n s = 47 then (wk_ B' n tG_ 2 s).bind (tA6_ B' n []) else ((nd_ B' n 62 s).bind (gF B' n)).bind (fun g => (eS B' n g []).bind (mT6_ B' n))) := by
    funext s
    have e2 : (fun g => (eS B n g []).bind (mT6_ B n)) = (fun g => (eS B' n g []).bind (mT6_ B' n)) := by
      funext g
      unfold eS
      rw [es_g c, mT6_g c]
    rw [e2, c s, wk_g c, tA6_g c, nd_g c, gF_g c]
  unfold mk_ hs_
  rw [e, gF_g c, wk_g c, sF_g c]
