/-! ROWS OF NUMBERS -/
theorem omg_811872366e {x0 : Int} {x1 : Int} {x2 : Int} {x3 : Int} (a0 : (((((x0 % (256 : Int)) + ((256 : Int) * (x1 % (256 : Int)))) + ((65536 : Int) * (x2 % (256 : Int)))) + ((16777216 : Int) * (x3 % (256 : Int)))) = (1310740 : Int))) : ((x2 % (256 : Int)) = (20 : Int)) := by omega
theorem omg_32f304de01 {x0 : Int} {x1 : Int} {x2 : Int} {x3 : Int} (a0 : (((((x0 % (256 : Int)) + ((256 : Int) * (x1 % (256 : Int)))) + ((65536 : Int) * (x2 % (256 : Int)))) + ((16777216 : Int) * (x3 % (256 : Int)))) = (1310740 : Int))) : ((x3 % (256 : Int)) = (0 : Int)) := by omega
theorem omg_8bc5037101 {x0 : Int} {x1 : Int} {x2 : Int} {x3 : Int} (a0 : (((((x0 % (256 : Int)) + ((256 : Int) * (x1 % (256 : Int)))) + ((65536 : Int) * (x2 % (256 : Int)))) + ((16777216 : Int) * (x3 % (256 : Int)))) = (0 : Int))) : ((x1 % (256 : Int)) = (0 : Int)) := by omega
theorem omg_8c8836a95b {x0 : Int} {x1 : Int} {x2 : Int} {x3 : Int} {x4 : Int} {x5 : Int} {x6 : Int} {x7 : Int} (a0 : (((((x0 % (256 : Int)) + ((256 : Int) * (x1 % (256 : Int)))) + ((65536 : Int) * (x2 % (256 : Int)))) + ((16777216 : Int) * (x3 % (256 : Int)))) = (1310740 : Int))) (a1 : (((((x4 % (256 : Int)) + ((256 : Int) * (x5 % (256 : Int)))) + ((65536 : Int) * (x6 % (256 : Int)))) + ((16777216 : Int) * (x7 % (256 : Int)))) = (20 : Int))) : ((x2 % (256 : Int)) = (x4 % (256 : Int))) := by omega
theorem omg_7ee3c22093 {x0 : Int} {x1 : Int} {x2 : Int} {x3 : Int} {x4 : Int} {x5 : Int} {x6 : Int} {x7 : Int} (a0 : (((((x0 % (256 : Int)) + ((256 : Int) * (x1 % (256 : Int)))) + ((65536 : Int) * (x2 % (256 : Int)))) + ((16777216 : Int) * (x3 % (256 : Int)))) = (1310740 : Int))) (a1 : (((((x4 % (256 : Int)) + ((256 : Int) * (x5 % (256 : Int)))) + ((65536 : Int) * (x6 % (256 : Int)))) + ((16777216 : Int) * (x7 % (256 : Int)))) = (20 : Int))) : ((x3 % (256 : Int)) = (x5 % (256 : Int))) := by omega
theorem omg_8a0cc9d867 {x0 : Int} {x1 : Int} {x2 : Int} {x3 : Int} {x4 : Int} {x5 : Int} (a0 : (((x0 % (256 : Int)) + ((256 : Int) * (x1 % (256 : Int)))) = (0 : Int))) (a1 : (((((x2 % (256 : Int)) + ((256 : Int) * (x3 % (256 : Int)))) + ((65536 : Int) * (x4 % (256 : Int)))) + ((16777216 : Int) * (x5 % (256 : Int)))) = (20 : Int))) : ((x0 % (256 : Int)) = (x4 % (256 : Int))) := by omega
theorem omg_c39f70c1c9 {x0 : Int} {x1 : Int} {x2 : Int} {x3 : Int} {x4 : Int} {x5 : Int} (a0 : (((x0 % (256 : Int)) + ((256 : Int) * (x1 % (256 : Int)))) = (0 : Int))) (a1 : (((((x2 % (256 : Int)) + ((256 : Int) * (x3 % (256 : Int)))) + ((65536 : Int) * (x4 % (256 : Int)))) + ((16777216 : Int) * (x5 % (256 : Int)))) = (20 : Int))) : ((x1 % (256 : Int)) = (x5 % (256 : Int))) := by omega
theorem omg_cee7d2ace9 {x0 : Int} {x1 : Int} {x2 : Int} {x3 : Int} {x4 : Int} {x5 : Int} (a0 : (((((x0 % (256 : Int)) + ((256 : Int) * (x1 % (256 : Int)))) + ((65536 : Int) * (x2 % (256 : Int)))) + ((16777216 : Int) * (x3 % (256 : Int)))) = (0 : Int))) (a1 : (((x4 % (256 : Int)) + ((256 : Int) * (x5 % (256 : Int)))) = (0 : Int))) : ((x0 % (256 : Int)) = (x4 % (256 : Int))) := by omega
theorem omg_4553505ae7 {x0 : Int} {x1 : Int} {x2 : Int} {x3 : Int} {x4 : Int} {x5 : Int} (a0 : (((((x0 % (256 : Int)) + ((256 : Int) * (x1 % (256 : Int)))) + ((65536 : Int) * (x2 % (256 : Int)))) + ((16777216 : Int) * (x3 % (256 : Int)))) = (0 : Int))) (a1 : (((x4 % (256 : Int)) + ((256 : Int) * (x5 % (256 : Int)))) = (0 : Int))) : ((x1 % (256 : Int)) = (x5 % (256 : Int))) := by omega
theorem omg_39806c0d09 {x0 : Int} {x1 : Int} {x2 : Int} (a0 : (x0 = x1)) (a1 : (((x2 < (0 : Int)) ↔ (x0 < (0 : Int))) ∧ (((x2 = (0 : Int)) ↔ (x0 = (0 : Int))) ∧ (((0 : Int) < x2) ↔ ((0 : Int) < x0))))) (a2 : (¬ (x2 = (0 : Int)))) (a3 : (x1 = (0 : Int))) : False := by omega
theorem omg_e6d08f9851 {x0 : Int} {x1 : Int} {x2 : Int} {x3 : Int} (a0 : (x0 = x1)) (a1 : (x2 = x3)) (a2 : (¬ (x0 = x2))) (a3 : (x1 = x3)) : False := by omega
theorem omg_87640f9aa1 {x0 : Int} (a0 : ((0 : Int) ≤ x0)) : ((0 : Int) ≤ (x0 + (20 : Int))) := by omega
theorem omg_acd30192c0 {x0 : Int} {x1 : Int} (a0 : (x0 = x1)) (a1 : (¬ (x0 = (0 : Int)))) (a2 : (x1 = (0 : Int))) : False := by omega
theorem omg_166c39d5f6 {x0 : Int} {x1 : Nat} (a0 : ((0 : Int) ≤ x0)) (a1 : ((x0 + (46 : Int)) ≤ ((x1 : Nat) : Int))) (a2 : (x1 ≤ (100000 : Nat))) : (((-(2147483648 : Int)) ≤ (x0 + (34 : Int))) ∧ ((x0 + (34 : Int)) < (2147483648 : Int))) := by omega
theorem omg_2ec29f96b5 {x0 : Int} {x1 : Int} (a0 : ((x0 + (46 : Int)) ≤ x1)) : (((x0 + (34 : Int)) + (((4 : Nat) : Nat) : Int)) ≤ x1) := by omega
theorem omg_45e051169b {x0 : Int} (a0 : ((0 : Int) ≤ x0)) : ((0 : Int) ≤ (x0 + (34 : Int))) := by omega
theorem omg_743a53c656 {x0 : Int} {x1 : Nat} (a0 : ((0 : Int) ≤ x0)) (a1 : ((x0 + (46 : Int)) ≤ ((x1 : Nat) : Int))) (a2 : (x1 ≤ (100000 : Nat))) : (((-(2147483648 : Int)) ≤ (x0 + (38 : Int))) ∧ ((x0 + (38 : Int)) < (2147483648 : Int))) := by omega
theorem omg_c1f1ba87da {x0 : Int} {x1 : Nat} {x2 : Int} (a0 : ((x0 + (46 : Int)) ≤ ((x1 : Nat) : Int))) (a1 : (x2 = (x0 + (38 : Int)))) : ((x2 + (4 : Int)) ≤ ((x1 : Nat) : Int)) := by omega
theorem omg_2566e2c3a9 {x0 : Int} {x1 : Int} (a0 : ((0 : Int) ≤ x0)) (a1 : (x1 = (x0 + (38 : Int)))) : ((0 : Int) ≤ x1) := by omega
theorem omg_0cfc9a5be6 {x0 : Int} {x1 : Int} (a0 : ((x0 + (46 : Int)) ≤ x1)) : (((x0 + (38 : Int)) + (((4 : Nat) : Nat) : Int)) ≤ x1) := by omega
theorem omg_602ceb64b2 {x0 : Int} (a0 : ((0 : Int) ≤ x0)) : ((0 : Int) ≤ (x0 + (38 : Int))) := by omega
theorem omg_26f441bfdd {x0 : Int} {x1 : Int} {x2 : Int} (a0 : (x0 = x1)) (a1 : (((x2 < (0 : Int)) ↔ (x0 < (0 : Int))) ∧ (((x2 = (0 : Int)) ↔ (x0 = (0 : Int))) ∧ (((0 : Int) < x2) ↔ ((0 : Int) < x0))))) (a2 : (x2 = (0 : Int))) : (x1 = (0 : Int)) := by omega
theorem omg_e41e7867ed {x0 : Int} {x1 : Int} (a0 : (x0 = x1)) (a1 : (x0 = (0 : Int))) : ((x1 = (0 : Int)) ∨ (x1 = (8 : Int))) := by omega
theorem omg_3ece37706e {x0 : Int} {x1 : Int} (a0 : (x0 = x1)) (a1 : (x0 = (0 : Int))) : (x1 = (0 : Int)) := by omega
theorem omg_d706b4ad8a {x0 : Int} {x1 : Int} {x2 : Int} (a0 : (x0 = x1)) (a1 : (((x2 < (0 : Int)) ↔ (x0 < (33639248 : Int))) ∧ (((x2 = (0 : Int)) ↔ (x0 = (33639248 : Int))) ∧ (((0 : Int) < x2) ↔ ((33639248 : Int) < x0))))) (a2 : (x2 = (0 : Int))) : (x1 = (33639248 : Int)) := by omega
theorem tw_rng (f : Nat → Int32) (k : Int) : 0 ≤ tw f k ∧ tw f k ≤ 65535 := by
  have a := ti_and (z := gr f k &&& 255) (m := 255) (b := 255) 8 rfl (by decide) (by decide)
  have b := ti_and (z := gr f (k + 1) &&& 255) (m := 255) (b := 255) 8 rfl (by decide) (by decide)
  have c := ti_shl (z := (gr f (k + 1) &&& 255) <<< ((8 : Int32) &&& 31)) (b := 256) rfl rfl 8 (by decide) (by decide) b.1 (by omega)
  have d := ti_or (z := tw_r f k) (c := 65536) 16 rfl rfl rfl a.1 (by omega) (by omega) (by omega) (by decide)
  unfold tw
  omega
/-- the places of a directory's entries -/
def dp_n (f : Nat → Int32) (a : Int) : Nat → Int
  | 0 => a
  | k + 1 => dp_n f a k + (46 + tw f (dp_n f a k + 28))
def dp (f : Nat → Int32) (a k : Int) : Int := dp_n f a k.toNat
theorem dp_0 (f : Nat → Int32) (a : Int) : dp f a 0 = a := rfl
theorem dp_s {f : Nat → Int32} {a k m : Int} (h : 0 ≤ k) (hm : m = k + 1) : dp f a m = dp f a k + (46 + tw f (dp f a k + 28)) := by
  subst hm
  unfold dp
  rw [show (k + 1).toNat = k.toNat + 1 by omega, dp_n]
theorem dp_up (f : Nat → Int32) (a : Int) : ∀ (n : Nat) (k : Int), 0 ≤ k → dp f a k ≤ dp f a (k + n)
  | 0, k, _ => by rw [show k + ((0 : Nat) : Int) = k by omega]; exact Int.le_refl _
  | n + 1, k, h0 => by
    have h := dp_up f a n k h0
    have d := dp_s (f := f) (a := a) (k := k + n) (m := k + n + 1) (by omega) rfl
    have t := tw_rng f (dp f a (k + n) + 28)
    rw [show k + ((n + 1 : Nat) : Int) = k + n + 1 by omega]
    omega
theorem dp_le {f : Nat → Int32} {a j k : Int} (h0 : 0 ≤ j) (h1 : j ≤ k) : dp f a j ≤ dp f a k := by
  have h := dp_up f a (k - j).toNat j h0
  rwa [show j + ((k - j).toNat : Int) = k by omega] at h

/-! READING A ROW OF BYTES AS A FILE: the pure picture -/
def aw (A : Int → Int32) (y : Int) : Nat → Int
  | 0 => 0
  | n + 1 => 256 * aw A (y + 1) n + (A y &&& 255).toInt
theorem av_aw {f : Nat → Int32} {A : Int → Int32} : ∀ (n : Nat) (y : Int), (∀ j : Int, y ≤ j → j < y + n → A j = gr f j) → av f y n = aw A y n
  | 0, _, _ => rfl
  | n + 1, y, h => by
    have ih := av_aw n (y + 1) (fun j h0 h1 => h j (by omega) (by omega))
    have e := h y (Int.le_refl _) (by omega)
    show 256 * av f (y + 1) n + (gr f y &&& 255).toInt = 256 * aw A (y + 1) n + (A y &&& 255).toInt
    rw [ih, e]
theorem av_A {f : Nat → Int32} {A : Int → Int32} {sz y : Int} (h : ∀ j : Int, 0 ≤ j → j < sz → A j = gr f j) (n : Nat) (h0 : 0 ≤ y) (h1 : y + n ≤ sz) : av f y n = aw A y n := av_aw n y (fun j j0 j1 => h j (by omega) (by omega))
theorem bz_255 (x : Int32) : (x &&& 255).toInt = x.toInt % 256 := ti_255 rfl
theorem aw_2 (A : Int → Int32) (y : Int) : aw A y 2 = (A y).toInt % 256 + 256 * ((A (y + 1)).toInt % 256) := by
  have e : aw A y 2 = 256 * (256 * 0 + (A (y + 1) &&& 255).toInt) + (A y &&& 255).toInt := rfl
  rw [e, bz_255, bz_255]
  omega
theorem aw_4 (A : Int → Int32) (y : Int) : aw A y 4 = (A y).toInt % 256 + 256 * ((A (y + 1)).toInt % 256) + 65536 * ((A (y + 2)).toInt % 256) + 16777216 * ((A (y + 3)).toInt % 256) := by
  have e : aw A y 4 = 256 * (256 * (256 * (256 * 0 + (A (y + 1 + 1 + 1) &&& 255).toInt) + (A (y + 1 + 1) &&& 255).toInt) + (A (y + 1) &&& 255).toInt) + (A y &&& 255).toInt := rfl
  rw [e, bz_255, bz_255, bz_255, bz_255, show y + 1 + 1 + 1 = y + 3 by omega, show y + 1 + 1 = y + 2 by omega]
  omega
theorem aw2 (A : Int → Int32) (y : Int) : 0 ≤ aw A y 2 ∧ aw A y 2 ≤ 65535 := by
  rw [aw_2]
  omega
theorem aw4 (A : Int → Int32) (y : Int) : 0 ≤ aw A y 4 ∧ aw A y 4 < 4294967296 := by
  rw [aw_4]
  omega
theorem aw4_2 (A : Int → Int32) (y : Int) : aw A y 4 = aw A y 2 + 65536 * aw A (y + 2) 2 := by
  rw [aw_4, aw_2, aw_2, show y + 2 + 1 = y + 3 by omega]
  omega
theorem b8_inj {x y : Int32} (hx : -128 ≤ x.toInt ∧ x.toInt ≤ 127) (hy : -128 ≤ y.toInt ∧ y.toInt ≤ 127) (h : x.toInt % 256 = y.toInt % 256) : x = y := Int32.toInt_inj.mp (by omega)
/-- the end; an entry; the directory -/
def ed_ (A : Int → Int32) (e : Int) : Prop := aw A e 4 = 101010256 ∧ aw A (e + 4) 4 = 0 ∧ aw A (e + 8) 2 = aw A (e + 10) 2 ∧ aw A (e + 20) 2 = 0
def ey_ (A : Int → Int32) (e : Int) : Prop := aw A e 4 = 33639248 ∧ aw A (e + 4) 4 = 1310740 ∧ aw A (e + 8) 2 = 0 ∧ (aw A (e + 10) 2 = 0 ∨ aw A (e + 10) 2 = 8) ∧ aw A (e + 30) 4 = 0 ∧ aw A (e + 34) 4 = 0 ∧ aw A (e + 38) 4 = 0
theorem ey_C {A : Int → Int32} {e : Int} (h : aw A (e + 4) 2 = 20) (h2 : aw A (e + 6) 2 = 20) : aw A (e + 4) 4 = 1310740 := by
  rw [aw4_2, show e + 4 + 2 = e + 6 by omega, h, h2]
  rfl
theorem ey_D {A : Int → Int32} {e : Int} (h : aw A (e + 4) 4 = 1310740) : aw A (e + 4) 2 = 20 ∧ aw A (e + 6) 2 = 20 := by
  rw [aw4_2, show e + 4 + 2 = e + 6 by omega] at h
  have h1 := aw2 A (e + 4)
  have h2 := aw2 A (e + 6)
  omega
def dz (A : Int → Int32) (x : Int) : Nat → Int
  | 0 => x
  | k + 1 => dz A x k + 46 + aw A (dz A x k + 28) 2
def dy_ (A : Int → Int32) (x e : Int) (n : Nat) : Prop := (∀ k : Nat, k < n → dz A x k + 46 ≤ e ∧ ey_ A (dz A x k)) ∧ dz A x n = e
theorem dz_up (A : Int → Int32) (x : Int) : ∀ m k : Nat, dz A x k + 46 * m ≤ dz A x (k + m)
  | 0, k => by rw [Nat.add_zero]; omega
  | m + 1, k => by
    have h := dz_up A x m k
    have t := aw2 A (dz A x (k + m) + 28)
    have e : dz A x (k + (m + 1)) = dz A x (k + m) + 46 + aw A (dz A x (k + m) + 28) 2 := rfl
    rw [e]
    omega
theorem dz_in {A : Int → Int32} {x e : Int} {n k : Nat} (h : dy_ A x e n) (hk : k < n) : x ≤ dz A x k ∧ dz A x k + 46 + aw A (dz A x k + 28) 2 ≤ e ∧ dz A x (k + 1) = dz A x k + 46 + aw A (dz A x k + 28) 2 := by
  have u := dz_up A x (n - (k + 1)) (k + 1)
  rw [show k + 1 + (n - (k + 1)) = n by omega, h.2] at u
  have v := dz_up A x k 0
  rw [Nat.zero_add] at v
  have e0 : dz A x 0 = x := rfl
  have e1 : dz A x (k + 1) = dz A x k + 46 + aw A (dz A x k + 28) 2 := rfl
  omega
theorem dz_lt {A : Int → Int32} {x e : Int} {n k : Nat} (h : dy_ A x e n) (hk : dz A x k < e) : k < n := by
  rcases Nat.lt_or_ge k n with w | w
  · exact w
  · have u := dz_up A x (k - n) n
    rw [show n + (k - n) = k by omega, h.2] at u
    omega
theorem dy_no {A : Int → Int32} {x e : Int} {n k : Nat} (hk : k < n) (h : ¬ (dz A x k + 46 ≤ e ∧ ey_ A (dz A x k))) : ¬ dy_ A x e n := fun q => h (q.1 k hk)
theorem dy_s {A : Int → Int32} {x e : Int} {k : Nat} (h : ∀ j : Nat, j < k → dz A x j + 46 ≤ e ∧ ey_ A (dz A x j)) (h2 : dz A x k + 46 ≤ e ∧ ey_ A (dz A x k)) : ∀ j : Nat, j < k + 1 → dz A x j + 46 ≤ e ∧ ey_ A (dz A x j) := fun j hj => by
  by_cases c : j = k
  · rw [c]
    exact h2
  · exact h j (by omega)
/-- a record that says what its entry says -/
def rr_ (A : Int → Int32) (lim e : Int) : Prop := aw A (e + 42) 4 + 30 + aw A (e + 28) 2 + aw A (e + 20) 4 ≤ lim ∧ aw A (aw A (e + 42) 4) 4 = 67324752 ∧ (∀ k : Int, 0 ≤ k → k < 26 → A (e + 6 + k) = A (aw A (e + 42) 4 + 4 + k)) ∧ ∀ k : Int, 0 ≤ k → k < aw A (e + 28) 2 → A (e + 46 + k) = A (aw A (e + 42) 4 + 30 + k)
theorem rr_iff {A : Int → Int32} {lim e R : Int} (eR : R = aw A (e + 42) 4) (hB : ∀ j : Int, -128 ≤ (A j).toInt ∧ (A j).toInt ≤ 127) (hy : ey_ A e) : rr_ A lim e ↔ (R + 30 + aw A (e + 28) 2 + aw A (e + 20) 4 ≤ lim ∧ aw A R 4 = 67324752 ∧ aw A (R + 4) 4 = 20 ∧ aw A (R + 28) 2 = 0 ∧ (∀ k : Int, 0 ≤ k → k < 20 → A (R + 8 + k) = A (e + 10 + k)) ∧ ∀ k : Int, 0 ≤ k → k < aw A (e + 28) 2 → A (R + 30 + k) = A (e + 46 + k)) := by
  obtain ⟨-, y2, y3, -, y5, -, -⟩ := hy
  rw [aw_4] at y2 y5
  rw [aw_2] at y3
  rw [show e + 4 + 1 = e + 5 by omega, show e + 4 + 2 = e + 6 by omega, show e + 4 + 3 = e + 7 by omega] at y2
  rw [show e + 8 + 1 = e + 9 by omega] at y3
  rw [show e + 30 + 1 = e + 31 by omega, show e + 30 + 2 = e + 32 by omega, show e + 30 + 3 = e + 33 by omega] at y5
  have z6 : (A (e + 6)).toInt % 256 = 20 := by (exact omg_811872366e y2)
  have z7 : (A (e + 7)).toInt % 256 = 0 := by (exact omg_32f304de01 y2)
  have z8 : (A (e + 8)).toInt % 256 = 0 := by omega
  have z9 : (A (e + 9)).toInt % 256 = 0 := by omega
  have z30 : (A (e + 30)).toInt % 256 = 0 := by omega
  have z31 : (A (e + 31)).toInt % 256 = 0 := by (exact omg_8bc5037101 y5)
  unfold rr_
  rw [← eR, aw_4 A (R + 4), aw_2 A (R + 28), show R + 4 + 1 = R + 5 by omega, show R + 4 + 2 = R + 6 by omega, show R + 4 + 3 = R + 7 by omega, show R + 28 + 1 = R + 29 by omega]
  constructor
  · rintro ⟨h1, h2, h3, h4⟩
    have k0 := h3 0 (by omega) (by omega)
    have k1 := h3 1 (by omega) (by omega)
    have k2 := h3 2 (by omega) (by omega)
    have k3 := h3 3 (by omega) (by omega)
    have k24 := h3 24 (by omega) (by omega)
    have k25 := h3 25 (by omega) (by omega)
    rw [show e + 6 + 0 = e + 6 by omega, show R + 4 + 0 = R + 4 by omega] at k0
    rw [show e + 6 + 1 = e + 7 by omega, show R + 4 + 1 = R + 5 by omega] at k1
    rw [show e + 6 + 2 = e + 8 by omega, show R + 4 + 2 = R + 6 by omega] at k2
    rw [show e + 6 + 3 = e + 9 by omega, show R + 4 + 3 = R + 7 by omega] at k3
    rw [show e + 6 + 24 = e + 30 by omega, show R + 4 + 24 = R + 28 by omega] at k24
    rw [show e + 6 + 25 = e + 31 by omega, show R + 4 + 25 = R + 29 by omega] at k25
    rw [k0] at z6
    rw [k1] at z7
    rw [k2] at z8
    rw [k3] at z9
    rw [k24] at z30
    rw [k25] at z31
    refine ⟨h1, h2, by omega, by omega, fun k p0 p1 => ?_, fun k p0 p1 => (h4 k p0 p1).symm⟩
    have q := h3 (k + 4) (by omega) (by omega)
    rw [show e + 6 + (k + 4) = e + 10 + k by omega, show R + 4 + (k + 4) = R + 8 + k by omega] at q
    exact q.symm
  · rintro ⟨h1, h2, h3, h4, h5, h6⟩
    refine ⟨h1, h2, fun k p0 p1 => ?_, fun k p0 p1 => (h6 k p0 p1).symm⟩
    by_cases c : 4 ≤ k ∧ k < 24
    · have q := h5 (k - 4) (by omega) (by omega)
      rw [show R + 8 + (k - 4) = R + 4 + k by omega, show e + 10 + (k - 4) = e + 6 + k by omega] at q
      exact q.symm
    · have c2 : k = 0 ∨ k = 1 ∨ k = 2 ∨ k = 3 ∨ k = 24 ∨ k = 25 := by omega
      rcases c2 with rfl | rfl | rfl | rfl | rfl | rfl
      · rw [show e + 6 + 0 = e + 6 by omega, show R + 4 + 0 = R + 4 by omega]
        exact b8_inj (hB _) (hB _) (by (exact omg_8c8836a95b y2 h3))
      · rw [show e + 6 + 1 = e + 7 by omega, show R + 4 + 1 = R + 5 by omega]
        exact b8_inj (hB _) (hB _) (by (exact omg_7ee3c22093 y2 h3))
      · rw [show e + 6 + 2 = e + 8 by omega, show R + 4 + 2 = R + 6 by omega]
        exact b8_inj (hB _) (hB _) (by (exact omg_8a0cc9d867 y3 h3))
      · rw [show e + 6 + 3 = e + 9 by omega, show R + 4 + 3 = R + 7 by omega]
        exact b8_inj (hB _) (hB _) (by (exact omg_c39f70c1c9 y3 h3))
      · rw [show e + 6 + 24 = e + 30 by omega, show R + 4 + 24 = R + 28 by omega]
        exact b8_inj (hB _) (hB _) (by (exact omg_cee7d2ace9 y5 h4))
      · rw [show e + 6 + 25 = e + 31 by omega, show R + 4 + 25 = R + 29 by omega]
        exact b8_inj (hB _) (hB _) (by (exact omg_4553505ae7 y5 h4))
/-- the bytes of an entry; those that are as it says -/
def bs_ (A : Int → Int32) (e s : Int) (d : Int → Int32) : Prop := (aw A (e + 10) 2 = 8 ∧ ∃ p : Int, ex_f A od_ (aw A (e + 42) 4 + 30 + aw A (e + 28) 2) (aw A (e + 20) 4) = oz_ 0 p s d) ∨ (¬ aw A (e + 10) 2 = 8 ∧ s = aw A (e + 20) 4 ∧ d = fun k => A (aw A (e + 42) 4 + 30 + aw A (e + 28) 2 + k))
theorem oz_0j {p s p' s' : Int} {d d' : Int → Int32} (h : oz_ 0 p s d = oz_ 0 p' s' d') : s = s' ∧ d = d' := by
  unfold oz_ at h
  rw [if_pos rfl, if_pos rfl] at h
  have h1 := congrArg (fun z : Int × Int × Int × (Int → Int32) => z.2.2.1) h
  have h2 := congrArg (fun z : Int × Int × Int × (Int → Int32) => z.2.2.2) h
  exact ⟨h1, h2⟩
theorem oz_ne {w p s p' s' : Int} {d d' : Int → Int32} (hw : ¬ w = 0) : ¬ oz_ w p s d = oz_ 0 p' s' d' := fun h => by
  unfold oz_ at h
  rw [if_neg hw, if_pos rfl] at h
  have h1 := congrArg (fun z : Int × Int × Int × (Int → Int32) => z.1) h
  exact hw h1
theorem bs_u {A : Int → Int32} {e s s' : Int} {d d' : Int → Int32} (h : bs_ A e s d) (k : bs_ A e s' d') : s = s' ∧ d = d' := by
  rcases h with ⟨h1, p, h2⟩ | ⟨h1, h2, h3⟩
  · rcases k with ⟨k1, q, k2⟩ | ⟨k1, -, -⟩
    · exact oz_0j (h2.symm.trans k2)
    · exact absurd h1 k1
  · rcases k with ⟨k1, -, -⟩ | ⟨k1, k2, k3⟩
    · exact absurd k1 h1
    · exact ⟨h2.trans k2.symm, h3.trans k3.symm⟩
def ok_ (A : Int → Int32) (e s : Int) (d : Int → Int32) : Prop := bs_ A e s d ∧ s = aw A (e + 24) 4 ∧ cw_ d s.toNat ^^^ (-1) = Int32.ofInt (aw A (e + 16) 4)
theorem ok_no {A : Int → Int32} {e s : Int} {d : Int → Int32} (h : bs_ A e s d) (n : ¬ (s = aw A (e + 24) 4 ∧ cw_ d s.toNat ^^^ (-1) = Int32.ofInt (aw A (e + 16) 4))) : ∀ (s' : Int) (d' : Int → Int32), ¬ ok_ A e s' d' := fun s' d' q => by
  have u := bs_u h q.1
  rw [u.1, u.2] at n
  exact n q.2
theorem ok_nz {A : Int → Int32} {e w p s0 : Int} {d0 : Int → Int32} (h8 : aw A (e + 10) 2 = 8) (h : ex_f A od_ (aw A (e + 42) 4 + 30 + aw A (e + 28) 2) (aw A (e + 20) 4) = oz_ w p s0 d0) (hw : ¬ w = 0) : ∀ (s : Int) (d : Int → Int32), ¬ ok_ A e s d := fun s d q => by
  rcases q.1 with ⟨-, p', k⟩ | ⟨k, -, -⟩
  · exact oz_ne hw (h.symm.trans k)
  · exact k h8
/-- AN ENTRY READ: the fault, or the parts with one more -/
def ai_ (A : Int → Int32) : Int → Int := fun j => (A j).toInt
def nm_ (A : Int → Int32) (x : Int) : Int → Int := fun k => (A (x + k)).toInt
def nq_ (A : Int → Int32) (e : Int) (V : VW_) : Prop := iA_ (ai_ A) (e + 46) (aw A (e + 28) 2) ∧ ∀ i : Int, 0 ≤ i → i < vC V → ¬ nE_ V i (aw A (e + 28) 2) (nm_ A (e + 46))
def en_R (A : Int → Int32) (lim e : Int) (V : VW_) (r : Int) (W : VW_) : Prop := (¬ rr_ A lim e → r = 3) ∧ (rr_ A lim e → ¬ nq_ A e V → r = 4) ∧ (rr_ A lim e → nq_ A e V → (∀ (s : Int) (d : Int → Int32), ¬ ok_ A e s d) → r = 5) ∧ ∀ (s : Int) (d : Int → Int32), rr_ A lim e → nq_ A e V → ok_ A e s d → (¬ RM_ V (nm_ A (e + 46)) (aw A (e + 28) 2) s → r = 6) ∧ (RM_ V (nm_ A (e + 46)) (aw A (e + 28) 2) s → r = 0 ∧ AD_ V (nm_ A (e + 46)) (aw A (e + 28) 2) s d W)
theorem en_3 {A : Int → Int32} {lim e r : Int} {V W : VW_} (hr : r = 3) (h : ¬ rr_ A lim e) : en_R A lim e V r W := ⟨fun _ => hr, fun q => absurd q h, fun q => absurd q h, fun _ _ q => absurd q h⟩
theorem en_4 {A : Int → Int32} {lim e r : Int} {V W : VW_} (hr : r = 4) (h : rr_ A lim e) (h2 : ¬ nq_ A e V) : en_R A lim e V r W := ⟨fun q => absurd h q, fun _ _ => hr, fun _ q => absurd q h2, fun _ _ _ q => absurd q h2⟩
theorem en_5 {A : Int → Int32} {lim e r : Int} {V W : VW_} (hr : r = 5) (h : rr_ A lim e) (h2 : nq_ A e V) (h3 : ∀ (s : Int) (d : Int → Int32), ¬ ok_ A e s d) : en_R A lim e V r W := ⟨fun q => absurd h q, fun _ q => absurd h2 q, fun _ _ _ => hr, fun s d _ _ q => absurd q (h3 s d)⟩
theorem en_6 {A : Int → Int32} {lim e r s : Int} {d : Int → Int32} {V W : VW_} (hr : r = 6) (h : rr_ A lim e) (h2 : nq_ A e V) (h3 : ok_ A e s d) (h4 : ¬ RM_ V (nm_ A (e + 46)) (aw A (e + 28) 2) s) : en_R A lim e V r W := ⟨fun q => absurd h q, fun _ q => absurd h2 q, fun _ _ q => absurd h3 (q s d), fun s' d' _ _ q => ⟨fun _ => hr, fun k => by
  have u := bs_u h3.1 q.1
  rw [← u.1] at k
  exact absurd k h4⟩⟩
theorem en_0 {A : Int → Int32} {lim e r s : Int} {d : Int → Int32} {V W : VW_} (hr : r = 0) (h : rr_ A lim e) (h2 : nq_ A e V) (h3 : ok_ A e s d) (h4 : RM_ V (nm_ A (e + 46)) (aw A (e + 28) 2) s) (h5 : AD_ V (nm_ A (e + 46)) (aw A (e + 28) 2) s d W) : en_R A lim e V r W := ⟨fun q => absurd h q, fun _ q => absurd h2 q, fun _ _ q => absurd h3 (q s d), fun s' d' _ _ q => by
  have u := bs_u h3.1 q.1
  rw [← u.1, ← u.2]
  exact ⟨fun k => absurd h4 k, fun _ => ⟨hr, h5⟩⟩⟩
theorem en_u {A : Int → Int32} {lim e r r' : Int} {V W W' : VW_} (hs : srt_ V) (h : en_R A lim e V r W) (k : en_R A lim e V r' W') : r = r' ∧ (r = 0 → W = W') := by
  by_cases c1 : rr_ A lim e
  · by_cases c2 : nq_ A e V
    · by_cases c3 : ∀ (s : Int) (d : Int → Int32), ¬ ok_ A e s d
      · have h1 := h.2.2.1 c1 c2 c3
        have k1 := k.2.2.1 c1 c2 c3
        exact ⟨by omega, fun q => absurd q (by omega)⟩
      · have c4 : ∃ (s : Int) (d : Int → Int32), ok_ A e s d := Classical.byContradiction (fun q => c3 (fun s d p => q ⟨s, d, p⟩))
        obtain ⟨s, d, c5⟩ := c4
        have h1 := h.2.2.2 s d c1 c2 c5
        have k1 := k.2.2.2 s d c1 c2 c5
        by_cases c6 : RM_ V (nm_ A (e + 46)) (aw A (e + 28) 2) s
        · have h2 := h1.2 c6
          have k2 := k1.2 c6
          exact ⟨by omega, fun _ => AD_u hs h2.2 k2.2⟩
        · have h2 := h1.1 c6
          have k2 := k1.1 c6
          exact ⟨by omega, fun q => absurd q (by omega)⟩
    · have h1 := h.2.1 c1 c2
      have k1 := k.2.1 c1 c2
      exact ⟨by omega, fun q => absurd q (by omega)⟩
  · have h1 := h.1 c1
    have k1 := k.1 c1
    exact ⟨by omega, fun q => absurd q (by omega)⟩
theorem en_srt {A : Int → Int32} {lim e r : Int} {V W : VW_} (hs : srt_ V) (h : en_R A lim e V r W) (hr : r = 0) : srt_ W := by
  have c1 : rr_ A lim e := Classical.byContradiction (fun q => by have := h.1 q; omega)
  have c2 : nq_ A e V := Classical.byContradiction (fun q => by have := h.2.1 c1 q; omega)
  have c4 : ∃ (s : Int) (d : Int → Int32), ok_ A e s d := Classical.byContradiction (fun q => by have := h.2.2.1 c1 c2 (fun s d p => q ⟨s, d, p⟩); omega)
  obtain ⟨s, d, c5⟩ := c4
  have h1 := h.2.2.2 s d c1 c2 c5
  by_cases c6 : RM_ V (nm_ A (e + 46)) (aw A (e + 28) 2) s
  · exact srt_AD hs (h1.2 c6).2
  · have := h1.1 c6
    omega
/-- ENTRIES, one behind the other -/
def nl_ : VW_ := (0, fun _ => 0, fun _ _ => 0, fun _ => 0, fun _ _ => 0)
theorem srt_nl : srt_ nl_ := fun i j h0 h1 h2 => absurd h2 (by show ¬ j < (0 : Int); omega)
def rs_ (A : Int → Int32) (x : Int) : Nat → Int → VW_ → Prop
  | 0, r, W => r = 0 ∧ W = nl_
  | k + 1, r, W => ∃ (r1 : Int) (V1 : VW_), rs_ A x k r1 V1 ∧ ((¬ r1 = 0 ∧ r = r1) ∨ (r1 = 0 ∧ en_R A x (dz A x k) V1 r W))
theorem rs_0 {A : Int → Int32} {x r : Int} (h : r = 0) : rs_ A x 0 r nl_ := ⟨h, rfl⟩
theorem rs_s {A : Int → Int32} {x r r1 : Int} {k : Nat} {V W : VW_} (h : rs_ A x k r1 V) (h1 : r1 = 0) (e : en_R A x (dz A x k) V r W) : rs_ A x (k + 1) r W := ⟨r1, V, h, Or.inr ⟨h1, e⟩⟩
theorem rs_up {A : Int → Int32} {x r : Int} {k : Nat} {W : VW_} (h : rs_ A x k r W) (hr : ¬ r = 0) : ∀ m : Nat, rs_ A x (k + m) r W
  | 0 => h
  | m + 1 => ⟨r, W, rs_up h hr m, Or.inl ⟨hr, rfl⟩⟩
theorem rs_to {A : Int → Int32} {x r : Int} {k n : Nat} {W : VW_} (h : rs_ A x k r W) (hk : k ≤ n) (hr : r = 0 → k = n) : rs_ A x n r W := by
  by_cases c : r = 0
  · rw [← hr c]
    exact h
  · have u := rs_up h c (n - k)
    rw [show k + (n - k) = n by omega] at u
    exact u
theorem rs_srt {A : Int → Int32} {x : Int} : ∀ (k : Nat) {r : Int} {W : VW_}, rs_ A x k r W → r = 0 → srt_ W
  | 0, _, _, h, _ => by
    rw [h.2]
    exact srt_nl
  | k + 1, _, _, ⟨_, _, h1, h2⟩, hr => by
    rcases h2 with ⟨a, b⟩ | ⟨a, b⟩
    · omega
    · exact en_srt (rs_srt k h1 a) b hr
theorem rs_u {A : Int → Int32} {x : Int} : ∀ (k : Nat) {r r' : Int} {W W' : VW_}, rs_ A x k r W → rs_ A x k r' W' → r = r' ∧ (r = 0 → W = W')
  | 0, _, _, _, _, h, h' => ⟨h.1.trans h'.1.symm, fun _ => h.2.trans h'.2.symm⟩
  | k + 1, r, r', _, _, ⟨r1, V1, h1, h2⟩, ⟨r2, V2, k1, k2⟩ => by
    obtain ⟨u1, u2⟩ := rs_u k h1 k1
    rcases h2 with ⟨a, b⟩ | ⟨a, b⟩
    · rcases k2 with ⟨c, d⟩ | ⟨c, d⟩
      · exact ⟨by omega, fun q => absurd q (by omega)⟩
      · exact absurd u1 (by omega)
    · rcases k2 with ⟨c, d⟩ | ⟨c, d⟩
      · exact absurd u1 (by omega)
      · have e := u2 a
        subst e
        exact en_u (rs_srt k h1 a) b d
/-- THE WHOLE READING -/
def dw_ (A : Int → Int32) (e : Int) : Prop := aw A (e + 16) 4 + aw A (e + 12) 4 = e ∧ dy_ A (aw A (e + 16) 4) e (aw A (e + 8) 2).toNat
def rd_ (A : Int → Int32) (sz r : Int) (W : VW_) : Prop := (¬ (22 ≤ sz ∧ ed_ A (sz - 22)) → r = 1) ∧ (22 ≤ sz ∧ ed_ A (sz - 22) → ¬ dw_ A (sz - 22) → r = 2) ∧ (22 ≤ sz ∧ ed_ A (sz - 22) → dw_ A (sz - 22) → rs_ A (aw A (sz - 22 + 16) 4) (aw A (sz - 22 + 8) 2).toNat r W)
theorem rd_1 {A : Int → Int32} {sz r : Int} {W : VW_} (hr : r = 1) (h : ¬ (22 ≤ sz ∧ ed_ A (sz - 22))) : rd_ A sz r W := ⟨fun _ => hr, fun q => absurd q h, fun q => absurd q h⟩
theorem rd_2 {A : Int → Int32} {sz r : Int} {W : VW_} (hr : r = 2) (h : 22 ≤ sz ∧ ed_ A (sz - 22)) (h2 : ¬ dw_ A (sz - 22)) : rd_ A sz r W := ⟨fun q => absurd h q, fun _ _ => hr, fun _ q => absurd q h2⟩
theorem rd_3 {A : Int → Int32} {sz r : Int} {W : VW_} (h : 22 ≤ sz ∧ ed_ A (sz - 22)) (h2 : dw_ A (sz - 22)) (h3 : rs_ A (aw A (sz - 22 + 16) 4) (aw A (sz - 22 + 8) 2).toNat r W) : rd_ A sz r W := ⟨fun q => absurd h q, fun _ q => absurd h2 q, fun _ _ => h3⟩
theorem rd_u {A : Int → Int32} {sz r r' : Int} {W W' : VW_} (h : rd_ A sz r W) (k : rd_ A sz r' W') : r = r' ∧ (r = 0 → W = W') := by
  by_cases c1 : 22 ≤ sz ∧ ed_ A (sz - 22)
  · by_cases c2 : dw_ A (sz - 22)
    · exact rs_u _ (h.2.2 c1 c2) (k.2.2 c1 c2)
    · have h1 := h.2.1 c1 c2
      have k1 := k.2.1 c1 c2
      exact ⟨by omega, fun q => absurd q (by omega)⟩
  · have h1 := h.1 c1
    have k1 := k.1 c1
    exact ⟨by omega, fun q => absurd q (by omega)⟩
theorem rd_srt {A : Int → Int32} {sz r : Int} {W : VW_} (h : rd_ A sz r W) (hr : r = 0) : srt_ W := by
  have c1 : 22 ≤ sz ∧ ed_ A (sz - 22) := Classical.byContradiction (fun q => by have := h.1 q; omega)
  have c2 : dw_ A (sz - 22) := Classical.byContradiction (fun q => by have := h.2.1 c1 q; omega)
  exact rs_srt _ (h.2.2 c1 c2) hr
/-- views that are the same where they are looked at -/
def vE_ (V W : VW_) : Prop := vC V = vC W ∧ ∀ i : Int, 0 ≤ i → i < vC V → vZ V i = vZ W i ∧ vS V i = vS W i ∧ (∀ k : Int, 0 ≤ k → k < vZ V i → vN V i k = vN W i k) ∧ ∀ k : Int, 0 ≤ k → k < vS V i → vD V i k = vD W i k
theorem rC_vE {c : Int} {fn fz fb fg : Nat → Int32} {V W : VW_} (h : rC_ c fn fz fb fg V) (e : vE_ V W) : rC_ c fn fz fb fg W := by
  have hc : c = vC V := h.1
  refine ⟨hc.trans e.1, fun i i0 i1 => ?_⟩
  obtain ⟨a1, a2, a3, a4⟩ := h.2 i i0 i1
  obtain ⟨b1, b2, b3, b4⟩ := e.2 i i0 (by omega)
  rw [← b1, ← b2]
  exact ⟨a1, a2, fun k k0 k1 => (a3 k k0 k1).trans (b3 k k0 k1), fun k k0 k1 => (a4 k k0 k1).trans (b4 k k0 k1)⟩
theorem vin_vE {V : VW_} {r m s : Int} {a a' : Int → Int} {d d' : Int → Int32} (ha : ∀ k : Int, 0 ≤ k → k < m → a k = a' k) (hd : ∀ k : Int, 0 ≤ k → k < s → d k = d' k) : vE_ (vin_ V r m a s d) (vin_ V r m a' s d') := by
  refine ⟨rfl, fun i i0 i1 => ?_⟩
  rcases Int.lt_trichotomy i r with w | w | w
  · have q3 : vN (vin_ V r m a s d) i = vN (vin_ V r m a' s d') i := (vi_lo (α := Int → Int) w).trans (vi_lo (α := Int → Int) w).symm
    have q4 : vD (vin_ V r m a s d) i = vD (vin_ V r m a' s d') i := (vi_lo (α := Int → Int32) w).trans (vi_lo (α := Int → Int32) w).symm
    rw [q3, q4]
    exact ⟨rfl, rfl, fun _ _ _ => rfl, fun _ _ _ => rfl⟩
  · have q1 : vZ (vin_ V r m a s d) i = m := vi_at (α := Int) w
    have q2 : vS (vin_ V r m a s d) i = s := vi_at (α := Int) w
    have q3 : vN (vin_ V r m a s d) i = a := vi_at (α := Int → Int) w
    have q5 : vN (vin_ V r m a' s d') i = a' := vi_at (α := Int → Int) w
    have q4 : vD (vin_ V r m a s d) i = d := vi_at (α := Int → Int32) w
    have q6 : vD (vin_ V r m a' s d') i = d' := vi_at (α := Int → Int32) w
    rw [q1, q2, q3, q4, q5, q6]
    exact ⟨(vi_at (α := Int) w).symm, (vi_at (α := Int) w).symm, ha, hd⟩
  · have q3 : vN (vin_ V r m a s d) i = vN (vin_ V r m a' s d') i := (vi_hi (α := Int → Int) w).trans (vi_hi (α := Int → Int) w).symm
    have q4 : vD (vin_ V r m a s d) i = vD (vin_ V r m a' s d') i := (vi_hi (α := Int → Int32) w).trans (vi_hi (α := Int → Int32) w).symm
    rw [q3, q4]
    exact ⟨rfl, rfl, fun _ _ _ => rfl, fun _ _ _ => rfl⟩
theorem vse_vE {V : VW_} {q m s : Int} {a a' : Int → Int} {d d' : Int → Int32} (ha : ∀ k : Int, 0 ≤ k → k < m → a k = a' k) (hd : ∀ k : Int, 0 ≤ k → k < s → d k = d' k) : vE_ (vse_ V q m a s d) (vse_ V q m a' s d') := by
  refine ⟨rfl, fun i i0 i1 => ?_⟩
  by_cases w : i = q
  · have q1 : vZ (vse_ V q m a s d) i = m := if_pos w
    have q2 : vS (vse_ V q m a s d) i = s := if_pos w
    have q3 : vN (vse_ V q m a s d) i = a := if_pos (α := Int → Int) w
    have q5 : vN (vse_ V q m a' s d') i = a' := if_pos (α := Int → Int) w
    have q4 : vD (vse_ V q m a s d) i = d := if_pos (α := Int → Int32) w
    have q6 : vD (vse_ V q m a' s d') i = d' := if_pos (α := Int → Int32) w
    rw [q1, q2, q3, q4, q5, q6]
    exact ⟨(if_pos (α := Int) w).symm, (if_pos (α := Int) w).symm, ha, hd⟩
  · have q3 : vN (vse_ V q m a s d) i = vN (vse_ V q m a' s d') i := (if_neg (α := Int → Int) w).trans (if_neg (α := Int → Int) w).symm
    have q4 : vD (vse_ V q m a s d) i = vD (vse_ V q m a' s d') i := (if_neg (α := Int → Int32) w).trans (if_neg (α := Int → Int32) w).symm
    rw [q3, q4]
    exact ⟨rfl, rfl, fun _ _ _ => rfl, fun _ _ _ => rfl⟩
theorem AD_R {c c2 n m : Int} {fn fz fb fg fn2 fz2 fb2 fg2 : Nat → Int32} {V : VW_} {a a' : Int → Int} {d d' : Int → Int32} (R : rC_ c fn fz fb fg V) (I : sh_I c fz fg) (hs : srt_ V) (n0 : 0 ≤ n) (hno : ∀ i : Int, 0 ≤ i → i < vC V → ¬ nE_ V i n a') (ha : ∀ k : Int, 0 ≤ k → k < n → a k = a' k) (hd : ∀ k : Int, 0 ≤ k → k < m → d k = d' k) (h : ∃ r : Int, 0 ≤ r ∧ r ≤ c ∧ (∀ j : Int, 0 ≤ j → j < r → lx_ (vN V j) (vZ V j) a n) ∧ (r < c → ¬ lx_ (vN V r) (vZ V r) a n) ∧ rC_ c2 fn2 fz2 fb2 fg2 (vin_ V r n a m d)) : ∃ W : VW_, AD_ V a' n m d' W ∧ rC_ c2 fn2 fz2 fb2 fg2 W := by
  obtain ⟨r, r0, r1, l1, l2, h5⟩ := h
  have ec : c = vC V := R.1
  have p := isP_C hs (rC_hz R I) n0 (fun i i0 i1 q => hno i i0 i1 (nE_cg q ha)) r0 (by omega) l1 (fun q => l2 (by omega))
  exact ⟨_, Or.inr ⟨hno, r, isP_cg p ha, rfl⟩, rC_vE h5 (vin_vE ha hd)⟩
theorem AD_d {V W : VW_} {a : Int → Int} {m s : Int} {d d' : Int → Int32} (h : AD_ V a m s d W) (hd : ∀ k : Int, 0 ≤ k → k < s → d k = d' k) : ∃ W' : VW_, AD_ V a m s d' W' ∧ vE_ W W' := by
  rcases h with ⟨q, q0, q1, q2, q3⟩ | ⟨n, r, r0, r1⟩
  · refine ⟨_, Or.inl ⟨q, q0, q1, q2, rfl⟩, ?_⟩
    rw [q3]
    exact vse_vE (fun _ _ _ => rfl) hd
  · refine ⟨_, Or.inr ⟨n, r, r0, rfl⟩, ?_⟩
    rw [r1]
    exact vin_vE (fun _ _ _ => rfl) hd
theorem rM_vE {b c : Int} {z n s d : Nat → Int32} {V W : VW_} (h : rM_ b c z n s d V) (e : vE_ V W) : rM_ b c z n s d W := by
  have hc : c = vC V := h.1
  refine ⟨hc.trans e.1, fun i i0 i1 => ?_⟩
  obtain ⟨a1, a2, a3, a4⟩ := h.2 i i0 i1
  obtain ⟨b1, b2, b3, b4⟩ := e.2 i i0 (by omega)
  rw [← b1, ← b2]
  exact ⟨a1, a2, fun k k0 k1 => (a3 k k0 k1).trans (b3 k k0 k1), fun k k0 k1 => (a4 k k0 k1).trans (b4 k k0 k1)⟩
theorem rM_nil {b : Int} {z n s d : Nat → Int32} {V : VW_} (h : vC V = 0) : rM_ b 0 z n s d V := ⟨h.symm, fun i h0 h1 => absurd h1 (by omega)⟩
theorem sm_A {f : Nat → Int32} {A : Int → Int32} {Z P Q M p q n : Int} (hA : ∀ j : Int, 0 ≤ j → j < Z → A j = gr f j) (h : ∀ j : Int, 0 ≤ j → j < M → gx f (P + j) = gx f (Q + j)) (eP : P = p) (eQ : Q = q) (eM : M = n) (p0 : 0 ≤ p) (p1 : p + n ≤ Z) (q0 : 0 ≤ q) (q1 : q + n ≤ Z) : ∀ k : Int, 0 ≤ k → k < n → A (p + k) = A (q + k) := fun k k0 k1 => by
  subst eP eQ eM
  rw [hA _ (by omega) (by omega), hA _ (by omega) (by omega)]
  exact Int32.toInt_inj.mp (h k k0 k1)
theorem sm_N {f : Nat → Int32} {A : Int → Int32} {Z P Q M p q n : Int} (hA : ∀ j : Int, 0 ≤ j → j < Z → A j = gr f j) (h : ¬ ∀ j : Int, 0 ≤ j → j < M → gx f (P + j) = gx f (Q + j)) (eP : P = p) (eQ : Q = q) (eM : M = n) (p0 : 0 ≤ p) (p1 : p + n ≤ Z) (q0 : 0 ≤ q) (q1 : q + n ≤ Z) : ¬ ∀ k : Int, 0 ≤ k → k < n → A (p + k) = A (q + k) := fun z => h (fun j j0 j1 => by
  subst eP eQ eM
  have e := z j j0 j1
  rw [hA _ (by omega) (by omega), hA _ (by omega) (by omega)] at e
  exact congrArg Int32.toInt e)
theorem iA_A {f : Nat → Int32} {A : Int → Int32} {Z X x n : Int} (hA : ∀ j : Int, 0 ≤ j → j < Z → A j = gr f j) (eX : X = x) (h0 : 0 ≤ x) (h1 : x + n ≤ Z) : iA_ (gx f) X n ↔ iA_ (ai_ A) x n := by
  subst eX
  have e : ∀ k : Int, X ≤ k → k < X + n → gx f k = ai_ A k := fun k k0 k1 => by
    show (gr f k).toInt = (A k).toInt
    rw [hA k (by omega) (by omega)]
  exact ⟨fun q => iA_cong e q, fun q => iA_cong (fun k k0 k1 => (e k k0 k1).symm) q⟩
theorem nm_A {f : Nat → Int32} {A : Int → Int32} {Z X x n : Int} (hA : ∀ j : Int, 0 ≤ j → j < Z → A j = gr f j) (eX : X = x) (h0 : 0 ≤ x) (h1 : x + n ≤ Z) : ∀ k : Int, 0 ≤ k → k < n → (fun k => gx f (X + k)) k = nm_ A x k := fun k k0 k1 => by
  subst eX
  show (gr f (X + k)).toInt = (A (X + k)).toInt
  rw [hA (X + k) (by omega) (by omega)]
theorem rr_y {A : Int → Int32} {lim e R n : Int} (eR : R = aw A (e + 42) 4) (en : n = aw A (e + 28) 2) (h1 : R + 30 + n + aw A (e + 20) 4 ≤ lim) (h : aw A R 4 = 67324752 ∧ (∀ k : Int, 0 ≤ k → k < 26 → A (e + 6 + k) = A (R + 4 + k)) ∧ ∀ k : Int, 0 ≤ k → k < n → A (e + 46 + k) = A (R + 30 + k)) : rr_ A lim e := by
  subst eR en
  exact ⟨h1, h⟩
theorem rr_n1 {A : Int → Int32} {lim e : Int} (h1 : ¬ aw A (e + 42) 4 + 30 + aw A (e + 28) 2 + aw A (e + 20) 4 ≤ lim) : ¬ rr_ A lim e := fun q => h1 q.1
theorem rr_n2 {A : Int → Int32} {lim e R n : Int} (eR : R = aw A (e + 42) 4) (en : n = aw A (e + 28) 2) (h : ¬ (aw A R 4 = 67324752 ∧ (∀ k : Int, 0 ≤ k → k < 26 → A (e + 6 + k) = A (R + 4 + k)) ∧ ∀ k : Int, 0 ≤ k → k < n → A (e + 46 + k) = A (R + 30 + k))) : ¬ rr_ A lim e := fun q => h (by
  subst eR en
  exact q.2)
theorem nq_i {A : Int → Int32} {e n : Int} {V : VW_} (en : n = aw A (e + 28) 2) (h : ¬ iA_ (ai_ A) (e + 46) n) : ¬ nq_ A e V := fun q => h (by
  rw [en]
  exact q.1)
theorem nq_f {A : Int → Int32} {e n r : Int} {V : VW_} (en : n = aw A (e + 28) 2) (h : isF_ V n (nm_ A (e + 46)) r) (hr : 0 ≤ r) : ¬ nq_ A e V := fun q => by
  subst en
  rcases h with ⟨h0, h1, h2⟩ | ⟨h0, -⟩
  · exact q.2 r h0 h1 h2
  · omega
theorem nq_y {A : Int → Int32} {e n r : Int} {V : VW_} (en : n = aw A (e + 28) 2) (hi : iA_ (ai_ A) (e + 46) n) (h : isF_ V n (nm_ A (e + 46)) r) (hr : r < 0) : nq_ A e V := by
  subst en
  rcases h with ⟨h0, h1, h2⟩ | ⟨h0, h1⟩
  · omega
  · exact ⟨hi, h1⟩
/-- the bytes of an entry, as they lie -/
theorem ok_y {A : Int → Int32} {e s : Int} {d : Int → Int32} {f : Nat → Int32} {y : Int} {sm w : Int32} (hb : bs_ A e s d) (h1 : s = aw A (e + 24) 4) (hs : sm = cr_n f y s.toNat ^^^ (-1)) (hd : ∀ k : Int, 0 ≤ k → k < s → gr f (y + k) = d k) (hw : w = Int32.ofInt (aw A (e + 16) 4)) (hq : sm.toInt = w.toInt) (s0 : 0 ≤ s) : ok_ A e s d := by
  refine ⟨hb, h1, ?_⟩
  rw [← hw, ← Int32.toInt_inj.mp hq, hs, cr_cw (d := d) s.toNat (fun j j0 j1 => hd j j0 (by omega))]
theorem ok_x {A : Int → Int32} {e s : Int} {d : Int → Int32} {f : Nat → Int32} {y : Int} {sm w : Int32} (hb : bs_ A e s d) (hs : sm = cr_n f y s.toNat ^^^ (-1)) (hd : ∀ k : Int, 0 ≤ k → k < s → gr f (y + k) = d k) (hw : w = Int32.ofInt (aw A (e + 16) 4)) (hq : ¬ sm.toInt = w.toInt) (s0 : 0 ≤ s) : ∀ (s' : Int) (d' : Int → Int32), ¬ ok_ A e s' d' := ok_no hb (fun q => hq (by
  rw [hw, ← q.2, hs, cr_cw (d := d) s.toNat (fun j j0 j1 => hd j j0 (by omega))]))
theorem sq_at0 {f : Nat → Int32} {s k Y : Int} (hY : Y = 0) (h0 : 0 ≤ k) (h1 : k < s) : gr f (Y + k) = sq f 0 s k := by
  subst hY
  unfold sq
  rw [if_pos ⟨h0, h1⟩]
/-! a byte changed -/
theorem i8_xor (a b : Int32) : (a ^^^ b).toInt8 = a.toInt8 ^^^ b.toInt8 := by
  first
    | exact Int32.toInt8_xor a b
    | simp
theorem i8_i8 (x : Int8) : x.toInt32.toInt8 = x := by
  first
    | exact Int8.toInt8_toInt32 x
    | simp
def xr_ (F : Int → Int32) (k : Int) (x : Int32) : Int → Int32 := fun j => if j = k then (F j ^^^ x).toInt8.toInt32 else F j
theorem xr_C {f : Nat → Int32} {k j : Int} {ix x y u v w : Int32} (h0 : 0 ≤ j) (hi : ix.toInt = k) (k0 : 0 ≤ k) (xj : w = gr f k) (xy : y = x.toInt8.toInt32) (xu : u = w ^^^ y) (xv : v = u.toInt8.toInt32) : gr (upd f ix.toNatClampNeg (vp_nar .byte v)) j = xr_ (gr f) k x j := by
  rw [gr_updb hi j k0 h0]
  unfold xr_
  by_cases c : j = k
  · rw [if_pos c, if_pos c, xv, i8_i8, xu, xj, xy, c, i8_xor, i8_xor, i8_i8]
  · rw [if_neg c, if_neg c]
theorem xr_xr {F : Int32} {x y u v w : Int32} (hF : -128 ≤ F.toInt ∧ F.toInt ≤ 127) (xj : w = (F ^^^ x).toInt8.toInt32) (xy : y = x.toInt8.toInt32) (xu : u = w ^^^ y) (xv : v = u.toInt8.toInt32) : v.toInt8.toInt32 = F := by
  have e : (F.toInt8 ^^^ x.toInt8) ^^^ x.toInt8 = F.toInt8 := by
    rw [Int8.xor_assoc, Int8.xor_self, Int8.xor_zero]
  rw [xv, i8_i8, xu, i8_xor, xj, i8_i8, i8_xor, xy, i8_i8, e]
  exact bz_fit hF
theorem xr_b {F : Int → Int32} {k : Int} {x : Int32} (h : ∀ j : Int, -128 ≤ (F j).toInt ∧ (F j).toInt ≤ 127) : ∀ j : Int, -128 ≤ (xr_ F k x j).toInt ∧ (xr_ F k x j).toInt ≤ 127 := fun j => by
  unfold xr_
  by_cases c : j = k
  · rw [if_pos c]
    have q := Int8.toInt_toInt32 ((F j ^^^ x).toInt8)
    have q1 := Int8.le_toInt ((F j ^^^ x).toInt8)
    have q2 := Int8.toInt_lt ((F j ^^^ x).toInt8)
    omega
  · rw [if_neg c]
    exact h j
theorem xr_R {f : Nat → Int32} {k : Int} {ix x y u v w y' u' v' w' : Int32} (hF : ∀ j : Int, -128 ≤ (gr f j).toInt ∧ (gr f j).toInt ≤ 127) (hi : ix.toInt = k) (k0 : 0 ≤ k) (xj : w = gr f k) (xy : y = x.toInt8.toInt32) (xu : u = w ^^^ y) (xv : v = u.toInt8.toInt32) (yj : w' = gr (upd f ix.toNatClampNeg (vp_nar .byte v)) k) (yy : y' = x.toInt8.toInt32) (yu : u' = w' ^^^ y') (yv : v' = u'.toInt8.toInt32) : ∀ j : Int, 0 ≤ j → gr (upd (upd f ix.toNatClampNeg (vp_nar .byte v)) ix.toNatClampNeg (vp_nar .byte v')) j = gr f j := fun j h0 => by
  have e := xr_C (x := x) (j := k) k0 hi k0 xj xy xu xv
  rw [gr_updb hi j k0 h0]
  by_cases c : j = k
  · rw [if_pos c, c]
    refine xr_xr (hF k) ?_ yy yu yv
    rw [yj, e]
    unfold xr_
    rw [if_pos rfl]
  · rw [if_neg c, gr_updb hi j k0 h0, if_neg c]
theorem rd_e {A : Int → Int32} {sz r r' : Int} {W : VW_} (h : rd_ A sz r W) (e : r = r') : rd_ A sz r' W := e ▸ h

theorem d_FileReader_isEnd_0 : decode prog_5_method_3_code 0 = .ok (.aload_n 0, 1) := by decide +kernel
theorem d_FileReader_isEnd_1 : decode prog_5_method_3_code 1 = .ok (.getfield 9, 3) := by decide +kernel
theorem d_FileReader_isEnd_4 : decode prog_5_method_3_code 4 = .ok (.iload_n 1, 1) := by decide +kernel
theorem d_FileReader_isEnd_5 : decode prog_5_method_3_code 5 = .ok (.invokestatic 28, 3) := by decide +kernel
theorem k_592 : (Jvm.Cond.methodLinkNest "PackageBook$FileReader" (28 : Nat) ({ cls := "PackageBook", name := "fourAt", desc := "([BI)J" } : Jvm.MethodName) "PackageBook") ∈ uN := uN_of 592 (by decide +kernel) (by decide +kernel)
theorem k_594 : (Jvm.Cond.code ({ cls := "PackageBook", name := "fourAt", desc := "([BI)J" } : Jvm.MethodName) prog_1_method_31_code (2 : Nat) (Option.some Jvm.ClassFile.FieldType.long)) ∈ uW := uW_of 594 (by decide +kernel) (by decide +kernel)
theorem k_593 : (Jvm.Cond.static ({ cls := "PackageBook", name := "fourAt", desc := "([BI)J" } : Jvm.MethodName)) ∈ uW := uW_of 593 (by decide +kernel) (by decide +kernel)
theorem hy_Book_fourAt : (y_Book_fourAt).cls ≠ "java/lang/invoke/MethodHandle" ∧ (y_Book_fourAt).cls ≠ "java/lang/invoke/VarHandle" ∧ (parseMethodDescriptor (y_Book_fourAt).desc).map (fun d => d.parameters.length) = some 2 := by decide +kernel
theorem d_FileReader_isEnd_8 : decode prog_5_method_3_code 8 = .ok (.ldc2_w 40, 3) := by decide +kernel
theorem k_598 : (Jvm.Cond.constantLong "PackageBook$FileReader" (40 : Nat) (101010256 : Int64)) ∈ uW := uW_of 598 (by decide +kernel) (by decide +kernel)
theorem d_FileReader_isEnd_11 : decode prog_5_method_3_code 11 = .ok (.lcmp, 1) := by decide +kernel
theorem d_FileReader_isEnd_12 : decode prog_5_method_3_code 12 = .ok (.ifCond .ne 61, 3) := by decide +kernel
theorem d_FileReader_isEnd_73 : decode prog_5_method_3_code 73 = .ok (.iconst 0, 1) := by decide +kernel
theorem d_FileReader_isEnd_74 : decode prog_5_method_3_code 74 = .ok (.ireturn, 1) := by decide +kernel
theorem d_FileReader_isEnd_15 : decode prog_5_method_3_code 15 = .ok (.aload_n 0, 1) := by decide +kernel
theorem d_FileReader_isEnd_16 : decode prog_5_method_3_code 16 = .ok (.getfield 9, 3) := by decide +kernel
theorem d_FileReader_isEnd_19 : decode prog_5_method_3_code 19 = .ok (.iload_n 1, 1) := by decide +kernel
theorem d_FileReader_isEnd_20 : decode prog_5_method_3_code 20 = .ok (.iconst 4, 1) := by decide +kernel
theorem d_FileReader_isEnd_21 : decode prog_5_method_3_code 21 = .ok (.iadd, 1) := by decide +kernel
theorem d_FileReader_isEnd_22 : decode prog_5_method_3_code 22 = .ok (.invokestatic 28, 3) := by decide +kernel
theorem d_FileReader_isEnd_25 : decode prog_5_method_3_code 25 = .ok (.lconst 0, 1) := by decide +kernel
theorem d_FileReader_isEnd_26 : decode prog_5_method_3_code 26 = .ok (.lcmp, 1) := by decide +kernel
theorem d_FileReader_isEnd_27 : decode prog_5_method_3_code 27 = .ok (.ifCond .ne 46, 3) := by decide +kernel
theorem d_FileReader_isEnd_30 : decode prog_5_method_3_code 30 = .ok (.aload_n 0, 1) := by decide +kernel
theorem d_FileReader_isEnd_31 : decode prog_5_method_3_code 31 = .ok (.getfield 9, 3) := by decide +kernel
theorem d_FileReader_isEnd_34 : decode prog_5_method_3_code 34 = .ok (.iload_n 1, 1) := by decide +kernel
theorem d_FileReader_isEnd_35 : decode prog_5_method_3_code 35 = .ok (.bipush 8, 2) := by decide +kernel
theorem d_FileReader_isEnd_37 : decode prog_5_method_3_code 37 = .ok (.iadd, 1) := by decide +kernel
theorem d_FileReader_isEnd_38 : decode prog_5_method_3_code 38 = .ok (.invokestatic 24, 3) := by decide +kernel
theorem k_599 : (Jvm.Cond.methodLinkNest "PackageBook$FileReader" (24 : Nat) ({ cls := "PackageBook", name := "twoAt", desc := "([BI)I" } : Jvm.MethodName) "PackageBook") ∈ uN := uN_of 599 (by decide +kernel) (by decide +kernel)
theorem d_FileReader_isEnd_41 : decode prog_5_method_3_code 41 = .ok (.aload_n 0, 1) := by decide +kernel
theorem d_FileReader_isEnd_42 : decode prog_5_method_3_code 42 = .ok (.getfield 9, 3) := by decide +kernel
theorem d_FileReader_isEnd_45 : decode prog_5_method_3_code 45 = .ok (.iload_n 1, 1) := by decide +kernel
theorem d_FileReader_isEnd_46 : decode prog_5_method_3_code 46 = .ok (.bipush 10, 2) := by decide +kernel
theorem d_FileReader_isEnd_48 : decode prog_5_method_3_code 48 = .ok (.iadd, 1) := by decide +kernel
theorem d_FileReader_isEnd_49 : decode prog_5_method_3_code 49 = .ok (.invokestatic 24, 3) := by decide +kernel
theorem d_FileReader_isEnd_52 : decode prog_5_method_3_code 52 = .ok (.if_icmp .ne 21, 3) := by decide +kernel
theorem d_FileReader_isEnd_55 : decode prog_5_method_3_code 55 = .ok (.aload_n 0, 1) := by decide +kernel
theorem d_FileReader_isEnd_56 : decode prog_5_method_3_code 56 = .ok (.getfield 9, 3) := by decide +kernel
theorem d_FileReader_isEnd_59 : decode prog_5_method_3_code 59 = .ok (.iload_n 1, 1) := by decide +kernel
theorem d_FileReader_isEnd_60 : decode prog_5_method_3_code 60 = .ok (.bipush 20, 2) := by decide +kernel
theorem d_FileReader_isEnd_62 : decode prog_5_method_3_code 62 = .ok (.iadd, 1) := by decide +kernel
theorem d_FileReader_isEnd_63 : decode prog_5_method_3_code 63 = .ok (.invokestatic 24, 3) := by decide +kernel
theorem d_FileReader_isEnd_66 : decode prog_5_method_3_code 66 = .ok (.ifCond .ne 7, 3) := by decide +kernel
theorem d_FileReader_isEnd_69 : decode prog_5_method_3_code 69 = .ok (.iconst 1, 1) := by decide +kernel
theorem d_FileReader_isEnd_70 : decode prog_5_method_3_code 70 = .ok (.goto 4, 3) := by decide +kernel
abbrev y_FileReader_isEnd : MethodName := ⟨"PackageBook$FileReader", "isEnd", "(I)Z"⟩
abbrev i_FileReader_isEnd : pb_I := (y_FileReader_isEnd, prog_5_method_3_code, 2, (some Jvm.ClassFile.FieldType.boolean), [], { frames := 2, cells := 0, slots := 0, locals := 42 })
set_option maxRecDepth 100000 in
set_option maxHeartbeats 4000000 in
theorem g_Rd_isEnd {l : Launch} (hl : l.stackTraces = false) (G : pb_G) (h : Nat) (b : Nat) (N : Nat) (f : Nat → Int32) (x : Int32) (A : Int → Int32) (Zs : Int) (h0 : 0 ≤ x.toInt) (h1 : x.toInt + 22 ≤ N) (hN : N ≤ 100000) (hA : ∀ j : Int, 0 ≤ j → j < Zs → A j = gr f j) (hZ : x.toInt + 22 ≤ Zs) (F_f : sb_Fit f) : Cn l G i_FileReader_isEnd [.ref h, .int x] [(h, .inr (7, [.ref b])), (b, .inl (G.2.1, N, .inl f))] (S := Int32) (fun rv_ u => rv_ = some (.int u) ∧ (u.toInt = 0 ∨ u.toInt = 1) ∧ (u.toInt = 1 → ed_ A x.toInt) ∧ (u.toInt = 0 → ¬ ed_ A x.toInt)) (fun u => [(h, .inr (7, [.ref b])), (b, .inl (G.2.1, N, .inl f))]) := by
  refine Cn.of hl (by decide +kernel) rfl (Nat.le_of_ble_eq_true rfl) (fun M hQ => ?_)
  refine pb_eq (pc' := 0) (lo' := [(0, .ref h), (1, .int x)]) (rest' := []) (ws' := [(h, .inr (7, [.ref b])), (b, .inl (G.2.1, N, .inl f))]) ?_
  have zl0 : (0 : Int32).toInt = 0 := by decide
  have zl1 : (1 : Int32).toInt = 1 := by decide
  refine pb_aload_n (pc := 0) d_FileReader_isEnd_0 0 rfl rfl ?_
  refine pb_get (pc := 1) d_FileReader_isEnd_1 0 0 rfl rfl (by decide) in_FileReader k_306 rfl ?_
  refine pb_iload_n (pc := 4) d_FileReader_isEnd_4 1 rfl rfl ?_
  refine pb_callSN (pc := 5) (I := i_FileReader_isEnd) (nA := 2) (rest := []) (wr := [(h, .inr (7, [.ref b]))]) d_FileReader_isEnd_5 (g_fourAt hl G b N f x (by first | (with_reducible assumption) | omega (splitDisjunctions := false) | assumption | omega | decide) (by first | (with_reducible assumption) | omega (splitDisjunctions := false) | assumption | omega | decide) (by first | (with_reducible assumption) | omega (splitDisjunctions := false) | assumption | omega | decide) F_f) [1] [0] (by decide) rfl rfl rfl (by decide) (by decide) k_594 rfl k_118 k_592 k_593 hy_Book_fourAt (by decide) rfl rfl (Nat.le_of_ble_eq_true rfl) (by decide) (fun v9 u2 ch1 => ?_)
  obtain ⟨r_3, rfl⟩ : ∃ z9, z9 = u2 := ⟨_, rfl⟩
  obtain ⟨ech1, ch1⟩ := ch1
  have ech1 : v9 = some (.long r_3) := ech1
  subst ech1
  obtain ⟨fh4, fh5, fh6⟩ : (0 ≤ r_3.toInt) ∧ (r_3.toInt < 4294967296) ∧ (r_3.toInt = av f x.toInt 4) := ch1
  have u0 : r_3.toInt = aw A (x.toInt) 4 := by rw [fh6]; exact av_A hA 4 (by omega) (by omega)
  refine pb_eq (pc' := 8) (lo' := [(0, .ref h), (1, .int x)]) (rest' := [.long r_3]) (ws' := [(h, .inr (7, [.ref b])), (b, .inl (G.2.1, N, .inl f))]) ?_
  refine pb_ldc2 (pc := 8) (v := 101010256) d_FileReader_isEnd_8 k_598 ?_
  refine pb_lcmp (pc := 11) d_FileReader_isEnd_11 ?_
  refine pb_topi (fun i7 ei7 => ?_)
  have ti7 : (i7.toInt < 0 ↔ r_3.toInt < 101010256) ∧ (i7.toInt = 0 ↔ r_3.toInt = 101010256) ∧ (0 < i7.toInt ↔ 101010256 < r_3.toInt) := tl_cmp ei7 rfl (by decide)
  refine pb_if_ne (pc := 12) (tgt := 73) d_FileReader_isEnd_12 (by decide) (fun w8 => ?_) (fun w8 => ?_)
  · have tw8 : ¬ i7.toInt = 0 := fun z9 => w8 ((ti_eq rfl (by decide)).mpr z9)
    refine pb_iconst (pc := 73) (v := 0) d_FileReader_isEnd_73 (by decide) ?_
    exact pb_iret (pc := 74) hQ d_FileReader_isEnd_74 rfl rfl (0) ⟨rfl, (by (try dsimp only); first | done | (with_reducible assumption) | omega (splitDisjunctions := false) | assumption | omega | decide), (show (0 : Int32).toInt = 1 → ed_ A x.toInt from (by first | exact fun q9 => absurd q9 (by decide) | exact fun _ => ⟨by omega, by omega, by omega, by omega⟩)), (show (0 : Int32).toInt = 0 → ¬ ed_ A x.toInt from (by first | exact fun q9 => absurd q9 (by decide) | exact fun _ q9 => (by obtain ⟨y1, y2, y3, y4⟩ := q9; omega)))⟩ [0, 1] (by decide) rfl rfl (by decide) (by decide)
  · have tw8 : i7.toInt = 0 := (ti_eq rfl (by decide)).mp w8
    refine pb_aload_n (pc := 15) d_FileReader_isEnd_15 0 rfl rfl ?_
    refine pb_get (pc := 16) d_FileReader_isEnd_16 0 0 rfl rfl (by decide) in_FileReader k_306 rfl ?_
    refine pb_iload_n (pc := 19) d_FileReader_isEnd_19 1 rfl rfl ?_
    refine pb_iconst (pc := 20) (v := 4) d_FileReader_isEnd_20 (by decide) ?_
    refine pb_iadd (pc := 21) d_FileReader_isEnd_21 ?_
    refine pb_topi (fun i9 ei9 => ?_)
    try have ti9 : i9.toInt = x.toInt + 4 := t2_add ei9 rfl (by decide) (by omega)
    refine pb_callSN (pc := 22) (I := i_FileReader_isEnd) (nA := 2) (rest := []) (wr := [(h, .inr (7, [.ref b]))]) d_FileReader_isEnd_22 (g_fourAt hl G b N f i9 (by first | (with_reducible assumption) | omega (splitDisjunctions := false) | assumption | omega | decide) (by first | (with_reducible assumption) | omega (splitDisjunctions := false) | assumption | omega | decide) (by first | (with_reducible assumption) | omega (splitDisjunctions := false) | assumption | omega | decide) F_f) [1] [0] (by decide) rfl rfl rfl (by decide) (by decide) k_594 rfl k_118 k_592 k_593 hy_Book_fourAt (by decide) rfl rfl (Nat.le_of_ble_eq_true rfl) (by decide) (fun v9 u11 ch10 => ?_)
    obtain ⟨r_12, rfl⟩ : ∃ z9, z9 = u11 := ⟨_, rfl⟩
    obtain ⟨ech10, ch10⟩ := ch10
    have ech10 : v9 = some (.long r_12) := ech10
    subst ech10
    obtain ⟨fh13, fh14, fh15⟩ : (0 ≤ r_12.toInt) ∧ (r_12.toInt < 4294967296) ∧ (r_12.toInt = av f i9.toInt 4) := ch10
    have u4 : r_12.toInt = aw A (x.toInt + 4) 4 := by rw [fh15, show i9.toInt = x.toInt + 4 by omega]; exact av_A hA 4 (by omega) (by omega)
    refine pb_eq (pc' := 25) (lo' := [(0, .ref h), (1, .int x)]) (rest' := [.long r_12]) (ws' := [(h, .inr (7, [.ref b])), (b, .inl (G.2.1, N, .inl f))]) ?_
    refine pb_lconst (pc := 25) (v := 0) d_FileReader_isEnd_25 (by decide) ?_
    refine pb_lcmp (pc := 26) d_FileReader_isEnd_26 ?_
    refine pb_topi (fun i16 ei16 => ?_)
    have ti16 : (i16.toInt < 0 ↔ r_12.toInt < 0) ∧ (i16.toInt = 0 ↔ r_12.toInt = 0) ∧ (0 < i16.toInt ↔ 0 < r_12.toInt) := tl_cmp ei16 rfl (by decide)
    refine pb_if_ne (pc := 27) (tgt := 73) d_FileReader_isEnd_27 (by decide) (fun w17 => ?_) (fun w17 => ?_)
    · have tw17 : ¬ i16.toInt = 0 := fun z9 => w17 ((ti_eq rfl (by decide)).mpr z9)
      refine pb_iconst (pc := 73) (v := 0) d_FileReader_isEnd_73 (by decide) ?_
      exact pb_iret (pc := 74) hQ d_FileReader_isEnd_74 rfl rfl (0) ⟨rfl, (by (try dsimp only); first | done | (with_reducible assumption) | omega (splitDisjunctions := false) | assumption | omega | decide), (show (0 : Int32).toInt = 1 → ed_ A x.toInt from (by first | exact fun q9 => absurd q9 (by decide) | exact fun _ => ⟨by omega, by omega, by omega, by omega⟩)), (show (0 : Int32).toInt = 0 → ¬ ed_ A x.toInt from (by first | exact fun q9 => absurd q9 (by decide) | exact fun _ q9 => (by obtain ⟨y1, y2, y3, y4⟩ := q9; (exact omg_39806c0d09 u4 ti16 tw17 y2))))⟩ [0, 1] (by decide) rfl rfl (by decide) (by decide)
    · have tw17 : i16.toInt = 0 := (ti_eq rfl (by decide)).mp w17
      refine pb_aload_n (pc := 30) d_FileReader_isEnd_30 0 rfl rfl ?_
      refine pb_get (pc := 31) d_FileReader_isEnd_31 0 0 rfl rfl (by decide) in_FileReader k_306 rfl ?_
      refine pb_iload_n (pc := 34) d_FileReader_isEnd_34 1 rfl rfl ?_
      refine pb_bipush (pc := 35) (v := 8) d_FileReader_isEnd_35 (by decide) ?_
      refine pb_iadd (pc := 37) d_FileReader_isEnd_37 ?_
      refine pb_topi (fun i18 ei18 => ?_)
      try have ti18 : i18.toInt = x.toInt + 8 := t2_add ei18 rfl (by decide) (by omega)
      refine pb_callSN (pc := 38) (I := i_FileReader_isEnd) (nA := 2) (rest := []) (wr := [(h, .inr (7, [.ref b]))]) d_FileReader_isEnd_38 (g_twoAt hl G b N f i18 (by first | (with_reducible assumption) | omega (splitDisjunctions := false) | assumption | omega | decide) (by first | (with_reducible assumption) | omega (splitDisjunctions := false) | assumption | omega | decide) (by first | (with_reducible assumption) | omega (splitDisjunctions := false) | assumption | omega | decide) F_f) [1] [0] (by decide) rfl rfl rfl (by decide) (by decide) k_597 rfl k_118 k_599 k_596 hy_Book_twoAt (by decide) rfl rfl (Nat.le_of_ble_eq_true rfl) (by decide) (fun v9 u20 ch19 => ?_)
      obtain ⟨r_21, rfl⟩ : ∃ z9, z9 = u20 := ⟨_, rfl⟩
      obtain ⟨ech19, ch19⟩ := ch19
      have ech19 : v9 = some (.int r_21) := ech19
      subst ech19
      obtain ⟨fh22, fh23, fh24, fh25⟩ : (0 ≤ r_21.toInt) ∧ (r_21.toInt ≤ 65535) ∧ (r_21.toInt = tw f i18.toInt) ∧ (r_21.toInt = av f i18.toInt 2) := ch19
      have u8 : r_21.toInt = aw A (x.toInt + 8) 2 := by rw [fh25, show i18.toInt = x.toInt + 8 by omega]; exact av_A hA 2 (by omega) (by omega)
      refine pb_eq (pc' := 41) (lo' := [(0, .ref h), (1, .int x)]) (rest' := [.int r_21]) (ws' := [(h, .inr (7, [.ref b])), (b, .inl (G.2.1, N, .inl f))]) ?_
      refine pb_aload_n (pc := 41) d_FileReader_isEnd_41 0 rfl rfl ?_
      refine pb_get (pc := 42) d_FileReader_isEnd_42 0 0 rfl rfl (by decide) in_FileReader k_306 rfl ?_
      refine pb_iload_n (pc := 45) d_FileReader_isEnd_45 1 rfl rfl ?_
      refine pb_bipush (pc := 46) (v := 10) d_FileReader_isEnd_46 (by decide) ?_
      refine pb_iadd (pc := 48) d_FileReader_isEnd_48 ?_
      refine pb_topi (fun i26 ei26 => ?_)
      try have ti26 : i26.toInt = x.toInt + 10 := t2_add ei26 rfl (by decide) (by omega)
      refine pb_callSN (pc := 49) (I := i_FileReader_isEnd) (nA := 2) (rest := [.int r_21]) (wr := [(h, .inr (7, [.ref b]))]) d_FileReader_isEnd_49 (g_twoAt hl G b N f i26 (by first | (with_reducible assumption) | omega (splitDisjunctions := false) | assumption | omega | decide) (by first | (with_reducible assumption) | omega (splitDisjunctions := false) | assumption | omega | decide) (by first | (with_reducible assumption) | omega (splitDisjunctions := false) | assumption | omega | decide) F_f) [1] [0] (by decide) rfl rfl rfl (by decide) (by decide) k_597 rfl k_118 k_599 k_596 hy_Book_twoAt (by decide) rfl rfl (Nat.le_of_ble_eq_true rfl) (by decide) (fun v9 u28 ch27 => ?_)
      obtain ⟨r_29, rfl⟩ : ∃ z9, z9 = u28 := ⟨_, rfl⟩
      obtain ⟨ech27, ch27⟩ := ch27
      have ech27 : v9 = some (.int r_29) := ech27
      subst ech27
      obtain ⟨fh30, fh31, fh32, fh33⟩ : (0 ≤ r_29.toInt) ∧ (r_29.toInt ≤ 65535) ∧ (r_29.toInt = tw f i26.toInt) ∧ (r_29.toInt = av f i26.toInt 2) := ch27
      have u10 : r_29.toInt = aw A (x.toInt + 10) 2 := by rw [fh33, show i26.toInt = x.toInt + 10 by omega]; exact av_A hA 2 (by omega) (by omega)
      refine pb_eq (pc' := 52) (lo' := [(0, .ref h), (1, .int x)]) (rest' := [.int r_29, .int r_21]) (ws' := [(h, .inr (7, [.ref b])), (b, .inl (G.2.1, N, .inl f))]) ?_
      refine pb_icmp_ne (pc := 52) (tgt := 73) d_FileReader_isEnd_52 (by decide) (fun w34 => ?_) (fun w34 => ?_)
      · have tw34 : ¬ r_21.toInt = r_29.toInt := fun z9 => w34 ((ti_eq rfl rfl).mpr z9)
        refine pb_iconst (pc := 73) (v := 0) d_FileReader_isEnd_73 (by decide) ?_
        exact pb_iret (pc := 74) hQ d_FileReader_isEnd_74 rfl rfl (0) ⟨rfl, (by (try dsimp only); first | done | (with_reducible assumption) | omega (splitDisjunctions := false) | assumption | omega | decide), (show (0 : Int32).toInt = 1 → ed_ A x.toInt from (by first | exact fun q9 => absurd q9 (by decide) | exact fun _ => ⟨by omega, by omega, by omega, by omega⟩)), (show (0 : Int32).toInt = 0 → ¬ ed_ A x.toInt from (by first | exact fun q9 => absurd q9 (by decide) | exact fun _ q9 => (by obtain ⟨y1, y2, y3, y4⟩ := q9; (exact omg_e6d08f9851 u8 u10 tw34 y3))))⟩ [0, 1] (by decide) rfl rfl (by decide) (by decide)
      · have tw34 : r_21.toInt = r_29.toInt := (ti_eq rfl rfl).mp w34
        refine pb_aload_n (pc := 55) d_FileReader_isEnd_55 0 rfl rfl ?_
        refine pb_get (pc := 56) d_FileReader_isEnd_56 0 0 rfl rfl (by decide) in_FileReader k_306 rfl ?_
        refine pb_iload_n (pc := 59) d_FileReader_isEnd_59 1 rfl rfl ?_
        refine pb_bipush (pc := 60) (v := 20) d_FileReader_isEnd_60 (by decide) ?_
        refine pb_iadd (pc := 62) d_FileReader_isEnd_62 ?_
        refine pb_topi (fun i35 ei35 => ?_)
        try have ti35 : i35.toInt = x.toInt + 20 := t2_add ei35 rfl (by decide) (by omega)
        refine pb_callSN (pc := 63) (I := i_FileReader_isEnd) (nA := 2) (rest := []) (wr := [(h, .inr (7, [.ref b]))]) d_FileReader_isEnd_63 (g_twoAt hl G b N f i35 (by first | (with_reducible assumption) | omega (splitDisjunctions := false) | assumption | omega | decide) (by first | (with_reducible assumption) | omega (splitDisjunctions := false) | assumption | omega | decide) (by first | (with_reducible assumption) | omega (splitDisjunctions := false) | assumption | omega | decide) F_f) [1] [0] (by decide) rfl rfl rfl (by decide) (by decide) k_597 rfl k_118 k_599 k_596 hy_Book_twoAt (by decide) rfl rfl (Nat.le_of_ble_eq_true rfl) (by decide) (fun v9 u37 ch36 => ?_)
        obtain ⟨r_38, rfl⟩ : ∃ z9, z9 = u37 := ⟨_, rfl⟩
        obtain ⟨ech36, ch36⟩ := ch36
        have ech36 : v9 = some (.int r_38) := ech36
        subst ech36
        obtain ⟨fh39, fh40, fh41, fh42⟩ : (0 ≤ r_38.toInt) ∧ (r_38.toInt ≤ 65535) ∧ (r_38.toInt = tw f i35.toInt) ∧ (r_38.toInt = av f i35.toInt 2) := ch36
        have u20 : r_38.toInt = aw A (x.toInt + 20) 2 := by rw [fh42, show i35.toInt = x.toInt + 20 by omega]; exact av_A hA 2 (by (exact omg_87640f9aa1 h0)) (by omega)
        refine pb_eq (pc' := 66) (lo' := [(0, .ref h), (1, .int x)]) (rest' := [.int r_38]) (ws' := [(h, .inr (7, [.ref b])), (b, .inl (G.2.1, N, .inl f))]) ?_
        refine pb_if_ne (pc := 66) (tgt := 73) d_FileReader_isEnd_66 (by decide) (fun w43 => ?_) (fun w43 => ?_)
        · have tw43 : ¬ r_38.toInt = 0 := fun z9 => w43 ((ti_eq rfl (by decide)).mpr z9)
          refine pb_iconst (pc := 73) (v := 0) d_FileReader_isEnd_73 (by decide) ?_
          exact pb_iret (pc := 74) hQ d_FileReader_isEnd_74 rfl rfl (0) ⟨rfl, (by (try dsimp only); first | done | (with_reducible assumption) | omega (splitDisjunctions := false) | assumption | omega | decide), (show (0 : Int32).toInt = 1 → ed_ A x.toInt from (by first | exact fun q9 => absurd q9 (by decide) | exact fun _ => ⟨by omega, by omega, by omega, by omega⟩)), (show (0 : Int32).toInt = 0 → ¬ ed_ A x.toInt from (by first | exact fun q9 => absurd q9 (by decide) | exact fun _ q9 => (by obtain ⟨y1, y2, y3, y4⟩ := q9; omega)))⟩ [0, 1] (by decide) rfl rfl (by decide) (by decide)
        · have tw43 : r_38.toInt = 0 := (ti_eq rfl (by decide)).mp w43
          refine pb_iconst (pc := 69) (v := 1) d_FileReader_isEnd_69 (by decide) ?_
          refine pb_goto (pc := 70) (tgt := 74) d_FileReader_isEnd_70 (by decide) ?_
          exact pb_iret (pc := 74) hQ d_FileReader_isEnd_74 rfl rfl (1) ⟨rfl, (by (try dsimp only); first | done | (with_reducible assumption) | omega (splitDisjunctions := false) | assumption | omega | decide), (show (1 : Int32).toInt = 1 → ed_ A x.toInt from (by first | exact fun q9 => absurd q9 (by decide) | exact fun _ => ⟨by omega, by omega, by omega, by omega⟩)), (show (1 : Int32).toInt = 0 → ¬ ed_ A x.toInt from (by first | exact fun q9 => absurd q9 (by decide) | exact fun _ q9 => (by obtain ⟨y1, y2, y3, y4⟩ := q9; omega)))⟩ [0, 1] (by decide) rfl rfl (by decide) (by decide)

theorem d_FileReader_isEntry_0 : decode prog_5_method_5_code 0 = .ok (.aload_n 0, 1) := by decide +kernel
theorem d_FileReader_isEntry_1 : decode prog_5_method_5_code 1 = .ok (.getfield 9, 3) := by decide +kernel
theorem d_FileReader_isEntry_4 : decode prog_5_method_5_code 4 = .ok (.iload_n 1, 1) := by decide +kernel
theorem d_FileReader_isEntry_5 : decode prog_5_method_5_code 5 = .ok (.bipush 10, 2) := by decide +kernel
theorem d_FileReader_isEntry_7 : decode prog_5_method_5_code 7 = .ok (.iadd, 1) := by decide +kernel
theorem d_FileReader_isEntry_8 : decode prog_5_method_5_code 8 = .ok (.invokestatic 24, 3) := by decide +kernel
theorem d_FileReader_isEntry_11 : decode prog_5_method_5_code 11 = .ok (.istore_n 2, 1) := by decide +kernel
theorem d_FileReader_isEntry_12 : decode prog_5_method_5_code 12 = .ok (.aload_n 0, 1) := by decide +kernel
theorem d_FileReader_isEntry_13 : decode prog_5_method_5_code 13 = .ok (.getfield 9, 3) := by decide +kernel
theorem d_FileReader_isEntry_16 : decode prog_5_method_5_code 16 = .ok (.iload_n 1, 1) := by decide +kernel
theorem d_FileReader_isEntry_17 : decode prog_5_method_5_code 17 = .ok (.invokestatic 28, 3) := by decide +kernel
theorem d_FileReader_isEntry_20 : decode prog_5_method_5_code 20 = .ok (.ldc2_w 45, 3) := by decide +kernel
theorem k_608 : (Jvm.Cond.constantLong "PackageBook$FileReader" (45 : Nat) (33639248 : Int64)) ∈ uW := uW_of 608 (by decide +kernel) (by decide +kernel)
theorem d_FileReader_isEntry_23 : decode prog_5_method_5_code 23 = .ok (.lcmp, 1) := by decide +kernel
theorem d_FileReader_isEntry_24 : decode prog_5_method_5_code 24 = .ok (.ifCond .ne 110, 3) := by decide +kernel
theorem d_FileReader_isEntry_134 : decode prog_5_method_5_code 134 = .ok (.iconst 0, 1) := by decide +kernel
theorem d_FileReader_isEntry_135 : decode prog_5_method_5_code 135 = .ok (.ireturn, 1) := by decide +kernel
theorem d_FileReader_isEntry_27 : decode prog_5_method_5_code 27 = .ok (.aload_n 0, 1) := by decide +kernel
theorem d_FileReader_isEntry_28 : decode prog_5_method_5_code 28 = .ok (.getfield 9, 3) := by decide +kernel
theorem d_FileReader_isEntry_31 : decode prog_5_method_5_code 31 = .ok (.iload_n 1, 1) := by decide +kernel
theorem d_FileReader_isEntry_32 : decode prog_5_method_5_code 32 = .ok (.iconst 4, 1) := by decide +kernel
theorem d_FileReader_isEntry_33 : decode prog_5_method_5_code 33 = .ok (.iadd, 1) := by decide +kernel
theorem d_FileReader_isEntry_34 : decode prog_5_method_5_code 34 = .ok (.invokestatic 24, 3) := by decide +kernel
theorem d_FileReader_isEntry_37 : decode prog_5_method_5_code 37 = .ok (.bipush 20, 2) := by decide +kernel
theorem d_FileReader_isEntry_39 : decode prog_5_method_5_code 39 = .ok (.if_icmp .ne 95, 3) := by decide +kernel
theorem d_FileReader_isEntry_42 : decode prog_5_method_5_code 42 = .ok (.aload_n 0, 1) := by decide +kernel
theorem d_FileReader_isEntry_43 : decode prog_5_method_5_code 43 = .ok (.getfield 9, 3) := by decide +kernel
theorem d_FileReader_isEntry_46 : decode prog_5_method_5_code 46 = .ok (.iload_n 1, 1) := by decide +kernel
theorem d_FileReader_isEntry_47 : decode prog_5_method_5_code 47 = .ok (.bipush 6, 2) := by decide +kernel
theorem d_FileReader_isEntry_49 : decode prog_5_method_5_code 49 = .ok (.iadd, 1) := by decide +kernel
theorem d_FileReader_isEntry_50 : decode prog_5_method_5_code 50 = .ok (.invokestatic 24, 3) := by decide +kernel
theorem d_FileReader_isEntry_53 : decode prog_5_method_5_code 53 = .ok (.bipush 20, 2) := by decide +kernel
theorem d_FileReader_isEntry_55 : decode prog_5_method_5_code 55 = .ok (.if_icmp .ne 79, 3) := by decide +kernel
theorem d_FileReader_isEntry_58 : decode prog_5_method_5_code 58 = .ok (.aload_n 0, 1) := by decide +kernel
theorem d_FileReader_isEntry_59 : decode prog_5_method_5_code 59 = .ok (.getfield 9, 3) := by decide +kernel
theorem d_FileReader_isEntry_62 : decode prog_5_method_5_code 62 = .ok (.iload_n 1, 1) := by decide +kernel
theorem d_FileReader_isEntry_63 : decode prog_5_method_5_code 63 = .ok (.bipush 8, 2) := by decide +kernel
theorem d_FileReader_isEntry_65 : decode prog_5_method_5_code 65 = .ok (.iadd, 1) := by decide +kernel
theorem d_FileReader_isEntry_66 : decode prog_5_method_5_code 66 = .ok (.invokestatic 24, 3) := by decide +kernel
theorem d_FileReader_isEntry_69 : decode prog_5_method_5_code 69 = .ok (.ifCond .ne 65, 3) := by decide +kernel
theorem d_FileReader_isEntry_72 : decode prog_5_method_5_code 72 = .ok (.iload_n 2, 1) := by decide +kernel
theorem d_FileReader_isEntry_73 : decode prog_5_method_5_code 73 = .ok (.ifCond .eq 9, 3) := by decide +kernel
theorem d_FileReader_isEntry_82 : decode prog_5_method_5_code 82 = .ok (.aload_n 0, 1) := by decide +kernel
theorem d_FileReader_isEntry_83 : decode prog_5_method_5_code 83 = .ok (.getfield 9, 3) := by decide +kernel
theorem d_FileReader_isEntry_86 : decode prog_5_method_5_code 86 = .ok (.iload_n 1, 1) := by decide +kernel
theorem d_FileReader_isEntry_87 : decode prog_5_method_5_code 87 = .ok (.bipush 30, 2) := by decide +kernel
theorem d_FileReader_isEntry_89 : decode prog_5_method_5_code 89 = .ok (.iadd, 1) := by decide +kernel
theorem d_FileReader_isEntry_90 : decode prog_5_method_5_code 90 = .ok (.invokestatic 28, 3) := by decide +kernel
theorem d_FileReader_isEntry_93 : decode prog_5_method_5_code 93 = .ok (.lconst 0, 1) := by decide +kernel
theorem d_FileReader_isEntry_94 : decode prog_5_method_5_code 94 = .ok (.lcmp, 1) := by decide +kernel
theorem d_FileReader_isEntry_95 : decode prog_5_method_5_code 95 = .ok (.ifCond .ne 39, 3) := by decide +kernel
theorem d_FileReader_isEntry_98 : decode prog_5_method_5_code 98 = .ok (.aload_n 0, 1) := by decide +kernel
theorem d_FileReader_isEntry_99 : decode prog_5_method_5_code 99 = .ok (.getfield 9, 3) := by decide +kernel
theorem d_FileReader_isEntry_102 : decode prog_5_method_5_code 102 = .ok (.iload_n 1, 1) := by decide +kernel
theorem d_FileReader_isEntry_103 : decode prog_5_method_5_code 103 = .ok (.bipush 34, 2) := by decide +kernel
theorem d_FileReader_isEntry_105 : decode prog_5_method_5_code 105 = .ok (.iadd, 1) := by decide +kernel
theorem d_FileReader_isEntry_106 : decode prog_5_method_5_code 106 = .ok (.invokestatic 28, 3) := by decide +kernel
theorem d_FileReader_isEntry_109 : decode prog_5_method_5_code 109 = .ok (.lconst 0, 1) := by decide +kernel
theorem d_FileReader_isEntry_110 : decode prog_5_method_5_code 110 = .ok (.lcmp, 1) := by decide +kernel
theorem d_FileReader_isEntry_111 : decode prog_5_method_5_code 111 = .ok (.ifCond .ne 23, 3) := by decide +kernel
theorem d_FileReader_isEntry_114 : decode prog_5_method_5_code 114 = .ok (.aload_n 0, 1) := by decide +kernel
theorem d_FileReader_isEntry_115 : decode prog_5_method_5_code 115 = .ok (.getfield 9, 3) := by decide +kernel
theorem d_FileReader_isEntry_118 : decode prog_5_method_5_code 118 = .ok (.iload_n 1, 1) := by decide +kernel
theorem d_FileReader_isEntry_119 : decode prog_5_method_5_code 119 = .ok (.bipush 38, 2) := by decide +kernel
theorem d_FileReader_isEntry_121 : decode prog_5_method_5_code 121 = .ok (.iadd, 1) := by decide +kernel
theorem d_FileReader_isEntry_122 : decode prog_5_method_5_code 122 = .ok (.invokestatic 28, 3) := by decide +kernel
theorem d_FileReader_isEntry_125 : decode prog_5_method_5_code 125 = .ok (.lconst 0, 1) := by decide +kernel
theorem d_FileReader_isEntry_126 : decode prog_5_method_5_code 126 = .ok (.lcmp, 1) := by decide +kernel
theorem d_FileReader_isEntry_127 : decode prog_5_method_5_code 127 = .ok (.ifCond .ne 7, 3) := by decide +kernel
theorem d_FileReader_isEntry_130 : decode prog_5_method_5_code 130 = .ok (.iconst 1, 1) := by decide +kernel
theorem d_FileReader_isEntry_131 : decode prog_5_method_5_code 131 = .ok (.goto 4, 3) := by decide +kernel
theorem d_FileReader_isEntry_76 : decode prog_5_method_5_code 76 = .ok (.iload_n 2, 1) := by decide +kernel
theorem d_FileReader_isEntry_77 : decode prog_5_method_5_code 77 = .ok (.bipush 8, 2) := by decide +kernel
theorem d_FileReader_isEntry_79 : decode prog_5_method_5_code 79 = .ok (.if_icmp .ne 55, 3) := by decide +kernel
abbrev y_FileReader_isEntry : MethodName := ⟨"PackageBook$FileReader", "isEntry", "(I)Z"⟩
abbrev i_FileReader_isEntry : pb_I := (y_FileReader_isEntry, prog_5_method_5_code, 3, (some Jvm.ClassFile.FieldType.boolean), [], { frames := 2, cells := 0, slots := 0, locals := 42 })
set_option maxRecDepth 100000 in
set_option maxHeartbeats 4000000 in
theorem g_Rd_isEntry {l : Launch} (hl : l.stackTraces = false) (G : pb_G) (h : Nat) (b : Nat) (N : Nat) (f : Nat → Int32) (x : Int32) (A : Int → Int32) (Zs : Int) (h0 : 0 ≤ x.toInt) (h1 : x.toInt + 46 ≤ N) (hN : N ≤ 100000) (hA : ∀ j : Int, 0 ≤ j → j < Zs → A j = gr f j) (hZ : x.toInt + 46 ≤ Zs) (F_f : sb_Fit f) : Cn l G i_FileReader_isEntry [.ref h, .int x] [(h, .inr (7, [.ref b])), (b, .inl (G.2.1, N, .inl f))] (S := Int32) (fun rv_ u => rv_ = some (.int u) ∧ (u.toInt = 0 ∨ u.toInt = 1) ∧ (u.toInt = 1 → ey_ A x.toInt) ∧ (u.toInt = 0 → ¬ ey_ A x.toInt)) (fun u => [(h, .inr (7, [.ref b])), (b, .inl (G.2.1, N, .inl f))]) := by
  refine Cn.of hl (by decide +kernel) rfl (Nat.le_of_ble_eq_true rfl) (fun M hQ => ?_)
  refine pb_eq (pc' := 0) (lo' := [(0, .ref h), (1, .int x)]) (rest' := []) (ws' := [(h, .inr (7, [.ref b])), (b, .inl (G.2.1, N, .inl f))]) ?_
  have zl0 : (0 : Int32).toInt = 0 := by decide
  have zl1 : (1 : Int32).toInt = 1 := by decide
  refine pb_aload_n (pc := 0) d_FileReader_isEntry_0 0 rfl rfl ?_
  refine pb_get (pc := 1) d_FileReader_isEntry_1 0 0 rfl rfl (by decide) in_FileReader k_306 rfl ?_
  refine pb_iload_n (pc := 4) d_FileReader_isEntry_4 1 rfl rfl ?_
  refine pb_bipush (pc := 5) (v := 10) d_FileReader_isEntry_5 (by decide) ?_
  refine pb_iadd (pc := 7) d_FileReader_isEntry_7 ?_
  refine pb_topi (fun i1 ei1 => ?_)
  try have ti1 : i1.toInt = x.toInt + 10 := t2_add ei1 rfl (by decide) (by omega)
  refine pb_callSN (pc := 8) (I := i_FileReader_isEntry) (nA := 2) (rest := []) (wr := [(h, .inr (7, [.ref b]))]) d_FileReader_isEntry_8 (g_twoAt hl G b N f i1 (by first | (with_reducible assumption) | omega (splitDisjunctions := false) | assumption | omega | decide) (by first | (with_reducible assumption) | omega (splitDisjunctions := false) | assumption | omega | decide) (by first | (with_reducible assumption) | omega (splitDisjunctions := false) | assumption | omega | decide) F_f) [1] [0] (by decide) rfl rfl rfl (by decide) (by decide) k_597 rfl k_118 k_599 k_596 hy_Book_twoAt (by decide) rfl rfl (Nat.le_of_ble_eq_true rfl) (by decide) (fun v9 u3 ch2 => ?_)
  obtain ⟨r_4, rfl⟩ : ∃ z9, z9 = u3 := ⟨_, rfl⟩
  obtain ⟨ech2, ch2⟩ := ch2
  have ech2 : v9 = some (.int r_4) := ech2
  subst ech2
  obtain ⟨fh5, fh6, fh7, fh8⟩ : (0 ≤ r_4.toInt) ∧ (r_4.toInt ≤ 65535) ∧ (r_4.toInt = tw f i1.toInt) ∧ (r_4.toInt = av f i1.toInt 2) := ch2
  have u10 : r_4.toInt = aw A (x.toInt + 10) 2 := by rw [fh8, show i1.toInt = x.toInt + 10 by omega]; exact av_A hA 2 (by omega) (by omega)
  refine pb_eq (pc' := 11) (lo' := [(0, .ref h), (1, .int x)]) (rest' := [.int r_4]) (ws' := [(h, .inr (7, [.ref b])), (b, .inl (G.2.1, N, .inl f))]) ?_
  refine pb_istore_n (pc := 11) (lo' := [(2, .int r_4), (0, .ref h), (1, .int x)]) d_FileReader_isEntry_11 rfl (by decide) rfl ?_
  refine pb_aload_n (pc := 12) d_FileReader_isEntry_12 1 rfl rfl ?_
  refine pb_get (pc := 13) d_FileReader_isEntry_13 0 0 rfl rfl (by decide) in_FileReader k_306 rfl ?_
  refine pb_iload_n (pc := 16) d_FileReader_isEntry_16 2 rfl rfl ?_
  refine pb_callSN (pc := 17) (I := i_FileReader_isEntry) (nA := 2) (rest := []) (wr := [(h, .inr (7, [.ref b]))]) d_FileReader_isEntry_17 (g_fourAt hl G b N f x (by first | (with_reducible assumption) | omega (splitDisjunctions := false) | assumption | omega | decide) (by first | (with_reducible assumption) | omega (splitDisjunctions := false) | assumption | omega | decide) (by first | (with_reducible assumption) | omega (splitDisjunctions := false) | assumption | omega | decide) F_f) [1] [0] (by decide) rfl rfl rfl (by decide) (by decide) k_594 rfl k_118 k_592 k_593 hy_Book_fourAt (by decide) rfl rfl (Nat.le_of_ble_eq_true rfl) (by decide) (fun v9 u10 ch9 => ?_)
  obtain ⟨r_11, rfl⟩ : ∃ z9, z9 = u10 := ⟨_, rfl⟩
  obtain ⟨ech9, ch9⟩ := ch9
  have ech9 : v9 = some (.long r_11) := ech9
  subst ech9
  obtain ⟨fh12, fh13, fh14⟩ : (0 ≤ r_11.toInt) ∧ (r_11.toInt < 4294967296) ∧ (r_11.toInt = av f x.toInt 4) := ch9
  have u0 : r_11.toInt = aw A (x.toInt) 4 := by rw [fh14]; exact av_A hA 4 (by omega) (by omega)
  refine pb_eq (pc' := 20) (lo' := [(2, .int r_4), (0, .ref h), (1, .int x)]) (rest' := [.long r_11]) (ws' := [(h, .inr (7, [.ref b])), (b, .inl (G.2.1, N, .inl f))]) ?_
  refine pb_ldc2 (pc := 20) (v := 33639248) d_FileReader_isEntry_20 k_608 ?_
  refine pb_lcmp (pc := 23) d_FileReader_isEntry_23 ?_
  refine pb_topi (fun i15 ei15 => ?_)
  have ti15 : (i15.toInt < 0 ↔ r_11.toInt < 33639248) ∧ (i15.toInt = 0 ↔ r_11.toInt = 33639248) ∧ (0 < i15.toInt ↔ 33639248 < r_11.toInt) := tl_cmp ei15 rfl (by decide)
  refine pb_if_ne (pc := 24) (tgt := 134) d_FileReader_isEntry_24 (by decide) (fun w16 => ?_) (fun w16 => ?_)
  · have tw16 : ¬ i15.toInt = 0 := fun z9 => w16 ((ti_eq rfl (by decide)).mpr z9)
    refine pb_iconst (pc := 134) (v := 0) d_FileReader_isEntry_134 (by decide) ?_
    exact pb_iret (pc := 135) hQ d_FileReader_isEntry_135 rfl rfl (0) ⟨rfl, (by (try dsimp only); first | done | (with_reducible assumption) | omega (splitDisjunctions := false) | assumption | omega | decide), (show (0 : Int32).toInt = 1 → ey_ A x.toInt from (by first | exact fun q9 => absurd q9 (by decide) | exact fun _ => ⟨by omega, ey_C (by omega) (by omega), by omega, by omega, by omega, by omega, by omega⟩)), (show (0 : Int32).toInt = 0 → ¬ ey_ A x.toInt from (by first | exact fun q9 => absurd q9 (by decide) | exact fun _ q9 => (by obtain ⟨y1, y2, y3, y4, y5, y6, y7⟩ := q9; have y8 := ey_D y2; omega)))⟩ [0, 1] (by decide) rfl rfl (by decide) (by decide)
  · have tw16 : i15.toInt = 0 := (ti_eq rfl (by decide)).mp w16
    refine pb_aload_n (pc := 27) d_FileReader_isEntry_27 1 rfl rfl ?_
    refine pb_get (pc := 28) d_FileReader_isEntry_28 0 0 rfl rfl (by decide) in_FileReader k_306 rfl ?_
    refine pb_iload_n (pc := 31) d_FileReader_isEntry_31 2 rfl rfl ?_
    refine pb_iconst (pc := 32) (v := 4) d_FileReader_isEntry_32 (by decide) ?_
    refine pb_iadd (pc := 33) d_FileReader_isEntry_33 ?_
    refine pb_topi (fun i17 ei17 => ?_)
    try have ti17 : i17.toInt = x.toInt + 4 := t2_add ei17 rfl (by decide) (by omega)
    refine pb_callSN (pc := 34) (I := i_FileReader_isEntry) (nA := 2) (rest := []) (wr := [(h, .inr (7, [.ref b]))]) d_FileReader_isEntry_34 (g_twoAt hl G b N f i17 (by first | (with_reducible assumption) | omega (splitDisjunctions := false) | assumption | omega | decide) (by first | (with_reducible assumption) | omega (splitDisjunctions := false) | assumption | omega | decide) (by first | (with_reducible assumption) | omega (splitDisjunctions := false) | assumption | omega | decide) F_f) [1] [0] (by decide) rfl rfl rfl (by decide) (by decide) k_597 rfl k_118 k_599 k_596 hy_Book_twoAt (by decide) rfl rfl (Nat.le_of_ble_eq_true rfl) (by decide) (fun v9 u19 ch18 => ?_)
    obtain ⟨r_20, rfl⟩ : ∃ z9, z9 = u19 := ⟨_, rfl⟩
    obtain ⟨ech18, ch18⟩ := ch18
    have ech18 : v9 = some (.int r_20) := ech18
    subst ech18
    obtain ⟨fh21, fh22, fh23, fh24⟩ : (0 ≤ r_20.toInt) ∧ (r_20.toInt ≤ 65535) ∧ (r_20.toInt = tw f i17.toInt) ∧ (r_20.toInt = av f i17.toInt 2) := ch18
    have u4 : r_20.toInt = aw A (x.toInt + 4) 2 := by rw [fh24, show i17.toInt = x.toInt + 4 by omega]; exact av_A hA 2 (by omega) (by omega)
    refine pb_eq (pc' := 37) (lo' := [(2, .int r_4), (0, .ref h), (1, .int x)]) (rest' := [.int r_20]) (ws' := [(h, .inr (7, [.ref b])), (b, .inl (G.2.1, N, .inl f))]) ?_
    refine pb_bipush (pc := 37) (v := 20) d_FileReader_isEntry_37 (by decide) ?_
    refine pb_icmp_ne (pc := 39) (tgt := 134) d_FileReader_isEntry_39 (by decide) (fun w25 => ?_) (fun w25 => ?_)
    · have tw25 : ¬ r_20.toInt = 20 := fun z9 => w25 ((ti_eq rfl (by decide)).mpr z9)
      refine pb_iconst (pc := 134) (v := 0) d_FileReader_isEntry_134 (by decide) ?_
      exact pb_iret (pc := 135) hQ d_FileReader_isEntry_135 rfl rfl (0) ⟨rfl, (by (try dsimp only); first | done | (with_reducible assumption) | omega (splitDisjunctions := false) | assumption | omega | decide), (show (0 : Int32).toInt = 1 → ey_ A x.toInt from (by first | exact fun q9 => absurd q9 (by decide) | exact fun _ => ⟨by omega, ey_C (by omega) (by omega), by omega, by omega, by omega, by omega, by omega⟩)), (show (0 : Int32).toInt = 0 → ¬ ey_ A x.toInt from (by first | exact fun q9 => absurd q9 (by decide) | exact fun _ q9 => (by obtain ⟨y1, y2, y3, y4, y5, y6, y7⟩ := q9; have y8 := ey_D y2; omega)))⟩ [0, 1] (by decide) rfl rfl (by decide) (by decide)
    · have tw25 : r_20.toInt = 20 := (ti_eq rfl (by decide)).mp w25
      refine pb_aload_n (pc := 42) d_FileReader_isEntry_42 1 rfl rfl ?_
      refine pb_get (pc := 43) d_FileReader_isEntry_43 0 0 rfl rfl (by decide) in_FileReader k_306 rfl ?_
      refine pb_iload_n (pc := 46) d_FileReader_isEntry_46 2 rfl rfl ?_
      refine pb_bipush (pc := 47) (v := 6) d_FileReader_isEntry_47 (by decide) ?_
      refine pb_iadd (pc := 49) d_FileReader_isEntry_49 ?_
      refine pb_topi (fun i26 ei26 => ?_)
      try have ti26 : i26.toInt = x.toInt + 6 := t2_add ei26 rfl (by decide) (by omega)
      refine pb_callSN (pc := 50) (I := i_FileReader_isEntry) (nA := 2) (rest := []) (wr := [(h, .inr (7, [.ref b]))]) d_FileReader_isEntry_50 (g_twoAt hl G b N f i26 (by first | (with_reducible assumption) | omega (splitDisjunctions := false) | assumption | omega | decide) (by first | (with_reducible assumption) | omega (splitDisjunctions := false) | assumption | omega | decide) (by first | (with_reducible assumption) | omega (splitDisjunctions := false) | assumption | omega | decide) F_f) [1] [0] (by decide) rfl rfl rfl (by decide) (by decide) k_597 rfl k_118 k_599 k_596 hy_Book_twoAt (by decide) rfl rfl (Nat.le_of_ble_eq_true rfl) (by decide) (fun v9 u28 ch27 => ?_)
      obtain ⟨r_29, rfl⟩ : ∃ z9, z9 = u28 := ⟨_, rfl⟩
      obtain ⟨ech27, ch27⟩ := ch27
      have ech27 : v9 = some (.int r_29) := ech27
      subst ech27
      obtain ⟨fh30, fh31, fh32, fh33⟩ : (0 ≤ r_29.toInt) ∧ (r_29.toInt ≤ 65535) ∧ (r_29.toInt = tw f i26.toInt) ∧ (r_29.toInt = av f i26.toInt 2) := ch27
      have u6 : r_29.toInt = aw A (x.toInt + 6) 2 := by rw [fh33, show i26.toInt = x.toInt + 6 by omega]; exact av_A hA 2 (by omega) (by omega)
      refine pb_eq (pc' := 53) (lo' := [(2, .int r_4), (0, .ref h), (1, .int x)]) (rest' := [.int r_29]) (ws' := [(h, .inr (7, [.ref b])), (b, .inl (G.2.1, N, .inl f))]) ?_
      refine pb_bipush (pc := 53) (v := 20) d_FileReader_isEntry_53 (by decide) ?_
      refine pb_icmp_ne (pc := 55) (tgt := 134) d_FileReader_isEntry_55 (by decide) (fun w34 => ?_) (fun w34 => ?_)
      · have tw34 : ¬ r_29.toInt = 20 := fun z9 => w34 ((ti_eq rfl (by decide)).mpr z9)
        refine pb_iconst (pc := 134) (v := 0) d_FileReader_isEntry_134 (by decide) ?_
        exact pb_iret (pc := 135) hQ d_FileReader_isEntry_135 rfl rfl (0) ⟨rfl, (by (try dsimp only); first | done | (with_reducible assumption) | omega (splitDisjunctions := false) | assumption | omega | decide), (show (0 : Int32).toInt = 1 → ey_ A x.toInt from (by first | exact fun q9 => absurd q9 (by decide) | exact fun _ => ⟨by omega, ey_C (by omega) (by omega), by omega, by omega, by omega, by omega, by omega⟩)), (show (0 : Int32).toInt = 0 → ¬ ey_ A x.toInt from (by first | exact fun q9 => absurd q9 (by decide) | exact fun _ q9 => (by obtain ⟨y1, y2, y3, y4, y5, y6, y7⟩ := q9; have y8 := ey_D y2; omega)))⟩ [0, 1] (by decide) rfl rfl (by decide) (by decide)
      · have tw34 : r_29.toInt = 20 := (ti_eq rfl (by decide)).mp w34
        refine pb_aload_n (pc := 58) d_FileReader_isEntry_58 1 rfl rfl ?_
        refine pb_get (pc := 59) d_FileReader_isEntry_59 0 0 rfl rfl (by decide) in_FileReader k_306 rfl ?_
        refine pb_iload_n (pc := 62) d_FileReader_isEntry_62 2 rfl rfl ?_
        refine pb_bipush (pc := 63) (v := 8) d_FileReader_isEntry_63 (by decide) ?_
        refine pb_iadd (pc := 65) d_FileReader_isEntry_65 ?_
        refine pb_topi (fun i35 ei35 => ?_)
        try have ti35 : i35.toInt = x.toInt + 8 := t2_add ei35 rfl (by decide) (by omega)
        refine pb_callSN (pc := 66) (I := i_FileReader_isEntry) (nA := 2) (rest := []) (wr := [(h, .inr (7, [.ref b]))]) d_FileReader_isEntry_66 (g_twoAt hl G b N f i35 (by first | (with_reducible assumption) | omega (splitDisjunctions := false) | assumption | omega | decide) (by first | (with_reducible assumption) | omega (splitDisjunctions := false) | assumption | omega | decide) (by first | (with_reducible assumption) | omega (splitDisjunctions := false) | assumption | omega | decide) F_f) [1] [0] (by decide) rfl rfl rfl (by decide) (by decide) k_597 rfl k_118 k_599 k_596 hy_Book_twoAt (by decide) rfl rfl (Nat.le_of_ble_eq_true rfl) (by decide) (fun v9 u37 ch36 => ?_)
        obtain ⟨r_38, rfl⟩ : ∃ z9, z9 = u37 := ⟨_, rfl⟩
        obtain ⟨ech36, ch36⟩ := ch36
        have ech36 : v9 = some (.int r_38) := ech36
        subst ech36
        obtain ⟨fh39, fh40, fh41, fh42⟩ : (0 ≤ r_38.toInt) ∧ (r_38.toInt ≤ 65535) ∧ (r_38.toInt = tw f i35.toInt) ∧ (r_38.toInt = av f i35.toInt 2) := ch36
        have u8 : r_38.toInt = aw A (x.toInt + 8) 2 := by rw [fh42, show i35.toInt = x.toInt + 8 by omega]; exact av_A hA 2 (by omega) (by omega)
        refine pb_eq (pc' := 69) (lo' := [(2, .int r_4), (0, .ref h), (1, .int x)]) (rest' := [.int r_38]) (ws' := [(h, .inr (7, [.ref b])), (b, .inl (G.2.1, N, .inl f))]) ?_
        refine pb_if_ne (pc := 69) (tgt := 134) d_FileReader_isEntry_69 (by decide) (fun w43 => ?_) (fun w43 => ?_)
        · have tw43 : ¬ r_38.toInt = 0 := fun z9 => w43 ((ti_eq rfl (by decide)).mpr z9)
          refine pb_iconst (pc := 134) (v := 0) d_FileReader_isEntry_134 (by decide) ?_
          exact pb_iret (pc := 135) hQ d_FileReader_isEntry_135 rfl rfl (0) ⟨rfl, (by (try dsimp only); first | done | (with_reducible assumption) | omega (splitDisjunctions := false) | assumption | omega | decide), (show (0 : Int32).toInt = 1 → ey_ A x.toInt from (by first | exact fun q9 => absurd q9 (by decide) | exact fun _ => ⟨by omega, ey_C (by omega) (by omega), by omega, by omega, by omega, by omega, by omega⟩)), (show (0 : Int32).toInt = 0 → ¬ ey_ A x.toInt from (by first | exact fun q9 => absurd q9 (by decide) | exact fun _ q9 => (by obtain ⟨y1, y2, y3, y4, y5, y6, y7⟩ := q9; have y8 := ey_D y2; (exact omg_acd30192c0 u8 tw43 y3))))⟩ [0, 1] (by decide) rfl rfl (by decide) (by decide)
        · have tw43 : r_38.toInt = 0 := (ti_eq rfl (by decide)).mp w43
          refine pb_iload_n (pc := 72) d_FileReader_isEntry_72 0 rfl rfl ?_
          refine pb_if_eq (pc := 73) (tgt := 82) d_FileReader_isEntry_73 (by decide) (fun w44 => ?_) (fun w44 => ?_)
          · have tw44 : r_4.toInt = 0 := (ti_eq rfl (by decide)).mp w44
            refine pb_aload_n (pc := 82) d_FileReader_isEntry_82 1 rfl rfl ?_
            refine pb_get (pc := 83) d_FileReader_isEntry_83 0 0 rfl rfl (by decide) in_FileReader k_306 rfl ?_
            refine pb_iload_n (pc := 86) d_FileReader_isEntry_86 2 rfl rfl ?_
            refine pb_bipush (pc := 87) (v := 30) d_FileReader_isEntry_87 (by decide) ?_
            refine pb_iadd (pc := 89) d_FileReader_isEntry_89 ?_
            refine pb_topi (fun i45 ei45 => ?_)
            try have ti45 : i45.toInt = x.toInt + 30 := t2_add ei45 rfl (by decide) (by omega)
            refine pb_callSN (pc := 90) (I := i_FileReader_isEntry) (nA := 2) (rest := []) (wr := [(h, .inr (7, [.ref b]))]) d_FileReader_isEntry_90 (g_fourAt hl G b N f i45 (by first | (with_reducible assumption) | omega (splitDisjunctions := false) | assumption | omega | decide) (by first | (with_reducible assumption) | omega (splitDisjunctions := false) | assumption | omega | decide) (by first | (with_reducible assumption) | omega (splitDisjunctions := false) | assumption | omega | decide) F_f) [1] [0] (by decide) rfl rfl rfl (by decide) (by decide) k_594 rfl k_118 k_592 k_593 hy_Book_fourAt (by decide) rfl rfl (Nat.le_of_ble_eq_true rfl) (by decide) (fun v9 u47 ch46 => ?_)
            obtain ⟨r_48, rfl⟩ : ∃ z9, z9 = u47 := ⟨_, rfl⟩
            obtain ⟨ech46, ch46⟩ := ch46
            have ech46 : v9 = some (.long r_48) := ech46
            subst ech46
            obtain ⟨fh49, fh50, fh51⟩ : (0 ≤ r_48.toInt) ∧ (r_48.toInt < 4294967296) ∧ (r_48.toInt = av f i45.toInt 4) := ch46
            have u30 : r_48.toInt = aw A (x.toInt + 30) 4 := by rw [fh51, show i45.toInt = x.toInt + 30 by omega]; exact av_A hA 4 (by omega) (by omega)
            refine pb_eq (pc' := 93) (lo' := [(2, .int r_4), (0, .ref h), (1, .int x)]) (rest' := [.long r_48]) (ws' := [(h, .inr (7, [.ref b])), (b, .inl (G.2.1, N, .inl f))]) ?_
            refine pb_lconst (pc := 93) (v := 0) d_FileReader_isEntry_93 (by decide) ?_
            refine pb_lcmp (pc := 94) d_FileReader_isEntry_94 ?_
            refine pb_topi (fun i52 ei52 => ?_)
            have ti52 : (i52.toInt < 0 ↔ r_48.toInt < 0) ∧ (i52.toInt = 0 ↔ r_48.toInt = 0) ∧ (0 < i52.toInt ↔ 0 < r_48.toInt) := tl_cmp ei52 rfl (by decide)
            refine pb_if_ne (pc := 95) (tgt := 134) d_FileReader_isEntry_95 (by decide) (fun w53 => ?_) (fun w53 => ?_)
            · have tw53 : ¬ i52.toInt = 0 := fun z9 => w53 ((ti_eq rfl (by decide)).mpr z9)
              refine pb_iconst (pc := 134) (v := 0) d_FileReader_isEntry_134 (by decide) ?_
              exact pb_iret (pc := 135) hQ d_FileReader_isEntry_135 rfl rfl (0) ⟨rfl, (by (try dsimp only); first | done | (with_reducible assumption) | omega (splitDisjunctions := false) | assumption | omega | decide), (show (0 : Int32).toInt = 1 → ey_ A x.toInt from (by first | exact fun q9 => absurd q9 (by decide) | exact fun _ => ⟨by omega, ey_C (by omega) (by omega), by omega, by omega, by omega, by omega, by omega⟩)), (show (0 : Int32).toInt = 0 → ¬ ey_ A x.toInt from (by first | exact fun q9 => absurd q9 (by decide) | exact fun _ q9 => (by obtain ⟨y1, y2, y3, y4, y5, y6, y7⟩ := q9; have y8 := ey_D y2; (exact omg_39806c0d09 u30 ti52 tw53 y5))))⟩ [0, 1] (by decide) rfl rfl (by decide) (by decide)
            · have tw53 : i52.toInt = 0 := (ti_eq rfl (by decide)).mp w53
              refine pb_aload_n (pc := 98) d_FileReader_isEntry_98 1 rfl rfl ?_
              refine pb_get (pc := 99) d_FileReader_isEntry_99 0 0 rfl rfl (by decide) in_FileReader k_306 rfl ?_
              refine pb_iload_n (pc := 102) d_FileReader_isEntry_102 2 rfl rfl ?_
              refine pb_bipush (pc := 103) (v := 34) d_FileReader_isEntry_103 (by decide) ?_
              refine pb_iadd (pc := 105) d_FileReader_isEntry_105 ?_
              refine pb_topi (fun i54 ei54 => ?_)
              try have ti54 : i54.toInt = x.toInt + 34 := t2_add ei54 rfl (by decide) (by (exact omg_166c39d5f6 h0 h1 hN))
              refine pb_callSN (pc := 106) (I := i_FileReader_isEntry) (nA := 2) (rest := []) (wr := [(h, .inr (7, [.ref b]))]) d_FileReader_isEntry_106 (g_fourAt hl G b N f i54 (by first | (with_reducible assumption) | omega (splitDisjunctions := false) | assumption | omega | decide) (by first | (with_reducible assumption) | omega (splitDisjunctions := false) | assumption | omega | decide) (by first | (with_reducible assumption) | omega (splitDisjunctions := false) | assumption | omega | decide) F_f) [1] [0] (by decide) rfl rfl rfl (by decide) (by decide) k_594 rfl k_118 k_592 k_593 hy_Book_fourAt (by decide) rfl rfl (Nat.le_of_ble_eq_true rfl) (by decide) (fun v9 u56 ch55 => ?_)
              obtain ⟨r_57, rfl⟩ : ∃ z9, z9 = u56 := ⟨_, rfl⟩
              obtain ⟨ech55, ch55⟩ := ch55
              have ech55 : v9 = some (.long r_57) := ech55
              subst ech55
              obtain ⟨fh58, fh59, fh60⟩ : (0 ≤ r_57.toInt) ∧ (r_57.toInt < 4294967296) ∧ (r_57.toInt = av f i54.toInt 4) := ch55
              have u34 : r_57.toInt = aw A (x.toInt + 34) 4 := by rw [fh60, show i54.toInt = x.toInt + 34 by omega]; exact av_A hA 4 (by (exact omg_45e051169b h0)) (by (exact omg_2ec29f96b5 hZ))
              refine pb_eq (pc' := 109) (lo' := [(2, .int r_4), (0, .ref h), (1, .int x)]) (rest' := [.long r_57]) (ws' := [(h, .inr (7, [.ref b])), (b, .inl (G.2.1, N, .inl f))]) ?_
              refine pb_lconst (pc := 109) (v := 0) d_FileReader_isEntry_109 (by decide) ?_
              refine pb_lcmp (pc := 110) d_FileReader_isEntry_110 ?_
              refine pb_topi (fun i61 ei61 => ?_)
              have ti61 : (i61.toInt < 0 ↔ r_57.toInt < 0) ∧ (i61.toInt = 0 ↔ r_57.toInt = 0) ∧ (0 < i61.toInt ↔ 0 < r_57.toInt) := tl_cmp ei61 rfl (by decide)
              refine pb_if_ne (pc := 111) (tgt := 134) d_FileReader_isEntry_111 (by decide) (fun w62 => ?_) (fun w62 => ?_)
              · have tw62 : ¬ i61.toInt = 0 := fun z9 => w62 ((ti_eq rfl (by decide)).mpr z9)
                refine pb_iconst (pc := 134) (v := 0) d_FileReader_isEntry_134 (by decide) ?_
                exact pb_iret (pc := 135) hQ d_FileReader_isEntry_135 rfl rfl (0) ⟨rfl, (by (try dsimp only); first | done | (with_reducible assumption) | omega (splitDisjunctions := false) | assumption | omega | decide), (show (0 : Int32).toInt = 1 → ey_ A x.toInt from (by first | exact fun q9 => absurd q9 (by decide) | exact fun _ => ⟨by omega, ey_C (by omega) (by omega), by omega, by omega, by omega, by omega, by omega⟩)), (show (0 : Int32).toInt = 0 → ¬ ey_ A x.toInt from (by first | exact fun q9 => absurd q9 (by decide) | exact fun _ q9 => (by obtain ⟨y1, y2, y3, y4, y5, y6, y7⟩ := q9; have y8 := ey_D y2; (exact omg_39806c0d09 u34 ti61 tw62 y6))))⟩ [0, 1] (by decide) rfl rfl (by decide) (by decide)
              · have tw62 : i61.toInt = 0 := (ti_eq rfl (by decide)).mp w62
                refine pb_aload_n (pc := 114) d_FileReader_isEntry_114 1 rfl rfl ?_
                refine pb_get (pc := 115) d_FileReader_isEntry_115 0 0 rfl rfl (by decide) in_FileReader k_306 rfl ?_
                refine pb_iload_n (pc := 118) d_FileReader_isEntry_118 2 rfl rfl ?_
                refine pb_bipush (pc := 119) (v := 38) d_FileReader_isEntry_119 (by decide) ?_
                refine pb_iadd (pc := 121) d_FileReader_isEntry_121 ?_
                refine pb_topi (fun i63 ei63 => ?_)
                try have ti63 : i63.toInt = x.toInt + 38 := t2_add ei63 rfl (by decide) (by (exact omg_743a53c656 h0 h1 hN))
                refine pb_callSN (pc := 122) (I := i_FileReader_isEntry) (nA := 2) (rest := []) (wr := [(h, .inr (7, [.ref b]))]) d_FileReader_isEntry_122 (g_fourAt hl G b N f i63 (by first | (with_reducible assumption) | (exact omg_2566e2c3a9 h0 ti63) | assumption | omega | decide) (by first | (with_reducible assumption) | (exact omg_c1f1ba87da h1 ti63) | assumption | omega | decide) (by first | (with_reducible assumption) | omega (splitDisjunctions := false) | assumption | omega | decide) F_f) [1] [0] (by decide) rfl rfl rfl (by decide) (by decide) k_594 rfl k_118 k_592 k_593 hy_Book_fourAt (by decide) rfl rfl (Nat.le_of_ble_eq_true rfl) (by decide) (fun v9 u65 ch64 => ?_)
                obtain ⟨r_66, rfl⟩ : ∃ z9, z9 = u65 := ⟨_, rfl⟩
                obtain ⟨ech64, ch64⟩ := ch64
                have ech64 : v9 = some (.long r_66) := ech64
                subst ech64
                obtain ⟨fh67, fh68, fh69⟩ : (0 ≤ r_66.toInt) ∧ (r_66.toInt < 4294967296) ∧ (r_66.toInt = av f i63.toInt 4) := ch64
                have u38 : r_66.toInt = aw A (x.toInt + 38) 4 := by rw [fh69, show i63.toInt = x.toInt + 38 by omega]; exact av_A hA 4 (by (exact omg_602ceb64b2 h0)) (by (exact omg_0cfc9a5be6 hZ))
                refine pb_eq (pc' := 125) (lo' := [(2, .int r_4), (0, .ref h), (1, .int x)]) (rest' := [.long r_66]) (ws' := [(h, .inr (7, [.ref b])), (b, .inl (G.2.1, N, .inl f))]) ?_
                refine pb_lconst (pc := 125) (v := 0) d_FileReader_isEntry_125 (by decide) ?_
                refine pb_lcmp (pc := 126) d_FileReader_isEntry_126 ?_
                refine pb_topi (fun i70 ei70 => ?_)
                have ti70 : (i70.toInt < 0 ↔ r_66.toInt < 0) ∧ (i70.toInt = 0 ↔ r_66.toInt = 0) ∧ (0 < i70.toInt ↔ 0 < r_66.toInt) := tl_cmp ei70 rfl (by decide)
                refine pb_if_ne (pc := 127) (tgt := 134) d_FileReader_isEntry_127 (by decide) (fun w71 => ?_) (fun w71 => ?_)
                · have tw71 : ¬ i70.toInt = 0 := fun z9 => w71 ((ti_eq rfl (by decide)).mpr z9)
                  refine pb_iconst (pc := 134) (v := 0) d_FileReader_isEntry_134 (by decide) ?_
                  exact pb_iret (pc := 135) hQ d_FileReader_isEntry_135 rfl rfl (0) ⟨rfl, (by (try dsimp only); first | done | (with_reducible assumption) | omega (splitDisjunctions := false) | assumption | omega | decide), (show (0 : Int32).toInt = 1 → ey_ A x.toInt from (by first | exact fun q9 => absurd q9 (by decide) | exact fun _ => ⟨by omega, ey_C (by omega) (by omega), by omega, by omega, by omega, by omega, by omega⟩)), (show (0 : Int32).toInt = 0 → ¬ ey_ A x.toInt from (by first | exact fun q9 => absurd q9 (by decide) | exact fun _ q9 => (by obtain ⟨y1, y2, y3, y4, y5, y6, y7⟩ := q9; have y8 := ey_D y2; (exact omg_39806c0d09 u38 ti70 tw71 y7))))⟩ [0, 1] (by decide) rfl rfl (by decide) (by decide)
                · have tw71 : i70.toInt = 0 := (ti_eq rfl (by decide)).mp w71
                  refine pb_iconst (pc := 130) (v := 1) d_FileReader_isEntry_130 (by decide) ?_
                  refine pb_goto (pc := 131) (tgt := 135) d_FileReader_isEntry_131 (by decide) ?_
                  exact pb_iret (pc := 135) hQ d_FileReader_isEntry_135 rfl rfl (1) ⟨rfl, (by (try dsimp only); first | done | (with_reducible assumption) | omega (splitDisjunctions := false) | assumption | omega | decide), (show (1 : Int32).toInt = 1 → ey_ A x.toInt from (by first | exact fun q9 => absurd q9 (by decide) | exact fun _ => ⟨by (exact omg_d706b4ad8a u0 ti15 tw16), ey_C (by omega) (by omega), by (exact omg_3ece37706e u8 tw43), by (exact omg_e41e7867ed u10 tw44), by (exact omg_26f441bfdd u30 ti52 tw53), by (exact omg_26f441bfdd u34 ti61 tw62), by (exact omg_26f441bfdd u38 ti70 tw71)⟩)), (show (1 : Int32).toInt = 0 → ¬ ey_ A x.toInt from (by first | exact fun q9 => absurd q9 (by decide) | exact fun _ q9 => (by obtain ⟨y1, y2, y3, y4, y5, y6, y7⟩ := q9; have y8 := ey_D y2; omega)))⟩ [0, 1] (by decide) rfl rfl (by decide) (by decide)
          · have tw44 : ¬ r_4.toInt = 0 := fun z9 => w44 ((ti_eq rfl (by decide)).mpr z9)
            refine pb_iload_n (pc := 76) d_FileReader_isEntry_76 0 rfl rfl ?_
            refine pb_bipush (pc := 77) (v := 8) d_FileReader_isEntry_77 (by decide) ?_
            refine pb_icmp_ne (pc := 79) (tgt := 134) d_FileReader_isEntry_79 (by decide) (fun w72 => ?_) (fun w72 => ?_)
            · have tw72 : ¬ r_4.toInt = 8 := fun z9 => w72 ((ti_eq rfl (by decide)).mpr z9)
              refine pb_iconst (pc := 134) (v := 0) d_FileReader_isEntry_134 (by decide) ?_
              exact pb_iret (pc := 135) hQ d_FileReader_isEntry_135 rfl rfl (0) ⟨rfl, (by (try dsimp only); first | done | (with_reducible assumption) | omega (splitDisjunctions := false) | assumption | omega | decide), (show (0 : Int32).toInt = 1 → ey_ A x.toInt from (by first | exact fun q9 => absurd q9 (by decide) | exact fun _ => ⟨by omega, ey_C (by omega) (by omega), by omega, by omega, by omega, by omega, by omega⟩)), (show (0 : Int32).toInt = 0 → ¬ ey_ A x.toInt from (by first | exact fun q9 => absurd q9 (by decide) | exact fun _ q9 => (by obtain ⟨y1, y2, y3, y4, y5, y6, y7⟩ := q9; have y8 := ey_D y2; omega)))⟩ [0, 1] (by decide) rfl rfl (by decide) (by decide)
            · have tw72 : r_4.toInt = 8 := (ti_eq rfl (by decide)).mp w72
              refine pb_aload_n (pc := 82) d_FileReader_isEntry_82 1 rfl rfl ?_
              refine pb_get (pc := 83) d_FileReader_isEntry_83 0 0 rfl rfl (by decide) in_FileReader k_306 rfl ?_
              refine pb_iload_n (pc := 86) d_FileReader_isEntry_86 2 rfl rfl ?_
              refine pb_bipush (pc := 87) (v := 30) d_FileReader_isEntry_87 (by decide) ?_
              refine pb_iadd (pc := 89) d_FileReader_isEntry_89 ?_
              refine pb_topi (fun i73 ei73 => ?_)
              try have ti73 : i73.toInt = x.toInt + 30 := t2_add ei73 rfl (by decide) (by omega)
              refine pb_callSN (pc := 90) (I := i_FileReader_isEntry) (nA := 2) (rest := []) (wr := [(h, .inr (7, [.ref b]))]) d_FileReader_isEntry_90 (g_fourAt hl G b N f i73 (by first | (with_reducible assumption) | omega (splitDisjunctions := false) | assumption | omega | decide) (by first | (with_reducible assumption) | omega (splitDisjunctions := false) | assumption | omega | decide) (by first | (with_reducible assumption) | omega (splitDisjunctions := false) | assumption | omega | decide) F_f) [1] [0] (by decide) rfl rfl rfl (by decide) (by decide) k_594 rfl k_118 k_592 k_593 hy_Book_fourAt (by decide) rfl rfl (Nat.le_of_ble_eq_true rfl) (by decide) (fun v9 u75 ch74 => ?_)
              obtain ⟨r_76, rfl⟩ : ∃ z9, z9 = u75 := ⟨_, rfl⟩
              obtain ⟨ech74, ch74⟩ := ch74
              have ech74 : v9 = some (.long r_76) := ech74
              subst ech74
              obtain ⟨fh77, fh78, fh79⟩ : (0 ≤ r_76.toInt) ∧ (r_76.toInt < 4294967296) ∧ (r_76.toInt = av f i73.toInt 4) := ch74
              have u30 : r_76.toInt = aw A (x.toInt + 30) 4 := by rw [fh79, show i73.toInt = x.toInt + 30 by omega]; exact av_A hA 4 (by omega) (by omega)
              refine pb_eq (pc' := 93) (lo' := [(2, .int r_4), (0, .ref h), (1, .int x)]) (rest' := [.long r_76]) (ws' := [(h, .inr (7, [.ref b])), (b, .inl (G.2.1, N, .inl f))]) ?_
              refine pb_lconst (pc := 93) (v := 0) d_FileReader_isEntry_93 (by decide) ?_
              refine pb_lcmp (pc := 94) d_FileReader_isEntry_94 ?_
              refine pb_topi (fun i80 ei80 => ?_)
              have ti80 : (i80.toInt < 0 ↔ r_76.toInt < 0) ∧ (i80.toInt = 0 ↔ r_76.toInt = 0) ∧ (0 < i80.toInt ↔ 0 < r_76.toInt) := tl_cmp ei80 rfl (by decide)
              refine pb_if_ne (pc := 95) (tgt := 134) d_FileReader_isEntry_95 (by decide) (fun w81 => ?_) (fun w81 => ?_)
              · have tw81 : ¬ i80.toInt = 0 := fun z9 => w81 ((ti_eq rfl (by decide)).mpr z9)
                refine pb_iconst (pc := 134) (v := 0) d_FileReader_isEntry_134 (by decide) ?_
                exact pb_iret (pc := 135) hQ d_FileReader_isEntry_135 rfl rfl (0) ⟨rfl, (by (try dsimp only); first | done | (with_reducible assumption) | omega (splitDisjunctions := false) | assumption | omega | decide), (show (0 : Int32).toInt = 1 → ey_ A x.toInt from (by first | exact fun q9 => absurd q9 (by decide) | exact fun _ => ⟨by omega, ey_C (by omega) (by omega), by omega, by omega, by omega, by omega, by omega⟩)), (show (0 : Int32).toInt = 0 → ¬ ey_ A x.toInt from (by first | exact fun q9 => absurd q9 (by decide) | exact fun _ q9 => (by obtain ⟨y1, y2, y3, y4, y5, y6, y7⟩ := q9; have y8 := ey_D y2; (exact omg_39806c0d09 u30 ti80 tw81 y5))))⟩ [0, 1] (by decide) rfl rfl (by decide) (by decide)
              · have tw81 : i80.toInt = 0 := (ti_eq rfl (by decide)).mp w81
                refine pb_aload_n (pc := 98) d_FileReader_isEntry_98 1 rfl rfl ?_
                refine pb_get (pc := 99) d_FileReader_isEntry_99 0 0 rfl rfl (by decide) in_FileReader k_306 rfl ?_
                refine pb_iload_n (pc := 102) d_FileReader_isEntry_102 2 rfl rfl ?_
                refine pb_bipush (pc := 103) (v := 34) d_FileReader_isEntry_103 (by decide) ?_
                refine pb_iadd (pc := 105) d_FileReader_isEntry_105 ?_
                refine pb_topi (fun i82 ei82 => ?_)
                try have ti82 : i82.toInt = x.toInt + 34 := t2_add ei82 rfl (by decide) (by (exact omg_166c39d5f6 h0 h1 hN))
                refine pb_callSN (pc := 106) (I := i_FileReader_isEntry) (nA := 2) (rest := []) (wr := [(h, .inr (7, [.ref b]))]) d_FileReader_isEntry_106 (g_fourAt hl G b N f i82 (by first | (with_reducible assumption) | omega (splitDisjunctions := false) | assumption | omega | decide) (by first | (with_reducible assumption) | omega (splitDisjunctions := false) | assumption | omega | decide) (by first | (with_reducible assumption) | omega (splitDisjunctions := false) | assumption | omega | decide) F_f) [1] [0] (by decide) rfl rfl rfl (by decide) (by decide) k_594 rfl k_118 k_592 k_593 hy_Book_fourAt (by decide) rfl rfl (Nat.le_of_ble_eq_true rfl) (by decide) (fun v9 u84 ch83 => ?_)
                obtain ⟨r_85, rfl⟩ : ∃ z9, z9 = u84 := ⟨_, rfl⟩
                obtain ⟨ech83, ch83⟩ := ch83
                have ech83 : v9 = some (.long r_85) := ech83
                subst ech83
                obtain ⟨fh86, fh87, fh88⟩ : (0 ≤ r_85.toInt) ∧ (r_85.toInt < 4294967296) ∧ (r_85.toInt = av f i82.toInt 4) := ch83
                have u34 : r_85.toInt = aw A (x.toInt + 34) 4 := by rw [fh88, show i82.toInt = x.toInt + 34 by omega]; exact av_A hA 4 (by (exact omg_45e051169b h0)) (by (exact omg_2ec29f96b5 hZ))
                refine pb_eq (pc' := 109) (lo' := [(2, .int r_4), (0, .ref h), (1, .int x)]) (rest' := [.long r_85]) (ws' := [(h, .inr (7, [.ref b])), (b, .inl (G.2.1, N, .inl f))]) ?_
                refine pb_lconst (pc := 109) (v := 0) d_FileReader_isEntry_109 (by decide) ?_
                refine pb_lcmp (pc := 110) d_FileReader_isEntry_110 ?_
                refine pb_topi (fun i89 ei89 => ?_)
                have ti89 : (i89.toInt < 0 ↔ r_85.toInt < 0) ∧ (i89.toInt = 0 ↔ r_85.toInt = 0) ∧ (0 < i89.toInt ↔ 0 < r_85.toInt) := tl_cmp ei89 rfl (by decide)
                refine pb_if_ne (pc := 111) (tgt := 134) d_FileReader_isEntry_111 (by decide) (fun w90 => ?_) (fun w90 => ?_)
                · have tw90 : ¬ i89.toInt = 0 := fun z9 => w90 ((ti_eq rfl (by decide)).mpr z9)
                  refine pb_iconst (pc := 134) (v := 0) d_FileReader_isEntry_134 (by decide) ?_
                  exact pb_iret (pc := 135) hQ d_FileReader_isEntry_135 rfl rfl (0) ⟨rfl, (by (try dsimp only); first | done | (with_reducible assumption) | omega (splitDisjunctions := false) | assumption | omega | decide), (show (0 : Int32).toInt = 1 → ey_ A x.toInt from (by first | exact fun q9 => absurd q9 (by decide) | exact fun _ => ⟨by omega, ey_C (by omega) (by omega), by omega, by omega, by omega, by omega, by omega⟩)), (show (0 : Int32).toInt = 0 → ¬ ey_ A x.toInt from (by first | exact fun q9 => absurd q9 (by decide) | exact fun _ q9 => (by obtain ⟨y1, y2, y3, y4, y5, y6, y7⟩ := q9; have y8 := ey_D y2; (exact omg_39806c0d09 u34 ti89 tw90 y6))))⟩ [0, 1] (by decide) rfl rfl (by decide) (by decide)
                · have tw90 : i89.toInt = 0 := (ti_eq rfl (by decide)).mp w90
                  refine pb_aload_n (pc := 114) d_FileReader_isEntry_114 1 rfl rfl ?_
                  refine pb_get (pc := 115) d_FileReader_isEntry_115 0 0 rfl rfl (by decide) in_FileReader k_306 rfl ?_
                  refine pb_iload_n (pc := 118) d_FileReader_isEntry_118 2 rfl rfl ?_
                  refine pb_bipush (pc := 119) (v := 38) d_FileReader_isEntry_119 (by decide) ?_
                  refine pb_iadd (pc := 121) d_FileReader_isEntry_121 ?_
                  refine pb_topi (fun i91 ei91 => ?_)
                  try have ti91 : i91.toInt = x.toInt + 38 := t2_add ei91 rfl (by decide) (by (exact omg_743a53c656 h0 h1 hN))
                  refine pb_callSN (pc := 122) (I := i_FileReader_isEntry) (nA := 2) (rest := []) (wr := [(h, .inr (7, [.ref b]))]) d_FileReader_isEntry_122 (g_fourAt hl G b N f i91 (by first | (with_reducible assumption) | (exact omg_2566e2c3a9 h0 ti91) | assumption | omega | decide) (by first | (with_reducible assumption) | (exact omg_c1f1ba87da h1 ti91) | assumption | omega | decide) (by first | (with_reducible assumption) | omega (splitDisjunctions := false) | assumption | omega | decide) F_f) [1] [0] (by decide) rfl rfl rfl (by decide) (by decide) k_594 rfl k_118 k_592 k_593 hy_Book_fourAt (by decide) rfl rfl (Nat.le_of_ble_eq_true rfl) (by decide) (fun v9 u93 ch92 => ?_)
                  obtain ⟨r_94, rfl⟩ : ∃ z9, z9 = u93 := ⟨_, rfl⟩
                  obtain ⟨ech92, ch92⟩ := ch92
                  have ech92 : v9 = some (.long r_94) := ech92
                  subst ech92
                  obtain ⟨fh95, fh96, fh97⟩ : (0 ≤ r_94.toInt) ∧ (r_94.toInt < 4294967296) ∧ (r_94.toInt = av f i91.toInt 4) := ch92
                  have u38 : r_94.toInt = aw A (x.toInt + 38) 4 := by rw [fh97, show i91.toInt = x.toInt + 38 by omega]; exact av_A hA 4 (by (exact omg_602ceb64b2 h0)) (by (exact omg_0cfc9a5be6 hZ))
                  refine pb_eq (pc' := 125) (lo' := [(2, .int r_4), (0, .ref h), (1, .int x)]) (rest' := [.long r_94]) (ws' := [(h, .inr (7, [.ref b])), (b, .inl (G.2.1, N, .inl f))]) ?_
                  refine pb_lconst (pc := 125) (v := 0) d_FileReader_isEntry_125 (by decide) ?_
                  refine pb_lcmp (pc := 126) d_FileReader_isEntry_126 ?_
                  refine pb_topi (fun i98 ei98 => ?_)
                  have ti98 : (i98.toInt < 0 ↔ r_94.toInt < 0) ∧ (i98.toInt = 0 ↔ r_94.toInt = 0) ∧ (0 < i98.toInt ↔ 0 < r_94.toInt) := tl_cmp ei98 rfl (by decide)
                  refine pb_if_ne (pc := 127) (tgt := 134) d_FileReader_isEntry_127 (by decide) (fun w99 => ?_) (fun w99 => ?_)
                  · have tw99 : ¬ i98.toInt = 0 := fun z9 => w99 ((ti_eq rfl (by decide)).mpr z9)
                    refine pb_iconst (pc := 134) (v := 0) d_FileReader_isEntry_134 (by decide) ?_
                    exact pb_iret (pc := 135) hQ d_FileReader_isEntry_135 rfl rfl (0) ⟨rfl, (by (try dsimp only); first | done | (with_reducible assumption) | omega (splitDisjunctions := false) | assumption | omega | decide), (show (0 : Int32).toInt = 1 → ey_ A x.toInt from (by first | exact fun q9 => absurd q9 (by decide) | exact fun _ => ⟨by omega, ey_C (by omega) (by omega), by omega, by omega, by omega, by omega, by omega⟩)), (show (0 : Int32).toInt = 0 → ¬ ey_ A x.toInt from (by first | exact fun q9 => absurd q9 (by decide) | exact fun _ q9 => (by obtain ⟨y1, y2, y3, y4, y5, y6, y7⟩ := q9; have y8 := ey_D y2; (exact omg_39806c0d09 u38 ti98 tw99 y7))))⟩ [0, 1] (by decide) rfl rfl (by decide) (by decide)
                  · have tw99 : i98.toInt = 0 := (ti_eq rfl (by decide)).mp w99
                    refine pb_iconst (pc := 130) (v := 1) d_FileReader_isEntry_130 (by decide) ?_
                    refine pb_goto (pc := 131) (tgt := 135) d_FileReader_isEntry_131 (by decide) ?_
                    exact pb_iret (pc := 135) hQ d_FileReader_isEntry_135 rfl rfl (1) ⟨rfl, (by (try dsimp only); first | done | (with_reducible assumption) | omega (splitDisjunctions := false) | assumption | omega | decide), (show (1 : Int32).toInt = 1 → ey_ A x.toInt from (by first | exact fun q9 => absurd q9 (by decide) | exact fun _ => ⟨by (exact omg_d706b4ad8a u0 ti15 tw16), ey_C (by omega) (by omega), by omega, by omega, by omega, by omega, by omega⟩)), (show (1 : Int32).toInt = 0 → ¬ ey_ A x.toInt from (by first | exact fun q9 => absurd q9 (by decide) | exact fun _ q9 => (by obtain ⟨y1, y2, y3, y4, y5, y6, y7⟩ := q9; have y8 := ey_D y2; omega)))⟩ [0, 1] (by decide) rfl rfl (by decide) (by decide)
