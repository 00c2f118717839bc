theorem tw_rng (f : Nat → Int32) (k : Int) : 0 ≤ tw f k ∧ tw f k ≤ 65535 := by
  have a := ti_and (z := gr f k &&& 255) (m := 255) (b := 255) 8 rfl (by decide) (by decide)
  have b := ti_and (z := gr f (k + 1) &&& 255) (m := 255) (b := 255) 8 rfl (by decide) (by decide)
  have c := ti_shl (z := (gr f (k + 1) &&& 255) <<< ((8 : Int32) &&& 31)) (b := 256) rfl rfl 8 (by decide) (by decide) b.1 (by omega)
  have d := ti_or (z := tw_r f k) (c := 65536) 16 rfl rfl rfl a.1 (by omega) (by omega) (by omega) (by decide)
  unfold tw
  omega
/-- the places of a directory's entries -/
def dp_n (f : Nat → Int32) (a : Int) : Nat → Int
  | 0 => a
  | k + 1 => dp_n f a k + (46 + tw f (dp_n f a k + 28))
def dp (f : Nat → Int32) (a k : Int) : Int := dp_n f a k.toNat
theorem dp_0 (f : Nat → Int32) (a : Int) : dp f a 0 = a := rfl
theorem dp_s {f : Nat → Int32} {a k m : Int} (h : 0 ≤ k) (hm : m = k + 1) : dp f a m = dp f a k + (46 + tw f (dp f a k + 28)) := by
  subst hm
  unfold dp
  rw [show (k + 1).toNat = k.toNat + 1 by omega, dp_n]
theorem dp_up (f : Nat → Int32) (a : Int) : ∀ (n : Nat) (k : Int), 0 ≤ k → dp f a k ≤ dp f a (k + n)
  | 0, k, _ => by rw [show k + ((0 : Nat) : Int) = k by omega]; exact Int.le_refl _
  | n + 1, k, h0 => by
    have h := dp_up f a n k h0
    have d := dp_s (f := f) (a := a) (k := k + n) (m := k + n + 1) (by omega) rfl
    have t := tw_rng f (dp f a (k + n) + 28)
    rw [show k + ((n + 1 : Nat) : Int) = k + n + 1 by omega]
    omega
theorem dp_le {f : Nat → Int32} {a j k : Int} (h0 : 0 ≤ j) (h1 : j ≤ k) : dp f a j ≤ dp f a k := by
  have h := dp_up f a (k - j).toNat j h0
  rwa [show j + ((k - j).toNat : Int) = k by omega] at h

/-! READING A ROW OF BYTES AS A FILE: the pure picture -/
def aw (A : Int → Int32) (y : Int) : Nat → Int
  | 0 => 0
  | n + 1 => 256 * aw A (y + 1) n + (A y &&& 255).toInt
theorem av_aw {f : Nat → Int32} {A : Int → Int32} : ∀ (n : Nat) (y : Int), (∀ j : Int, y ≤ j → j < y + n → A j = gr f j) → av f y n = aw A y n
  | 0, _, _ => rfl
  | n + 1, y, h => by
    have ih := av_aw n (y + 1) (fun j h0 h1 => h j (by omega) (by omega))
    have e := h y (Int.le_refl _) (by omega)
    show 256 * av f (y + 1) n + (gr f y &&& 255).toInt = 256 * aw A (y + 1) n + (A y &&& 255).toInt
    rw [ih, e]
theorem av_A {f : Nat → Int32} {A : Int → Int32} {sz y : Int} (h : ∀ j : Int, 0 ≤ j → j < sz → A j = gr f j) (n : Nat) (h0 : 0 ≤ y) (h1 : y + n ≤ sz) : av f y n = aw A y n := av_aw n y (fun j j0 j1 => h j (by omega) (by omega))
theorem bz_255 (x : Int32) : (x &&& 255).toInt = x.toInt % 256 := ti_255 rfl
theorem aw_2 (A : Int → Int32) (y : Int) : aw A y 2 = (A y).toInt % 256 + 256 * ((A (y + 1)).toInt % 256) := by
  have e : aw A y 2 = 256 * (256 * 0 + (A (y + 1) &&& 255).toInt) + (A y &&& 255).toInt := rfl
  rw [e, bz_255, bz_255]
  omega
theorem aw_4 (A : Int → Int32) (y : Int) : aw A y 4 = (A y).toInt % 256 + 256 * ((A (y + 1)).toInt % 256) + 65536 * ((A (y + 2)).toInt % 256) + 16777216 * ((A (y + 3)).toInt % 256) := by
  have e : aw A y 4 = 256 * (256 * (256 * (256 * 0 + (A (y + 1 + 1 + 1) &&& 255).toInt) + (A (y + 1 + 1) &&& 255).toInt) + (A (y + 1) &&& 255).toInt) + (A y &&& 255).toInt := rfl
  rw [e, bz_255, bz_255, bz_255, bz_255, show y + 1 + 1 + 1 = y + 3 by omega, show y + 1 + 1 = y + 2 by omega]
  omega
theorem aw2 (A : Int → Int32) (y : Int) : 0 ≤ aw A y 2 ∧ aw A y 2 ≤ 65535 := by
  rw [aw_2]
  omega
theorem aw4 (A : Int → Int32) (y : Int) : 0 ≤ aw A y 4 ∧ aw A y 4 < 4294967296 := by
  rw [aw_4]
  omega
theorem aw4_2 (A : Int → Int32) (y : Int) : aw A y 4 = aw A y 2 + 65536 * aw A (y + 2) 2 := by
  rw [aw_4, aw_2, aw_2, show y + 2 + 1 = y + 3 by omega]
  omega
theorem b8_inj {x y : Int32} (hx : -128 ≤ x.toInt ∧ x.toInt ≤ 127) (hy : -128 ≤ y.toInt ∧ y.toInt ≤ 127) (h : x.toInt % 256 = y.toInt % 256) : x = y := Int32.toInt_inj.mp (by omega)
/-- the end; an entry; the directory -/
def ed_ (A : Int → Int32) (e : Int) : Prop := aw A e 4 = 101010256 ∧ aw A (e + 4) 4 = 0 ∧ aw A (e + 8) 2 = aw A (e + 10) 2 ∧ aw A (e + 20) 2 = 0
def ey_ (A : Int → Int32) (e : Int) : Prop := aw A e 4 = 33639248 ∧ aw A (e + 4) 4 = 1310740 ∧ aw A (e + 8) 2 = 0 ∧ (aw A (e + 10) 2 = 0 ∨ aw A (e + 10) 2 = 8) ∧ aw A (e + 30) 4 = 0 ∧ aw A (e + 34) 4 = 0 ∧ aw A (e + 38) 4 = 0
theorem ey_C {A : Int → Int32} {e : Int} (h : aw A (e + 4) 2 = 20) (h2 : aw A (e + 6) 2 = 20) : aw A (e + 4) 4 = 1310740 := by
  rw [aw4_2, show e + 4 + 2 = e + 6 by omega, h, h2]
  rfl
theorem ey_D {A : Int → Int32} {e : Int} (h : aw A (e + 4) 4 = 1310740) : aw A (e + 4) 2 = 20 ∧ aw A (e + 6) 2 = 20 := by
  rw [aw4_2, show e + 4 + 2 = e + 6 by omega] at h
  have h1 := aw2 A (e + 4)
  have h2 := aw2 A (e + 6)
  omega
def dz (A : Int → Int32) (x : Int) : Nat → Int
  | 0 => x
  | k + 1 => dz A x k + 46 + aw A (dz A x k + 28) 2
def dy_ (A : Int → Int32) (x e : Int) (n : Nat) : Prop := (∀ k : Nat, k < n → dz A x k + 46 ≤ e ∧ ey_ A (dz A x k)) ∧ dz A x n = e
theorem dz_up (A : Int → Int32) (x : Int) : ∀ m k : Nat, dz A x k + 46 * m ≤ dz A x (k + m)
  | 0, k => by rw [Nat.add_zero]; omega
  | m + 1, k => by
    have h := dz_up A x m k
    have t := aw2 A (dz A x (k + m) + 28)
    have e : dz A x (k + (m + 1)) = dz A x (k + m) + 46 + aw A (dz A x (k + m) + 28) 2 := rfl
    rw [e]
    omega
theorem dz_in {A : Int → Int32} {x e : Int} {n k : Nat} (h : dy_ A x e n) (hk : k < n) : x ≤ dz A x k ∧ dz A x k + 46 + aw A (dz A x k + 28) 2 ≤ e ∧ dz A x (k + 1) = dz A x k + 46 + aw A (dz A x k + 28) 2 := by
  have u := dz_up A x (n - (k + 1)) (k + 1)
  rw [show k + 1 + (n - (k + 1)) = n by omega, h.2] at u
  have v := dz_up A x k 0
  rw [Nat.zero_add] at v
  have e0 : dz A x 0 = x := rfl
  have e1 : dz A x (k + 1) = dz A x k + 46 + aw A (dz A x k + 28) 2 := rfl
  omega
theorem dz_lt {A : Int → Int32} {x e : Int} {n k : Nat} (h : dy_ A x e n) (hk : dz A x k < e) : k < n := by
  rcases Nat.lt_or_ge k n with w | w
  · exact w
  · have u := dz_up A x (k - n) n
    rw [show n + (k - n) = k by omega, h.2] at u
    omega
theorem dy_no {A : Int → Int32} {x e : Int} {n k : Nat} (hk : k < n) (h : ¬ (dz A x k + 46 ≤ e ∧ ey_ A (dz A x k))) : ¬ dy_ A x e n := fun q => h (q.1 k hk)
theorem dy_s {A : Int → Int32} {x e : Int} {k : Nat} (h : ∀ j : Nat, j < k → dz A x j + 46 ≤ e ∧ ey_ A (dz A x j)) (h2 : dz A x k + 46 ≤ e ∧ ey_ A (dz A x k)) : ∀ j : Nat, j < k + 1 → dz A x j + 46 ≤ e ∧ ey_ A (dz A x j) := fun j hj => by
  by_cases c : j = k
  · rw [c]
    exact h2
  · exact h j (by omega)
/-- a record that says what its entry says -/
def rr_ (A : Int → Int32) (lim e : Int) : Prop := aw A (e + 42) 4 + 30 + aw A (e + 28) 2 + aw A (e + 20) 4 ≤ lim ∧ aw A (aw A (e + 42) 4) 4 = 67324752 ∧ (∀ k : Int, 0 ≤ k → k < 26 → A (e + 6 + k) = A (aw A (e + 42) 4 + 4 + k)) ∧ ∀ k : Int, 0 ≤ k → k < aw A (e + 28) 2 → A (e + 46 + k) = A (aw A (e + 42) 4 + 30 + k)
theorem rr_iff {A : Int → Int32} {lim e R : Int} (eR : R = aw A (e + 42) 4) (hB : ∀ j : Int, -128 ≤ (A j).toInt ∧ (A j).toInt ≤ 127) (hy : ey_ A e) : rr_ A lim e ↔ (R + 30 + aw A (e + 28) 2 + aw A (e + 20) 4 ≤ lim ∧ aw A R 4 = 67324752 ∧ aw A (R + 4) 4 = 20 ∧ aw A (R + 28) 2 = 0 ∧ (∀ k : Int, 0 ≤ k → k < 20 → A (R + 8 + k) = A (e + 10 + k)) ∧ ∀ k : Int, 0 ≤ k → k < aw A (e + 28) 2 → A (R + 30 + k) = A (e + 46 + k)) := by
  obtain ⟨-, y2, y3, -, y5, -, -⟩ := hy
  rw [aw_4] at y2 y5
  rw [aw_2] at y3
  rw [show e + 4 + 1 = e + 5 by omega, show e + 4 + 2 = e + 6 by omega, show e + 4 + 3 = e + 7 by omega] at y2
  rw [show e + 8 + 1 = e + 9 by omega] at y3
  rw [show e + 30 + 1 = e + 31 by omega, show e + 30 + 2 = e + 32 by omega, show e + 30 + 3 = e + 33 by omega] at y5
  have z6 : (A (e + 6)).toInt % 256 = 20 := by omega
  have z7 : (A (e + 7)).toInt % 256 = 0 := by omega
  have z8 : (A (e + 8)).toInt % 256 = 0 := by omega
  have z9 : (A (e + 9)).toInt % 256 = 0 := by omega
  have z30 : (A (e + 30)).toInt % 256 = 0 := by omega
  have z31 : (A (e + 31)).toInt % 256 = 0 := by omega
  unfold rr_
  rw [← eR, aw_4 A (R + 4), aw_2 A (R + 28), show R + 4 + 1 = R + 5 by omega, show R + 4 + 2 = R + 6 by omega, show R + 4 + 3 = R + 7 by omega, show R + 28 + 1 = R + 29 by omega]
  constructor
  · rintro ⟨h1, h2, h3, h4⟩
    have k0 := h3 0 (by omega) (by omega)
    have k1 := h3 1 (by omega) (by omega)
    have k2 := h3 2 (by omega) (by omega)
    have k3 := h3 3 (by omega) (by omega)
    have k24 := h3 24 (by omega) (by omega)
    have k25 := h3 25 (by omega) (by omega)
    rw [show e + 6 + 0 = e + 6 by omega, show R + 4 + 0 = R + 4 by omega] at k0
    rw [show e + 6 + 1 = e + 7 by omega, show R + 4 + 1 = R + 5 by omega] at k1
    rw [show e + 6 + 2 = e + 8 by omega, show R + 4 + 2 = R + 6 by omega] at k2
    rw [show e + 6 + 3 = e + 9 by omega, show R + 4 + 3 = R + 7 by omega] at k3
    rw [show e + 6 + 24 = e + 30 by omega, show R + 4 + 24 = R + 28 by omega] at k24
    rw [show e + 6 + 25 = e + 31 by omega, show R + 4 + 25 = R + 29 by omega] at k25
    rw [k0] at z6
    rw [k1] at z7
    rw [k2] at z8
    rw [k3] at z9
    rw [k24] at z30
    rw [k25] at z31
    refine ⟨h1, h2, by omega, by omega, fun k p0 p1 => ?_, fun k p0 p1 => (h4 k p0 p1).symm⟩
    have q := h3 (k + 4) (by omega) (by omega)
    rw [show e + 6 + (k + 4) = e + 10 + k by omega, show R + 4 + (k + 4) = R + 8 + k by omega] at q
    exact q.symm
  · rintro ⟨h1, h2, h3, h4, h5, h6⟩
    refine ⟨h1, h2, fun k p0 p1 => ?_, fun k p0 p1 => (h6 k p0 p1).symm⟩
    by_cases c : 4 ≤ k ∧ k < 24
    · have q := h5 (k - 4) (by omega) (by omega)
      rw [show R + 8 + (k - 4) = R + 4 + k by omega, show e + 10 + (k - 4) = e + 6 + k by omega] at q
      exact q.symm
    · have c2 : k = 0 ∨ k = 1 ∨ k = 2 ∨ k = 3 ∨ k = 24 ∨ k = 25 := by omega
      rcases c2 with rfl | rfl | rfl | rfl | rfl | rfl
      · rw [show e + 6 + 0 = e + 6 by omega, show R + 4 + 0 = R + 4 by omega]
        exact b8_inj (hB _) (hB _) (by omega)
      · rw [show e + 6 + 1 = e + 7 by omega, show R + 4 + 1 = R + 5 by omega]
        exact b8_inj (hB _) (hB _) (by omega)
      · rw [show e + 6 + 2 = e + 8 by omega, show R + 4 + 2 = R + 6 by omega]
        exact b8_inj (hB _) (hB _) (by omega)
      · rw [show e + 6 + 3 = e + 9 by omega, show R + 4 + 3 = R + 7 by omega]
        exact b8_inj (hB _) (hB _) (by omega)
      · rw [show e + 6 + 24 = e + 30 by omega, show R + 4 + 24 = R + 28 by omega]
        exact b8_inj (hB _) (hB _) (by omega)
      · rw [show e + 6 + 25 = e + 31 by omega, show R + 4 + 25 = R + 29 by omega]
        exact b8_inj (hB _) (hB _) (by omega)
/-- the bytes of an entry; those that are as it says -/
def bs_ (A : Int → Int32) (e s : Int) (d : Int → Int32) : Prop := (aw A (e + 10) 2 = 8 ∧ ∃ p : Int, ex_f A od_ (aw A (e + 42) 4 + 30 + aw A (e + 28) 2) (aw A (e + 20) 4) = oz_ 0 p s d) ∨ (¬ aw A (e + 10) 2 = 8 ∧ s = aw A (e + 20) 4 ∧ d = fun k => A (aw A (e + 42) 4 + 30 + aw A (e + 28) 2 + k))
theorem oz_0j {p s p' s' : Int} {d d' : Int → Int32} (h : oz_ 0 p s d = oz_ 0 p' s' d') : s = s' ∧ d = d' := by
  unfold oz_ at h
  rw [if_pos rfl, if_pos rfl] at h
  have h1 := congrArg (fun z : Int × Int × Int × (Int → Int32) => z.2.2.1) h
  have h2 := congrArg (fun z : Int × Int × Int × (Int → Int32) => z.2.2.2) h
  exact ⟨h1, h2⟩
theorem oz_ne {w p s p' s' : Int} {d d' : Int → Int32} (hw : ¬ w = 0) : ¬ oz_ w p s d = oz_ 0 p' s' d' := fun h => by
  unfold oz_ at h
  rw [if_neg hw, if_pos rfl] at h
  have h1 := congrArg (fun z : Int × Int × Int × (Int → Int32) => z.1) h
  exact hw h1
theorem bs_u {A : Int → Int32} {e s s' : Int} {d d' : Int → Int32} (h : bs_ A e s d) (k : bs_ A e s' d') : s = s' ∧ d = d' := by
  rcases h with ⟨h1, p, h2⟩ | ⟨h1, h2, h3⟩
  · rcases k with ⟨k1, q, k2⟩ | ⟨k1, -, -⟩
    · exact oz_0j (h2.symm.trans k2)
    · exact absurd h1 k1
  · rcases k with ⟨k1, -, -⟩ | ⟨k1, k2, k3⟩
    · exact absurd k1 h1
    · exact ⟨h2.trans k2.symm, h3.trans k3.symm⟩
def ok_ (A : Int → Int32) (e s : Int) (d : Int → Int32) : Prop := bs_ A e s d ∧ s = aw A (e + 24) 4 ∧ cw_ d s.toNat ^^^ (-1) = Int32.ofInt (aw A (e + 16) 4)
theorem ok_no {A : Int → Int32} {e s : Int} {d : Int → Int32} (h : bs_ A e s d) (n : ¬ (s = aw A (e + 24) 4 ∧ cw_ d s.toNat ^^^ (-1) = Int32.ofInt (aw A (e + 16) 4))) : ∀ (s' : Int) (d' : Int → Int32), ¬ ok_ A e s' d' := fun s' d' q => by
  have u := bs_u h q.1
  rw [u.1, u.2] at n
  exact n q.2
theorem ok_nz {A : Int → Int32} {e w p s0 : Int} {d0 : Int → Int32} (h8 : aw A (e + 10) 2 = 8) (h : ex_f A od_ (aw A (e + 42) 4 + 30 + aw A (e + 28) 2) (aw A (e + 20) 4) = oz_ w p s0 d0) (hw : ¬ w = 0) : ∀ (s : Int) (d : Int → Int32), ¬ ok_ A e s d := fun s d q => by
  rcases q.1 with ⟨-, p', k⟩ | ⟨k, -, -⟩
  · exact oz_ne hw (h.symm.trans k)
  · exact k h8
/-- AN ENTRY READ: the fault, or the parts with one more -/
def ai_ (A : Int → Int32) : Int → Int := fun j => (A j).toInt
def nm_ (A : Int → Int32) (x : Int) : Int → Int := fun k => (A (x + k)).toInt
def nq_ (A : Int → Int32) (e : Int) (V : VW_) : Prop := iA_ (ai_ A) (e + 46) (aw A (e + 28) 2) ∧ ∀ i : Int, 0 ≤ i → i < vC V → ¬ nE_ V i (aw A (e + 28) 2) (nm_ A (e + 46))
def en_R (A : Int → Int32) (lim e : Int) (V : VW_) (r : Int) (W : VW_) : Prop := (¬ rr_ A lim e → r = 3) ∧ (rr_ A lim e → ¬ nq_ A e V → r = 4) ∧ (rr_ A lim e → nq_ A e V → (∀ (s : Int) (d : Int → Int32), ¬ ok_ A e s d) → r = 5) ∧ ∀ (s : Int) (d : Int → Int32), rr_ A lim e → nq_ A e V → ok_ A e s d → (¬ RM_ V (nm_ A (e + 46)) (aw A (e + 28) 2) s → r = 6) ∧ (RM_ V (nm_ A (e + 46)) (aw A (e + 28) 2) s → r = 0 ∧ AD_ V (nm_ A (e + 46)) (aw A (e + 28) 2) s d W)
theorem en_3 {A : Int → Int32} {lim e r : Int} {V W : VW_} (hr : r = 3) (h : ¬ rr_ A lim e) : en_R A lim e V r W := ⟨fun _ => hr, fun q => absurd q h, fun q => absurd q h, fun _ _ q => absurd q h⟩
theorem en_4 {A : Int → Int32} {lim e r : Int} {V W : VW_} (hr : r = 4) (h : rr_ A lim e) (h2 : ¬ nq_ A e V) : en_R A lim e V r W := ⟨fun q => absurd h q, fun _ _ => hr, fun _ q => absurd q h2, fun _ _ _ q => absurd q h2⟩
theorem en_5 {A : Int → Int32} {lim e r : Int} {V W : VW_} (hr : r = 5) (h : rr_ A lim e) (h2 : nq_ A e V) (h3 : ∀ (s : Int) (d : Int → Int32), ¬ ok_ A e s d) : en_R A lim e V r W := ⟨fun q => absurd h q, fun _ q => absurd h2 q, fun _ _ _ => hr, fun s d _ _ q => absurd q (h3 s d)⟩
theorem en_6 {A : Int → Int32} {lim e r s : Int} {d : Int → Int32} {V W : VW_} (hr : r = 6) (h : rr_ A lim e) (h2 : nq_ A e V) (h3 : ok_ A e s d) (h4 : ¬ RM_ V (nm_ A (e + 46)) (aw A (e + 28) 2) s) : en_R A lim e V r W := ⟨fun q => absurd h q, fun _ q => absurd h2 q, fun _ _ q => absurd h3 (q s d), fun s' d' _ _ q => ⟨fun _ => hr, fun k => by
  have u := bs_u h3.1 q.1
  rw [← u.1] at k
  exact absurd k h4⟩⟩
theorem en_0 {A : Int → Int32} {lim e r s : Int} {d : Int → Int32} {V W : VW_} (hr : r = 0) (h : rr_ A lim e) (h2 : nq_ A e V) (h3 : ok_ A e s d) (h4 : RM_ V (nm_ A (e + 46)) (aw A (e + 28) 2) s) (h5 : AD_ V (nm_ A (e + 46)) (aw A (e + 28) 2) s d W) : en_R A lim e V r W := ⟨fun q => absurd h q, fun _ q => absurd h2 q, fun _ _ q => absurd h3 (q s d), fun s' d' _ _ q => by
  have u := bs_u h3.1 q.1
  rw [← u.1, ← u.2]
  exact ⟨fun k => absurd h4 k, fun _ => ⟨hr, h5⟩⟩⟩
theorem en_u {A : Int → Int32} {lim e r r' : Int} {V W W' : VW_} (hs : srt_ V) (h : en_R A lim e V r W) (k : en_R A lim e V r' W') : r = r' ∧ (r = 0 → W = W') := by
  by_cases c1 : rr_ A lim e
  · by_cases c2 : nq_ A e V
    · by_cases c3 : ∀ (s : Int) (d : Int → Int32), ¬ ok_ A e s d
      · have h1 := h.2.2.1 c1 c2 c3
        have k1 := k.2.2.1 c1 c2 c3
        exact ⟨by omega, fun q => absurd q (by omega)⟩
      · have c4 : ∃ (s : Int) (d : Int → Int32), ok_ A e s d := Classical.byContradiction (fun q => c3 (fun s d p => q ⟨s, d, p⟩))
        obtain ⟨s, d, c5⟩ := c4
        have h1 := h.2.2.2 s d c1 c2 c5
        have k1 := k.2.2.2 s d c1 c2 c5
        by_cases c6 : RM_ V (nm_ A (e + 46)) (aw A (e + 28) 2) s
        · have h2 := h1.2 c6
          have k2 := k1.2 c6
          exact ⟨by omega, fun _ => AD_u hs h2.2 k2.2⟩
        · have h2 := h1.1 c6
          have k2 := k1.1 c6
          exact ⟨by omega, fun q => absurd q (by omega)⟩
    · have h1 := h.2.1 c1 c2
      have k1 := k.2.1 c1 c2
      exact ⟨by omega, fun q => absurd q (by omega)⟩
  · have h1 := h.1 c1
    have k1 := k.1 c1
    exact ⟨by omega, fun q => absurd q (by omega)⟩
theorem en_srt {A : Int → Int32} {lim e r : Int} {V W : VW_} (hs : srt_ V) (h : en_R A lim e V r W) (hr : r = 0) : srt_ W := by
  have c1 : rr_ A lim e := Classical.byContradiction (fun q => by have := h.1 q; omega)
  have c2 : nq_ A e V := Classical.byContradiction (fun q => by have := h.2.1 c1 q; omega)
  have c4 : ∃ (s : Int) (d : Int → Int32), ok_ A e s d := Classical.byContradiction (fun q => by have := h.2.2.1 c1 c2 (fun s d p => q ⟨s, d, p⟩); omega)
  obtain ⟨s, d, c5⟩ := c4
  have h1 := h.2.2.2 s d c1 c2 c5
  by_cases c6 : RM_ V (nm_ A (e + 46)) (aw A (e + 28) 2) s
  · exact srt_AD hs (h1.2 c6).2
  · have := h1.1 c6
    omega
/-- ENTRIES, one behind the other -/
def nl_ : VW_ := (0, fun _ => 0, fun _ _ => 0, fun _ => 0, fun _ _ => 0)
theorem srt_nl : srt_ nl_ := fun i j h0 h1 h2 => absurd h2 (by show ¬ j < (0 : Int); omega)
def rs_ (A : Int → Int32) (x : Int) : Nat → Int → VW_ → Prop
  | 0, r, W => r = 0 ∧ W = nl_
  | k + 1, r, W => ∃ (r1 : Int) (V1 : VW_), rs_ A x k r1 V1 ∧ ((¬ r1 = 0 ∧ r = r1) ∨ (r1 = 0 ∧ en_R A x (dz A x k) V1 r W))
theorem rs_0 {A : Int → Int32} {x r : Int} (h : r = 0) : rs_ A x 0 r nl_ := ⟨h, rfl⟩
theorem rs_s {A : Int → Int32} {x r r1 : Int} {k : Nat} {V W : VW_} (h : rs_ A x k r1 V) (h1 : r1 = 0) (e : en_R A x (dz A x k) V r W) : rs_ A x (k + 1) r W := ⟨r1, V, h, Or.inr ⟨h1, e⟩⟩
theorem rs_up {A : Int → Int32} {x r : Int} {k : Nat} {W : VW_} (h : rs_ A x k r W) (hr : ¬ r = 0) : ∀ m : Nat, rs_ A x (k + m) r W
  | 0 => h
  | m + 1 => ⟨r, W, rs_up h hr m, Or.inl ⟨hr, rfl⟩⟩
theorem rs_to {A : Int → Int32} {x r : Int} {k n : Nat} {W : VW_} (h : rs_ A x k r W) (hk : k ≤ n) (hr : r = 0 → k = n) : rs_ A x n r W := by
  by_cases c : r = 0
  · rw [← hr c]
    exact h
  · have u := rs_up h c (n - k)
    rw [show k + (n - k) = n by omega] at u
    exact u
theorem rs_srt {A : Int → Int32} {x : Int} : ∀ (k : Nat) {r : Int} {W : VW_}, rs_ A x k r W → r = 0 → srt_ W
  | 0, _, _, h, _ => by
    rw [h.2]
    exact srt_nl
  | k + 1, _, _, ⟨_, _, h1, h2⟩, hr => by
    rcases h2 with ⟨a, b⟩ | ⟨a, b⟩
    · omega
    · exact en_srt (rs_srt k h1 a) b hr
theorem rs_u {A : Int → Int32} {x : Int} : ∀ (k : Nat) {r r' : Int} {W W' : VW_}, rs_ A x k r W → rs_ A x k r' W' → r = r' ∧ (r = 0 → W = W')
  | 0, _, _, _, _, h, h' => ⟨h.1.trans h'.1.symm, fun _ => h.2.trans h'.2.symm⟩
  | k + 1, r, r', _, _, ⟨r1, V1, h1, h2⟩, ⟨r2, V2, k1, k2⟩ => by
    obtain ⟨u1, u2⟩ := rs_u k h1 k1
    rcases h2 with ⟨a, b⟩ | ⟨a, b⟩
    · rcases k2 with ⟨c, d⟩ | ⟨c, d⟩
      · exact ⟨by omega, fun q => absurd q (by omega)⟩
      · exact absurd u1 (by omega)
    · rcases k2 with ⟨c, d⟩ | ⟨c, d⟩
      · exact absurd u1 (by omega)
      · have e := u2 a
        subst e
        exact en_u (rs_srt k h1 a) b d
/-- THE WHOLE READING -/
def dw_ (A : Int → Int32) (e : Int) : Prop := aw A (e + 16) 4 + aw A (e + 12) 4 = e ∧ dy_ A (aw A (e + 16) 4) e (aw A (e + 8) 2).toNat
def rd_ (A : Int → Int32) (sz r : Int) (W : VW_) : Prop := (¬ (22 ≤ sz ∧ ed_ A (sz - 22)) → r = 1) ∧ (22 ≤ sz ∧ ed_ A (sz - 22) → ¬ dw_ A (sz - 22) → r = 2) ∧ (22 ≤ sz ∧ ed_ A (sz - 22) → dw_ A (sz - 22) → rs_ A (aw A (sz - 22 + 16) 4) (aw A (sz - 22 + 8) 2).toNat r W)
theorem rd_1 {A : Int → Int32} {sz r : Int} {W : VW_} (hr : r = 1) (h : ¬ (22 ≤ sz ∧ ed_ A (sz - 22))) : rd_ A sz r W := ⟨fun _ => hr, fun q => absurd q h, fun q => absurd q h⟩
theorem rd_2 {A : Int → Int32} {sz r : Int} {W : VW_} (hr : r = 2) (h : 22 ≤ sz ∧ ed_ A (sz - 22)) (h2 : ¬ dw_ A (sz - 22)) : rd_ A sz r W := ⟨fun q => absurd h q, fun _ _ => hr, fun _ q => absurd q h2⟩
theorem rd_3 {A : Int → Int32} {sz r : Int} {W : VW_} (h : 22 ≤ sz ∧ ed_ A (sz - 22)) (h2 : dw_ A (sz - 22)) (h3 : rs_ A (aw A (sz - 22 + 16) 4) (aw A (sz - 22 + 8) 2).toNat r W) : rd_ A sz r W := ⟨fun q => absurd h q, fun _ q => absurd h2 q, fun _ _ => h3⟩
theorem rd_u {A : Int → Int32} {sz r r' : Int} {W W' : VW_} (h : rd_ A sz r W) (k : rd_ A sz r' W') : r = r' ∧ (r = 0 → W = W') := by
  by_cases c1 : 22 ≤ sz ∧ ed_ A (sz - 22)
  · by_cases c2 : dw_ A (sz - 22)
    · exact rs_u _ (h.2.2 c1 c2) (k.2.2 c1 c2)
    · have h1 := h.2.1 c1 c2
      have k1 := k.2.1 c1 c2
      exact ⟨by omega, fun q => absurd q (by omega)⟩
  · have h1 := h.1 c1
    have k1 := k.1 c1
    exact ⟨by omega, fun q => absurd q (by omega)⟩
theorem rd_srt {A : Int → Int32} {sz r : Int} {W : VW_} (h : rd_ A sz r W) (hr : r = 0) : srt_ W := by
  have c1 : 22 ≤ sz ∧ ed_ A (sz - 22) := Classical.byContradiction (fun q => by have := h.1 q; omega)
  have c2 : dw_ A (sz - 22) := Classical.byContradiction (fun q => by have := h.2.1 c1 q; omega)
  exact rs_srt _ (h.2.2 c1 c2) hr
/-- views that are the same where they are looked at -/
def vE_ (V W : VW_) : Prop := vC V = vC W ∧ ∀ i : Int, 0 ≤ i → i < vC V → vZ V i = vZ W i ∧ vS V i = vS W i ∧ (∀ k : Int, 0 ≤ k → k < vZ V i → vN V i k = vN W i k) ∧ ∀ k : Int, 0 ≤ k → k < vS V i → vD V i k = vD W i k
theorem rC_vE {c : Int} {fn fz fb fg : Nat → Int32} {V W : VW_} (h : rC_ c fn fz fb fg V) (e : vE_ V W) : rC_ c fn fz fb fg W := by
  have hc : c = vC V := h.1
  refine ⟨hc.trans e.1, fun i i0 i1 => ?_⟩
  obtain ⟨a1, a2, a3, a4⟩ := h.2 i i0 i1
  obtain ⟨b1, b2, b3, b4⟩ := e.2 i i0 (by omega)
  rw [← b1, ← b2]
  exact ⟨a1, a2, fun k k0 k1 => (a3 k k0 k1).trans (b3 k k0 k1), fun k k0 k1 => (a4 k k0 k1).trans (b4 k k0 k1)⟩
theorem vin_vE {V : VW_} {r m s : Int} {a a' : Int → Int} {d d' : Int → Int32} (ha : ∀ k : Int, 0 ≤ k → k < m → a k = a' k) (hd : ∀ k : Int, 0 ≤ k → k < s → d k = d' k) : vE_ (vin_ V r m a s d) (vin_ V r m a' s d') := by
  refine ⟨rfl, fun i i0 i1 => ?_⟩
  rcases Int.lt_trichotomy i r with w | w | w
  · have q3 : vN (vin_ V r m a s d) i = vN (vin_ V r m a' s d') i := (vi_lo (α := Int → Int) w).trans (vi_lo (α := Int → Int) w).symm
    have q4 : vD (vin_ V r m a s d) i = vD (vin_ V r m a' s d') i := (vi_lo (α := Int → Int32) w).trans (vi_lo (α := Int → Int32) w).symm
    rw [q3, q4]
    exact ⟨rfl, rfl, fun _ _ _ => rfl, fun _ _ _ => rfl⟩
  · have q1 : vZ (vin_ V r m a s d) i = m := vi_at (α := Int) w
    have q2 : vS (vin_ V r m a s d) i = s := vi_at (α := Int) w
    have q3 : vN (vin_ V r m a s d) i = a := vi_at (α := Int → Int) w
    have q5 : vN (vin_ V r m a' s d') i = a' := vi_at (α := Int → Int) w
    have q4 : vD (vin_ V r m a s d) i = d := vi_at (α := Int → Int32) w
    have q6 : vD (vin_ V r m a' s d') i = d' := vi_at (α := Int → Int32) w
    rw [q1, q2, q3, q4, q5, q6]
    exact ⟨(vi_at (α := Int) w).symm, (vi_at (α := Int) w).symm, ha, hd⟩
  · have q3 : vN (vin_ V r m a s d) i = vN (vin_ V r m a' s d') i := (vi_hi (α := Int → Int) w).trans (vi_hi (α := Int → Int) w).symm
    have q4 : vD (vin_ V r m a s d) i = vD (vin_ V r m a' s d') i := (vi_hi (α := Int → Int32) w).trans (vi_hi (α := Int → Int32) w).symm
    rw [q3, q4]
    exact ⟨rfl, rfl, fun _ _ _ => rfl, fun _ _ _ => rfl⟩
theorem vse_vE {V : VW_} {q m s : Int} {a a' : Int → Int} {d d' : Int → Int32} (ha : ∀ k : Int, 0 ≤ k → k < m → a k = a' k) (hd : ∀ k : Int, 0 ≤ k → k < s → d k = d' k) : vE_ (vse_ V q m a s d) (vse_ V q m a' s d') := by
  refine ⟨rfl, fun i i0 i1 => ?_⟩
  by_cases w : i = q
  · have q1 : vZ (vse_ V q m a s d) i = m := if_pos w
    have q2 : vS (vse_ V q m a s d) i = s := if_pos w
    have q3 : vN (vse_ V q m a s d) i = a := if_pos (α := Int → Int) w
    have q5 : vN (vse_ V q m a' s d') i = a' := if_pos (α := Int → Int) w
    have q4 : vD (vse_ V q m a s d) i = d := if_pos (α := Int → Int32) w
    have q6 : vD (vse_ V q m a' s d') i = d' := if_pos (α := Int → Int32) w
    rw [q1, q2, q3, q4, q5, q6]
    exact ⟨(if_pos (α := Int) w).symm, (if_pos (α := Int) w).symm, ha, hd⟩
  · have q3 : vN (vse_ V q m a s d) i = vN (vse_ V q m a' s d') i := (if_neg (α := Int → Int) w).trans (if_neg (α := Int → Int) w).symm
    have q4 : vD (vse_ V q m a s d) i = vD (vse_ V q m a' s d') i := (if_neg (α := Int → Int32) w).trans (if_neg (α := Int → Int32) w).symm
    rw [q3, q4]
    exact ⟨rfl, rfl, fun _ _ _ => rfl, fun _ _ _ => rfl⟩
theorem AD_R {c c2 n m : Int} {fn fz fb fg fn2 fz2 fb2 fg2 : Nat → Int32} {V : VW_} {a a' : Int → Int} {d d' : Int → Int32} (R : rC_ c fn fz fb fg V) (I : sh_I c fz fg) (hs : srt_ V) (n0 : 0 ≤ n) (hno : ∀ i : Int, 0 ≤ i → i < vC V → ¬ nE_ V i n a') (ha : ∀ k : Int, 0 ≤ k → k < n → a k = a' k) (hd : ∀ k : Int, 0 ≤ k → k < m → d k = d' k) (h : ∃ r : Int, 0 ≤ r ∧ r ≤ c ∧ (∀ j : Int, 0 ≤ j → j < r → lx_ (vN V j) (vZ V j) a n) ∧ (r < c → ¬ lx_ (vN V r) (vZ V r) a n) ∧ rC_ c2 fn2 fz2 fb2 fg2 (vin_ V r n a m d)) : ∃ W : VW_, AD_ V a' n m d' W ∧ rC_ c2 fn2 fz2 fb2 fg2 W := by
  obtain ⟨r, r0, r1, l1, l2, h5⟩ := h
  have ec : c = vC V := R.1
  have p := isP_C hs (rC_hz R I) n0 (fun i i0 i1 q => hno i i0 i1 (nE_cg q ha)) r0 (by omega) l1 (fun q => l2 (by omega))
  exact ⟨_, Or.inr ⟨hno, r, isP_cg p ha, rfl⟩, rC_vE h5 (vin_vE ha hd)⟩
theorem AD_d {V W : VW_} {a : Int → Int} {m s : Int} {d d' : Int → Int32} (h : AD_ V a m s d W) (hd : ∀ k : Int, 0 ≤ k → k < s → d k = d' k) : ∃ W' : VW_, AD_ V a m s d' W' ∧ vE_ W W' := by
  rcases h with ⟨q, q0, q1, q2, q3⟩ | ⟨n, r, r0, r1⟩
  · refine ⟨_, Or.inl ⟨q, q0, q1, q2, rfl⟩, ?_⟩
    rw [q3]
    exact vse_vE (fun _ _ _ => rfl) hd
  · refine ⟨_, Or.inr ⟨n, r, r0, rfl⟩, ?_⟩
    rw [r1]
    exact vin_vE (fun _ _ _ => rfl) hd
theorem rM_vE {b c : Int} {z n s d : Nat → Int32} {V W : VW_} (h : rM_ b c z n s d V) (e : vE_ V W) : rM_ b c z n s d W := by
  have hc : c = vC V := h.1
  refine ⟨hc.trans e.1, fun i i0 i1 => ?_⟩
  obtain ⟨a1, a2, a3, a4⟩ := h.2 i i0 i1
  obtain ⟨b1, b2, b3, b4⟩ := e.2 i i0 (by omega)
  rw [← b1, ← b2]
  exact ⟨a1, a2, fun k k0 k1 => (a3 k k0 k1).trans (b3 k k0 k1), fun k k0 k1 => (a4 k k0 k1).trans (b4 k k0 k1)⟩
theorem rM_nil {b : Int} {z n s d : Nat → Int32} {V : VW_} (h : vC V = 0) : rM_ b 0 z n s d V := ⟨h.symm, fun i h0 h1 => absurd h1 (by omega)⟩
theorem sm_A {f : Nat → Int32} {A : Int → Int32} {Z P Q M p q n : Int} (hA : ∀ j : Int, 0 ≤ j → j < Z → A j = gr f j) (h : ∀ j : Int, 0 ≤ j → j < M → gx f (P + j) = gx f (Q + j)) (eP : P = p) (eQ : Q = q) (eM : M = n) (p0 : 0 ≤ p) (p1 : p + n ≤ Z) (q0 : 0 ≤ q) (q1 : q + n ≤ Z) : ∀ k : Int, 0 ≤ k → k < n → A (p + k) = A (q + k) := fun k k0 k1 => by
  subst eP eQ eM
  rw [hA _ (by omega) (by omega), hA _ (by omega) (by omega)]
  exact Int32.toInt_inj.mp (h k k0 k1)
theorem sm_N {f : Nat → Int32} {A : Int → Int32} {Z P Q M p q n : Int} (hA : ∀ j : Int, 0 ≤ j → j < Z → A j = gr f j) (h : ¬ ∀ j : Int, 0 ≤ j → j < M → gx f (P + j) = gx f (Q + j)) (eP : P = p) (eQ : Q = q) (eM : M = n) (p0 : 0 ≤ p) (p1 : p + n ≤ Z) (q0 : 0 ≤ q) (q1 : q + n ≤ Z) : ¬ ∀ k : Int, 0 ≤ k → k < n → A (p + k) = A (q + k) := fun z => h (fun j j0 j1 => by
  subst eP eQ eM
  have e := z j j0 j1
  rw [hA _ (by omega) (by omega), hA _ (by omega) (by omega)] at e
  exact congrArg Int32.toInt e)
theorem iA_A {f : Nat → Int32} {A : Int → Int32} {Z X x n : Int} (hA : ∀ j : Int, 0 ≤ j → j < Z → A j = gr f j) (eX : X = x) (h0 : 0 ≤ x) (h1 : x + n ≤ Z) : iA_ (gx f) X n ↔ iA_ (ai_ A) x n := by
  subst eX
  have e : ∀ k : Int, X ≤ k → k < X + n → gx f k = ai_ A k := fun k k0 k1 => by
    show (gr f k).toInt = (A k).toInt
    rw [hA k (by omega) (by omega)]
  exact ⟨fun q => iA_cong e q, fun q => iA_cong (fun k k0 k1 => (e k k0 k1).symm) q⟩
theorem nm_A {f : Nat → Int32} {A : Int → Int32} {Z X x n : Int} (hA : ∀ j : Int, 0 ≤ j → j < Z → A j = gr f j) (eX : X = x) (h0 : 0 ≤ x) (h1 : x + n ≤ Z) : ∀ k : Int, 0 ≤ k → k < n → (fun k => gx f (X + k)) k = nm_ A x k := fun k k0 k1 => by
  subst eX
  show (gr f (X + k)).toInt = (A (X + k)).toInt
  rw [hA (X + k) (by omega) (by omega)]
theorem rr_y {A : Int → Int32} {lim e R n : Int} (eR : R = aw A (e + 42) 4) (en : n = aw A (e + 28) 2) (h1 : R + 30 + n + aw A (e + 20) 4 ≤ lim) (h : aw A R 4 = 67324752 ∧ (∀ k : Int, 0 ≤ k → k < 26 → A (e + 6 + k) = A (R + 4 + k)) ∧ ∀ k : Int, 0 ≤ k → k < n → A (e + 46 + k) = A (R + 30 + k)) : rr_ A lim e := by
  subst eR en
  exact ⟨h1, h⟩
theorem rr_n1 {A : Int → Int32} {lim e : Int} (h1 : ¬ aw A (e + 42) 4 + 30 + aw A (e + 28) 2 + aw A (e + 20) 4 ≤ lim) : ¬ rr_ A lim e := fun q => h1 q.1
theorem rr_n2 {A : Int → Int32} {lim e R n : Int} (eR : R = aw A (e + 42) 4) (en : n = aw A (e + 28) 2) (h : ¬ (aw A R 4 = 67324752 ∧ (∀ k : Int, 0 ≤ k → k < 26 → A (e + 6 + k) = A (R + 4 + k)) ∧ ∀ k : Int, 0 ≤ k → k < n → A (e + 46 + k) = A (R + 30 + k))) : ¬ rr_ A lim e := fun q => h (by
  subst eR en
  exact q.2)
theorem nq_i {A : Int → Int32} {e n : Int} {V : VW_} (en : n = aw A (e + 28) 2) (h : ¬ iA_ (ai_ A) (e + 46) n) : ¬ nq_ A e V := fun q => h (by
  rw [en]
  exact q.1)
theorem nq_f {A : Int → Int32} {e n r : Int} {V : VW_} (en : n = aw A (e + 28) 2) (h : isF_ V n (nm_ A (e + 46)) r) (hr : 0 ≤ r) : ¬ nq_ A e V := fun q => by
  subst en
  rcases h with ⟨h0, h1, h2⟩ | ⟨h0, -⟩
  · exact q.2 r h0 h1 h2
  · omega
theorem nq_y {A : Int → Int32} {e n r : Int} {V : VW_} (en : n = aw A (e + 28) 2) (hi : iA_ (ai_ A) (e + 46) n) (h : isF_ V n (nm_ A (e + 46)) r) (hr : r < 0) : nq_ A e V := by
  subst en
  rcases h with ⟨h0, h1, h2⟩ | ⟨h0, h1⟩
  · omega
  · exact ⟨hi, h1⟩
/-- the bytes of an entry, as they lie -/
theorem ok_y {A : Int → Int32} {e s : Int} {d : Int → Int32} {f : Nat → Int32} {y : Int} {sm w : Int32} (hb : bs_ A e s d) (h1 : s = aw A (e + 24) 4) (hs : sm = cr_n f y s.toNat ^^^ (-1)) (hd : ∀ k : Int, 0 ≤ k → k < s → gr f (y + k) = d k) (hw : w = Int32.ofInt (aw A (e + 16) 4)) (hq : sm.toInt = w.toInt) (s0 : 0 ≤ s) : ok_ A e s d := by
  refine ⟨hb, h1, ?_⟩
  rw [← hw, ← Int32.toInt_inj.mp hq, hs, cr_cw (d := d) s.toNat (fun j j0 j1 => hd j j0 (by omega))]
theorem ok_x {A : Int → Int32} {e s : Int} {d : Int → Int32} {f : Nat → Int32} {y : Int} {sm w : Int32} (hb : bs_ A e s d) (hs : sm = cr_n f y s.toNat ^^^ (-1)) (hd : ∀ k : Int, 0 ≤ k → k < s → gr f (y + k) = d k) (hw : w = Int32.ofInt (aw A (e + 16) 4)) (hq : ¬ sm.toInt = w.toInt) (s0 : 0 ≤ s) : ∀ (s' : Int) (d' : Int → Int32), ¬ ok_ A e s' d' := ok_no hb (fun q => hq (by
  rw [hw, ← q.2, hs, cr_cw (d := d) s.toNat (fun j j0 j1 => hd j j0 (by omega))]))
theorem sq_at0 {f : Nat → Int32} {s k Y : Int} (hY : Y = 0) (h0 : 0 ≤ k) (h1 : k < s) : gr f (Y + k) = sq f 0 s k := by
  subst hY
  unfold sq
  rw [if_pos ⟨h0, h1⟩]
/-! a byte changed -/
theorem i8_xor (a b : Int32) : (a ^^^ b).toInt8 = a.toInt8 ^^^ b.toInt8 := by
  first
    | exact Int32.toInt8_xor a b
    | simp
theorem i8_i8 (x : Int8) : x.toInt32.toInt8 = x := by
  first
    | exact Int8.toInt8_toInt32 x
    | simp
def xr_ (F : Int → Int32) (k : Int) (x : Int32) : Int → Int32 := fun j => if j = k then (F j ^^^ x).toInt8.toInt32 else F j
theorem xr_C {f : Nat → Int32} {k j : Int} {ix x y u v w : Int32} (h0 : 0 ≤ j) (hi : ix.toInt = k) (k0 : 0 ≤ k) (xj : w = gr f k) (xy : y = x.toInt8.toInt32) (xu : u = w ^^^ y) (xv : v = u.toInt8.toInt32) : gr (upd f ix.toNatClampNeg (vp_nar .byte v)) j = xr_ (gr f) k x j := by
  rw [gr_updb hi j k0 h0]
  unfold xr_
  by_cases c : j = k
  · rw [if_pos c, if_pos c, xv, i8_i8, xu, xj, xy, c, i8_xor, i8_xor, i8_i8]
  · rw [if_neg c, if_neg c]
theorem xr_xr {F : Int32} {x y u v w : Int32} (hF : -128 ≤ F.toInt ∧ F.toInt ≤ 127) (xj : w = (F ^^^ x).toInt8.toInt32) (xy : y = x.toInt8.toInt32) (xu : u = w ^^^ y) (xv : v = u.toInt8.toInt32) : v.toInt8.toInt32 = F := by
  have e : (F.toInt8 ^^^ x.toInt8) ^^^ x.toInt8 = F.toInt8 := by
    rw [Int8.xor_assoc, Int8.xor_self, Int8.xor_zero]
  rw [xv, i8_i8, xu, i8_xor, xj, i8_i8, i8_xor, xy, i8_i8, e]
  exact bz_fit hF
theorem xr_b {F : Int → Int32} {k : Int} {x : Int32} (h : ∀ j : Int, -128 ≤ (F j).toInt ∧ (F j).toInt ≤ 127) : ∀ j : Int, -128 ≤ (xr_ F k x j).toInt ∧ (xr_ F k x j).toInt ≤ 127 := fun j => by
  unfold xr_
  by_cases c : j = k
  · rw [if_pos c]
    have q := Int8.toInt_toInt32 ((F j ^^^ x).toInt8)
    have q1 := Int8.le_toInt ((F j ^^^ x).toInt8)
    have q2 := Int8.toInt_lt ((F j ^^^ x).toInt8)
    omega
  · rw [if_neg c]
    exact h j
theorem xr_R {f : Nat → Int32} {k : Int} {ix x y u v w y' u' v' w' : Int32} (hF : ∀ j : Int, -128 ≤ (gr f j).toInt ∧ (gr f j).toInt ≤ 127) (hi : ix.toInt = k) (k0 : 0 ≤ k) (xj : w = gr f k) (xy : y = x.toInt8.toInt32) (xu : u = w ^^^ y) (xv : v = u.toInt8.toInt32) (yj : w' = gr (upd f ix.toNatClampNeg (vp_nar .byte v)) k) (yy : y' = x.toInt8.toInt32) (yu : u' = w' ^^^ y') (yv : v' = u'.toInt8.toInt32) : ∀ j : Int, 0 ≤ j → gr (upd (upd f ix.toNatClampNeg (vp_nar .byte v)) ix.toNatClampNeg (vp_nar .byte v')) j = gr f j := fun j h0 => by
  have e := xr_C (x := x) (j := k) k0 hi k0 xj xy xu xv
  rw [gr_updb hi j k0 h0]
  by_cases c : j = k
  · rw [if_pos c, c]
    refine xr_xr (hF k) ?_ yy yu yv
    rw [yj, e]
    unfold xr_
    rw [if_pos rfl]
  · rw [if_neg c, gr_updb hi j k0 h0, if_neg c]
theorem rd_e {A : Int → Int32} {sz r r' : Int} {W : VW_} (h : rd_ A sz r W) (e : r = r') : rd_ A sz r' W := e ▸ h
