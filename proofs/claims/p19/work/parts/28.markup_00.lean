/-! ROWS OF NUMBERS -/
theorem omg_9b35dc6088 {x0 : Int} {x1 : Int} (a0 : (((x0 = x1) ∧ (x1 ≤ (6 : Int))) ∨ ((x0 = (6 : Int)) ∧ ((6 : Int) ≤ x1)))) (a1 : (x1 = (0 : Int))) : ((Int.toNat x0) = (0 : Nat)) := by omega
theorem omg_feeafdd60a {x0 : Int} {x1 : Int} (a0 : (((x0 = x1) ∧ (x1 ≤ (6 : Int))) ∨ ((x0 = (6 : Int)) ∧ ((6 : Int) ≤ x1)))) (a1 : (x1 = (1 : Int))) : ((Int.toNat x0) = (1 : Nat)) := by omega
theorem omg_cf7e839a53 {x0 : Int} {x1 : Int} (a0 : (((x0 = x1) ∧ (x1 ≤ (6 : Int))) ∨ ((x0 = (6 : Int)) ∧ ((6 : Int) ≤ x1)))) (a1 : (x1 = (2 : Int))) : ((Int.toNat x0) = (2 : Nat)) := by omega
theorem omg_535a05ac42 {x0 : Int} {x1 : Int} {x2 : Int} {x3 : Int} {x4 : Int} {x5 : Int} {x6 : Int} (a0 : (x0 = (x1 - (96 : Int)))) (a1 : (x2 = ((((27 : Int) * x0) + x3) - (96 : Int)))) (a2 : (x4 = (2 : Int))) (a3 : (x5 = x2)) (a4 : (((97 : Int) ≤ x3) ∧ (x3 ≤ (122 : Int)))) (a5 : ((x5 = (344 : Int)) ∧ (x6 = (60 : Int)))) : ((x4 = (2 : Int)) ∧ ((x1 = (108 : Int)) ∧ (x3 = (116 : Int)))) := by omega
theorem omg_9f77401627 {x0 : Int} {x1 : Int} (a0 : (((x0 = x1) ∧ (x1 ≤ (6 : Int))) ∨ ((x0 = (6 : Int)) ∧ ((6 : Int) ≤ x1)))) (a1 : (x1 = (3 : Int))) : ((Int.toNat x0) = (3 : Nat)) := by omega
theorem omg_1ad0792003 {x0 : Int} {x1 : Int} {x2 : Int} {x3 : Int} {x4 : Int} {x5 : Int} {x6 : Int} {x7 : Int} {x8 : Int} (a0 : (x0 = (x1 - (96 : Int)))) (a1 : (x2 = ((((27 : Int) * x0) + x3) - (96 : Int)))) (a2 : (x4 = ((((27 : Int) * x2) + x5) - (96 : Int)))) (a3 : (x6 = (3 : Int))) (a4 : (x7 = x4)) (a5 : (((97 : Int) ≤ x3) ∧ (x3 ≤ (122 : Int)))) (a6 : (((97 : Int) ≤ x5) ∧ (x5 ≤ (122 : Int)))) (a7 : ((x7 = (1096 : Int)) ∧ (x8 = (38 : Int)))) : ((x6 = (3 : Int)) ∧ ((x1 = (97 : Int)) ∧ ((x3 = (109 : Int)) ∧ (x5 = (112 : Int))))) := by omega
theorem omg_67a86a9f1f {x0 : Int} {x1 : Int} (a0 : (((x0 = x1) ∧ (x1 ≤ (6 : Int))) ∨ ((x0 = (6 : Int)) ∧ ((6 : Int) ≤ x1)))) (a1 : (x1 = (4 : Int))) : ((Int.toNat x0) = (4 : Nat)) := by omega
theorem omg_9f272434c0 {x0 : Int} {x1 : Int} {x2 : Int} {x3 : Int} {x4 : Int} {x5 : Int} {x6 : Int} {x7 : Int} {x8 : Int} {x9 : Int} {x10 : Int} (a0 : (x0 = (x1 - (96 : Int)))) (a1 : (x2 = ((((27 : Int) * x0) + x3) - (96 : Int)))) (a2 : (x4 = ((((27 : Int) * x2) + x5) - (96 : Int)))) (a3 : (x6 = ((((27 : Int) * x4) + x7) - (96 : Int)))) (a4 : (x8 = (4 : Int))) (a5 : (x9 = x6)) (a6 : (((97 : Int) ≤ x3) ∧ (x3 ≤ (122 : Int)))) (a7 : (((97 : Int) ≤ x5) ∧ (x5 ≤ (122 : Int)))) (a8 : (((97 : Int) ≤ x7) ∧ (x7 ≤ (122 : Int)))) (a9 : ((x9 = (350345 : Int)) ∧ (x10 = (34 : Int)))) : ((x8 = (4 : Int)) ∧ ((x1 = (113 : Int)) ∧ ((x3 = (117 : Int)) ∧ ((x5 = (111 : Int)) ∧ (x7 = (116 : Int)))))) := by omega
theorem omg_7c2f854cde {x0 : Int} {x1 : Int} {x2 : Int} {x3 : Int} {x4 : Int} {x5 : Int} {x6 : Int} {x7 : Int} {x8 : Int} {x9 : Int} {x10 : Int} (a0 : (x0 = (x1 - (96 : Int)))) (a1 : (x2 = ((((27 : Int) * x0) + x3) - (96 : Int)))) (a2 : (x4 = ((((27 : Int) * x2) + x5) - (96 : Int)))) (a3 : (x6 = ((((27 : Int) * x4) + x7) - (96 : Int)))) (a4 : (x8 = (4 : Int))) (a5 : (x9 = x6)) (a6 : (((97 : Int) ≤ x3) ∧ (x3 ≤ (122 : Int)))) (a7 : (((97 : Int) ≤ x5) ∧ (x5 ≤ (122 : Int)))) (a8 : (((97 : Int) ≤ x7) ∧ (x7 ≤ (122 : Int)))) (a9 : ((x9 = (31771 : Int)) ∧ (x10 = (39 : Int)))) : ((x8 = (4 : Int)) ∧ ((x1 = (97 : Int)) ∧ ((x3 = (112 : Int)) ∧ ((x5 = (111 : Int)) ∧ (x7 = (115 : Int)))))) := by omega
theorem omg_aba1d320db {x0 : Int} {x1 : Int} (a0 : (((x0 = x1) ∧ (x1 ≤ (6 : Int))) ∨ ((x0 = (6 : Int)) ∧ ((6 : Int) ≤ x1)))) (a1 : (x1 = (5 : Int))) : ((Int.toNat x0) = (5 : Nat)) := by omega
theorem omg_8456cbc76d {x0 : Int} {x1 : Int} {x2 : Int} {x3 : Int} {x4 : Int} {x5 : Int} {x6 : Int} {x7 : Int} {x8 : Int} {x9 : Int} {x10 : Int} {x11 : Int} {x12 : Int} (a0 : (((x0 = (1096 : Int)) ∧ (x1 = (38 : Int))) ∨ (((x0 = (344 : Int)) ∧ (x1 = (60 : Int))) ∨ (((x0 = (209 : Int)) ∧ (x1 = (62 : Int))) ∨ (((x0 = (350345 : Int)) ∧ (x1 = (34 : Int))) ∨ (((x0 = (31771 : Int)) ∧ (x1 = (39 : Int))) ∨ ((¬ (x0 = (1096 : Int))) ∧ ((¬ (x0 = (344 : Int))) ∧ ((¬ (x0 = (209 : Int))) ∧ ((¬ (x0 = (350345 : Int))) ∧ ((¬ (x0 = (31771 : Int))) ∧ (x1 = (0 : Int))))))))))))) (a1 : (x2 = (x3 - (96 : Int)))) (a2 : (x4 = ((((27 : Int) * x2) + x5) - (96 : Int)))) (a3 : (x6 = ((((27 : Int) * x4) + x7) - (96 : Int)))) (a4 : (x8 = ((((27 : Int) * x6) + x9) - (96 : Int)))) (a5 : (x10 = ((((27 : Int) * x8) + x11) - (96 : Int)))) (a6 : (x0 = x10)) (a7 : (((97 : Int) ≤ x3) ∧ (x3 ≤ (122 : Int)))) (a8 : (((97 : Int) ≤ x5) ∧ (x5 ≤ (122 : Int)))) (a9 : (((97 : Int) ≤ x7) ∧ (x7 ≤ (122 : Int)))) (a10 : (((97 : Int) ≤ x9) ∧ (x9 ≤ (122 : Int)))) (a11 : (((97 : Int) ≤ x11) ∧ (x11 ≤ (122 : Int)))) (a12 : (x12 = (0 : Int))) : (x1 = x12) := by omega
theorem omg_034d1e5524 {x0 : Int} {x1 : Int} (a0 : (((x0 = x1) ∧ (x1 ≤ (6 : Int))) ∨ ((x0 = (6 : Int)) ∧ ((6 : Int) ≤ x1)))) (a1 : ((6 : Int) ≤ x1)) : ((Int.toNat x0) = (6 : Nat)) := by omega
theorem omg_a2a1e2938a {x0 : Int} {x1 : Int} {x2 : Int} {x3 : Int} {x4 : Int} {x5 : Int} {x6 : Int} {x7 : Int} {x8 : Int} {x9 : Int} {x10 : Int} {x11 : Int} {x12 : Int} {x13 : Int} (a0 : (((x0 = (1096 : Int)) ∧ (x1 = (38 : Int))) ∨ (((x0 = (344 : Int)) ∧ (x1 = (60 : Int))) ∨ (((x0 = (209 : Int)) ∧ (x1 = (62 : Int))) ∨ (((x0 = (350345 : Int)) ∧ (x1 = (34 : Int))) ∨ (((x0 = (31771 : Int)) ∧ (x1 = (39 : Int))) ∨ ((¬ (x0 = (1096 : Int))) ∧ ((¬ (x0 = (344 : Int))) ∧ ((¬ (x0 = (209 : Int))) ∧ ((¬ (x0 = (350345 : Int))) ∧ ((¬ (x0 = (31771 : Int))) ∧ (x1 = (0 : Int))))))))))))) (a1 : (x2 = ((((27 : Int) * x3) + x4) - (96 : Int)))) (a2 : (x5 = ((((27 : Int) * x2) + x6) - (96 : Int)))) (a3 : (x7 = ((((27 : Int) * x5) + x8) - (96 : Int)))) (a4 : (x9 = ((((27 : Int) * x7) + x10) - (96 : Int)))) (a5 : (x11 = ((((27 : Int) * x9) + x12) - (96 : Int)))) (a6 : (x0 = x11)) (a7 : (((97 : Int) ≤ x4) ∧ (x4 ≤ (122 : Int)))) (a8 : (((97 : Int) ≤ x6) ∧ (x6 ≤ (122 : Int)))) (a9 : (((97 : Int) ≤ x8) ∧ (x8 ≤ (122 : Int)))) (a10 : (((97 : Int) ≤ x10) ∧ (x10 ≤ (122 : Int)))) (a11 : (((97 : Int) ≤ x12) ∧ (x12 ≤ (122 : Int)))) (a12 : (x13 = (0 : Int))) : (x1 = x13) := by omega
theorem omg_fa71de776b {x0 : Int} (a0 : (((x0 + (2 : Int)) % (2 : Int)) = (1 : Int))) : ((x0 % (2 : Int)) = (1 : Int)) := by omega
/-! THE MARKUP: the pure picture; B the bytes, n how many -/
def cm_ (B : Int → Int32) (n j : Int) : Int := if 0 ≤ j ∧ j < n then (B j &&& 255).toInt else -1
theorem cm_rng (B : Int → Int32) (n j : Int) : -1 ≤ cm_ B n j ∧ cm_ B n j ≤ 255 := by
  unfold cm_
  by_cases c : 0 ≤ j ∧ j < n
  · rw [if_pos c]
    have h := ti_and (z := B j &&& 255) (m := 255) (b := 255) 8 rfl (by decide) (by decide)
    omega
  · rw [if_neg c]
    omega
theorem cm_in {B : Int → Int32} {n j : Int} (h : 0 ≤ cm_ B n j) : j < n := by
  unfold cm_ at h
  by_cases c : 0 ≤ j ∧ j < n
  · exact c.2
  · rw [if_neg c] at h
    omega
theorem cm_out {B : Int → Int32} {n j : Int} (h : ¬ j < n) : cm_ B n j = -1 := if_neg (fun q => h q.2)
theorem cm_at {B : Int → Int32} {n j : Int} (h0 : 0 ≤ j) (h : j < n) : cm_ B n j = (B j &&& 255).toInt := if_pos ⟨h0, h⟩
theorem cm_ld {B : Int → Int32} {n j : Int} {x z : Int32} (hz : z = x &&& 255) (hx : x = B j) (h0 : 0 ≤ j) (hj : j < n) : z.toInt = cm_ B n j := by
  rw [cm_at h0 hj, ← hx, hz]
theorem cm_sg {B : Int → Int32} {n j : Int} {x : Int32} (hx : x = B j) (hf : -128 ≤ x.toInt ∧ x.toInt ≤ 127) (h0 : 0 ≤ j) (hj : j < n) : (0 ≤ x.toInt ∧ cm_ B n j = x.toInt) ∨ (x.toInt < 0 ∧ 128 ≤ cm_ B n j) := by
  have e : cm_ B n j = x.toInt % 256 := by rw [cm_at h0 hj, ← hx]; exact ti_255 rfl
  omega
theorem cm_g {B B' : Int → Int32} {n : Int} (h : ∀ j : Int, 0 ≤ j → j < n → B j = B' j) (j : Int) : cm_ B n j = cm_ B' n j := by
  unfold cm_
  by_cases c : 0 ≤ j ∧ j < n
  · rw [if_pos c, if_pos c, h j c.1 c.2]
  · rw [if_neg c, if_neg c]
/-- a state that may be bad; an answer with a place -/
def om_ (b a : Int) : Option Int := if b = 0 then some a else none
def oy_ (r a : Int) : Option Int := if r = 0 then none else some a
theorem om_t {b a : Int} (h : b = 0) : om_ b a = some a := if_pos h
theorem om_f {b a : Int} (h : ¬ b = 0) : om_ b a = none := if_neg h
theorem oy_t {r a : Int} (h : ¬ r = 0) : oy_ r a = some a := if_neg h
theorem oy_f {r a : Int} (h : r = 0) : oy_ r a = none := if_pos h
theorem om_e {b a a' : Int} (h : b = 0 → a = a') : om_ b a = om_ b a' := by
  by_cases c : b = 0
  · rw [h c]
  · rw [om_f c, om_f c]
theorem om_n {b a : Int} (h : om_ b a = none) : ¬ b = 0 := fun c => by
  rw [om_t c] at h
  exact absurd h (by simp)
theorem om_s {b a p : Int} (h : om_ b a = some p) : b = 0 ∧ a = p := by
  by_cases c : b = 0
  · rw [om_t c] at h
    exact ⟨c, Option.some.inj h⟩
  · rw [om_f c] at h
    exact absurd h (by simp)
theorem oy_n {r a : Int} (h : oy_ r a = none) : r = 0 := by
  by_cases c : r = 0
  · exact c
  · rw [oy_t c] at h
    exact absurd h (by simp)
theorem oy_s {r a p : Int} (h : oy_ r a = some p) : ¬ r = 0 ∧ a = p := by
  by_cases c : r = 0
  · rw [oy_f c] at h
    exact absurd h (by simp)
  · rw [oy_t c] at h
    exact ⟨c, Option.some.inj h⟩
/-- one byte -/
def nQ6_ (B : Int → Int32) (n c p : Int) : Option Int := if cm_ B n p = c then some p else none
def nd_ (B : Int → Int32) (n c p : Int) : Option Int := if cm_ B n p = c then some (p + 1) else none
theorem nd_y {B : Int → Int32} {n c p : Int} (h : cm_ B n p = c) : nd_ B n c p = some (p + 1) := if_pos h
theorem nd_x {B : Int → Int32} {n c p : Int} (h : ¬ cm_ B n p = c) : nd_ B n c p = none := if_neg h
theorem nQ6_t {B : Int → Int32} {n c p b : Int} (h : cm_ B n p = c) : om_ b p = (om_ b p).bind (nQ6_ B n c) := by
  by_cases w : b = 0
  · rw [om_t w]
    show some p = nQ6_ B n c p
    unfold nQ6_
    rw [if_pos h]
  · rw [om_f w]
    rfl
theorem nQ6_f {B : Int → Int32} {n c p b a v : Int} (hb : ¬ b = 0) (h : ¬ cm_ B n p = c) : om_ b a = (om_ v p).bind (nQ6_ B n c) := by
  rw [om_f hb]
  by_cases w : v = 0
  · rw [om_t w]
    show none = nQ6_ B n c p
    unfold nQ6_
    rw [if_neg h]
  · rw [om_f w]
    rfl
theorem nd_j {B : Int → Int32} {n c b a a2 : Int} {X : Option Int} (h : om_ b a = X.bind (nQ6_ B n c)) (hb : b = 0) (e : a2 = a + 1) : om_ b a2 = X.bind (nd_ B n c) := by
  rw [om_t hb] at h
  rw [om_t hb, e]
  cases X with
  | none => exact absurd h (by simp)
  | some p =>
    have h2 : some a = nQ6_ B n c p := h
    unfold nQ6_ at h2
    show some (a + 1) = nd_ B n c p
    by_cases w : cm_ B n p = c
    · rw [if_pos w] at h2
      rw [nd_y w, Option.some.inj h2]
    · rw [if_neg w] at h2
      exact absurd h2 (by simp)
theorem nd_k {B : Int → Int32} {n c b a a2 : Int} {X : Option Int} (h : om_ b a = X.bind (nQ6_ B n c)) (hb : ¬ b = 0) : om_ b a2 = X.bind (nd_ B n c) := by
  rw [om_f hb] at h
  rw [om_f hb]
  cases X with
  | none => rfl
  | some p =>
    have h2 : none = nQ6_ B n c p := h
    unfold nQ6_ at h2
    show none = nd_ B n c p
    by_cases w : cm_ B n p = c
    · rw [if_pos w] at h2
      exact absurd h2 (by simp)
    · rw [nd_x w]
/-- a text -/
def tx_ (T : List Int) (j : Int) : Int := T.getD j.toNat 0
def wk_ (B : Int → Int32) (n : Int) (t : Int → Int) : Nat → Int → Option Int
  | 0, p => some p
  | k + 1, p => (wk_ B n t k p).bind (nd_ B n (t k))
theorem wk_n {B : Int → Int32} {n k k2 c : Int} {t : Int → Int} {X Y Z : Option Int} (h : Y = X.bind (wk_ B n t k.toNat)) (h2 : Z = Y.bind (nd_ B n c)) (hc : c = t k) (h0 : 0 ≤ k) (hk : k2 = k + 1) : Z = X.bind (wk_ B n t k2.toNat) := by
  obtain ⟨m, hm⟩ : ∃ m : Nat, k = m := ⟨k.toNat, by omega⟩
  rw [h2, h, hk, show (k + 1).toNat = m + 1 by omega, show k.toNat = m by omega, hc, hm]
  cases X with
  | none => rfl
  | some p => rfl
theorem wk_0 {B : Int → Int32} {n k : Int} {t : Int → Int} {X : Option Int} (hk : k = 0) : X = X.bind (wk_ B n t k.toNat) := by
  rw [hk]
  cases X with
  | none => rfl
  | some p => rfl
theorem wk_c {B : Int → Int32} {n p : Int} {t u : Int → Int} : ∀ (m : Nat), (∀ j : Int, 0 ≤ j → j < m → t j = u j) → wk_ B n t m p = wk_ B n u m p
  | 0, _ => rfl
  | m + 1, h => by
    show (wk_ B n t m p).bind (nd_ B n (t m)) = (wk_ B n u m p).bind (nd_ B n (u m))
    rw [wk_c m (fun j a b => h j a (by omega)), h m (by omega) (by omega)]
theorem wk_up {B : Int → Int32} {n p : Int} {t : Int → Int} : ∀ (m : Nat) {q : Int}, wk_ B n t m p = some q → (∀ j : Int, 0 ≤ j → j < m → 0 ≤ t j) → p ≤ n → q = p + m ∧ q ≤ n
  | 0, q, e, _, h => by
    have e2 : p = q := Option.some.inj e
    omega
  | m + 1, q, e, h0, h => by
    have e2 : (wk_ B n t m p).bind (nd_ B n (t m)) = some q := e
    cases c : wk_ B n t m p with
    | none =>
      rw [c] at e2
      exact absurd e2 (by simp)
    | some r =>
      have ih := wk_up m c (fun j a b => h0 j a (by omega)) h
      rw [c] at e2
      have e3 : nd_ B n (t m) r = some q := e2
      by_cases w : cm_ B n r = t m
      · rw [nd_y w] at e3
        have e4 := Option.some.inj e3
        have l := cm_in (B := B) (n := n) (j := r) (by rw [w]; exact h0 m (by omega) (by omega))
        omega
      · rw [nd_x w] at e3
        exact absurd e3 (by simp)
/-- as far as bytes of a kind go -/
def rn_ (Q : Int → Bool) (B : Int → Int32) (n : Int) : Nat → Int → Int
  | 0, p => p
  | m + 1, p => if Q (cm_ B n p) = true then rn_ Q B n m (p + 1) else p
def rF_ (Q : Int → Bool) (B : Int → Int32) (n p : Int) : Int := rn_ Q B n (n - p).toNat p
theorem rF_y {Q : Int → Bool} {B : Int → Int32} {n p : Int} (hp : p < n) (h : Q (cm_ B n p) = true) : rF_ Q B n p = rF_ Q B n (p + 1) := by
  unfold rF_
  rw [show (n - p).toNat = (n - (p + 1)).toNat + 1 by omega]
  exact if_pos h
theorem rF_n {Q : Int → Bool} {B : Int → Int32} {n p : Int} (h : ¬ Q (cm_ B n p) = true) : rF_ Q B n p = p := by
  unfold rF_
  cases (n - p).toNat with
  | zero => rfl
  | succ m => exact if_neg h
theorem rF_o {Q : Int → Bool} {B : Int → Int32} {n p : Int} (h : ¬ p < n) : rF_ Q B n p = p := by
  unfold rF_
  rw [show (n - p).toNat = 0 by omega]
  rfl
theorem rn_le {Q : Int → Bool} {B : Int → Int32} {n : Int} : ∀ (m : Nat) (p : Int), p ≤ rn_ Q B n m p ∧ rn_ Q B n m p ≤ p + m
  | 0, p => ⟨Int.le_refl _, by show p ≤ p + ((0 : Nat) : Int); omega⟩
  | m + 1, p => by
    have ih := rn_le (Q := Q) (B := B) (n := n) m (p + 1)
    show p ≤ (if Q (cm_ B n p) = true then rn_ Q B n m (p + 1) else p) ∧ (if Q (cm_ B n p) = true then rn_ Q B n m (p + 1) else p) ≤ p + ((m + 1 : Nat) : Int)
    by_cases c : Q (cm_ B n p) = true
    · rw [if_pos c]
      omega
    · rw [if_neg c]
      omega
theorem rF_le {Q : Int → Bool} {B : Int → Int32} {n p : Int} (h : p ≤ n) : p ≤ rF_ Q B n p ∧ rF_ Q B n p ≤ n := by
  have q := rn_le (Q := Q) (B := B) (n := n) (n - p).toNat p
  unfold rF_
  omega
theorem rn_al {Q : Int → Bool} {B : Int → Int32} {n : Int} : ∀ (m : Nat) (p j : Int), p ≤ j → j < rn_ Q B n m p → Q (cm_ B n j) = true
  | 0, p, j, h, h1 => by
    have h2 : j < p := h1
    omega
  | m + 1, p, j, h, h1 => by
    have h2 : j < (if Q (cm_ B n p) = true then rn_ Q B n m (p + 1) else p) := h1
    by_cases c : Q (cm_ B n p) = true
    · rw [if_pos c] at h2
      by_cases w : j = p
      · rw [w]
        exact c
      · exact rn_al m (p + 1) j (by omega) h2
    · rw [if_neg c] at h2
      omega
def sp_c (c : Int) : Bool := decide (c = 32 ∨ c = 9 ∨ c = 10 ∨ c = 13)
def le_c2 (c : Int) : Bool := decide (97 ≤ c ∧ c ≤ 122)
def sF (B : Int → Int32) (n p : Int) : Int := rF_ sp_c B n p
def lF (B : Int → Int32) (n p : Int) : Int := rF_ le_c2 B n p
theorem sF_le {B : Int → Int32} {n p : Int} (h : p ≤ n) : p ≤ sF B n p ∧ sF B n p ≤ n := rF_le h
theorem lF_le {B : Int → Int32} {n p : Int} (h : p ≤ n) : p ≤ lF B n p ∧ lF B n p ≤ n := rF_le h
theorem sp_i {c : Int} : (sp_c c = true) ↔ (c = 32 ∨ c = 9 ∨ c = 10 ∨ c = 13) := by
  unfold sp_c
  exact decide_eq_true_iff
theorem le_i {c : Int} : (le_c2 c = true) ↔ (97 ≤ c ∧ c ≤ 122) := by
  unfold le_c2
  exact decide_eq_true_iff
theorem lF_al {B : Int → Int32} {n p j : Int} (h : p ≤ j) (h1 : j < lF B n p) : 97 ≤ cm_ B n j ∧ cm_ B n j ≤ 122 := le_i.mp (rn_al _ p j h h1)
theorem sF_y {B : Int → Int32} {n p q : Int} (h : sp_c (cm_ B n p) = true) (e : q = p + 1) : sF B n q = sF B n p := by
  have w := sp_i.mp h
  have l := cm_in (B := B) (n := n) (j := p) (by omega)
  rw [e]
  exact (rF_y l h).symm
theorem sF_n {B : Int → Int32} {n p : Int} (h : ¬ sp_c (cm_ B n p) = true) : sF B n p = p := rF_n h
theorem sF_o {B : Int → Int32} {n p : Int} (h : ¬ p < n) : sF B n p = p := rF_o h
theorem lF_y {B : Int → Int32} {n p q : Int} (h : 97 ≤ cm_ B n p ∧ cm_ B n p ≤ 122) (e : q = p + 1) : lF B n q = lF B n p := by
  have l := cm_in (B := B) (n := n) (j := p) (by omega)
  rw [e]
  exact (rF_y l (le_i.mpr h)).symm
theorem lF_n {B : Int → Int32} {n p : Int} (h : ¬ (97 ≤ cm_ B n p ∧ cm_ B n p ≤ 122)) : lF B n p = p := rF_n (fun q => h (le_i.mp q))
theorem lF_o {B : Int → Int32} {n p : Int} (h : ¬ p < n) : lF B n p = p := rF_o h
/-- the reference's space -/
theorem sS_y {B : Int → Int32} {n b a a2 : Int} {X : Option Int} (h : (om_ b a).map (sF B n) = X) (hs : sp_c (cm_ B n a) = true) (e : a2 = a + 1) : (om_ b a2).map (sF B n) = X := by
  rw [← h]
  by_cases w : b = 0
  · rw [om_t w, om_t w]
    show some (sF B n a2) = some (sF B n a)
    rw [sF_y hs e]
  · rw [om_f w, om_f w]
theorem sS_n {B : Int → Int32} {n b a : Int} {X : Option Int} (h : (om_ b a).map (sF B n) = X) (hs : ¬ sp_c (cm_ B n a) = true) : om_ b a = X := by
  rw [← h]
  by_cases w : b = 0
  · rw [om_t w]
    show some a = some (sF B n a)
    rw [sF_n hs]
  · rw [om_f w]
    rfl
theorem sS_b {B : Int → Int32} {n b a : Int} {X : Option Int} (h : (om_ b a).map (sF B n) = X) (hb : ¬ b = 0) : om_ b a = X := by
  rw [← h, om_f hb]
  rfl
/-- up to two dashes -/
def dh_ (B : Int → Int32) (n : Int) : Nat → Int → Int
  | 0, p => p
  | m + 1, p => if cm_ B n p = 45 ∧ cm_ B n (p + 1) = 45 then p else dh_ B n m (p + 1)
def dF (B : Int → Int32) (n p : Int) : Int := dh_ B n (n - p).toNat p
theorem dF_y {B : Int → Int32} {n p : Int} (h : cm_ B n p = 45) (h' : cm_ B n (p + 1) = 45) : dF B n p = p := by
  unfold dF
  cases (n - p).toNat with
  | zero => rfl
  | succ m => exact if_pos ⟨h, h'⟩
theorem dF_n {B : Int → Int32} {n p : Int} (hp : p < n) (h : ¬ (cm_ B n p = 45 ∧ cm_ B n (p + 1) = 45)) : dF B n p = dF B n (p + 1) := by
  unfold dF
  rw [show (n - p).toNat = (n - (p + 1)).toNat + 1 by omega]
  exact if_neg h
theorem dF_o {B : Int → Int32} {n p : Int} (h : ¬ p < n) : dF B n p = p := by
  unfold dF
  rw [show (n - p).toNat = 0 by omega]
  rfl
theorem dh_le {B : Int → Int32} {n : Int} : ∀ (m : Nat) (p : Int), p ≤ dh_ B n m p ∧ dh_ B n m p ≤ p + m
  | 0, p => ⟨Int.le_refl _, by show p ≤ p + ((0 : Nat) : Int); omega⟩
  | m + 1, p => by
    have ih := dh_le (B := B) (n := n) m (p + 1)
    show p ≤ (if cm_ B n p = 45 ∧ cm_ B n (p + 1) = 45 then p else dh_ B n m (p + 1)) ∧ (if cm_ B n p = 45 ∧ cm_ B n (p + 1) = 45 then p else dh_ B n m (p + 1)) ≤ p + ((m + 1 : Nat) : Int)
    by_cases c : cm_ B n p = 45 ∧ cm_ B n (p + 1) = 45
    · rw [if_pos c]
      omega
    · rw [if_neg c]
      omega
theorem dF_le {B : Int → Int32} {n p : Int} (h : p ≤ n) : p ≤ dF B n p ∧ dF B n p ≤ n := by
  have q := dh_le (B := B) (n := n) (n - p).toNat p
  unfold dF
  omega
/-- a comment, and what is behind its first four bytes -/
def tC_ : Int → Int := tx_ [60, 33, 45, 45]
def tD_ : Int → Int := tx_ [45, 45, 62]
def dD_ (B : Int → Int32) (n p : Int) : Option Int := wk_ B n tD_ 3 (dF B n p)
def cF (B : Int → Int32) (n p : Int) : Option Int := (wk_ B n tC_ 4 p).bind (dD_ B n)
theorem tx_nn {T : List Int} (h : ∀ c ∈ T, 0 ≤ c) (j : Int) : 0 ≤ tx_ T j := by
  unfold tx_
  rw [List.getD_eq_getElem?_getD]
  cases c : T[j.toNat]? with
  | none => exact Int.le_refl 0
  | some x => exact h x (List.mem_of_getElem? c)
theorem cF_up {B : Int → Int32} {n p q : Int} (h : cF B n p = some q) (hp : p ≤ n) : p + 7 ≤ q ∧ q ≤ n := by
  unfold cF at h
  cases c : wk_ B n tC_ 4 p with
  | none =>
    rw [c] at h
    exact absurd h (by simp)
  | some r =>
    have u := wk_up 4 c (fun j _ _ => tx_nn (by decide) j) hp
    rw [c] at h
    have h2 : wk_ B n tD_ 3 (dF B n r) = some q := h
    have d := dF_le (B := B) u.2
    have u2 := wk_up 3 h2 (fun j _ _ => tx_nn (by decide) j) d.2
    omega
def ga_ (B : Int → Int32) (n : Int) : Nat → Int → Option Int
  | 0, _ => none
  | m + 1, p => if cm_ B n (sF B n p) = 60 ∧ cm_ B n (sF B n p + 1) = 33 then (cF B n (sF B n p)).bind (ga_ B n m) else some (sF B n p)
theorem ga_st {B : Int → Int32} {n : Int} : ∀ (m k : Nat) (p : Int), p ≤ n → n - p < m → n - p < k → ga_ B n m p = ga_ B n k p
  | 0, _, p, h, h1, _ => absurd h1 (by omega)
  | m + 1, 0, p, h, _, h2 => absurd h2 (by omega)
  | m + 1, k + 1, p, h, h1, h2 => by
    have s' : p ≤ sF B n p ∧ sF B n p ≤ n := sF_le h
    show (if cm_ B n (sF B n p) = 60 ∧ cm_ B n (sF B n p + 1) = 33 then (cF B n (sF B n p)).bind (ga_ B n m) else some (sF B n p)) = (if cm_ B n (sF B n p) = 60 ∧ cm_ B n (sF B n p + 1) = 33 then (cF B n (sF B n p)).bind (ga_ B n k) else some (sF B n p))
    by_cases c : cm_ B n (sF B n p) = 60 ∧ cm_ B n (sF B n p + 1) = 33
    · rw [if_pos c, if_pos c]
      cases e : cF B n (sF B n p) with
      | none => rfl
      | some q =>
        have u := cF_up e s'.2
        exact ga_st m k q (by omega) (by omega) (by omega)
    · rw [if_neg c, if_neg c]
def gF (B : Int → Int32) (n p : Int) : Option Int := ga_ B n ((n - p).toNat + 1) p
def gG (B : Int → Int32) (n p : Int) : Option Int := if cm_ B n p = 60 ∧ cm_ B n (p + 1) = 33 then (cF B n p).bind (gF B n) else some p
theorem gG_y {B : Int → Int32} {n p : Int} (h : cm_ B n p = 60) (h' : cm_ B n (p + 1) = 33) : gG B n p = (cF B n p).bind (gF B n) := if_pos ⟨h, h'⟩
theorem gG_n {B : Int → Int32} {n p : Int} (h : ¬ (cm_ B n p = 60 ∧ cm_ B n (p + 1) = 33)) : gG B n p = some p := if_neg h
theorem gF_e {B : Int → Int32} {n p : Int} (hp : p ≤ n) : gF B n p = gG B n (sF B n p) := by
  have s := sF_le (B := B) hp
  show (if cm_ B n (sF B n p) = 60 ∧ cm_ B n (sF B n p + 1) = 33 then (cF B n (sF B n p)).bind (ga_ B n (n - p).toNat) else some (sF B n p)) = _
  by_cases c : cm_ B n (sF B n p) = 60 ∧ cm_ B n (sF B n p + 1) = 33
  · rw [if_pos c, gG_y c.1 c.2]
    cases e : cF B n (sF B n p) with
    | none => rfl
    | some q =>
      have u := cF_up e s.2
      exact ga_st _ _ q u.2 (by omega) (by omega)
  · rw [if_neg c, gG_n c]
theorem ga_up {B : Int → Int32} {n : Int} : ∀ (m : Nat) (p q : Int), p ≤ n → ga_ B n m p = some q → p ≤ q ∧ q ≤ n
  | 0, p, q, h, e => absurd e (by simp [ga_])
  | m + 1, p, q, h, e => by
    have s := sF_le (B := B) h
    have e2 : (if cm_ B n (sF B n p) = 60 ∧ cm_ B n (sF B n p + 1) = 33 then (cF B n (sF B n p)).bind (ga_ B n m) else some (sF B n p)) = some q := e
    by_cases c : cm_ B n (sF B n p) = 60 ∧ cm_ B n (sF B n p + 1) = 33
    · rw [if_pos c] at e2
      cases e3 : cF B n (sF B n p) with
      | none =>
        rw [e3] at e2
        exact absurd e2 (by simp)
      | some r =>
        have u := cF_up e3 s.2
        rw [e3] at e2
        have ih := ga_up m r q u.2 e2
        omega
    · rw [if_neg c] at e2
      have e3 := Option.some.inj e2
      omega
theorem gF_up {B : Int → Int32} {n p q : Int} (h : p ≤ n) (e : gF B n p = some q) : p ≤ q ∧ q ≤ n := ga_up _ p q h e
/-- the reference's gaps -/
theorem gl_00 {F G : Int → Option Int} {s : Int → Int} {b a p : Int} (h : om_ b a = (om_ b p).map s) (e : F p = G (s p)) : (om_ b a).bind G = (om_ b p).bind F := by
  rw [h]
  by_cases w : b = 0
  · rw [om_t w]
    exact e.symm
  · rw [om_f w]
    rfl
theorem gl_0 {B : Int → Int32} {n b a p : Int} (h : om_ b a = (om_ b p).map (sF B n)) (hp : p ≤ n) : (om_ b a).bind (gG B n) = (om_ b p).bind (gF B n) := gl_00 h (gF_e hp)
theorem gl_s {B : Int → Int32} {n b3 a3 b a a2 : Int} {X : Option Int} (h : (om_ b3 a3).bind (gG B n) = X) (hb : b3 = 0) (c1 : cm_ B n a3 = 60) (c2 : cm_ B n (a3 + 1) = 33) (hc : om_ b a = cF B n a3) (hs : om_ b a2 = (om_ b a).map (sF B n)) (ha : a ≤ n) : (om_ b a2).bind (gG B n) = X := by
  rw [om_t hb] at h
  have h2 : gG B n a3 = X := h
  rw [gG_y c1 c2, ← hc] at h2
  rw [← h2]
  exact gl_0 hs ha
theorem gl_x {B : Int → Int32} {n b3 a3 : Int} {X : Option Int} (h : (om_ b3 a3).bind (gG B n) = X) (hc : ¬ (b3 = 0 ∧ cm_ B n a3 = 60 ∧ cm_ B n (a3 + 1) = 33)) : om_ b3 a3 = X := by
  rw [← h]
  by_cases w : b3 = 0
  · rw [om_t w]
    show some a3 = gG B n a3
    rw [gG_n (fun q => hc ⟨w, q⟩)]
  · rw [om_f w]
    rfl
/-- the dashes in it -/
theorem dl_0 {B : Int → Int32} {n b3 a3 b a : Int} {t : Int → Int} {m : Nat} (h : om_ b a = (om_ b3 a3).bind (wk_ B n t m)) (hb : b3 = 0) (hm : m = 4) (ht : ∀ j : Int, 0 ≤ j → j < 4 → t j = tC_ j) : (om_ b a).bind (dD_ B n) = cF B n a3 := by
  rw [h, om_t hb, hm]
  show (wk_ B n t 4 a3).bind (dD_ B n) = _
  rw [wk_c 4 ht]
  rfl
theorem dl_s {B : Int → Int32} {n b a a2 : Int} {X : Option Int} (h : (om_ b a).bind (dD_ B n) = X) (hc : ¬ (cm_ B n a = 45 ∧ cm_ B n (a + 1) = 45)) (h0 : 0 ≤ cm_ B n a) (e : a2 = a + 1) : (om_ b a2).bind (dD_ B n) = X := by
  have l := cm_in h0
  rw [← h]
  by_cases w : b = 0
  · rw [om_t w, om_t w]
    show wk_ B n tD_ 3 (dF B n a2) = wk_ B n tD_ 3 (dF B n a)
    rw [dF_n l hc, e]
  · rw [om_f w, om_f w]
theorem dD_o {B : Int → Int32} {n a : Int} (h : ¬ a < n) : dD_ B n a = none := by
  unfold dD_
  rw [dF_o h]
  show (((some a).bind (nd_ B n (tD_ 0))).bind (nd_ B n (tD_ 1))).bind (nd_ B n (tD_ 2)) = none
  have e : nd_ B n (tD_ 0) a = none := nd_x (by rw [cm_out h]; decide)
  show ((nd_ B n (tD_ 0) a).bind (nd_ B n (tD_ 1))).bind (nd_ B n (tD_ 2)) = none
  rw [e]
  rfl
theorem dl_b {B : Int → Int32} {n b a b2 a2 : Int} {X : Option Int} (h : (om_ b a).bind (dD_ B n) = X) (ha : 0 ≤ a) (h0 : cm_ B n a < 0) (hb : ¬ b2 = 0) : (om_ b2 a2).bind (dD_ B n) = X := by
  have l : ¬ a < n := fun q => by
    have r := ti_and (z := B a &&& 255) (m := 255) (b := 255) 8 rfl (by decide) (by decide)
    rw [cm_at ha q] at h0
    omega
  rw [← h, om_f hb]
  by_cases w : b = 0
  · rw [om_t w]
    exact (dD_o l).symm
  · rw [om_f w]
theorem dl_x {B : Int → Int32} {n b a b1 a1 b2 a2 b3 a3 : Int} {X : Option Int} (h : (om_ b a).bind (dD_ B n) = X) (hc : ¬ b = 0 ∨ (cm_ B n a = 45 ∧ cm_ B n (a + 1) = 45)) (h1 : om_ b1 a1 = (om_ b a).bind (nd_ B n 45)) (h2 : om_ b2 a2 = (om_ b1 a1).bind (nd_ B n 45)) (h3 : om_ b3 a3 = (om_ b2 a2).bind (nd_ B n 62)) : om_ b3 a3 = X := by
  rw [h3, h2, h1, ← h]
  by_cases w : b = 0
  · have c : cm_ B n a = 45 ∧ cm_ B n (a + 1) = 45 := by
      rcases hc with q | q
      · exact absurd w q
      · exact q
    rw [om_t w]
    show ((nd_ B n 45 a).bind (nd_ B n 45)).bind (nd_ B n 62) = wk_ B n tD_ 3 (dF B n a)
    rw [dF_y c.1 c.2]
    rfl
  · rw [om_f w]
    rfl
/-- a closing -/
def cl_ (B : Int → Int32) (n : Int) (t : Int → Int) (m : Nat) (p : Int) : Option Int := ((wk_ B n t m p).map (sF B n)).bind (nd_ B n 62)
theorem cl_m {B : Int → Int32} {n b0 a0 b1 a1 a2 b3 a3 : Int} {t : Int → Int} {m : Nat} (h1 : om_ b1 a1 = (om_ b0 a0).bind (wk_ B n t m)) (h2 : om_ b1 a2 = (om_ b1 a1).map (sF B n)) (h3 : om_ b3 a3 = (om_ b1 a2).bind (nd_ B n 62)) : om_ b3 a3 = (om_ b0 a0).bind (cl_ B n t m) := by
  rw [h3, h2, h1]
  cases om_ b0 a0 with
  | none => rfl
  | some p => rfl
/-- behind an and: a name, a number -/
def nc_ (B : Int → Int32) (n p z : Int) : Int := if z = 3 ∧ cm_ B n p = 97 ∧ cm_ B n (p + 1) = 109 ∧ cm_ B n (p + 2) = 112 then 38 else if z = 2 ∧ cm_ B n p = 108 ∧ cm_ B n (p + 1) = 116 then 60 else if z = 2 ∧ cm_ B n p = 103 ∧ cm_ B n (p + 1) = 116 then 62 else if z = 4 ∧ cm_ B n p = 113 ∧ cm_ B n (p + 1) = 117 ∧ cm_ B n (p + 2) = 111 ∧ cm_ B n (p + 3) = 116 then 34 else if z = 4 ∧ cm_ B n p = 97 ∧ cm_ B n (p + 1) = 112 ∧ cm_ B n (p + 2) = 111 ∧ cm_ B n (p + 3) = 115 then 39 else 0
theorem nc_rng (B : Int → Int32) (n p z : Int) : nc_ B n p z = 0 ∨ (34 ≤ nc_ B n p z ∧ nc_ B n p z ≤ 62) := by
  unfold nc_
  (repeat' split) <;> omega
def nv_ (B : Int → Int32) (n p : Int) : Nat → Int
  | 0 => 0
  | k + 1 => 27 * nv_ B n p k + cm_ B n (p + k) - 96
def p27 : Nat → Int
  | 0 => 1
  | k + 1 => 27 * p27 k
theorem p27_m : ∀ k : Nat, k ≤ 6 → p27 k ≤ 387420489
  | 0, _ => by decide
  | 1, _ => by decide
  | 2, _ => by decide
  | 3, _ => by decide
  | 4, _ => by decide
  | 5, _ => by decide
  | 6, _ => by decide
  | k + 7, h => absurd h (by omega)
def ls_ (B : Int → Int32) (n p z : Int) : Prop := ∀ j : Int, 0 ≤ j → j < z → 97 ≤ cm_ B n (p + j) ∧ cm_ B n (p + j) ≤ 122
theorem nv_b {B : Int → Int32} {n p z : Int} (h : ls_ B n p z) : ∀ k : Nat, (k : Int) ≤ z → 0 ≤ nv_ B n p k ∧ nv_ B n p k < p27 k
  | 0, _ => ⟨Int.le_refl _, by show (0 : Int) < 1; decide⟩
  | k + 1, hk => by
    have ih := nv_b h k (by omega)
    have d := h (k : Int) (by omega) (by omega)
    show 0 ≤ 27 * nv_ B n p k + cm_ B n (p + k) - 96 ∧ 27 * nv_ B n p k + cm_ B n (p + k) - 96 < 27 * p27 k
    omega
theorem nv_B {B : Int → Int32} {n p z k v : Int} (h : ls_ B n p z) (hv : v = nv_ B n p k.toNat) (h0 : 0 ≤ k) (h1 : k ≤ z) (h2 : k ≤ 6) : 0 ≤ v ∧ v ≤ 387420488 := by
  have b := nv_b h k.toNat (by omega)
  have m := p27_m k.toNat (by omega)
  omega
theorem nv_s {B : Int → Int32} {n p k k2 x v v2 : Int} (hv : v = nv_ B n p k.toNat) (h0 : 0 ≤ k) (hk : k2 = k + 1) (hx : x = cm_ B n (p + k)) (h : v2 = 27 * v + x - 96) : v2 = nv_ B n p k2.toNat := by
  obtain ⟨m, hm⟩ : ∃ m : Nat, k = m := ⟨k.toNat, by omega⟩
  rw [hk, show (k + 1).toNat = m + 1 by omega]
  show v2 = 27 * nv_ B n p m + cm_ B n (p + m) - 96
  rw [h, hx, hv, show k.toNat = m by omega, hm]
theorem nc_V {B : Int → Int32} {n p z k v r : Int} (h : ls_ B n p z) (hv : v = nv_ B n p k.toNat) (hz : 0 ≤ z) (hk : (k = z ∧ z ≤ 6) ∨ (k = 6 ∧ 6 ≤ z)) (hr : (v = 1096 ∧ r = 38) ∨ (v = 344 ∧ r = 60) ∨ (v = 209 ∧ r = 62) ∨ (v = 350345 ∧ r = 34) ∨ (v = 31771 ∧ r = 39) ∨ (¬ v = 1096 ∧ ¬ v = 344 ∧ ¬ v = 209 ∧ ¬ v = 350345 ∧ ¬ v = 31771 ∧ r = 0)) : r = nc_ B n p z := by
  have c1 : nv_ B n p 1 = cm_ B n p - 96 := by
    show 27 * 0 + cm_ B n (p + ((0 : Nat) : Int)) - 96 = _
    rw [show p + ((0 : Nat) : Int) = p by omega]
    omega
  have c2 : nv_ B n p 2 = 27 * nv_ B n p 1 + cm_ B n (p + 1) - 96 := rfl
  have c3 : nv_ B n p 3 = 27 * nv_ B n p 2 + cm_ B n (p + 2) - 96 := rfl
  have c4 : nv_ B n p 4 = 27 * nv_ B n p 3 + cm_ B n (p + 3) - 96 := rfl
  have c5 : nv_ B n p 5 = 27 * nv_ B n p 4 + cm_ B n (p + 4) - 96 := rfl
  have c6 : nv_ B n p 6 = 27 * nv_ B n p 5 + cm_ B n (p + 5) - 96 := rfl
  have l0 : 1 ≤ z → 97 ≤ cm_ B n p ∧ cm_ B n p ≤ 122 := fun q => by
    have l := h 0 (by omega) (by omega)
    rw [Int.add_zero] at l
    exact l
  have l1 : 2 ≤ z → 97 ≤ cm_ B n (p + 1) ∧ cm_ B n (p + 1) ≤ 122 := fun q => h 1 (by omega) (by omega)
  have l2 : 3 ≤ z → 97 ≤ cm_ B n (p + 2) ∧ cm_ B n (p + 2) ≤ 122 := fun q => h 2 (by omega) (by omega)
  have l3 : 4 ≤ z → 97 ≤ cm_ B n (p + 3) ∧ cm_ B n (p + 3) ≤ 122 := fun q => h 3 (by omega) (by omega)
  have l4 : 5 ≤ z → 97 ≤ cm_ B n (p + 4) ∧ cm_ B n (p + 4) ≤ 122 := fun q => h 4 (by omega) (by omega)
  have l5 : 6 ≤ z → 97 ≤ cm_ B n (p + 5) ∧ cm_ B n (p + 5) ≤ 122 := fun q => h 5 (by omega) (by omega)
  have zz : z = 0 ∨ z = 1 ∨ z = 2 ∨ z = 3 ∨ z = 4 ∨ z = 5 ∨ 6 ≤ z := by omega
  rcases zz with q | q | q | q | q | q | q
  · have e : v = 0 := by rw [hv, show k.toNat = 0 by (exact omg_9b35dc6088 hk q)]; rfl
    have f : nc_ B n p z = 0 := by
      unfold nc_
      rw [if_neg (by omega), if_neg (by omega), if_neg (by omega), if_neg (by omega), if_neg (by omega)]
    clear l0 l1 l2 l3 l4 l5 c1 c2 c3 c4 c5 c6
    omega
  · have e : v = nv_ B n p 1 := by rw [hv, show k.toNat = 1 by (exact omg_feeafdd60a hk q)]
    have b := l0 (by omega)
    have f : nc_ B n p z = 0 := by
      unfold nc_
      rw [if_neg (by omega), if_neg (by omega), if_neg (by omega), if_neg (by omega), if_neg (by omega)]
    clear l0 l1 l2 l3 l4 l5 c2 c3 c4 c5 c6
    omega
  · have e : v = nv_ B n p 2 := by rw [hv, show k.toNat = 2 by (exact omg_cf7e839a53 hk q)]
    have b := l0 (by omega)
    have b1 := l1 (by omega)
    clear l0 l1 l2 l3 l4 l5 c3 c4 c5 c6 hv hk h
    unfold nc_
    rw [if_neg (by omega)]
    rcases hr with w | w | w | w | w | w
    · omega
    · rw [if_pos (by (exact omg_535a05ac42 c1 c2 q e b1 w))]
      omega
    · rw [if_neg (by omega), if_pos (by omega)]
      omega
    · omega
    · omega
    · rw [if_neg (by omega), if_neg (by omega), if_neg (by omega), if_neg (by omega)]
      omega
  · have e : v = nv_ B n p 3 := by rw [hv, show k.toNat = 3 by (exact omg_9f77401627 hk q)]
    have b := l0 (by omega)
    have b1 := l1 (by omega)
    have b2 := l2 (by omega)
    clear l0 l1 l2 l3 l4 l5 c4 c5 c6 hv hk h
    unfold nc_
    rcases hr with w | w | w | w | w | w
    · rw [if_pos (by (exact omg_1ad0792003 c1 c2 c3 q e b1 b2 w))]
      omega
    · omega
    · omega
    · omega
    · omega
    · rw [if_neg (by omega), if_neg (by omega), if_neg (by omega), if_neg (by omega), if_neg (by omega)]
      omega
  · have e : v = nv_ B n p 4 := by rw [hv, show k.toNat = 4 by (exact omg_67a86a9f1f hk q)]
    have b := l0 (by omega)
    have b1 := l1 (by omega)
    have b2 := l2 (by omega)
    have b3 := l3 (by omega)
    clear l0 l1 l2 l3 l4 l5 c5 c6 hv hk h
    unfold nc_
    rw [if_neg (by omega), if_neg (by omega), if_neg (by omega)]
    rcases hr with w | w | w | w | w | w
    · omega
    · omega
    · omega
    · rw [if_pos (by (exact omg_9f272434c0 c1 c2 c3 c4 q e b1 b2 b3 w))]
      omega
    · rw [if_neg (by omega), if_pos (by (exact omg_7c2f854cde c1 c2 c3 c4 q e b1 b2 b3 w))]
      omega
    · rw [if_neg (by omega), if_neg (by omega)]
      omega
  · have e : v = nv_ B n p 5 := by rw [hv, show k.toNat = 5 by (exact omg_aba1d320db hk q)]
    have b := l0 (by omega)
    have b1 := l1 (by omega)
    have b2 := l2 (by omega)
    have b3 := l3 (by omega)
    have b4 := l4 (by omega)
    have f : nc_ B n p z = 0 := by
      unfold nc_
      rw [if_neg (by omega), if_neg (by omega), if_neg (by omega), if_neg (by omega), if_neg (by omega)]
    clear l0 l1 l2 l3 l4 l5 c6 hv hk h
    (exact omg_8456cbc76d hr c1 c2 c3 c4 c5 e b b1 b2 b3 b4 f)
  · have e : v = nv_ B n p 6 := by rw [hv, show k.toNat = 6 by (exact omg_034d1e5524 hk q)]
    have b := l0 (by omega)
    have b1 := l1 (by omega)
    have b2 := l2 (by omega)
    have b3 := l3 (by omega)
    have b4 := l4 (by omega)
    have b5 := l5 (by omega)
    have f : nc_ B n p z = 0 := by
      unfold nc_
      rw [if_neg (by omega), if_neg (by omega), if_neg (by omega), if_neg (by omega), if_neg (by omega)]
    clear l0 l1 l2 l3 l4 l5 hv hk h
    (exact omg_a2a1e2938a hr c2 c3 c4 c5 c6 e b1 b2 b3 b4 b5 f)
def nM6_ (B : Int → Int32) (n p : Int) : Option (Int × Int) := if nc_ B n p (lF B n p - p) = 0 then none else some (lF B n p, nc_ B n p (lF B n p - p))
def dg_ (B : Int → Int32) (n : Int) : Nat → Int → Int → Int × Int
  | 0, p, v => (p, v)
  | m + 1, p, v => if 48 ≤ cm_ B n p ∧ cm_ B n p ≤ 57 then dg_ B n m (p + 1) (10 * v + cm_ B n p - 48) else (p, v)
def nu_ (B : Int → Int32) (n p : Int) : Option (Int × Int) := if cm_ B n (p + 1) = 48 ∨ (dg_ B n 3 (p + 1) 0).2 < 32 ∨ 126 < (dg_ B n 3 (p + 1) 0).2 then none else some (dg_ B n 3 (p + 1) 0)
def rf_ (B : Int → Int32) (n p : Int) : Option (Int × Int) := (if cm_ B n p = 35 then nu_ B n p else nM6_ B n p).bind (fun o => (nd_ B n 59 o.1).map (fun q => (q, o.2)))
def or2_ (b a r : Int) : Option (Int × Int) := if b = 0 then some (a, r) else none
theorem or2_h {B : Int → Int32} {n b2 a2 b3 a3 r : Int} (hb : b3 = 0) (h : om_ b2 a2 = (om_ b3 a3).bind (nd_ B n 59)) : or2_ b2 a2 r = (nd_ B n 59 a3).map (fun q => (q, r)) := by
  rw [om_t hb] at h
  have h2 : om_ b2 a2 = nd_ B n 59 a3 := h
  rw [← h2]
  unfold or2_ om_
  by_cases c : b2 = 0
  · rw [if_pos c, if_pos c]
    rfl
  · rw [if_neg c, if_neg c]
    rfl
theorem or2_z {B : Int → Int32} {n b2 a2 b3 a3 r : Int} (hb : ¬ b3 = 0) (h : om_ b2 a2 = (om_ b3 a3).bind (nd_ B n 59)) : or2_ b2 a2 r = none := by
  rw [om_f hb] at h
  have c := om_n h
  unfold or2_
  rw [if_neg c]
theorem rO_m {B : Int → Int32} {n p z r b3 a3 b2 a2 : Int} (hc : ¬ cm_ B n p = 35) (hz : p + z = lF B n p) (hr : r = nc_ B n p z) (hq : (r = 0 ∧ ¬ b3 = 0) ∨ (¬ r = 0 ∧ b3 = 0 ∧ a3 = p + z)) (h : om_ b2 a2 = (om_ b3 a3).bind (nd_ B n 59)) : or2_ b2 a2 r = rf_ B n p := by
  unfold rf_
  rw [if_neg hc]
  unfold nM6_
  rw [← hz, show p + z - p = z by omega, ← hr]
  rcases hq with ⟨q1, q2⟩ | ⟨q1, q2, q3⟩
  · rw [if_pos q1, or2_z q2 h]
    rfl
  · rw [if_neg q1, or2_h q2 h, q3]
    rfl
theorem rO_n {B : Int → Int32} {n p r a5 b3 a3 b2 a2 : Int} (hc : cm_ B n p = 35) (hd : dg_ B n 3 (p + 1) 0 = (a5, r)) (hq : ((cm_ B n (p + 1) = 48 ∨ r < 32 ∨ 126 < r) ∧ ¬ b3 = 0) ∨ (¬ (cm_ B n (p + 1) = 48 ∨ r < 32 ∨ 126 < r) ∧ b3 = 0 ∧ a3 = a5)) (h : om_ b2 a2 = (om_ b3 a3).bind (nd_ B n 59)) : or2_ b2 a2 r = rf_ B n p := by
  unfold rf_
  rw [if_pos hc]
  unfold nu_
  rw [hd]
  dsimp only
  rcases hq with ⟨q1, q2⟩ | ⟨q1, q2, q3⟩
  · rw [if_pos q1, or2_z q2 h]
    rfl
  · rw [if_neg q1, or2_h q2 h, q3]
    rfl
theorem dg_s {B : Int → Int32} {n f a v a2 v2 : Int} {X : Int × Int} (h : dg_ B n (f + 3 - a).toNat a v = X) (h0 : a < f + 3) (c1 : 48 ≤ cm_ B n a) (c2 : cm_ B n a ≤ 57) (e1 : a2 = a + 1) (e2 : v2 = 10 * v + cm_ B n a - 48) : dg_ B n (f + 3 - a2).toNat a2 v2 = X := by
  rw [← h, show (f + 3 - a).toNat = (f + 3 - a2).toNat + 1 by omega]
  show _ = (if 48 ≤ cm_ B n a ∧ cm_ B n a ≤ 57 then dg_ B n (f + 3 - a2).toNat (a + 1) (10 * v + cm_ B n a - 48) else (a, v))
  rw [if_pos ⟨c1, c2⟩, e1, e2]
theorem dg_x {B : Int → Int32} {n f a v : Int} {X : Int × Int} (h : dg_ B n (f + 3 - a).toNat a v = X) (hx : ¬ (a < f + 3 ∧ 48 ≤ cm_ B n a ∧ cm_ B n a ≤ 57)) : X = (a, v) := by
  rw [← h]
  by_cases c : a < f + 3
  · rw [show (f + 3 - a).toNat = (f + 3 - a - 1).toNat + 1 by omega]
    show (if 48 ≤ cm_ B n a ∧ cm_ B n a ≤ 57 then dg_ B n (f + 3 - a - 1).toNat (a + 1) (10 * v + cm_ B n a - 48) else (a, v)) = _
    rw [if_neg (fun q => hx ⟨c, q⟩)]
  · rw [show (f + 3 - a).toNat = 0 by omega]
    rfl
theorem dg_up {B : Int → Int32} {n : Int} : ∀ (m : Nat) (p v : Int), p ≤ n → p ≤ (dg_ B n m p v).1 ∧ (dg_ B n m p v).1 ≤ n
  | 0, p, v, h => ⟨Int.le_refl _, h⟩
  | m + 1, p, v, h => by
    show p ≤ (if 48 ≤ cm_ B n p ∧ cm_ B n p ≤ 57 then dg_ B n m (p + 1) (10 * v + cm_ B n p - 48) else (p, v)).1 ∧ (if 48 ≤ cm_ B n p ∧ cm_ B n p ≤ 57 then dg_ B n m (p + 1) (10 * v + cm_ B n p - 48) else (p, v)).1 ≤ n
    by_cases c : 48 ≤ cm_ B n p ∧ cm_ B n p ≤ 57
    · have e := cm_in (B := B) (n := n) (j := p) (by omega)
      have ih := dg_up (B := B) (n := n) m (p + 1) (10 * v + cm_ B n p - 48) (by omega)
      rw [if_pos c]
      omega
    · rw [if_neg c]
      exact ⟨Int.le_refl _, h⟩
theorem rf_up {B : Int → Int32} {n p : Int} {o : Int × Int} (h : rf_ B n p = some o) (hp : p ≤ n) : (p + 1 ≤ o.1 ∧ o.1 ≤ n) ∧ (32 ≤ o.2 ∧ o.2 ≤ 126) := by
  have key : ∀ (x : Int × Int), p ≤ x.1 → (32 ≤ x.2 ∧ x.2 ≤ 126) → (nd_ B n 59 x.1).map (fun q => (q, x.2)) = some o → (p + 1 ≤ o.1 ∧ o.1 ≤ n) ∧ (32 ≤ o.2 ∧ o.2 ≤ 126) := fun x x0 x1 e => by
    by_cases c : cm_ B n x.1 = 59
    · rw [nd_y c] at e
      have l := cm_in (B := B) (n := n) (j := x.1) (by omega)
      have e2 : (x.1 + 1, x.2) = o := Option.some.inj e
      rw [← e2]
      dsimp only
      omega
    · rw [nd_x c] at e
      exact absurd e (by simp)
  unfold rf_ at h
  by_cases c : cm_ B n p = 35
  · rw [if_pos c] at h
    unfold nu_ at h
    have l := cm_in (B := B) (n := n) (j := p) (by omega)
    by_cases c2 : cm_ B n (p + 1) = 48 ∨ (dg_ B n 3 (p + 1) 0).2 < 32 ∨ 126 < (dg_ B n 3 (p + 1) 0).2
    · rw [if_pos c2] at h
      exact absurd h (by simp)
    · rw [if_neg c2] at h
      have d := dg_up (B := B) 3 (p + 1) 0 (show p + 1 ≤ n by omega)
      exact key _ (by omega) (by omega) h
  · rw [if_neg c] at h
    unfold nM6_ at h
    have s := lF_le (B := B) hp
    have r := nc_rng B n p (lF B n p - p)
    by_cases c2 : nc_ B n p (lF B n p - p) = 0
    · rw [if_pos c2] at h
      exact absurd h (by simp)
    · rw [if_neg c2] at h
      exact key (lF B n p, nc_ B n p (lF B n p - p)) s.1 (by dsimp only; omega) h
/-- a value, up to its quote -/
def vl_ (B : Int → Int32) (n q : Int) : Nat → Int → Int → (Int → Int) → Option (Int × Int × (Int → Int))
  | 0, _, _, _ => none
  | m + 1, p, z, W => if cm_ B n p = q then some (p, z, W) else if cm_ B n p < 32 ∨ 126 < cm_ B n p ∨ cm_ B n p = 60 then none else if cm_ B n p = 38 then (rf_ B n (p + 1)).bind (fun o => vl_ B n q m o.1 (z + 1) (fun j => if j = z then o.2 else W j)) else vl_ B n q m (p + 1) (z + 1) (fun j => if j = z then cm_ B n p else W j)
def vG (B : Int → Int32) (n q p z : Int) (W : Int → Int) : Option (Int × Int × (Int → Int)) := vl_ B n q ((n - p).toNat + 1) p z W
theorem vl_st {B : Int → Int32} {n q : Int} : ∀ (m k : Nat) (p z : Int) (W : Int → Int), p ≤ n → n - p < m → n - p < k → vl_ B n q m p z W = vl_ B n q k p z W
  | 0, _, p, _, _, h, h1, _ => absurd h1 (by omega)
  | m + 1, 0, p, _, _, h, _, h2 => absurd h2 (by omega)
  | m + 1, k + 1, p, z, W, h, h1, h2 => by
    show (if cm_ B n p = q then some (p, z, W) else if cm_ B n p < 32 ∨ 126 < cm_ B n p ∨ cm_ B n p = 60 then none else if cm_ B n p = 38 then (rf_ B n (p + 1)).bind (fun o => vl_ B n q m o.1 (z + 1) (fun j => if j = z then o.2 else W j)) else vl_ B n q m (p + 1) (z + 1) (fun j => if j = z then cm_ B n p else W j)) = (if cm_ B n p = q then some (p, z, W) else if cm_ B n p < 32 ∨ 126 < cm_ B n p ∨ cm_ B n p = 60 then none else if cm_ B n p = 38 then (rf_ B n (p + 1)).bind (fun o => vl_ B n q k o.1 (z + 1) (fun j => if j = z then o.2 else W j)) else vl_ B n q k (p + 1) (z + 1) (fun j => if j = z then cm_ B n p else W j))
    by_cases c1 : cm_ B n p = q
    · rw [if_pos c1, if_pos c1]
    · rw [if_neg c1, if_neg c1]
      by_cases c2 : cm_ B n p < 32 ∨ 126 < cm_ B n p ∨ cm_ B n p = 60
      · rw [if_pos c2, if_pos c2]
      · rw [if_neg c2, if_neg c2]
        have e := cm_in (B := B) (n := n) (j := p) (by omega)
        by_cases c3 : cm_ B n p = 38
        · rw [if_pos c3, if_pos c3]
          cases e2 : rf_ B n (p + 1) with
          | none => rfl
          | some o =>
            have u := (rf_up e2 (by omega)).1
            exact vl_st m k o.1 (z + 1) _ (by omega) (by omega) (by omega)
        · rw [if_neg c3, if_neg c3]
          exact vl_st m k (p + 1) (z + 1) _ (by omega) (by omega) (by omega)
theorem vG_e {B : Int → Int32} {n q p z : Int} {W : Int → Int} : vG B n q p z W = (if cm_ B n p = q then some (p, z, W) else if cm_ B n p < 32 ∨ 126 < cm_ B n p ∨ cm_ B n p = 60 then none else if cm_ B n p = 38 then (rf_ B n (p + 1)).bind (fun o => vl_ B n q (n - p).toNat o.1 (z + 1) (fun j => if j = z then o.2 else W j)) else vl_ B n q (n - p).toNat (p + 1) (z + 1) (fun j => if j = z then cm_ B n p else W j)) := rfl
theorem vG_q {B : Int → Int32} {n q p z : Int} {W : Int → Int} (h : cm_ B n p = q) : vG B n q p z W = some (p, z, W) := by
  rw [vG_e, if_pos h]
theorem vG_x {B : Int → Int32} {n q p z : Int} {W : Int → Int} (h : ¬ cm_ B n p = q) (h2 : cm_ B n p < 32 ∨ 126 < cm_ B n p ∨ cm_ B n p = 60) : vG B n q p z W = none := by
  rw [vG_e, if_neg h, if_pos h2]
theorem vG_f {B : Int → Int32} {n q p z : Int} {W : Int → Int} (h : ¬ cm_ B n p = q) (h3 : cm_ B n p = 38) (e : rf_ B n (p + 1) = none) : vG B n q p z W = none := by
  rw [vG_e, if_neg h, if_neg (by omega), if_pos h3, e]
  rfl
theorem vG_a {B : Int → Int32} {n q p z : Int} {W : Int → Int} {o : Int × Int} (h : ¬ cm_ B n p = q) (h3 : cm_ B n p = 38) (e : rf_ B n (p + 1) = some o) : vG B n q p z W = vG B n q o.1 (z + 1) (fun j => if j = z then o.2 else W j) := by
  have e1 := cm_in (B := B) (n := n) (j := p) (by omega)
  have u := (rf_up e (by omega)).1
  rw [vG_e, if_neg h, if_neg (by omega), if_pos h3, e]
  exact vl_st _ _ o.1 (z + 1) _ (by omega) (by omega) (by omega)
theorem vG_c {B : Int → Int32} {n q p z : Int} {W : Int → Int} (h : ¬ cm_ B n p = q) (h2 : ¬ (cm_ B n p < 32 ∨ 126 < cm_ B n p ∨ cm_ B n p = 60)) (h3 : ¬ cm_ B n p = 38) : vG B n q p z W = vG B n q (p + 1) (z + 1) (fun j => if j = z then cm_ B n p else W j) := by
  have e1 := cm_in (B := B) (n := n) (j := p) (by omega)
  rw [vG_e, if_neg h, if_neg h2, if_neg h3]
  exact vl_st _ _ (p + 1) (z + 1) _ (by omega) (by omega) (by omega)
/-- a value read, and while it is read: x bytes of it are kept -/
def vR_ (x : Int) (T : Option (Int × Int × (Int → Int))) (b a z : Int) (g : Nat → Int32) : Prop := (b = 0 ∧ ∃ W : Int → Int, T = some (a, z, W) ∧ ∀ j : Int, 0 ≤ j → j < z → j < x → gx g j = W j) ∨ (¬ b = 0 ∧ T = none)
def vL_ (B : Int → Int32) (n q x : Int) (T : Option (Int × Int × (Int → Int))) (b a z : Int) (g : Nat → Int32) : Prop := (b = 0 ∧ ∃ W : Int → Int, vG B n q a z W = T ∧ ∀ j : Int, 0 ≤ j → j < z → j < x → gx g j = W j) ∨ (¬ b = 0 ∧ T = none)
theorem vL_o {B : Int → Int32} {n q x b a z : Int} {g : Nat → Int32} {T : Option (Int × Int × (Int → Int))} (h : vL_ B n q x T b a z g) (hb : b = 0) : ∃ W : Int → Int, vG B n q a z W = T ∧ ∀ j : Int, 0 ≤ j → j < z → j < x → gx g j = W j := by
  rcases h with ⟨_, k⟩ | ⟨k, _⟩
  · exact k
  · exact absurd hb k
theorem vL_c {B : Int → Int32} {n q x b a z b2 a2 z2 : Int} {g g2 : Nat → Int32} {T : Option (Int × Int × (Int → Int))} (h : vL_ B n q x T b a z g) (hb : b = 0) (h1 : ¬ cm_ B n a = q) (h2 : ¬ (cm_ B n a < 32 ∨ 126 < cm_ B n a ∨ cm_ B n a = 60)) (h3 : ¬ cm_ B n a = 38) (eb : b2 = 0) (ea : a2 = a + 1) (ez : z2 = z + 1) (hg : ∀ j : Int, 0 ≤ j → j < z + 1 → j < x → gx g2 j = if j = z then cm_ B n a else gx g j) : vL_ B n q x T b2 a2 z2 g2 := by
  obtain ⟨W, w1, w2⟩ := vL_o h hb
  refine Or.inl ⟨eb, fun j => if j = z then cm_ B n a else W j, ?_, fun j j0 j1 j2 => ?_⟩
  · rw [ea, ez, ← vG_c h1 h2 h3, w1]
  · show gx g2 j = if j = z then cm_ B n a else W j
    rw [hg j j0 (by omega) j2]
    by_cases c : j = z
    · rw [if_pos c, if_pos c]
    · rw [if_neg c, if_neg c, w2 j j0 (by omega) j2]
theorem vL_r {B : Int → Int32} {n q x b a z b2 a2 z2 r p : Int} {g g2 : Nat → Int32} {T : Option (Int × Int × (Int → Int))} (h : vL_ B n q x T b a z g) (hb : b = 0) (h1 : ¬ cm_ B n a = q) (h3 : cm_ B n a = 38) (hp : p = a + 1) (hr : or2_ b2 a2 r = rf_ B n p) (ez : z2 = z + 1) (hg : 32 ≤ r → r ≤ 126 → ∀ j : Int, 0 ≤ j → j < z + 1 → j < x → gx g2 j = if j = z then r else gx g j) : vL_ B n q x T b2 a2 z2 g2 := by
  obtain ⟨W, w1, w2⟩ := vL_o h hb
  rw [hp] at hr
  by_cases c : b2 = 0
  · unfold or2_ at hr
    rw [if_pos c] at hr
    have l := cm_in (B := B) (n := n) (j := a) (by omega)
    have u := (rf_up hr.symm (by omega)).2
    dsimp only at u
    refine Or.inl ⟨c, fun j => if j = z then r else W j, ?_, fun j j0 j1 j2 => ?_⟩
    · rw [ez, ← w1, vG_a h1 h3 hr.symm]
    · show gx g2 j = if j = z then r else W j
      rw [hg u.1 u.2 j j0 (by omega) j2]
      by_cases c : j = z
      · rw [if_pos c, if_pos c]
      · rw [if_neg c, if_neg c, w2 j j0 (by omega) j2]
  · unfold or2_ at hr
    rw [if_neg c] at hr
    exact Or.inr ⟨c, by rw [← w1, vG_f h1 h3 hr.symm]⟩
theorem vL_x {B : Int → Int32} {n q x b a z b2 a2 z2 : Int} {g g2 : Nat → Int32} {T : Option (Int × Int × (Int → Int))} (h : vL_ B n q x T b a z g) (hb : b = 0) (h1 : ¬ cm_ B n a = q) (h2 : cm_ B n a < 32 ∨ 126 < cm_ B n a ∨ cm_ B n a = 60) (hb2 : ¬ b2 = 0) : vL_ B n q x T b2 a2 z2 g2 := by
  obtain ⟨W, w1, w2⟩ := vL_o h hb
  exact Or.inr ⟨hb2, by rw [← w1, vG_x h1 h2]⟩
theorem vL_e {B : Int → Int32} {n q x b a z : Int} {g : Nat → Int32} {T : Option (Int × Int × (Int → Int))} (h : vL_ B n q x T b a z g) (hx : ¬ b = 0 ∨ cm_ B n a = q) : vR_ x T b a z g := by
  rcases h with ⟨k0, W, k1, k2⟩ | ⟨k0, k1⟩
  · refine Or.inl ⟨k0, W, ?_, k2⟩
    rcases hx with c | c
    · exact absurd k0 c
    · rw [← k1, vG_q c]
  · exact Or.inr ⟨k0, k1⟩
def vq_ (B : Int → Int32) (n p : Int) : Option (Int × Int × (Int → Int)) := if cm_ B n p = 34 ∨ cm_ B n p = 39 then vG B n (cm_ B n p) (p + 1) 0 (fun _ => 0) else none
theorem vL_0 {B : Int → Int32} {n q x b a z p : Int} {g : Nat → Int32} (hq : (b = 0 ∧ (q = 34 ∨ q = 39) ∧ a = p + 1) ∨ (¬ b = 0 ∧ ¬ (q = 34 ∨ q = 39))) (e : q = cm_ B n p) (hz : z = 0) : vL_ B n q x (vq_ B n p) b a z g := by
  unfold vq_
  rcases hq with ⟨h1, h2, h3⟩ | ⟨h1, h2⟩
  · rw [e] at h2
    rw [if_pos h2]
    exact Or.inl ⟨h1, fun _ => 0, by rw [h3, hz, e], fun j j0 j1 => absurd j1 (by omega)⟩
  · rw [e] at h2
    rw [if_neg h2]
    exact Or.inr ⟨h1, rfl⟩
/-- an attribute: where it ends, which it is, its value -/
def wh_ (B : Int → Int32) (n had p : Int) : Int := if lF B n p - p = 2 ∧ cm_ B n p = 105 ∧ cm_ B n (p + 1) = 100 ∧ had % 2 = 0 then 1 else if lF B n p - p = 2 ∧ cm_ B n p = 116 ∧ cm_ B n (p + 1) = 111 ∧ had < 2 then 2 else 0
noncomputable def va_ (w : Int) (o : Int × Int × (Int → Int)) : Option (Int × Int × Int × (Int → Int)) := @ite _ ((w = 1 ∧ 1 ≤ o.2.1 ∧ o.2.1 ≤ 8) ∨ (¬ w = 1 ∧ iA_ o.2.2 0 o.2.1)) (Classical.propDecidable _) (some (o.1 + 1, w, o.2.1, o.2.2)) none
theorem va_y {w a z : Int} {W : Int → Int} (h : (w = 1 ∧ 1 ≤ z ∧ z ≤ 8) ∨ (¬ w = 1 ∧ iA_ W 0 z)) : va_ w (a, z, W) = some (a + 1, w, z, W) := by
  unfold va_
  rw [if_pos h]
theorem va_n {w a z : Int} {W : Int → Int} (h : ¬ ((w = 1 ∧ 1 ≤ z ∧ z ≤ 8) ∨ (¬ w = 1 ∧ iA_ W 0 z))) : va_ w (a, z, W) = none := by
  unfold va_
  rw [if_neg h]
noncomputable def at_F (B : Int → Int32) (n had p : Int) : Option (Int × Int × Int × (Int → Int)) := if wh_ B n had p = 0 then none else (nd_ B n 61 (lF B n p)).bind (fun q => (vq_ B n q).bind (va_ (wh_ B n had p)))
theorem wh_3 {B : Int → Int32} {n had p : Int} (h : had = 3) : wh_ B n had p = 0 := by
  unfold wh_
  rw [if_neg (by omega), if_neg (by omega)]
theorem wh_rng (B : Int → Int32) (n had p : Int) : (wh_ B n had p = 0) ∨ (wh_ B n had p = 1 ∧ had % 2 = 0 ∧ lF B n p = p + 2) ∨ (wh_ B n had p = 2 ∧ had < 2 ∧ lF B n p = p + 2) := by
  unfold wh_
  (repeat' split) <;> omega
theorem vG_up {B : Int → Int32} {n q : Int} : ∀ (m : Nat) (p z : Int) (W : Int → Int) (o : Int × Int × (Int → Int)), vl_ B n q m p z W = some o → p ≤ n → 0 ≤ q → p ≤ o.1 ∧ o.1 < n ∧ z ≤ o.2.1 ∧ o.2.1 - z ≤ o.1 - p
  | 0, p, z, W, o, h, _, _ => absurd h (by simp [vl_])
  | m + 1, p, z, W, o, h, hp, hq => by
    have h2 : (if cm_ B n p = q then some (p, z, W) else if cm_ B n p < 32 ∨ 126 < cm_ B n p ∨ cm_ B n p = 60 then none else if cm_ B n p = 38 then (rf_ B n (p + 1)).bind (fun o => vl_ B n q m o.1 (z + 1) (fun j => if j = z then o.2 else W j)) else vl_ B n q m (p + 1) (z + 1) (fun j => if j = z then cm_ B n p else W j)) = some o := h
    by_cases c1 : cm_ B n p = q
    · rw [if_pos c1] at h2
      have e := Option.some.inj h2
      have l := cm_in (B := B) (n := n) (j := p) (by omega)
      rw [← e]
      dsimp only
      omega
    · rw [if_neg c1] at h2
      by_cases c2 : cm_ B n p < 32 ∨ 126 < cm_ B n p ∨ cm_ B n p = 60
      · rw [if_pos c2] at h2
        exact absurd h2 (by simp)
      · rw [if_neg c2] at h2
        have l := cm_in (B := B) (n := n) (j := p) (by omega)
        by_cases c3 : cm_ B n p = 38
        · rw [if_pos c3] at h2
          cases e2 : rf_ B n (p + 1) with
          | none =>
            rw [e2] at h2
            exact absurd h2 (by simp)
          | some x =>
            have u := (rf_up e2 (by omega)).1
            rw [e2] at h2
            have ih := vG_up m x.1 (z + 1) _ o h2 (by omega) hq
            omega
        · rw [if_neg c3] at h2
          have ih := vG_up m (p + 1) (z + 1) _ o h2 (by omega) hq
          omega
theorem vq_up {B : Int → Int32} {n p : Int} {o : Int × Int × (Int → Int)} (h : vq_ B n p = some o) : p + 1 ≤ o.1 ∧ o.1 < n ∧ 0 ≤ o.2.1 ∧ o.2.1 ≤ o.1 - (p + 1) := by
  unfold vq_ at h
  by_cases c : cm_ B n p = 34 ∨ cm_ B n p = 39
  · rw [if_pos c] at h
    have l := cm_in (B := B) (n := n) (j := p) (by omega)
    have u := vG_up _ _ _ _ _ h (by omega) (by omega)
    omega
  · rw [if_neg c] at h
    exact absurd h (by simp)
theorem at_up {B : Int → Int32} {n had p a w z : Int} {W : Int → Int} (h : at_F B n had p = some (a, w, z, W)) : (w = 1 ∧ had % 2 = 0 ∧ 1 ≤ z ∧ z ≤ 8 ∨ w = 2 ∧ had < 2 ∧ iA_ W 0 z) ∧ p + 6 ≤ a ∧ a ≤ n := by
  unfold at_F at h
  have r := wh_rng B n had p
  by_cases c : wh_ B n had p = 0
  · rw [if_pos c] at h
    exact absurd h (by simp)
  · rw [if_neg c] at h
    by_cases c2 : cm_ B n (lF B n p) = 61
    · rw [nd_y c2] at h
      have h2 : (vq_ B n (lF B n p + 1)).bind (va_ (wh_ B n had p)) = some (a, w, z, W) := h
      cases e : vq_ B n (lF B n p + 1) with
      | none =>
        rw [e] at h2
        exact absurd h2 (by simp)
      | some o =>
        obtain ⟨x, y, Y⟩ := o
        have u := vq_up e
        dsimp only at u
        rw [e] at h2
        have h3 : va_ (wh_ B n had p) (x, y, Y) = some (a, w, z, W) := h2
        by_cases c3 : (wh_ B n had p = 1 ∧ 1 ≤ y ∧ y ≤ 8) ∨ (¬ wh_ B n had p = 1 ∧ iA_ Y 0 y)
        · rw [va_y c3] at h3
          have e3 := Option.some.inj h3
          injection e3 with f1 f2
          injection f2 with f2 f3
          injection f3 with f3 f4
          subst f1 f3 f4
          rcases c3 with q | q
          · exact ⟨Or.inl (by omega), by omega, by omega⟩
          · have y1 := q.2.1
            exact ⟨Or.inr ⟨by omega, by omega, q.2⟩, by omega, by omega⟩
        · rw [va_n c3] at h3
          exact absurd h3 (by simp)
    · rw [nd_x c2] at h
      exact absurd h (by simp)
/-- a relation: how many bytes its id has, which; its goal's -/
abbrev RE_ := Int × (Int → Int) × Int × (Int → Int)
def rp_ (R : RE_) (w z : Int) (W : Int → Int) : RE_ := if w = 1 then (z, W, R.2.2.1, R.2.2.2) else (R.1, R.2.1, z, W)
def fu_ (had : Int) : Nat := if had = 0 then 3 else if had = 3 then 1 else 2
noncomputable def el_ (B : Int → Int32) (n : Int) : Nat → Int → RE_ → Int → Int → Option (Int × Int × RE_)
  | 0, _, _, _, _ => none
  | m + 1, had, R, p, sp => if cm_ B n p = 47 ∨ cm_ B n p = 62 then some (p, had, R) else if sp = 0 then none else (at_F B n had p).bind (fun o => el_ B n m (had + o.2.1) (rp_ R o.2.1 o.2.2.1 o.2.2.2) (sF B n o.1) (if o.1 < sF B n o.1 then 1 else 0))
theorem el_q {B : Int → Int32} {n had p sp : Int} {R : RE_} {m : Nat} (h : cm_ B n p = 47 ∨ cm_ B n p = 62) : el_ B n (m + 1) had R p sp = some (p, had, R) := if_pos h
theorem el_0 {B : Int → Int32} {n had p sp : Int} {R : RE_} {m : Nat} (h : ¬ (cm_ B n p = 47 ∨ cm_ B n p = 62)) (hs : sp = 0) : el_ B n (m + 1) had R p sp = none := by
  show (if cm_ B n p = 47 ∨ cm_ B n p = 62 then some (p, had, R) else if sp = 0 then none else _) = none
  rw [if_neg h, if_pos hs]
theorem el_f {B : Int → Int32} {n had p sp : Int} {R : RE_} {m : Nat} (h : ¬ (cm_ B n p = 47 ∨ cm_ B n p = 62)) (e : at_F B n had p = none) : el_ B n (m + 1) had R p sp = none := by
  show (if cm_ B n p = 47 ∨ cm_ B n p = 62 then some (p, had, R) else if sp = 0 then none else (at_F B n had p).bind (fun o => el_ B n m (had + o.2.1) (rp_ R o.2.1 o.2.2.1 o.2.2.2) (sF B n o.1) (if o.1 < sF B n o.1 then 1 else 0))) = none
  rw [if_neg h, e]
  by_cases c : sp = 0
  · rw [if_pos c]
  · rw [if_neg c]
    rfl
theorem el_s {B : Int → Int32} {n had p sp a w z : Int} {W : Int → Int} {R : RE_} {m : Nat} (h : ¬ (cm_ B n p = 47 ∨ cm_ B n p = 62)) (hs : ¬ sp = 0) (e : at_F B n had p = some (a, w, z, W)) : el_ B n (m + 1) had R p sp = el_ B n m (had + w) (rp_ R w z W) (sF B n a) (if a < sF B n a then 1 else 0) := by
  show (if cm_ B n p = 47 ∨ cm_ B n p = 62 then some (p, had, R) else if sp = 0 then none else (at_F B n had p).bind (fun o => el_ B n m (had + o.2.1) (rp_ R o.2.1 o.2.2.1 o.2.2.2) (sF B n o.1) (if o.1 < sF B n o.1 then 1 else 0))) = _
  rw [if_neg h, if_neg hs, e]
  rfl
def tE_ : Int → Int := tx_ [60, 114, 101, 108]
def tF_ : Int → Int := tx_ [60, 47, 114, 101, 108]
def tG_ : Int → Int := tx_ [47, 62]
def tH_ : Int → Int := tx_ [60, 114, 101, 108, 115]
def tI_ : Int → Int := tx_ [60, 47, 114, 101, 108, 115]
def RZ_ : RE_ := (0, fun _ => 0, 0, fun _ => 0)
/-- an element's end, behind its attributes -/
def ee_ (B : Int → Int32) (n : Int) (o : Int × Int × RE_) : Option (Int × RE_) := if ¬ o.2.1 = 3 then none else (if cm_ B n o.1 = 47 then wk_ B n tG_ 2 o.1 else ((nd_ B n 62 o.1).bind (gF B n)).bind (cl_ B n tF_ 5)).map (fun e => (e, o.2.2))
noncomputable def eA_ (B : Int → Int32) (n q : Int) : Option (Int × Int × RE_) := el_ B n 3 0 RZ_ (sF B n q) (if q < sF B n q then 1 else 0)
noncomputable def eF_ (B : Int → Int32) (n p : Int) : Option (Int × RE_) := (wk_ B n tE_ 4 p).bind (fun q => (eA_ B n q).bind (ee_ B n))
def cnt2_ (h : Int) : Int := if h = 0 then 0 else if h = 3 then 2 else 1
def PQ6_ (h : Int) (R : RE_) : Prop := (h % 2 = 1 → 1 ≤ R.1 ∧ R.1 ≤ 8) ∧ (2 ≤ h → iA_ R.2.2.2 0 R.2.2.1)
theorem PQ6_s {h w z : Int} {W : Int → Int} {R : RE_} (k : PQ6_ h R) (h0 : 0 ≤ h) (h3 : h ≤ 3) (c : w = 1 ∧ h % 2 = 0 ∧ 1 ≤ z ∧ z ≤ 8 ∨ w = 2 ∧ h < 2 ∧ iA_ W 0 z) : PQ6_ (h + w) (rp_ R w z W) ∧ 0 ≤ h + w ∧ h + w ≤ 3 ∧ cnt2_ (h + w) = cnt2_ h + 1 := by
  have e : h = 0 ∨ h = 1 ∨ h = 2 ∨ h = 3 := by omega
  unfold rp_ cnt2_
  rcases c with ⟨c1, c2, c3, c4⟩ | ⟨c1, c2, c3⟩
  · rw [if_pos c1, c1]
    refine ⟨⟨fun _ => ⟨c3, c4⟩, fun q => k.2 (by omega)⟩, by omega, by omega, ?_⟩
    (repeat' split) <;> omega
  · rw [if_neg (by omega), c1]
    refine ⟨⟨fun q => k.1 (by (exact omg_fa71de776b q)), fun _ => c3⟩, by omega, by omega, ?_⟩
    (repeat' split) <;> omega
theorem el_up {B : Int → Int32} {n : Int} : ∀ (m : Nat) (had : Int) (R : RE_) (p sp : Int) (a h : Int) (R' : RE_), el_ B n m had R p sp = some (a, h, R') → p ≤ n → 0 ≤ had → had ≤ 3 → PQ6_ had R → (sp = 0 ∨ sp = 1) → a < n ∧ p ≤ a ∧ 0 ≤ h ∧ h ≤ 3 ∧ PQ6_ h R' ∧ p - sp + 7 * (cnt2_ h - cnt2_ had) ≤ a
  | 0, _, _, _, _, _, _, _, e, _, _, _, _, _ => absurd e (by simp [el_])
  | m + 1, had, R, p, sp, a, h, R', e, hp, h0, h3, k, hs => by
    by_cases c : cm_ B n p = 47 ∨ cm_ B n p = 62
    · rw [el_q c] at e
      have f := Option.some.inj e
      injection f with f1 f2
      injection f2 with f2 f3
      subst f1 f2 f3
      have l := cm_in (B := B) (n := n) (j := p) (by omega)
      exact ⟨l, Int.le_refl _, h0, h3, k, by omega⟩
    · by_cases c2 : sp = 0
      · rw [el_0 c c2] at e
        exact absurd e (by simp)
      · cases e2 : at_F B n had p with
        | none =>
          rw [el_f c e2] at e
          exact absurd e (by simp)
        | some o =>
          obtain ⟨x, w, z, W⟩ := o
          rw [el_s c c2 e2] at e
          have u := at_up e2
          have s := sF_le (B := B) u.2.2
          obtain ⟨q1, q2, q3, q4⟩ := PQ6_s (R := R) k h0 h3 u.1
          have ih := el_up m (had + w) (rp_ R w z W) (sF B n x) (if x < sF B n x then 1 else 0) a h R' e s.2 q2 q3 q1 (by split <;> omega)
          obtain ⟨i1, i2, i3, i4, i5, i6⟩ := ih
          refine ⟨i1, by omega, i3, i4, i5, ?_⟩
          split at i6 <;> omega
theorem wk_up5 {B : Int → Int32} {n p q : Int} {T : List Int} {m : Nat} (h : ∀ c ∈ T, 0 ≤ c) (e : wk_ B n (tx_ T) m p = some q) (hp : p ≤ n) : q = p + m ∧ q ≤ n := wk_up m e (fun j _ _ => tx_nn h j) hp
theorem cl_up {B : Int → Int32} {n p q : Int} {T : List Int} {m : Nat} (h : ∀ c ∈ T, 0 ≤ c) (e : cl_ B n (tx_ T) m p = some q) (hp : p ≤ n) : p + m + 1 ≤ q ∧ q ≤ n := by
  unfold cl_ at e
  cases c : wk_ B n (tx_ T) m p with
  | none =>
    rw [c] at e
    exact absurd e (by simp)
  | some r =>
    have u := wk_up5 h c hp
    rw [c] at e
    have e2 : nd_ B n 62 (sF B n r) = some q := e
    have s := sF_le (B := B) u.2
    by_cases w : cm_ B n (sF B n r) = 62
    · rw [nd_y w] at e2
      have e3 := Option.some.inj e2
      have l := cm_in (B := B) (n := n) (j := sF B n r) (by omega)
      omega
    · rw [nd_x w] at e2
      exact absurd e2 (by simp)
theorem ee_up {B : Int → Int32} {n a h e : Int} {R R' : RE_} (k : ee_ B n (a, h, R) = some (e, R')) (ha : a ≤ n) : h = 3 ∧ R' = R ∧ a + 2 ≤ e ∧ e ≤ n := by
  unfold ee_ at k
  dsimp only at k
  by_cases c : h = 3
  · rw [if_neg (by omega)] at k
    by_cases c2 : cm_ B n a = 47
    · rw [if_pos c2] at k
      cases w : wk_ B n tG_ 2 a with
      | none =>
        rw [w] at k
        exact absurd k (by simp)
      | some r =>
        have u := wk_up5 (by decide) w ha
        rw [w] at k
        have k2 : (r, R) = (e, R') := Option.some.inj k
        injection k2 with k3 k4
        exact ⟨c, k4.symm, by omega, by omega⟩
    · rw [if_neg c2] at k
      by_cases c3 : cm_ B n a = 62
      · rw [nd_y c3] at k
        have l := cm_in (B := B) (n := n) (j := a) (by omega)
        cases w : gF B n (a + 1) with
        | none =>
          have k2 : (((gF B n (a + 1)).bind (cl_ B n tF_ 5)).map (fun e => (e, R))) = some (e, R') := k
          rw [w] at k2
          exact absurd k2 (by simp)
        | some g =>
          have k2 : (((gF B n (a + 1)).bind (cl_ B n tF_ 5)).map (fun e => (e, R))) = some (e, R') := k
          rw [w] at k2
          have ug := gF_up (show a + 1 ≤ n by omega) w
          have k3 : (cl_ B n tF_ 5 g).map (fun e => (e, R)) = some (e, R') := k2
          cases w2 : cl_ B n tF_ 5 g with
          | none =>
            rw [w2] at k3
            exact absurd k3 (by simp)
          | some r =>
            have u := cl_up (by decide) w2 ug.2
            rw [w2] at k3
            have k4 : (r, R) = (e, R') := Option.some.inj k3
            injection k4 with k5 k6
            exact ⟨c, k6.symm, by omega, by omega⟩
      · rw [nd_x c3] at k
        exact absurd k (by simp)
  · rw [if_pos (by omega)] at k
    exact absurd k (by simp)
theorem eA_up {B : Int → Int32} {n q a h : Int} {R : RE_} (e : eA_ B n q = some (a, h, R)) (hq : q ≤ n) : a < n ∧ q ≤ a ∧ PQ6_ h R ∧ (h = 3 → q + 14 ≤ a) := by
  have s := sF_le (B := B) hq
  unfold eA_ at e
  obtain ⟨i1, i2, i3, i4, i5, i6⟩ := el_up 3 0 RZ_ (sF B n q) (if q < sF B n q then 1 else 0) a h R e s.2 (by omega) (by omega) ⟨fun w => absurd w (by decide), fun w => absurd w (by decide)⟩ (by split <;> omega)
  refine ⟨i1, by omega, i5, fun w => ?_⟩
  have c0 : cnt2_ 0 = 0 := rfl
  have c3 : cnt2_ 3 = 2 := rfl
  rw [w, c0, c3] at i6
  split at i6 <;> omega
theorem eF_up {B : Int → Int32} {n p e : Int} {R : RE_} (k : eF_ B n p = some (e, R)) (hp : p ≤ n) : p + 20 ≤ e ∧ e ≤ n ∧ PQ6_ 3 R := by
  unfold eF_ at k
  cases w : wk_ B n tE_ 4 p with
  | none =>
    rw [w] at k
    exact absurd k (by simp)
  | some q =>
    have u := wk_up5 (by decide) w hp
    rw [w] at k
    have k2 : (eA_ B n q).bind (ee_ B n) = some (e, R) := k
    cases w2 : eA_ B n q with
    | none =>
      rw [w2] at k2
      exact absurd k2 (by simp)
    | some o =>
      obtain ⟨a, h, S⟩ := o
      have v := eA_up w2 u.2
      rw [w2] at k2
      have k3 : ee_ B n (a, h, S) = some (e, R) := k2
      have y := ee_up k3 (by omega)
      have z := v.2.2.2 y.1
      have x := v.2.2.1
      rw [y.1, ← y.2.1] at x
      exact ⟨by omega, by omega, x⟩
/-- the elements, up to the closing -/
noncomputable def es_ (B : Int → Int32) (n : Int) : Nat → Int → List RE_ → Option (Int × List RE_)
  | 0, _, _ => none
  | m + 1, p, L => if cm_ B n p = 60 ∧ cm_ B n (p + 1) = 47 then some (p, L) else (eF_ B n p).bind (fun o => (gF B n o.1).bind (fun g => es_ B n m g (L ++ [o.2])))
noncomputable def eS (B : Int → Int32) (n p : Int) (L : List RE_) : Option (Int × List RE_) := es_ B n ((n - p).toNat + 1) p L
theorem es_st {B : Int → Int32} {n : Int} : ∀ (m k : Nat) (p : Int) (L : List RE_), p ≤ n → n - p < m → n - p < k → es_ B n m p L = es_ B n k p L
  | 0, _, p, _, h, h1, _ => absurd h1 (by omega)
  | m + 1, 0, p, _, h, _, h2 => absurd h2 (by omega)
  | m + 1, k + 1, p, L, h, h1, h2 => by
    show (if cm_ B n p = 60 ∧ cm_ B n (p + 1) = 47 then some (p, L) else (eF_ B n p).bind (fun o => (gF B n o.1).bind (fun g => es_ B n m g (L ++ [o.2])))) = (if cm_ B n p = 60 ∧ cm_ B n (p + 1) = 47 then some (p, L) else (eF_ B n p).bind (fun o => (gF B n o.1).bind (fun g => es_ B n k g (L ++ [o.2]))))
    by_cases c : cm_ B n p = 60 ∧ cm_ B n (p + 1) = 47
    · rw [if_pos c, if_pos c]
    · rw [if_neg c, if_neg c]
      cases e : eF_ B n p with
      | none => rfl
      | some o =>
        obtain ⟨x, R⟩ := o
        have u := eF_up e h
        show (gF B n x).bind (fun g => es_ B n m g (L ++ [R])) = (gF B n x).bind (fun g => es_ B n k g (L ++ [R]))
        cases e2 : gF B n x with
        | none => rfl
        | some g =>
          have v := gF_up u.2.1 e2
          exact es_st m k g _ v.2 (by omega) (by omega)
theorem eS_q {B : Int → Int32} {n p : Int} {L : List RE_} (h : cm_ B n p = 60 ∧ cm_ B n (p + 1) = 47) : eS B n p L = some (p, L) := if_pos h
theorem eS_f {B : Int → Int32} {n p : Int} {L : List RE_} (h : ¬ (cm_ B n p = 60 ∧ cm_ B n (p + 1) = 47)) (e : eF_ B n p = none) : eS B n p L = none := by
  show (if cm_ B n p = 60 ∧ cm_ B n (p + 1) = 47 then some (p, L) else (eF_ B n p).bind (fun o => (gF B n o.1).bind (fun g => es_ B n (n - p).toNat g (L ++ [o.2])))) = none
  rw [if_neg h, e]
  rfl
theorem eS_g {B : Int → Int32} {n p x : Int} {R : RE_} {L : List RE_} (h : ¬ (cm_ B n p = 60 ∧ cm_ B n (p + 1) = 47)) (e : eF_ B n p = some (x, R)) (e2 : gF B n x = none) : eS B n p L = none := by
  show (if cm_ B n p = 60 ∧ cm_ B n (p + 1) = 47 then some (p, L) else (eF_ B n p).bind (fun o => (gF B n o.1).bind (fun g => es_ B n (n - p).toNat g (L ++ [o.2])))) = none
  rw [if_neg h, e]
  show (gF B n x).bind (fun g => es_ B n (n - p).toNat g (L ++ [R])) = none
  rw [e2]
  rfl
theorem eS_s {B : Int → Int32} {n p x g : Int} {R : RE_} {L : List RE_} (hp : p ≤ n) (h : ¬ (cm_ B n p = 60 ∧ cm_ B n (p + 1) = 47)) (e : eF_ B n p = some (x, R)) (e2 : gF B n x = some g) : eS B n p L = eS B n g (L ++ [R]) := by
  have u := eF_up e hp
  have v := gF_up u.2.1 e2
  show (if cm_ B n p = 60 ∧ cm_ B n (p + 1) = 47 then some (p, L) else (eF_ B n p).bind (fun o => (gF B n o.1).bind (fun g => es_ B n (n - p).toNat g (L ++ [o.2])))) = _
  rw [if_neg h, e]
  show (gF B n x).bind (fun g => es_ B n (n - p).toNat g (L ++ [R])) = _
  rw [e2]
  exact es_st _ _ g _ v.2 (by omega) (by omega)
/-- the whole of it -/
def tA6_ (B : Int → Int32) (n : Int) (L : List RE_) (p : Int) : Option (List RE_) := (gF B n p).bind (fun g => if g = n then some L else none)
def hs_ (B : Int → Int32) (n : Int) : Option Int := ((gF B n 0).bind (wk_ B n tH_ 5)).map (sF B n)
noncomputable def mT6_ (B : Int → Int32) (n : Int) (o : Int × List RE_) : Option (List RE_) := (cl_ B n tI_ 6 o.1).bind (tA6_ B n o.2)
noncomputable def mk_ (B : Int → Int32) (n : Int) : Option (List RE_) := (hs_ B n).bind (fun s => if cm_ B n s = 47 then (wk_ B n tG_ 2 s).bind (tA6_ B n []) else ((nd_ B n 62 s).bind (gF B n)).bind (fun g => (eS B n g []).bind (mT6_ B n)))
/-- it looks at no byte but the first n -/
theorem nd_g {B B' : Int → Int32} {n : Int} (h : ∀ j : Int, cm_ B n j = cm_ B' n j) : nd_ B n = nd_ B' n := by
  funext c p
  unfold nd_
  rw [h]
theorem wk_g {B B' : Int → Int32} {n : Int} (h : ∀ j : Int, cm_ B n j = cm_ B' n j) : wk_ B n = wk_ B' n := by
  funext t m p
  induction m with
  | zero => rfl
  | succ m ih =>
    show (wk_ B n t m p).bind (nd_ B n (t m)) = (wk_ B' n t m p).bind (nd_ B' n (t m))
    rw [ih, nd_g h]
theorem rn_g {B B' : Int → Int32} {n : Int} {Q : Int → Bool} (h : ∀ j : Int, cm_ B n j = cm_ B' n j) : ∀ (m : Nat) (p : Int), rn_ Q B n m p = rn_ Q B' n m p
  | 0, _ => rfl
  | m + 1, p => by
    show (if Q (cm_ B n p) = true then rn_ Q B n m (p + 1) else p) = (if Q (cm_ B' n p) = true then rn_ Q B' n m (p + 1) else p)
    rw [h, rn_g h m]
theorem sF_g {B B' : Int → Int32} {n : Int} (h : ∀ j : Int, cm_ B n j = cm_ B' n j) : sF B n = sF B' n := by
  funext p
  exact rn_g h _ p
theorem lF_g {B B' : Int → Int32} {n : Int} (h : ∀ j : Int, cm_ B n j = cm_ B' n j) : lF B n = lF B' n := by
  funext p
  exact rn_g h _ p
theorem dh_g {B B' : Int → Int32} {n : Int} (h : ∀ j : Int, cm_ B n j = cm_ B' n j) : ∀ (m : Nat) (p : Int), dh_ B n m p = dh_ B' n m p
  | 0, _ => rfl
  | m + 1, p => by
    show (if cm_ B n p = 45 ∧ cm_ B n (p + 1) = 45 then p else dh_ B n m (p + 1)) = (if cm_ B' n p = 45 ∧ cm_ B' n (p + 1) = 45 then p else dh_ B' n m (p + 1))
    rw [h, h, dh_g h m]
theorem dD_g {B B' : Int → Int32} {n : Int} (h : ∀ j : Int, cm_ B n j = cm_ B' n j) : dD_ B n = dD_ B' n := by
  funext p
  show wk_ B n tD_ 3 (dh_ B n (n - p).toNat p) = wk_ B' n tD_ 3 (dh_ B' n (n - p).toNat p)
  rw [wk_g h, dh_g h]
theorem cF_g {B B' : Int → Int32} {n : Int} (h : ∀ j : Int, cm_ B n j = cm_ B' n j) : cF B n = cF B' n := by
  funext p
  unfold cF
  rw [wk_g h, dD_g h]
theorem ga_g {B B' : Int → Int32} {n : Int} (h : ∀ j : Int, cm_ B n j = cm_ B' n j) : ∀ (m : Nat), ga_ B n m = ga_ B' n m
  | 0 => rfl
  | m + 1 => by
    funext p
    show (if cm_ B n (sF B n p) = 60 ∧ cm_ B n (sF B n p + 1) = 33 then (cF B n (sF B n p)).bind (ga_ B n m) else some (sF B n p)) = (if cm_ B' n (sF B' n p) = 60 ∧ cm_ B' n (sF B' n p + 1) = 33 then (cF B' n (sF B' n p)).bind (ga_ B' n m) else some (sF B' n p))
    rw [ga_g h m, sF_g h, cF_g h, h, h]
theorem gF_g {B B' : Int → Int32} {n : Int} (h : ∀ j : Int, cm_ B n j = cm_ B' n j) : gF B n = gF B' n := by
  funext p
  unfold gF
  rw [ga_g h]
theorem cl_g {B B' : Int → Int32} {n : Int} (h : ∀ j : Int, cm_ B n j = cm_ B' n j) : cl_ B n = cl_ B' n := by
  funext t m p
  unfold cl_
  rw [wk_g h, sF_g h, nd_g h]
theorem dg_g {B B' : Int → Int32} {n : Int} (h : ∀ j : Int, cm_ B n j = cm_ B' n j) : ∀ (m : Nat) (p v : Int), dg_ B n m p v = dg_ B' n m p v
  | 0, _, _ => rfl
  | m + 1, p, v => by
    show (if 48 ≤ cm_ B n p ∧ cm_ B n p ≤ 57 then dg_ B n m (p + 1) (10 * v + cm_ B n p - 48) else (p, v)) = (if 48 ≤ cm_ B' n p ∧ cm_ B' n p ≤ 57 then dg_ B' n m (p + 1) (10 * v + cm_ B' n p - 48) else (p, v))
    rw [h, dg_g h m]
theorem nc_g {B B' : Int → Int32} {n : Int} (h : ∀ j : Int, cm_ B n j = cm_ B' n j) (p z : Int) : nc_ B n p z = nc_ B' n p z := by
  unfold nc_
  rw [h p, h (p + 1), h (p + 2), h (p + 3)]
theorem rf_g {B B' : Int → Int32} {n : Int} (h : ∀ j : Int, cm_ B n j = cm_ B' n j) : rf_ B n = rf_ B' n := by
  funext p
  unfold rf_ nu_ nM6_
  rw [nd_g h, lF_g h, nc_g h, dg_g h, h p, h (p + 1)]
theorem vl_g {B B' : Int → Int32} {n q : Int} (h : ∀ j : Int, cm_ B n j = cm_ B' n j) : ∀ (m : Nat) (p z : Int) (W : Int → Int), vl_ B n q m p z W = vl_ B' n q m p z W
  | 0, _, _, _ => rfl
  | m + 1, p, z, W => by
    show (if cm_ B n p = q then some (p, z, W) else if cm_ B n p < 32 ∨ 126 < cm_ B n p ∨ cm_ B n p = 60 then none else if cm_ B n p = 38 then (rf_ B n (p + 1)).bind (fun o => vl_ B n q m o.1 (z + 1) (fun j => if j = z then o.2 else W j)) else vl_ B n q m (p + 1) (z + 1) (fun j => if j = z then cm_ B n p else W j)) = (if cm_ B' n p = q then some (p, z, W) else if cm_ B' n p < 32 ∨ 126 < cm_ B' n p ∨ cm_ B' n p = 60 then none else if cm_ B' n p = 38 then (rf_ B' n (p + 1)).bind (fun o => vl_ B' n q m o.1 (z + 1) (fun j => if j = z then o.2 else W j)) else vl_ B' n q m (p + 1) (z + 1) (fun j => if j = z then cm_ B' n p else W j))
    have e : (fun (o : Int × Int) => vl_ B n q m o.1 (z + 1) (fun j => if j = z then o.2 else W j)) = (fun (o : Int × Int) => vl_ B' n q m o.1 (z + 1) (fun j => if j = z then o.2 else W j)) := by
      funext o
      exact vl_g h m _ _ _
    rw [e, vl_g h m, h p, rf_g h]
theorem vq_g {B B' : Int → Int32} {n : Int} (h : ∀ j : Int, cm_ B n j = cm_ B' n j) : vq_ B n = vq_ B' n := by
  funext p
  unfold vq_ vG
  rw [vl_g h, h p]
theorem wh_g {B B' : Int → Int32} {n : Int} (h : ∀ j : Int, cm_ B n j = cm_ B' n j) (d p : Int) : wh_ B n d p = wh_ B' n d p := by
  unfold wh_
  rw [lF_g h, h p, h (p + 1)]
theorem at_g {B B' : Int → Int32} {n : Int} (h : ∀ j : Int, cm_ B n j = cm_ B' n j) : at_F B n = at_F B' n := by
  funext d p
  unfold at_F
  rw [wh_g h, nd_g h, lF_g h, vq_g h]
theorem el_g {B B' : Int → Int32} {n : Int} (h : ∀ j : Int, cm_ B n j = cm_ B' n j) : ∀ (m : Nat) (d : Int) (R : RE_) (p s : Int), el_ B n m d R p s = el_ B' n m d R p s
  | 0, _, _, _, _ => rfl
  | m + 1, d, R, p, s => by
    show (if cm_ B n p = 47 ∨ cm_ B n p = 62 then some (p, d, R) else if s = 0 then none else (at_F B n d p).bind (fun o => el_ B n m (d + o.2.1) (rp_ R o.2.1 o.2.2.1 o.2.2.2) (sF B n o.1) (if o.1 < sF B n o.1 then 1 else 0))) = (if cm_ B' n p = 47 ∨ cm_ B' n p = 62 then some (p, d, R) else if s = 0 then none else (at_F B' n d p).bind (fun o => el_ B' n m (d + o.2.1) (rp_ R o.2.1 o.2.2.1 o.2.2.2) (sF B' n o.1) (if o.1 < sF B' n o.1 then 1 else 0)))
    have e : (fun (o : Int × Int × Int × (Int → Int)) => el_ B n m (d + o.2.1) (rp_ R o.2.1 o.2.2.1 o.2.2.2) (sF B n o.1) (if o.1 < sF B n o.1 then 1 else 0)) = (fun (o : Int × Int × Int × (Int → Int)) => el_ B' n m (d + o.2.1) (rp_ R o.2.1 o.2.2.1 o.2.2.2) (sF B' n o.1) (if o.1 < sF B' n o.1 then 1 else 0)) := by
      funext o
      rw [el_g h m, sF_g h]
    rw [e, h p, at_g h]
theorem ee_g {B B' : Int → Int32} {n : Int} (h : ∀ j : Int, cm_ B n j = cm_ B' n j) : ee_ B n = ee_ B' n := by
  funext o
  unfold ee_
  rw [wk_g h, nd_g h, gF_g h, cl_g h, h o.1]
theorem eF_g {B B' : Int → Int32} {n : Int} (h : ∀ j : Int, cm_ B n j = cm_ B' n j) : eF_ B n = eF_ B' n := by
  funext p
  have e : (fun q => (eA_ B n q).bind (ee_ B n)) = (fun q => (eA_ B' n q).bind (ee_ B' n)) := by
    funext q
    unfold eA_
    rw [el_g h, sF_g h, ee_g h]
  unfold eF_
  rw [wk_g h, e]
theorem es_g {B B' : Int → Int32} {n : Int} (h : ∀ j : Int, cm_ B n j = cm_ B' n j) : ∀ (m : Nat) (p : Int) (L : List RE_), es_ B n m p L = es_ B' n m p L
  | 0, _, _ => rfl
  | m + 1, p, L => by
    show (if cm_ B n p = 60 ∧ cm_ B n (p + 1) = 47 then some (p, L) else (eF_ B n p).bind (fun o => (gF B n o.1).bind (fun g => es_ B n m g (L ++ [o.2])))) = (if cm_ B' n p = 60 ∧ cm_ B' n (p + 1) = 47 then some (p, L) else (eF_ B' n p).bind (fun o => (gF B' n o.1).bind (fun g => es_ B' n m g (L ++ [o.2]))))
    have e : (fun (o : Int × RE_) => (gF B n o.1).bind (fun g => es_ B n m g (L ++ [o.2]))) = (fun (o : Int × RE_) => (gF B' n o.1).bind (fun g => es_ B' n m g (L ++ [o.2]))) := by
      funext o
      rw [gF_g h]
      congr 1
      funext g
      exact es_g h m _ _
    rw [e, h p, h (p + 1), eF_g h]
theorem tA6_g {B B' : Int → Int32} {n : Int} (h : ∀ j : Int, cm_ B n j = cm_ B' n j) : tA6_ B n = tA6_ B' n := by
  funext L p
  unfold tA6_
  rw [gF_g h]
theorem mT6_g {B B' : Int → Int32} {n : Int} (h : ∀ j : Int, cm_ B n j = cm_ B' n j) : mT6_ B n = mT6_ B' n := by
  funext o
  unfold mT6_
  rw [cl_g h, tA6_g h]
theorem mk_g {B B' : Int → Int32} {n : Int} (h : ∀ j : Int, 0 ≤ j → j < n → B j = B' j) : mk_ B n = mk_ B' n := by
  have c := cm_g h
  have e : (fun s => if cm_ B n s = 47 then (wk_ B n tG_ 2 s).bind (tA6_ B n []) else ((nd_ B n 62 s).bind (gF B n)).bind (fun g => (eS B n g []).bind (mT6_ B n))) = (fun s => if cm_ B' n s = 47 then (wk_ B' n tG_ 2 s).bind (tA6_ B' n []) else ((nd_ B' n 62 s).bind (gF B' n)).bind (fun g => (eS B' n g []).bind (mT6_ B' n))) := by
    funext s
    have e2 : (fun g => (eS B n g []).bind (mT6_ B n)) = (fun g => (eS B' n g []).bind (mT6_ B' n)) := by
      funext g
      unfold eS
      rw [es_g c, mT6_g c]
    rw [e2, c s, wk_g c, tA6_g c, nd_g c, gF_g c]
  unfold mk_ hs_
  rw [e, gF_g c, wk_g c, sF_g c]
