/-! ROWS OF NUMBERS -/
theorem omg_6b2edaf66e {x0 : Int} {x1 : Int} {x2 : Int} {x3 : Int} {x4 : Int} (a0 : (((x0 = (0 : Int)) ∧ ((0 : Int) ≤ x1)) ∨ ((¬ (x0 = (0 : Int))) ∧ (x1 = x2)))) (a1 : (¬ (x0 = (0 : Int)))) (a2 : (((x3 = (0 : Int)) ∧ ((0 : Int) ≤ x4)) ∨ ((¬ (x3 = (0 : Int))) ∧ (x4 = x1)))) : (((x3 = (0 : Int)) ∧ ((0 : Int) ≤ x4)) ∨ ((¬ (x3 = (0 : Int))) ∧ (x4 = x2))) := by omega
theorem omg_5a3444c68b {x0 : Int} {x1 : Int} {x2 : Int} {x3 : Int} {x4 : Int} {x5 : Int} {x6 : Int} (a0 : (x0 = (x1 + ((2 : Int) * x2)))) (a1 : ((x1 = (0 : Int)) ∨ (x1 = (1 : Int)))) (a2 : (((x0 % (2 : Int)) = (0 : Int)) ∧ (((x3 - x4) = (2 : Int)) ∧ ((x5 = (105 : Int)) ∧ (x6 = (100 : Int)))))) : (x1 = (0 : Int)) := by omega
theorem omg_ab4f633451 {x0 : Int} {x1 : Int} {x2 : Int} (a0 : (x0 = (x1 + ((2 : Int) * x2)))) (a1 : ((x1 = (0 : Int)) ∨ (x1 = (1 : Int)))) (a2 : ((x2 = (0 : Int)) ∨ (x2 = (1 : Int)))) : (x0 ≤ (3 : Int)) := by omega
theorem omg_bdd4e6d0b7 {x0 : Int} {x1 : Int} {x2 : Int} (a0 : (x0 = (x1 + ((2 : Int) * x2)))) (a1 : ((x1 = (0 : Int)) ∨ (x1 = (1 : Int)))) (a2 : ((x2 = (0 : Int)) ∨ (x2 = (1 : Int)))) : ((0 : Int) ≤ x0) := by omega
theorem omg_f83adc4345 {x0 : Int} {x1 : Int} {x2 : Int} {x3 : Int} (a0 : (x0 = (x1 + ((2 : Int) * x2)))) (a1 : ((x1 = (0 : Int)) ∨ (x1 = (1 : Int)))) (a2 : (((x3 = (1 : Int)) ∧ ((x0 % (2 : Int)) = (0 : Int))) ∨ ((x3 = (2 : Int)) ∧ (x0 < (2 : Int))))) (a3 : (x3 = (1 : Int))) : (x1 = (0 : Int)) := by omega
theorem omg_42195a8493 {x0 : Int} {x1 : Int} (a0 : ((x0 = (0 : Int)) ∨ (x0 = (1 : Int)))) (a1 : (x1 = x0)) : ((x1 = (0 : Int)) ∨ (x1 = (1 : Int))) := by omega
theorem omg_abd6fee92d {x0 : Int} {x1 : Int} {x2 : Int} {x3 : Int} (a0 : (x0 = (x1 + ((2 : Int) * x2)))) (a1 : ((x1 = (0 : Int)) ∨ (x1 = (1 : Int)))) (a2 : ((x2 = (0 : Int)) ∨ (x2 = (1 : Int)))) (a3 : (((x3 = (1 : Int)) ∧ ((x0 % (2 : Int)) = (0 : Int))) ∨ ((x3 = (2 : Int)) ∧ (x0 < (2 : Int))))) (a4 : (x3 = (2 : Int))) : (x2 = (0 : Int)) := by omega
/-! its markup -/
def mB_ (f : Nat → Int32) (o : Int) : Int → Int32 := fun j => gr f (o + j)
def ft_ (r f g : Int) : Prop := (r = 0 ∧ 0 ≤ g) ∨ (¬ r = 0 ∧ g = f)
theorem ft_c {r f g r2 g2 : Int} (h : ft_ r f g) (hr : ¬ r = 0) (h2 : ft_ r2 g g2) : ft_ r2 f g2 := by
  unfold ft_ at *
  (exact omg_6b2edaf66e h hr h2)
theorem ft_0 {r f g r2 : Int} (h : ft_ r f g) (hr : r = 0) (h2 : r2 = 0) : ft_ r2 f g := by
  unfold ft_ at *
  omega
theorem ft_1 {r f g r2 : Int} (h : ft_ r f g) (hr : ¬ r = 0) (h2 : ¬ r2 = 0) : ft_ r2 f g := by
  unfold ft_ at *
  omega
theorem ft_e {r f g : Int} (h : ¬ r = 0) (e : g = f) : ft_ r f g := Or.inr ⟨h, e⟩
theorem ft_f {r f g : Int} (h : r = 0) (e : 0 ≤ g) : ft_ r f g := Or.inl ⟨h, e⟩
/-- the strings -/
theorem sw6 {B : Int → Int32} {n p : Int} {k : Nat} (T : List Int) (h : (st_byts.getD k []).map Int32.toInt = T) (hl : (st_len k).toNat = T.length) : wk_ B n (st_c k) (st_len k).toNat p = wk_ B n (tx_ T) T.length p := by
  rw [hl]
  refine wk_c _ (fun j j0 j1 => ?_)
  unfold st_c tx_
  rw [← h]
  generalize st_byts.getD k [] = S
  rw [List.getD_eq_getElem?_getD, List.getD_eq_getElem?_getD, List.getElem?_map]
  cases c : S[j.toNat]? with
  | none => rfl
  | some x => rfl
theorem sc6 {k : Nat} (T : List Int) (h : (st_byts.getD k []).map Int32.toInt = T) (j : Int) : st_c k j = tx_ T j := by
  unfold st_c tx_
  rw [← h]
  generalize st_byts.getD k [] = S
  rw [List.getD_eq_getElem?_getD, List.getD_eq_getElem?_getD, List.getElem?_map]
  cases c : S[j.toNat]? with
  | none => rfl
  | some x => rfl
theorem wk_y {B : Int → Int32} {n p q q2 k k2 : Int} {t : Int → Int} (h : wk_ B n t k.toNat p = some q) (hc : cm_ B n q = t k) (h0 : 0 ≤ k) (hk : k2 = k + 1) (e : q2 = q + 1) : wk_ B n t k2.toNat p = some q2 := by
  obtain ⟨m, hm⟩ : ∃ m : Nat, k = m := ⟨k.toNat, by omega⟩
  rw [show k2.toNat = m + 1 by omega]
  show (wk_ B n t m p).bind (nd_ B n (t m)) = some q2
  rw [show k.toNat = m by omega] at h
  rw [h, ← hm]
  show nd_ B n (t k) q = some q2
  rw [nd_y hc, e]
theorem wk_z {B : Int → Int32} {n p : Int} {t : Int → Int} {k : Nat} (h : wk_ B n t k p = none) : ∀ d : Nat, wk_ B n t (k + d) p = none
  | 0 => h
  | d + 1 => by
    show (wk_ B n t (k + d) p).bind (nd_ B n (t ((k + d : Nat) : Int))) = none
    rw [wk_z h d]
    rfl
theorem wk_no {B : Int → Int32} {n p q k m : Int} {t : Int → Int} (h : wk_ B n t k.toNat p = some q) (hc : ¬ cm_ B n q = t k) (h0 : 0 ≤ k) (h1 : k < m) : wk_ B n t m.toNat p = none := by
  obtain ⟨x, hx⟩ : ∃ x : Nat, k = x := ⟨k.toNat, by omega⟩
  have e : wk_ B n t (x + 1) p = none := by
    show (wk_ B n t x p).bind (nd_ B n (t x)) = none
    rw [show k.toNat = x by omega] at h
    rw [h, ← hx]
    exact nd_x hc
  have e2 := wk_z e (m.toNat - (x + 1))
  rw [show x + 1 + (m.toNat - (x + 1)) = m.toNat by omega] at e2
  exact e2
theorem wk_1 (B : Int → Int32) (n p c : Int) : wk_ B n (tx_ [c]) 1 p = nd_ B n c p := rfl
/-- a text between two places -/
def tm6_ (B : Int → Int32) (n p q : Int) (t : Int → Int) (m : Int) : Prop := q - p = m ∧ ∀ j : Int, 0 ≤ j → j < m → cm_ B n (p + j) = t j
def tL_ (B : Int → Int32) (n p q : Int) (t : Int → Int) (m s k : Int) : Prop := (s = 1 ∧ q - p = m ∧ ∀ j : Int, 0 ≤ j → j < k → cm_ B n (p + j) = t j) ∨ (s = 0 ∧ ¬ tm6_ B n p q t m)
theorem tL_0 {B : Int → Int32} {n p q m s k : Int} {t : Int → Int} (h : (s = 1 ∧ q - p = m) ∨ (s = 0 ∧ ¬ q - p = m)) (hk : k = 0) : tL_ B n p q t m s k := by
  rcases h with ⟨h1, h2⟩ | ⟨h1, h2⟩
  · exact Or.inl ⟨h1, h2, fun j j0 j1 => absurd j1 (by omega)⟩
  · exact Or.inr ⟨h1, fun w => h2 w.1⟩
theorem tL_s {B : Int → Int32} {n p q m s k s2 k2 : Int} {t : Int → Int} (h : tL_ B n p q t m s k) (hs : ¬ s = 0) (hm : k < m) (h0 : 0 ≤ k) (hc : (s2 = 1 ∧ cm_ B n (p + k) = t k) ∨ (s2 = 0 ∧ ¬ cm_ B n (p + k) = t k)) (hk : k2 = k + 1) : tL_ B n p q t m s2 k2 := by
  rcases h with ⟨h1, h2, h3⟩ | ⟨h1, _⟩
  · rcases hc with ⟨c1, c2⟩ | ⟨c1, c2⟩
    · refine Or.inl ⟨c1, h2, fun j j0 j1 => ?_⟩
      by_cases w : j = k
      · rw [w]
        exact c2
      · exact h3 j j0 (by omega)
    · exact Or.inr ⟨c1, fun w => c2 (w.2 k h0 hm)⟩
  · exact absurd h1 hs
theorem tL_e {B : Int → Int32} {n p q m s k : Int} {t : Int → Int} (h : tL_ B n p q t m s k) (hk : s = 0 ∨ m ≤ k) : s = 1 ↔ tm6_ B n p q t m := by
  rcases h with ⟨h1, h2, h3⟩ | ⟨h1, h2⟩
  · exact ⟨fun _ => ⟨h2, fun j j0 j1 => h3 j j0 (by omega)⟩, fun _ => h1⟩
  · exact ⟨fun w => absurd w (by omega), fun w => absurd w h2⟩
theorem tm_2 {B : Int → Int32} {n p q x y : Int} {k : Nat} (h : (st_byts.getD k []).map Int32.toInt = [x, y]) (hl : st_len k = 2) : tm6_ B n p q (st_c k) (st_len k) ↔ (q - p = 2 ∧ cm_ B n p = x ∧ cm_ B n (p + 1) = y) := by
  unfold tm6_
  rw [hl]
  have e0 := sc6 _ h 0
  have e1 := sc6 _ h 1
  have f0 : tx_ [x, y] 0 = x := rfl
  have f1 : tx_ [x, y] 1 = y := rfl
  constructor
  · intro w
    have w0 := w.2 0 (by omega) (by omega)
    have w1 := w.2 1 (by omega) (by omega)
    rw [Int.add_zero] at w0
    exact ⟨w.1, by rw [w0, e0, f0], by rw [w1, e1, f1]⟩
  · intro w
    refine ⟨w.1, fun j j0 j1 => ?_⟩
    by_cases c : j = 0
    · rw [c, Int.add_zero, e0, f0]
      exact w.2.1
    · rw [show j = 1 by omega, e1, f1]
      exact w.2.2
theorem tm_3 {B : Int → Int32} {n p q x y z : Int} {k : Nat} (h : (st_byts.getD k []).map Int32.toInt = [x, y, z]) (hl : st_len k = 3) : tm6_ B n p q (st_c k) (st_len k) ↔ (q - p = 3 ∧ cm_ B n p = x ∧ cm_ B n (p + 1) = y ∧ cm_ B n (p + 2) = z) := by
  unfold tm6_
  rw [hl]
  have e0 := sc6 _ h 0
  have e1 := sc6 _ h 1
  have e2 := sc6 _ h 2
  have f0 : tx_ [x, y, z] 0 = x := rfl
  have f1 : tx_ [x, y, z] 1 = y := rfl
  have f2 : tx_ [x, y, z] 2 = z := rfl
  constructor
  · intro w
    have w0 := w.2 0 (by omega) (by omega)
    have w1 := w.2 1 (by omega) (by omega)
    have w2 := w.2 2 (by omega) (by omega)
    rw [Int.add_zero] at w0
    exact ⟨w.1, by rw [w0, e0, f0], by rw [w1, e1, f1], by rw [w2, e2, f2]⟩
  · intro w
    refine ⟨w.1, fun j j0 j1 => ?_⟩
    by_cases c : j = 0
    · rw [c, Int.add_zero, e0, f0]
      exact w.2.1
    · by_cases d : j = 1
      · rw [d, e1, f1]
        exact w.2.2.1
      · rw [show j = 2 by omega, e2, f2]
        exact w.2.2.2
theorem tm_4 {B : Int → Int32} {n p q x y z u : Int} {k : Nat} (h : (st_byts.getD k []).map Int32.toInt = [x, y, z, u]) (hl : st_len k = 4) : tm6_ B n p q (st_c k) (st_len k) ↔ (q - p = 4 ∧ cm_ B n p = x ∧ cm_ B n (p + 1) = y ∧ cm_ B n (p + 2) = z ∧ cm_ B n (p + 3) = u) := by
  unfold tm6_
  rw [hl]
  have e0 := sc6 _ h 0
  have e1 := sc6 _ h 1
  have e2 := sc6 _ h 2
  have e3 := sc6 _ h 3
  have f0 : tx_ [x, y, z, u] 0 = x := rfl
  have f1 : tx_ [x, y, z, u] 1 = y := rfl
  have f2 : tx_ [x, y, z, u] 2 = z := rfl
  have f3 : tx_ [x, y, z, u] 3 = u := rfl
  constructor
  · intro w
    have w0 := w.2 0 (by omega) (by omega)
    have w1 := w.2 1 (by omega) (by omega)
    have w2 := w.2 2 (by omega) (by omega)
    have w3 := w.2 3 (by omega) (by omega)
    rw [Int.add_zero] at w0
    exact ⟨w.1, by rw [w0, e0, f0], by rw [w1, e1, f1], by rw [w2, e2, f2], by rw [w3, e3, f3]⟩
  · intro w
    refine ⟨w.1, fun j j0 j1 => ?_⟩
    by_cases c : j = 0
    · rw [c, Int.add_zero, e0, f0]
      exact w.2.1
    · by_cases d : j = 1
      · rw [d, e1, f1]
        exact w.2.2.1
      · by_cases e : j = 2
        · rw [e, e2, f2]
          exact w.2.2.2.1
        · rw [show j = 3 by omega, e3, f3]
          exact w.2.2.2.2
/-- its steps -/
theorem c6_0 {B : Int → Int32} {n p r a : Int} (h : oy_ r a = wk_ B n tC_ 4 p) (hr : ¬ r = 0) : dD_ B n a = cF B n p := by
  rw [oy_t hr] at h
  unfold cF
  rw [← h]
  rfl
theorem c6_x {B : Int → Int32} {n q r2 a2 : Int} {X : Option Int} (h : dD_ B n q = X) (hq : ¬ q < n ∨ (cm_ B n q = 45 ∧ cm_ B n (q + 1) = 45)) (h2 : oy_ r2 a2 = wk_ B n tD_ 3 q) : oy_ r2 a2 = X := by
  rw [h2, ← h]
  unfold dD_
  rcases hq with c | c
  · rw [dF_o c]
  · rw [dF_y c.1 c.2]
theorem c6_n {B : Int → Int32} {n p r a r2 a2 : Int} (h : oy_ r a = wk_ B n tC_ 4 p) (hr : r = 0) (h2 : r2 = 0) : oy_ r2 a2 = cF B n p := by
  rw [oy_f hr] at h
  unfold cF
  rw [← h, oy_f h2]
  rfl
theorem c6_d {B : Int → Int32} {n q q2 : Int} {X : Option Int} (h : dD_ B n q = X) (hq : q < n) (hc : ¬ (cm_ B n q = 45 ∧ cm_ B n (q + 1) = 45)) (e : q2 = q + 1) : dD_ B n q2 = X := by
  rw [← h]
  unfold dD_
  rw [dF_n hq hc, e]
theorem g6_y {B : Int → Int32} {n a s : Int} {X : Option Int} (h : gF B n a = X) (hs : s = sF B n a) (ha : a ≤ n) (hc : ¬ (cm_ B n s = 60 ∧ cm_ B n (s + 1) = 33)) {r : Int} (hr : ¬ r = 0) : oy_ r s = X := by
  rw [← h, gF_e ha, ← hs, gG_n hc, oy_t hr]
theorem g6_n {B : Int → Int32} {n a s r b r2 b2 : Int} {X : Option Int} (h : gF B n a = X) (hs : s = sF B n a) (ha : a ≤ n) (c1 : cm_ B n s = 60) (c2 : cm_ B n (s + 1) = 33) (hc : oy_ r b = cF B n s) (hr : r = 0) (h2 : r2 = 0) : oy_ r2 b2 = X := by
  rw [oy_f hr] at hc
  rw [← h, gF_e ha, ← hs, gG_y c1 c2, ← hc, oy_f h2]
  rfl
theorem g6_s {B : Int → Int32} {n a s r b : Int} {X : Option Int} (h : gF B n a = X) (hs : s = sF B n a) (ha : a ≤ n) (c1 : cm_ B n s = 60) (c2 : cm_ B n (s + 1) = 33) (hc : oy_ r b = cF B n s) (hr : ¬ r = 0) : gF B n b = X := by
  rw [oy_t hr] at hc
  rw [← h, gF_e ha, ← hs, gG_y c1 c2, ← hc]
  rfl
theorem cl6_ {B : Int → Int32} {n p r a s r2 a2 : Int} {t : Int → Int} {m : Nat} (h : oy_ r a = wk_ B n t m p) (hr : ¬ r = 0) (hs : s = sF B n a) (h2 : oy_ r2 a2 = nd_ B n 62 s) : oy_ r2 a2 = cl_ B n t m p := by
  rw [oy_t hr] at h
  unfold cl_
  rw [← h, h2, hs]
  rfl
theorem cl6_n {B : Int → Int32} {n p r a r2 a2 : Int} {t : Int → Int} {m : Nat} (h : oy_ r a = wk_ B n t m p) (hr : r = 0) (h2 : r2 = 0) : oy_ r2 a2 = cl_ B n t m p := by
  rw [oy_f hr] at h
  unfold cl_
  rw [← h, oy_f h2]
  rfl
theorem cw6 {B : Int → Int32} {n p : Int} {k : Nat} (T : List Int) (h : (st_byts.getD k []).map Int32.toInt = T) (hl : (st_len k).toNat = T.length) : cl_ B n (st_c k) (st_len k).toNat p = cl_ B n (tx_ T) T.length p := by
  unfold cl_
  rw [sw6 T h hl]
/-- the head -/
def hd6_ (B : Int → Int32) (n r io a : Int) : Prop := (¬ r = 0 ∧ ∃ s : Int, hs_ B n = some s ∧ ((io = 0 ∧ cm_ B n s = 47 ∧ wk_ B n tG_ 2 s = some a) ∨ (¬ io = 0 ∧ ¬ cm_ B n s = 47 ∧ (nd_ B n 62 s).bind (gF B n) = some a))) ∨ (r = 0 ∧ mk_ B n = none)
theorem hs_n1 {B : Int → Int32} {n r a r2 io a2 : Int} (h : oy_ r a = gF B n 0) (hr : r = 0) (h2 : r2 = 0) : hd6_ B n r2 io a2 := by
  rw [oy_f hr] at h
  refine Or.inr ⟨h2, ?_⟩
  unfold mk_ hs_
  rw [← h]
  rfl
theorem hs_n2 {B : Int → Int32} {n r a r1 a1 r2 io a2 : Int} (h : oy_ r a = gF B n 0) (hr : ¬ r = 0) (h1 : oy_ r1 a1 = wk_ B n tH_ 5 a) (hr1 : r1 = 0) (h2 : r2 = 0) : hd6_ B n r2 io a2 := by
  rw [oy_t hr] at h
  rw [oy_f hr1] at h1
  refine Or.inr ⟨h2, ?_⟩
  unfold mk_ hs_
  rw [← h]
  show (((wk_ B n tH_ 5 a).map (sF B n)).bind _) = none
  rw [← h1]
  rfl
theorem hs_y {B : Int → Int32} {n r a r1 a1 s : Int} (h : oy_ r a = gF B n 0) (hr : ¬ r = 0) (h1 : oy_ r1 a1 = wk_ B n tH_ 5 a) (hr1 : ¬ r1 = 0) (hs : s = sF B n a1) : hs_ B n = some s := by
  rw [oy_t hr] at h
  rw [oy_t hr1] at h1
  unfold hs_
  rw [← h]
  show (wk_ B n tH_ 5 a).map (sF B n) = some s
  rw [← h1, hs]
  rfl
theorem mk_s {B : Int → Int32} {n s : Int} (h : hs_ B n = some s) (hc : cm_ B n s = 47) : mk_ B n = (wk_ B n tG_ 2 s).bind (tA6_ B n []) := by
  unfold mk_
  rw [h]
  show (if cm_ B n s = 47 then (wk_ B n tG_ 2 s).bind (tA6_ B n []) else ((nd_ B n 62 s).bind (gF B n)).bind (fun g => (eS B n g []).bind (mT6_ B n))) = _
  rw [if_pos hc]
theorem mk_o {B : Int → Int32} {n s : Int} (h : hs_ B n = some s) (hc : ¬ cm_ B n s = 47) : mk_ B n = ((nd_ B n 62 s).bind (gF B n)).bind (fun g => (eS B n g []).bind (mT6_ B n)) := by
  unfold mk_
  rw [h]
  show (if cm_ B n s = 47 then (wk_ B n tG_ 2 s).bind (tA6_ B n []) else ((nd_ B n 62 s).bind (gF B n)).bind (fun g => (eS B n g []).bind (mT6_ B n))) = _
  rw [if_neg hc]
theorem hd_c {B : Int → Int32} {n s r a io : Int} (h : hs_ B n = some s) (hc : cm_ B n s = 47) (e : oy_ r a = wk_ B n tG_ 2 s) (hi : io = 0) : hd6_ B n r io a := by
  by_cases w : r = 0
  · rw [oy_f w] at e
    exact Or.inr ⟨w, by rw [mk_s h hc, ← e]; rfl⟩
  · rw [oy_t w] at e
    exact Or.inl ⟨w, s, h, Or.inl ⟨hi, hc, e.symm⟩⟩
theorem hd_o {B : Int → Int32} {n s r1 a1 r a io : Int} (h : hs_ B n = some s) (hc : ¬ cm_ B n s = 47) (e1 : oy_ r1 a1 = nd_ B n 62 s) (hr1 : ¬ r1 = 0) (e : oy_ r a = gF B n a1) (hi : ¬ io = 0) : hd6_ B n r io a := by
  rw [oy_t hr1] at e1
  by_cases w : r = 0
  · rw [oy_f w] at e
    refine Or.inr ⟨w, ?_⟩
    rw [mk_o h hc, ← e1]
    show (gF B n a1).bind _ = none
    rw [← e]
    rfl
  · rw [oy_t w] at e
    refine Or.inl ⟨w, s, h, Or.inr ⟨hi, hc, ?_⟩⟩
    rw [← e1]
    exact e.symm
theorem hd_on {B : Int → Int32} {n s r1 a1 r a io : Int} (h : hs_ B n = some s) (hc : ¬ cm_ B n s = 47) (e1 : oy_ r1 a1 = nd_ B n 62 s) (hr1 : r1 = 0) (hr : r = 0) : hd6_ B n r io a := by
  rw [oy_f hr1] at e1
  refine Or.inr ⟨hr, ?_⟩
  rw [mk_o h hc, ← e1]
  rfl
/-- the tail -/
def tl6_ (B : Int → Int32) (n io r p : Int) : Prop := (¬ r = 0 ∧ (if io = 0 then some p else cl_ B n tI_ 6 p).bind (gF B n) = some n) ∨ (r = 0 ∧ ¬ (if io = 0 then some p else cl_ B n tI_ 6 p).bind (gF B n) = some n)
theorem tl_c {B : Int → Int32} {n io p r1 a1 r : Int} (hi : ¬ io = 0) (h1 : oy_ r1 a1 = cl_ B n tI_ 6 p) (hr1 : r1 = 0) (hr : r = 0) : tl6_ B n io r p := by
  rw [oy_f hr1] at h1
  refine Or.inr ⟨hr, ?_⟩
  rw [if_neg hi, ← h1]
  exact fun q => absurd q (by simp)
theorem tl_g {B : Int → Int32} {n io p a1 r2 a2 r : Int} (hX : (if io = 0 then some p else cl_ B n tI_ 6 p) = some a1) (h2 : oy_ r2 a2 = gF B n a1) (h : (r2 = 0 ∧ r = 0) ∨ (¬ r2 = 0 ∧ a2 = n ∧ ¬ r = 0) ∨ (¬ r2 = 0 ∧ ¬ a2 = n ∧ r = 0)) : tl6_ B n io r p := by
  unfold tl6_
  rw [hX]
  show (¬ r = 0 ∧ gF B n a1 = some n) ∨ (r = 0 ∧ ¬ gF B n a1 = some n)
  rw [← h2]
  rcases h with ⟨q1, q2⟩ | ⟨q1, q2, q3⟩ | ⟨q1, q2, q3⟩
  · rw [oy_f q1]
    exact Or.inr ⟨q2, fun q => absurd q (by simp)⟩
  · rw [oy_t q1, q2]
    exact Or.inl ⟨q3, rfl⟩
  · rw [oy_t q1]
    exact Or.inr ⟨q3, fun q => q2 (Option.some.inj q)⟩
theorem tl_X0 {B : Int → Int32} {n io p : Int} (h : io = 0) : (if io = 0 then some p else cl_ B n tI_ 6 p) = some p := if_pos h
theorem tl_X1 {B : Int → Int32} {n io p r a : Int} (h : ¬ io = 0) (e : oy_ r a = cl_ B n tI_ 6 p) (hr : ¬ r = 0) : (if io = 0 then some p else cl_ B n tI_ 6 p) = some a := by
  rw [if_neg h, ← e, oy_t hr]
/-- what is behind an and, and the semicolon -/
def ov_ (r a : Int) : Option (Int × Int) := if r < 0 then none else some (a, r)
theorem rf_c {B : Int → Int32} {n p b a r a2 : Int} (h : (cm_ B n p = 35 ∧ ov_ b a = nu_ B n p) ∨ (¬ cm_ B n p = 35 ∧ ov_ b a = nM6_ B n p)) (hb : ¬ b < 0) (e : oy_ r a2 = nd_ B n 59 a) : or2_ (if r = 0 then 1 else 0) a2 b = rf_ B n p := by
  unfold rf_
  have k : (if cm_ B n p = 35 then nu_ B n p else nM6_ B n p) = some (a, b) := by
    unfold ov_ at h
    rw [if_neg hb] at h
    rcases h with ⟨c, q⟩ | ⟨c, q⟩
    · rw [if_pos c, ← q]
    · rw [if_neg c, ← q]
  rw [k]
  show _ = (nd_ B n 59 a).map (fun q => (q, b))
  rw [← e]
  by_cases w : r = 0
  · rw [oy_f w, if_pos w]
    rfl
  · rw [oy_t w, if_neg w]
    rfl
theorem rf_cn {B : Int → Int32} {n p b a : Int} (h : (cm_ B n p = 35 ∧ ov_ b a = nu_ B n p) ∨ (¬ cm_ B n p = 35 ∧ ov_ b a = nM6_ B n p)) (hb : b < 0) : rf_ B n p = none := by
  unfold rf_
  unfold ov_ at h
  rw [if_pos hb] at h
  rcases h with ⟨c, q⟩ | ⟨c, q⟩
  · rw [if_pos c, ← q]
    rfl
  · rw [if_neg c, ← q]
    rfl
theorem ov_m {B : Int → Int32} {n p q r a z : Int} (hz : q = lF B n p) (hr : (z = 0 ∧ r < 0) ∨ (¬ z = 0 ∧ r = z ∧ 0 ≤ r ∧ a = q)) (e : z = nc_ B n p (q - p)) : ov_ r a = nM6_ B n p := by
  unfold ov_ nM6_
  rw [← hz, ← e]
  rcases hr with ⟨q1, q2⟩ | ⟨q1, q2, q3, q4⟩
  · rw [if_pos q1, if_pos q2]
  · rw [if_neg q1, if_neg (by omega), q2, q4]
theorem ov_u {B : Int → Int32} {n p a5 v r a : Int} (hd : dg_ B n 3 (p + 1) 0 = (a5, v)) (hr : ((cm_ B n (p + 1) = 48 ∨ v < 32 ∨ 126 < v) ∧ r < 0) ∨ (¬ (cm_ B n (p + 1) = 48 ∨ v < 32 ∨ 126 < v) ∧ r = v ∧ a = a5)) : ov_ r a = nu_ B n p := by
  unfold ov_ nu_
  rw [hd]
  dsimp only
  rcases hr with ⟨q1, q2⟩ | ⟨q1, q2, q3⟩
  · rw [if_pos q1, if_pos q2]
  · rw [if_neg q1, if_neg (by omega), q2, q3]
/-- a value: its answer with a place -/
theorem vL_k {B : Int → Int32} {n q x b a z b2 a2 z2 p : Int} {g g2 : Nat → Int32} {T : Option (Int × Int × (Int → Int))} (h : vL_ B n q x T b a z g) (hb : b = 0) (h1 : ¬ cm_ B n a = q) (h3 : cm_ B n a = 38) (hp : p = a + 1) (hr : rf_ B n p = none) (hb2 : ¬ b2 = 0) : vL_ B n q x T b2 a2 z2 g2 := by
  obtain ⟨W, w1, w2⟩ := vL_o h hb
  exact Or.inr ⟨hb2, by rw [← w1, vG_f h1 h3 (by rw [← hp]; exact hr)]⟩
theorem oy_1 {r r1 a : Int} {X : Option Int} (h : oy_ r a = X) (hr : ¬ r = 0) (h1 : ¬ r1 = 0) : oy_ r1 a = X := by
  rw [← h, oy_t hr, oy_t h1]
theorem oy_0 {r r1 a a1 : Int} {X : Option Int} (h : oy_ r a = X) (hr : r = 0) (h1 : r1 = 0) : oy_ r1 a1 = X := by
  rw [← h, oy_f hr, oy_f h1]
def fn_ (r f g : Int) : Prop := (r < 0 ∧ 0 ≤ g) ∨ (¬ r < 0 ∧ g = f)
theorem nc_1 {B : Int → Int32} {n p z : Int} (h : z = 3 ∧ cm_ B n p = 97 ∧ cm_ B n (p + 1) = 109 ∧ cm_ B n (p + 2) = 112) : 38 = nc_ B n p z := by
  unfold nc_
  rw [if_pos h]
theorem nc_2 {B : Int → Int32} {n p z : Int} (h1 : ¬ (z = 3 ∧ cm_ B n p = 97 ∧ cm_ B n (p + 1) = 109 ∧ cm_ B n (p + 2) = 112)) (h : z = 2 ∧ cm_ B n p = 108 ∧ cm_ B n (p + 1) = 116) : 60 = nc_ B n p z := by
  unfold nc_
  rw [if_neg h1, if_pos h]
theorem nc_3 {B : Int → Int32} {n p z : Int} (h1 : ¬ (z = 3 ∧ cm_ B n p = 97 ∧ cm_ B n (p + 1) = 109 ∧ cm_ B n (p + 2) = 112)) (h2 : ¬ (z = 2 ∧ cm_ B n p = 108 ∧ cm_ B n (p + 1) = 116)) (h : z = 2 ∧ cm_ B n p = 103 ∧ cm_ B n (p + 1) = 116) : 62 = nc_ B n p z := by
  unfold nc_
  rw [if_neg h1, if_neg h2, if_pos h]
theorem nc_4 {B : Int → Int32} {n p z : Int} (h1 : ¬ (z = 3 ∧ cm_ B n p = 97 ∧ cm_ B n (p + 1) = 109 ∧ cm_ B n (p + 2) = 112)) (h2 : ¬ (z = 2 ∧ cm_ B n p = 108 ∧ cm_ B n (p + 1) = 116)) (h3 : ¬ (z = 2 ∧ cm_ B n p = 103 ∧ cm_ B n (p + 1) = 116)) (h : z = 4 ∧ cm_ B n p = 113 ∧ cm_ B n (p + 1) = 117 ∧ cm_ B n (p + 2) = 111 ∧ cm_ B n (p + 3) = 116) : 34 = nc_ B n p z := by
  unfold nc_
  rw [if_neg h1, if_neg h2, if_neg h3, if_pos h]
theorem nc_5 {B : Int → Int32} {n p z : Int} (h1 : ¬ (z = 3 ∧ cm_ B n p = 97 ∧ cm_ B n (p + 1) = 109 ∧ cm_ B n (p + 2) = 112)) (h2 : ¬ (z = 2 ∧ cm_ B n p = 108 ∧ cm_ B n (p + 1) = 116)) (h3 : ¬ (z = 2 ∧ cm_ B n p = 103 ∧ cm_ B n (p + 1) = 116)) (h4 : ¬ (z = 4 ∧ cm_ B n p = 113 ∧ cm_ B n (p + 1) = 117 ∧ cm_ B n (p + 2) = 111 ∧ cm_ B n (p + 3) = 116)) (h : z = 4 ∧ cm_ B n p = 97 ∧ cm_ B n (p + 1) = 112 ∧ cm_ B n (p + 2) = 111 ∧ cm_ B n (p + 3) = 115) : 39 = nc_ B n p z := by
  unfold nc_
  rw [if_neg h1, if_neg h2, if_neg h3, if_neg h4, if_pos h]
theorem nc_6 {B : Int → Int32} {n p z : Int} (h1 : ¬ (z = 3 ∧ cm_ B n p = 97 ∧ cm_ B n (p + 1) = 109 ∧ cm_ B n (p + 2) = 112)) (h2 : ¬ (z = 2 ∧ cm_ B n p = 108 ∧ cm_ B n (p + 1) = 116)) (h3 : ¬ (z = 2 ∧ cm_ B n p = 103 ∧ cm_ B n (p + 1) = 116)) (h4 : ¬ (z = 4 ∧ cm_ B n p = 113 ∧ cm_ B n (p + 1) = 117 ∧ cm_ B n (p + 2) = 111 ∧ cm_ B n (p + 3) = 116)) (h5 : ¬ (z = 4 ∧ cm_ B n p = 97 ∧ cm_ B n (p + 1) = 112 ∧ cm_ B n (p + 2) = 111 ∧ cm_ B n (p + 3) = 115)) : 0 = nc_ B n p z := by
  unfold nc_
  rw [if_neg h1, if_neg h2, if_neg h3, if_neg h4, if_neg h5]
theorem rf_y {B : Int → Int32} {n p b a r a2 : Int} (h : (cm_ B n p = 35 ∧ ov_ b a = nu_ B n p) ∨ (¬ cm_ B n p = 35 ∧ ov_ b a = nM6_ B n p)) (hb : ¬ b < 0) (e : oy_ r a2 = nd_ B n 59 a) (hr : ¬ r = 0) : rf_ B n p = some (a2, b) := by
  have k := rf_c h hb e
  rw [if_neg hr] at k
  rw [← k]
  rfl
theorem rf_n2 {B : Int → Int32} {n p b a r a2 : Int} (h : (cm_ B n p = 35 ∧ ov_ b a = nu_ B n p) ∨ (¬ cm_ B n p = 35 ∧ ov_ b a = nM6_ B n p)) (hb : ¬ b < 0) (e : oy_ r a2 = nd_ B n 59 a) (hr : r = 0) : rf_ B n p = none := by
  have k := rf_c h hb e
  rw [if_pos hr] at k
  rw [← k]
  rfl
theorem vL_i {B : Int → Int32} {n q x a z : Int} {g : Nat → Int32} (hz : z = 0) : vL_ B n q x (vG B n q a 0 (fun _ => 0)) 0 a z g := Or.inl ⟨rfl, fun _ => 0, by rw [hz], fun j j0 j1 => absurd j1 (by omega)⟩
theorem vR_e {x b b2 a z : Int} {g : Nat → Int32} {T : Option (Int × Int × (Int → Int))} (h : vR_ x T b a z g) (e : b2 = b) : vR_ x T b2 a z g := by
  rw [e]
  exact h
def jr_ (B : Int → Int32) (n a a3 b3 : Int) : Prop := (¬ cm_ B n a = 38 ∧ b3 = cm_ B n a ∧ a3 = a + 1) ∨ (cm_ B n a = 38 ∧ rf_ B n (a + 1) = some (a3, b3))
theorem vL_j {B : Int → Int32} {n q x a z a3 b3 z2 : Int} {g g2 : Nat → Int32} {T : Option (Int × Int × (Int → Int))} (h : vL_ B n q x T 0 a z g) (h1 : ¬ cm_ B n a = q) (h2 : ¬ (cm_ B n a < 32 ∨ 126 < cm_ B n a ∨ cm_ B n a = 60)) (j6 : jr_ B n a a3 b3) (ez : z2 = z + 1) (hg : 0 ≤ b3 → b3 ≤ 126 → ∀ j : Int, 0 ≤ j → j < z + 1 → j < x → gx g2 j = if j = z then b3 else gx g j) : vL_ B n q x T 0 a3 z2 g2 := by
  rcases j6 with ⟨c, e1, e2⟩ | ⟨c, e⟩
  · exact vL_c h rfl h1 h2 c rfl e2 ez (by rw [← e1]; exact hg (by omega) (by omega))
  · exact vL_r (r := b3) (p := a + 1) h rfl h1 c rfl (by rw [e]; rfl) ez (fun u0 u1 => hg (by omega) u1)
/-- an attribute kept -/
def kG6_ (V : VW_) (k r z ht2 : Int) (v g g2 : Nat → Int32) : Prop := (¬ r = 0 ∧ iA_ (gx v) 0 z ∧ ht2 = 1 ∧ isF_ V z (gx v) (gx g2 k) ∧ ∀ x : Int, 0 ≤ x → x < k → gx g2 x = gx g x) ∨ (r = 0 ∧ ¬ iA_ (gx v) 0 z)
def cA6_ (B : Int → Int32) (n : Int) (V : VW_) (k d p r a hi ht hi2 ht2 : Int) (g g2 : Nat → Int32) : Prop := (¬ r = 0 ∧ ∃ (w z : Int) (W : Int → Int), at_F B n d p = some (a, w, z, W) ∧ ((w = 1 ∧ hi2 = 1 ∧ ht2 = ht ∧ g2 = g) ∨ (w = 2 ∧ hi2 = hi ∧ ht2 = 1 ∧ isF_ V z W (gx g2 k) ∧ ∀ x : Int, 0 ≤ x → x < k → gx g2 x = gx g x))) ∨ (r = 0 ∧ at_F B n d p = none)
theorem cA_w {B : Int → Int32} {n d p q hi ht w : Int} (hq : q = lF B n p) (hd : d = hi + 2 * ht) (h0 : hi = 0 ∨ hi = 1) (h1 : ht = 0 ∨ ht = 1) (h : (w = 1 ∧ (q - p = 2 ∧ cm_ B n p = 105 ∧ cm_ B n (p + 1) = 100) ∧ hi = 0) ∨ (w = 2 ∧ (q - p = 2 ∧ cm_ B n p = 116 ∧ cm_ B n (p + 1) = 111) ∧ ht = 0) ∨ (w = 0 ∧ ¬ ((q - p = 2 ∧ cm_ B n p = 105 ∧ cm_ B n (p + 1) = 100) ∧ hi = 0) ∧ ¬ ((q - p = 2 ∧ cm_ B n p = 116 ∧ cm_ B n (p + 1) = 111) ∧ ht = 0))) : w = wh_ B n d p := by
  refine a6_w (z := q - p) (by omega) ?_
  rcases h with ⟨e, y, k⟩ | ⟨e, y, k⟩ | ⟨e, y, k⟩
  · exact Or.inl ⟨e, by omega, y.1, y.2.1, y.2.2⟩
  · exact Or.inr (Or.inl ⟨e, by omega, y.1, y.2.1, y.2.2⟩)
  · exact Or.inr (Or.inr ⟨e, fun u => y ⟨⟨u.2.1, u.2.2.1, u.2.2.2⟩, by (exact omg_5a3444c68b hd h0 u)⟩, fun u => k ⟨⟨u.2.1, u.2.2.1, u.2.2.2⟩, by omega⟩⟩)
theorem cA_0 {B : Int → Int32} {n d p : Int} (h : 0 = wh_ B n d p) : at_F B n d p = none := by
  unfold at_F
  rw [if_pos h.symm]
theorem cA_e {B : Int → Int32} {n d p w q r a : Int} (h : w = wh_ B n d p) (hw : ¬ w = 0) (hq : q = lF B n p) (e : oy_ r a = nd_ B n 61 q) (hr : r = 0) : at_F B n d p = none := by
  unfold at_F
  rw [if_neg (by omega), ← hq, ← e, oy_f hr]
  rfl
theorem cA_T {B : Int → Int32} {n d p w q r a : Int} (h : w = wh_ B n d p) (hw : ¬ w = 0) (hq : q = lF B n p) (e : oy_ r a = nd_ B n 61 q) (hr : ¬ r = 0) : at_F B n d p = (vq_ B n a).bind (va_ w) := by
  unfold at_F
  rw [if_neg (by omega), ← hq, ← e, oy_t hr, ← h]
  rfl
theorem vq_n {B : Int → Int32} {n a : Int} (h : ¬ (cm_ B n a = 34 ∨ cm_ B n a = 39)) : vq_ B n a = none := by
  unfold vq_
  rw [if_neg h]
theorem vq_y {B : Int → Int32} {n a q p : Int} (h : cm_ B n a = 34 ∨ cm_ B n a = 39) (hq : q = cm_ B n a) (hp : p = a + 1) : vq_ B n a = vG B n q p 0 (fun _ => 0) := by
  unfold vq_
  rw [if_pos h, hq, hp]
theorem cA_q {B : Int → Int32} {n d p w a : Int} (T : at_F B n d p = (vq_ B n a).bind (va_ w)) (h : ¬ (cm_ B n a = 34 ∨ cm_ B n a = 39)) : at_F B n d p = none := by
  rw [T, vq_n h]
  rfl
theorem cA_v {B : Int → Int32} {n d p w a q p2 x b a2 z : Int} {g : Nat → Int32} (T : at_F B n d p = (vq_ B n a).bind (va_ w)) (h : cm_ B n a = 34 ∨ cm_ B n a = 39) (hq : q = cm_ B n a) (hp : p2 = a + 1) (v : vR_ x (vG B n q p2 0 (fun _ => 0)) b a2 z g) (hb : ¬ b = 0) : at_F B n d p = none := by
  rw [T, vq_y h hq hp]
  rcases v with ⟨k, _⟩ | ⟨_, k⟩
  · exact absurd k hb
  · rw [k]
    rfl
theorem cA_V {B : Int → Int32} {n d p w a q p2 b a2 z : Int} {g : Nat → Int32} (T : at_F B n d p = (vq_ B n a).bind (va_ w)) (h : cm_ B n a = 34 ∨ cm_ B n a = 39) (hq : q = cm_ B n a) (hp : p2 = a + 1) (v : vR_ 24 (vG B n q p2 0 (fun _ => 0)) b a2 z g) (hb : b = 0) : ∃ W : Int → Int, at_F B n d p = va_ w (a2, z, W) ∧ ∀ j : Int, 0 ≤ j → j < z → j < 24 → gx g j = W j := by
  rw [T, vq_y h hq hp]
  rcases v with ⟨_, W, k1, k2⟩ | ⟨k, _⟩
  · exact ⟨W, by rw [k1]; rfl, k2⟩
  · exact absurd hb k
theorem iA_24 {v : Nat → Int32} {W : Int → Int} {z : Int} (h : ∀ j : Int, 0 ≤ j → j < z → j < 24 → gx v j = W j) : iA_ (gx v) 0 z ↔ iA_ W 0 z := by
  constructor
  · intro q
    have q2 := q.2.1
    exact iA_cong (fun k k0 k1 => h k k0 (by omega) (by omega)) q
  · intro q
    have q2 := q.2.1
    exact iA_cong (fun k k0 k1 => (h k k0 (by omega) (by omega)).symm) q
theorem cA_i {B : Int → Int32} {n : Int} {V : VW_} {k d p w a2 z r a hi ht hi2 ht2 : Int} {g g2 : Nat → Int32} {v : Nat → Int32} (u : ∃ W : Int → Int, at_F B n d p = va_ w (a2, z, W) ∧ ∀ j : Int, 0 ≤ j → j < z → j < 24 → gx v j = W j) (hw : w = 1) (hz : 1 ≤ z ∧ z ≤ 8) (hr : ¬ r = 0) (ea : a = a2 + 1) (h1 : hi2 = 1) (h2 : ht2 = ht) (h3 : g2 = g) : cA6_ B n V k d p r a hi ht hi2 ht2 g g2 := by
  obtain ⟨W, u1, u2⟩ := u
  refine Or.inl ⟨hr, 1, z, W, ?_, Or.inl ⟨rfl, h1, h2, h3⟩⟩
  rw [u1, va_y (Or.inl ⟨hw, hz.1, hz.2⟩), ea, hw]
theorem cA_in {B : Int → Int32} {n : Int} {V : VW_} {k d p w a2 z r a hi ht hi2 ht2 : Int} {g g2 : Nat → Int32} {v : Nat → Int32} (u : ∃ W : Int → Int, at_F B n d p = va_ w (a2, z, W) ∧ ∀ j : Int, 0 ≤ j → j < z → j < 24 → gx v j = W j) (hw : w = 1) (hz : ¬ (1 ≤ z ∧ z ≤ 8)) (hr : r = 0) : cA6_ B n V k d p r a hi ht hi2 ht2 g g2 := by
  obtain ⟨W, u1, u2⟩ := u
  exact Or.inr ⟨hr, by rw [u1, va_n (fun q => by rcases q with q | q; exact hz q.2; exact q.1 hw)]⟩
theorem cA_g {B : Int → Int32} {n : Int} {V : VW_} {k d p w a2 z r r1 a hi ht hi2 ht2 : Int} {v g g2 : Nat → Int32} (u : ∃ W : Int → Int, at_F B n d p = va_ w (a2, z, W) ∧ ∀ j : Int, 0 ≤ j → j < z → j < 24 → gx v j = W j) (hw : w = 2) (kg : kG6_ V k r1 z ht2 v g g2) (hr1 : ¬ r1 = 0) (hr : ¬ r = 0) (ea : a = a2 + 1) (h1 : hi2 = hi) : cA6_ B n V k d p r a hi ht hi2 ht2 g g2 := by
  obtain ⟨W, u1, u2⟩ := u
  rcases kg with ⟨_, c1, c2, c3, c4⟩ | ⟨c, _⟩
  · have c5 := c1.2.1
    refine Or.inl ⟨hr, 2, z, W, ?_, Or.inr ⟨rfl, h1, c2, isF_cg c3 (fun j j0 j1 => u2 j j0 j1 (by omega)), c4⟩⟩
    rw [u1, va_y (Or.inr ⟨by omega, (iA_24 u2).mp c1⟩), ea, hw]
  · exact absurd c hr1
theorem cA_gn {B : Int → Int32} {n : Int} {V : VW_} {k d p w a2 z r r1 a hi ht hi2 ht2 ht3 : Int} {v g g2 g3 : Nat → Int32} (u : ∃ W : Int → Int, at_F B n d p = va_ w (a2, z, W) ∧ ∀ j : Int, 0 ≤ j → j < z → j < 24 → gx v j = W j) (hw : w = 2) (kg : kG6_ V k r1 z ht3 v g g3) (hr1 : r1 = 0) (hr : r = 0) : cA6_ B n V k d p r a hi ht hi2 ht2 g g2 := by
  obtain ⟨W, u1, u2⟩ := u
  rcases kg with ⟨c, _⟩ | ⟨_, c1⟩
  · exact absurd hr1 c
  · exact Or.inr ⟨hr, by rw [u1, va_n (fun q => by rcases q with q | q; omega; exact c1 ((iA_24 u2).mpr q.2))]⟩
theorem cA_n {B : Int → Int32} {n : Int} {V : VW_} {k d p r a hi ht hi2 ht2 : Int} {g g2 : Nat → Int32} (h : at_F B n d p = none) (hr : r = 0) : cA6_ B n V k d p r a hi ht hi2 ht2 g g2 := Or.inr ⟨hr, h⟩
/-- an element: the goal's part, where there is a goal -/
def gl6_ (V : VW_) (k ht : Int) (g g2 : Nat → Int32) (R : RE_) : Prop := (∀ x : Int, 0 ≤ x → x < k → gx g2 x = gx g x) ∧ (ht = 1 → isF_ V R.2.2.1 R.2.2.2 (gx g2 k))
def cL6_ (B : Int → Int32) (n : Int) (V : VW_) (T : Option (Int × Int × RE_)) (k a sp hi ht j : Int) (g g2 : Nat → Int32) : Prop := (hi = 0 ∨ hi = 1) ∧ (ht = 0 ∨ ht = 1) ∧ j = hi + ht ∧ ∃ R : RE_, T = el_ B n (fu_ (hi + 2 * ht)) (hi + 2 * ht) R a sp ∧ gl6_ V k ht g g2 R
theorem cL_0 {B : Int → Int32} {n : Int} {V : VW_} {p r q a sp k : Int} {g : Nat → Int32} {hi ht j : Int} (h : oy_ r q = wk_ B n tE_ 4 p) (hr : ¬ r = 0) (hs : a = sF B n q) (hx : (sp = 1 ∧ q < a) ∨ (sp = 0 ∧ a = q)) (h1 : hi = 0) (h2 : ht = 0) (h3 : j = 0) : cL6_ B n V ((wk_ B n tE_ 4 p).bind (eA_ B n)) k a sp hi ht j g g := by
  rw [oy_t hr] at h
  refine ⟨Or.inl h1, Or.inl h2, by omega, RZ_, ?_, fun _ _ _ => rfl, fun w => absurd w (by omega)⟩
  rw [← h, h1, h2]
  show el_ B n 3 0 RZ_ (sF B n q) (if q < sF B n q then 1 else 0) = el_ B n (fu_ (0 + 2 * 0)) (0 + 2 * 0) RZ_ a sp
  rw [← hs]
  have e : (if q < a then (1 : Int) else 0) = sp := by split <;> omega
  rw [e]
  rfl
theorem cL_s {B : Int → Int32} {n : Int} {V : VW_} {T : Option (Int × Int × RE_)} {k a sp hi ht j r q a2 sp2 hi2 ht2 j2 d : Int} {g g2 g3 : Nat → Int32} (m : cL6_ B n V T k a sp hi ht j g g2) (hc : ¬ (cm_ B n a = 47 ∨ cm_ B n a = 62)) (hs : ¬ sp = 0) (hd : d = hi + 2 * ht) (r6 : cA6_ B n V k d a r q hi ht hi2 ht2 g2 g3) (hr : ¬ r = 0) (h2 : a2 = sF B n q) (hx : (sp2 = 1 ∧ q < a2) ∨ (sp2 = 0 ∧ a2 = q)) (hj : j2 = j + 1) (hk : 0 ≤ k) : cL6_ B n V T k a2 sp2 hi2 ht2 j2 g g3 := by
  obtain ⟨m1, m2, m3, R, m4, m5, m6⟩ := m
  rcases r6 with ⟨_, w, z, W, r1, r2⟩ | ⟨c, _⟩
  · have u := at_up r1
    have v : w = 1 ∧ d % 2 = 0 ∨ w = 2 ∧ d < 2 := by
      rcases u.1 with y | y
      · exact Or.inl ⟨y.1, y.2.1⟩
      · exact Or.inr ⟨y.1, y.2.1⟩
    have e : (if q < sF B n q then (1 : Int) else 0) = sp2 := by
      rw [← h2]
      split <;> omega
    have eT : T = el_ B n (fu_ (d + w)) (d + w) (rp_ R w z W) a2 sp2 := by
      rw [m4, ← hd, fu_s (by (exact omg_bdd4e6d0b7 hd m1 m2)) (by (exact omg_ab4f633451 hd m1 m2)) v, el_s hc hs r1, e, h2]
    rcases r2 with ⟨w1, y1, y2, y3⟩ | ⟨w2, y1, y2, y3, y4⟩
    · have hh : hi = 0 := by (exact omg_f83adc4345 hd m1 v w1)
      refine ⟨by omega, by (exact omg_42195a8493 m2 y2), by omega, rp_ R w z W, ?_, ?_, ?_⟩
      · rw [eT, show d + w = hi2 + 2 * ht2 by omega]
      · rw [y3]
        exact m5
      · intro q9
        unfold rp_
        rw [if_pos w1, y3]
        exact m6 (by omega)
    · have hh : ht = 0 := by (exact omg_abd6fee92d hd m1 m2 v w2)
      refine ⟨by (exact omg_42195a8493 m1 y1), by omega, by omega, rp_ R w z W, ?_, ?_, ?_⟩
      · rw [eT, show d + w = hi2 + 2 * ht2 by omega]
      · intro x x0 x1
        rw [y4 x x0 x1, m5 x x0 x1]
      · intro q9
        unfold rp_
        rw [if_neg (by omega)]
        exact y3
  · exact absurd c hr
theorem cL_n {B : Int → Int32} {n : Int} {V : VW_} {T : Option (Int × Int × RE_)} {k a sp hi ht j r q hi2 ht2 d : Int} {g g2 g3 : Nat → Int32} (m : cL6_ B n V T k a sp hi ht j g g2) (hc : ¬ (cm_ B n a = 47 ∨ cm_ B n a = 62)) (hd : d = hi + 2 * ht) (r6 : cA6_ B n V k d a r q hi ht hi2 ht2 g2 g3) (hr : r = 0) : T = none := by
  obtain ⟨m1, m2, m3, R, m4, m5, m6⟩ := m
  rcases r6 with ⟨c, _⟩ | ⟨_, c⟩
  · exact absurd hr c
  · obtain ⟨x, hx⟩ := fu_p (hi + 2 * ht)
    rw [m4, hx, el_f hc (by rw [← hd]; exact c)]
theorem cL_z {B : Int → Int32} {n : Int} {V : VW_} {T : Option (Int × Int × RE_)} {k a sp hi ht j : Int} {g g2 : Nat → Int32} (m : cL6_ B n V T k a sp hi ht j g g2) (hc : ¬ (cm_ B n a = 47 ∨ cm_ B n a = 62)) (hs : sp = 0) : T = none := by
  obtain ⟨m1, m2, m3, R, m4, m5, m6⟩ := m
  obtain ⟨x, hx⟩ := fu_p (hi + 2 * ht)
  rw [m4, hx, el_0 hc hs]
/-- an element read by it -/
def cE6_ (B : Int → Int32) (n : Int) (V : VW_) (p r a k k2 : Int) (g g2 : Nat → Int32) : Prop := (¬ r = 0 ∧ k2 = k + 1 ∧ ∃ R : RE_, eF_ B n p = some (a, R) ∧ isF_ V R.2.2.1 R.2.2.2 (gx g2 k) ∧ ∀ x : Int, 0 ≤ x → x < k → gx g2 x = gx g x) ∨ (r = 0 ∧ eF_ B n p = none)
theorem cE_t {B : Int → Int32} {n : Int} {V : VW_} {p r a k k2 : Int} {g g2 : Nat → Int32} (h : (wk_ B n tE_ 4 p).bind (eA_ B n) = none) (hr : r = 0) : cE6_ B n V p r a k k2 g g2 := Or.inr ⟨hr, by rw [eF_T, h]; rfl⟩
theorem cE_w {B : Int → Int32} {n : Int} {V : VW_} {p r1 q r a k k2 : Int} {g g2 : Nat → Int32} (h : oy_ r1 q = wk_ B n tE_ 4 p) (h1 : r1 = 0) (hr : r = 0) : cE6_ B n V p r a k k2 g g2 := cE_t (by rw [← h, oy_f h1]; rfl) hr
/-- behind the loop: both there, or not -/
theorem cL_q {B : Int → Int32} {n : Int} {V : VW_} {T : Option (Int × Int × RE_)} {k a sp hi ht j : Int} {g g2 : Nat → Int32} (m : cL6_ B n V T k a sp hi ht j g g2) (hc : cm_ B n a = 47 ∨ cm_ B n a = 62) : ∃ R : RE_, T = some (a, hi + 2 * ht, R) ∧ gl6_ V k ht g g2 R := by
  obtain ⟨m1, m2, m3, R, m4, m5⟩ := m
  obtain ⟨x, hx⟩ := fu_p (hi + 2 * ht)
  exact ⟨R, by rw [m4, hx, el_q hc], m5⟩
theorem cE_f {B : Int → Int32} {n : Int} {V : VW_} {p k a sp hi ht j r a2 k2 : Int} {g g2 : Nat → Int32} (m : cL6_ B n V ((wk_ B n tE_ 4 p).bind (eA_ B n)) k a sp hi ht j g g2) (hc : ¬ j < 2 ∨ cm_ B n a = 47 ∨ cm_ B n a = 62) (h : hi = 0 ∨ ht = 0) (hr : r = 0) : cE6_ B n V p r a2 k k2 g g2 := by
  have c : cm_ B n a = 47 ∨ cm_ B n a = 62 := by
    rcases hc with q | q
    · have m1 := m.1
      have m2 := m.2.1
      have m3 := m.2.2.1
      omega
    · exact q
  obtain ⟨R, r1, r2⟩ := cL_q m c
  refine Or.inr ⟨hr, ?_⟩
  have m1 := m.1
  have m2 := m.2.1
  rw [eF_T, r1]
  show ee_ B n (a, hi + 2 * ht, R) = none
  unfold ee_
  dsimp only
  rw [if_pos (by omega)]
theorem el_3 {B : Int → Int32} {n a sp : Int} {R : RE_} (h : ¬ (cm_ B n a = 47 ∨ cm_ B n a = 62)) : el_ B n 1 3 R a sp = none := el_f (m := 0) h (by
  unfold at_F
  rw [if_pos (wh_3 rfl)])
theorem cE_c {B : Int → Int32} {n : Int} {V : VW_} {p k a sp hi ht j r a2 k2 : Int} {g g2 : Nat → Int32} (m : cL6_ B n V ((wk_ B n tE_ 4 p).bind (eA_ B n)) k a sp hi ht j g g2) (h1 : ¬ hi = 0) (h2 : ¬ ht = 0) (e : (cm_ B n a = 47 ∧ oy_ r a2 = wk_ B n tG_ 2 a) ∨ (¬ cm_ B n a = 47 ∧ oy_ r a2 = ((nd_ B n 62 a).bind (gF B n)).bind (cl_ B n tF_ 5))) (hk : k2 = k + 1) : cE6_ B n V p r a2 k k2 g g2 := by
  have m1 := m.1
  have m2 := m.2.1
  have hd : hi + 2 * ht = 3 := by omega
  by_cases c : cm_ B n a = 47 ∨ cm_ B n a = 62
  · obtain ⟨R, r1, r2⟩ := cL_q m c
    have f : eF_ B n p = (oy_ r a2).map (fun x => (x, R)) := by
      rw [eF_T, r1]
      show ee_ B n (a, hi + 2 * ht, R) = _
      unfold ee_
      rw [if_neg (by rw [hd]; simp)]
      rcases e with ⟨c1, c2⟩ | ⟨c1, c2⟩
      · rw [if_pos c1, c2]
      · rw [if_neg c1, c2]
    by_cases w : r = 0
    · exact Or.inr ⟨w, by rw [f, oy_f w]; rfl⟩
    · exact Or.inl ⟨w, hk, R, by rw [f, oy_t w]; rfl, r2.2 (by omega), r2.1⟩
  · obtain ⟨m1, m2, m3, R, m4, m5⟩ := m
    have c2 : oy_ r a2 = none := by
      rcases e with ⟨c1, c2⟩ | ⟨c1, c2⟩
      · exact absurd (Or.inl c1) c
      · rw [c2, nd_x (fun q => c (Or.inr q))]
        rfl
    refine Or.inr ⟨oy_n c2, ?_⟩
    have e3 : fu_ (hi + 2 * ht) = 1 := by rw [hd]; rfl
    rw [eF_T, m4, e3, hd, el_3 c]
    rfl
theorem ec6_ {B : Int → Int32} {n a r1 a1 r2 a2 r3 a3 : Int} (h1 : oy_ r1 a1 = nd_ B n 62 a) (n1 : ¬ r1 = 0) (h2 : oy_ r2 a2 = gF B n a1) (n2 : ¬ r2 = 0) (h3 : oy_ r3 a3 = cl_ B n tF_ 5 a2) : oy_ r3 a3 = ((nd_ B n 62 a).bind (gF B n)).bind (cl_ B n tF_ 5) := by
  rw [oy_t n1] at h1
  rw [oy_t n2] at h2
  rw [← h1]
  show _ = (gF B n a1).bind (cl_ B n tF_ 5)
  rw [← h2]
  exact h3
theorem ec6_2 {B : Int → Int32} {n a r1 a1 r2 a2 r3 a3 : Int} (h1 : oy_ r1 a1 = nd_ B n 62 a) (n1 : ¬ r1 = 0) (h2 : oy_ r2 a2 = gF B n a1) (n2 : r2 = 0) (n3 : r3 = 0) : oy_ r3 a3 = ((nd_ B n 62 a).bind (gF B n)).bind (cl_ B n tF_ 5) := by
  rw [oy_t n1] at h1
  rw [oy_f n2] at h2
  rw [← h1, oy_f n3]
  show _ = (gF B n a1).bind (cl_ B n tF_ 5)
  rw [← h2]
  rfl
theorem ec6_1 {B : Int → Int32} {n a r1 a1 r3 a3 : Int} (h1 : oy_ r1 a1 = nd_ B n 62 a) (n1 : r1 = 0) (n3 : r3 = 0) : oy_ r3 a3 = ((nd_ B n 62 a).bind (gF B n)).bind (cl_ B n tF_ 5) := by
  rw [oy_f n1] at h1
  rw [← h1, oy_f n3]
  rfl
/-- the relations that it has read: where each goes -/
def rK6_ (V : VW_) (g : Nat → Int32) (L : List RE_) : Prop := ∀ (x : Nat) (R : RE_), L[x]? = some R → isF_ V R.2.2.1 R.2.2.2 (gx g x)
theorem rK_s {V : VW_} {k : Int} {g g2 : Nat → Int32} {L : List RE_} {R : RE_} (h : rK6_ V g L) (hk : k = L.length) (h1 : isF_ V R.2.2.1 R.2.2.2 (gx g2 k)) (h2 : ∀ x : Int, 0 ≤ x → x < k → gx g2 x = gx g x) : rK6_ V g2 (L ++ [R]) := by
  intro x Q hx
  by_cases c : x < L.length
  · rw [List.getElem?_append_left c] at hx
    rw [h2 x (by omega) (by omega)]
    exact h x Q hx
  · have e : x = L.length := by
      have l := (List.getElem?_eq_some_iff.mp hx).1
      rw [List.length_append, List.length_singleton] at l
      omega
    rw [e, List.getElem?_append_right (Nat.le_refl _), Nat.sub_self] at hx
    have e2 : R = Q := Option.some.inj hx
    rw [← e2, e, ← hk]
    exact h1
def cM6_ (B : Int → Int32) (n : Int) (V : VW_) (rt io a k : Int) (g : Nat → Int32) : Prop := (¬ rt = 0 ∧ ((¬ io = 0 ∧ ∃ L : List RE_, k = L.length ∧ mk_ B n = (eS B n a L).bind (mT6_ B n) ∧ rK6_ V g L) ∨ (io = 0 ∧ k = 0 ∧ mk_ B n = tA6_ B n [] a))) ∨ (rt = 0 ∧ mk_ B n = none)
theorem cM_0 {B : Int → Int32} {n : Int} {V : VW_} {r io a k : Int} {g : Nat → Int32} (h : hd6_ B n r io a) (hk : k = 0) : cM6_ B n V r io a k g := by
  rcases h with ⟨c, s, h1, h2⟩ | ⟨c, h1⟩
  · rcases h2 with ⟨i, y, z⟩ | ⟨i, y, z⟩
    · refine Or.inl ⟨c, Or.inr ⟨i, hk, ?_⟩⟩
      rw [mk_s h1 y, z]
      rfl
    · refine Or.inl ⟨c, Or.inl ⟨i, [], hk, ?_, fun x R q => absurd q (by simp)⟩⟩
      rw [mk_o h1 y, z]
      rfl
  · exact Or.inr ⟨c, h1⟩
theorem cM_s {B : Int → Int32} {n : Int} {V : VW_} {rt io a k r a1 k2 r2 a2 rt2 : Int} {g g2 : Nat → Int32} (m : cM6_ B n V rt io a k g) (hr : ¬ rt = 0) (ha : a ≤ n) (hc : ¬ io = 0 ∧ cm_ B n a = 60 ∧ ¬ cm_ B n (a + 1) = 47) (e : cE6_ B n V a r a1 k k2 g g2) (h1 : ¬ r = 0) (h : oy_ r2 a2 = gF B n a1) (h2 : ¬ r2 = 0) (ht : ¬ rt2 = 0) : cM6_ B n V rt2 io a2 k2 g2 := by
  rcases m with ⟨_, ⟨_, L, l1, l2, l3⟩ | ⟨i, _⟩⟩ | ⟨c, _⟩
  · rcases e with ⟨_, e0, R, e1, e2, e3⟩ | ⟨c, _⟩
    · rw [oy_t h2] at h
      refine Or.inl ⟨ht, Or.inl ⟨hc.1, L ++ [R], ?_, ?_, rK_s l3 l1 e2 e3⟩⟩
      · rw [List.length_append, List.length_singleton]
        omega
      · rw [l2, eS_s ha (fun q => hc.2.2 q.2) e1 h.symm]
    · exact absurd c h1
  · exact absurd i hc.1
  · exact absurd c hr
theorem cM_e {B : Int → Int32} {n : Int} {V : VW_} {rt io a k r a1 k2 a2 k3 rt2 : Int} {g g2 g3 : Nat → Int32} (m : cM6_ B n V rt io a k g) (hr : ¬ rt = 0) (hc : ¬ io = 0 ∧ cm_ B n a = 60 ∧ ¬ cm_ B n (a + 1) = 47) (e : cE6_ B n V a r a1 k k2 g g2) (h1 : r = 0) (ht : rt2 = 0) : cM6_ B n V rt2 io a2 k3 g3 := by
  rcases m with ⟨_, ⟨_, L, l1, l2, l3⟩ | ⟨i, _⟩⟩ | ⟨c, _⟩
  · rcases e with ⟨c, _⟩ | ⟨_, c⟩
    · exact absurd h1 c
    · exact Or.inr ⟨ht, by rw [l2, eS_f (fun q => hc.2.2 q.2) c]; rfl⟩
  · exact absurd i hc.1
  · exact absurd c hr
theorem cM_g {B : Int → Int32} {n : Int} {V : VW_} {rt io a k r a1 k2 r2 b2 a2 k3 rt2 : Int} {g g2 g3 : Nat → Int32} (m : cM6_ B n V rt io a k g) (hr : ¬ rt = 0) (hc : ¬ io = 0 ∧ cm_ B n a = 60 ∧ ¬ cm_ B n (a + 1) = 47) (e : cE6_ B n V a r a1 k k2 g g2) (h1 : ¬ r = 0) (h : oy_ r2 b2 = gF B n a1) (h2 : r2 = 0) (ht : rt2 = 0) : cM6_ B n V rt2 io a2 k3 g3 := by
  rcases m with ⟨_, ⟨_, L, l1, l2, l3⟩ | ⟨i, _⟩⟩ | ⟨c, _⟩
  · rcases e with ⟨_, e0, R, e1, e2, e3⟩ | ⟨c, _⟩
    · rw [oy_f h2] at h
      exact Or.inr ⟨ht, by rw [l2, eS_g (fun q => hc.2.2 q.2) e1 h.symm]; rfl⟩
    · exact absurd c h1
  · exact absurd i hc.1
  · exact absurd c hr
/-- loaded: the relations, or none and a fault -/
def cR6_ (T : Option (List RE_)) (V : VW_) (k f : Int) (g : Nat → Int32) : Prop := (f = -1 ∧ ∃ L : List RE_, T = some L ∧ k = L.length ∧ rK6_ V g L) ∨ (0 ≤ f ∧ T = none ∧ k = 0)
theorem cR_n {B : Int → Int32} {n : Int} {V : VW_} {rt io a k k2 f : Int} {g g2 : Nat → Int32} (m : cM6_ B n V rt io a k g) (hr : rt = 0) (hf : 0 ≤ f) (hk : k2 = 0) : cR6_ (mk_ B n) V k2 f g2 := by
  rcases m with ⟨c, _⟩ | ⟨_, c⟩
  · exact absurd hr c
  · exact Or.inr ⟨hf, c, hk⟩
theorem cR_t {B : Int → Int32} {n : Int} {V : VW_} {rt io a k r k2 f : Int} {g : Nat → Int32} (m : cM6_ B n V rt io a k g) (hr : ¬ rt = 0) (hc : ¬ (¬ io = 0 ∧ cm_ B n a = 60 ∧ ¬ cm_ B n (a + 1) = 47)) (t : tl6_ B n io r a) (h : (¬ r = 0 ∧ f = -1 ∧ k2 = k) ∨ (r = 0 ∧ 0 ≤ f ∧ k2 = 0)) : cR6_ (mk_ B n) V k2 f g := by
  rcases m with ⟨_, ⟨i, L, l1, l2, l3⟩ | ⟨i, l1, l2⟩⟩ | ⟨c, _⟩
  · have key : mk_ B n = if (cl_ B n tI_ 6 a).bind (gF B n) = some n then some L else none := by
      by_cases c : cm_ B n a = 60 ∧ cm_ B n (a + 1) = 47
      · rw [l2, eS_q c]
        show (cl_ B n tI_ 6 a).bind (tA6_ B n L) = _
        cases e : cl_ B n tI_ 6 a with
        | none => rfl
        | some x =>
          show tA6_ B n L x = if gF B n x = some n then some L else none
          unfold tA6_
          cases e2 : gF B n x with
          | none => rfl
          | some y =>
            show (if y = n then some L else none) = if some y = some n then some L else none
            by_cases w : y = n
            · rw [if_pos w, if_pos (by rw [w])]
            · rw [if_neg w, if_neg (fun q => w (Option.some.inj q))]
      · have c6 : ¬ cm_ B n a = 60 := fun q => hc ⟨i, q, fun q2 => c ⟨q, q2⟩⟩
        have w1 : cl_ B n tI_ 6 a = none := by
          have e := wk_z (B := B) (n := n) (t := tI_) (k := 1) (p := a) (by
            show (some a).bind (nd_ B n (tI_ ((0 : Nat) : Int))) = none
            exact nd_x c6) 5
          have e2 : wk_ B n tI_ 6 a = none := e
          unfold cl_
          rw [e2]
          rfl
        have w2 : eF_ B n a = none := by
          have e := wk_z (B := B) (n := n) (t := tE_) (k := 1) (p := a) (by
            show (some a).bind (nd_ B n (tE_ ((0 : Nat) : Int))) = none
            exact nd_x c6) 3
          have e2 : wk_ B n tE_ 4 a = none := e
          unfold eF_
          rw [e2]
          rfl
        rw [l2, eS_f c w2, w1]
        rfl
    unfold tl6_ at t
    rw [if_neg i] at t
    rcases t with ⟨t1, t2⟩ | ⟨t1, t2⟩
    · rw [if_pos t2] at key
      exact Or.inl ⟨by omega, L, key, by omega, l3⟩
    · rw [if_neg t2] at key
      exact Or.inr ⟨by omega, key, by omega⟩
  · have key : mk_ B n = if gF B n a = some n then some [] else none := by
      rw [l2]
      unfold tA6_
      cases e2 : gF B n a with
      | none => rfl
      | some y =>
        show (if y = n then some [] else none) = if some y = some n then some [] else none
        by_cases w : y = n
        · rw [if_pos w, if_pos (by rw [w])]
        · rw [if_neg w, if_neg (fun q => w (Option.some.inj q))]
    unfold tl6_ at t
    rw [if_pos i] at t
    have e3 : ((some a).bind (gF B n)) = gF B n a := rfl
    rw [e3] at t
    rcases t with ⟨t1, t2⟩ | ⟨t1, t2⟩
    · rw [if_pos t2] at key
      exact Or.inl ⟨by omega, [], key, by rw [List.length_nil]; omega, fun x R q => absurd q (by simp)⟩
    · rw [if_neg t2] at key
      exact Or.inr ⟨by omega, key, by omega⟩
  · exact absurd c hr
/-- the relations of a part whose teller is t: none of them where nobody tells -/
def tT6_ (t : Int) (X : Option (List RE_)) : Option (List RE_) := if t < 0 then some [] else X
def lo6_ (V : VW_) (t : Int) (f b : Nat → Int32) (k fa : Int) (g : Nat → Int32) : Prop := cR6_ (tT6_ t (mk_ (mB_ f (gx b t)) (gx b (t + 1) - gx b t))) V k fa g
theorem lo_0 {V : VW_} {t k fa : Int} {f b g : Nat → Int32} (h : t < 0) (hk : k = 0) (hf : fa = -1) : lo6_ V t f b k fa g := Or.inl ⟨hf, [], if_pos h, hk, fun x R q => absurd q (by simp)⟩
theorem lo_m {V : VW_} {t b3 e3 k fa : Int} {f b g : Nat → Int32} (ht : 0 ≤ t) (h1 : b3 = gx b t) (h2 : e3 = gx b (t + 1)) (h : cR6_ (mk_ (mB_ f b3) (e3 - b3)) V k fa g) : lo6_ V t f b k fa g := by
  unfold lo6_ tT6_
  rw [if_neg (by omega), ← h1, ← h2]
  exact h
theorem ce_20 {B : Int → Int32} {n : Int} {V : VW_} {p r a k k2 r2 a2 : Int} {g g2 : Nat → Int32} (hp : p ≤ n) (e : cE6_ B n V p r a k k2 g g2) (hr : ¬ r = 0) (h : oy_ r2 a2 = gF B n a) (h2 : ¬ r2 = 0) (h20 : 20 * k ≤ p) : 20 * k2 ≤ a2 := by
  rcases e with ⟨_, e0, R, e1, _⟩ | ⟨c, _⟩
  · have u := eF_up e1 hp
    rw [oy_t h2] at h
    have v := gF_up u.2.1 h.symm
    omega
  · exact absurd c hr
/-- how many, or -1; where one goes -/
def nl6_ (T : Option (List RE_)) : Int := match T with
  | none => -1
  | some L => (L.length : Int)
def gq6_ (V : VW_) (T : Option (List RE_)) (k r th : Int) : Prop := (th = 0 ∧ 0 ≤ k ∧ ∃ (L : List RE_) (R : RE_), T = some L ∧ L[k.toNat]? = some R ∧ isF_ V R.2.2.1 R.2.2.2 r) ∨ (th = 1 ∧ ¬ (0 ≤ k ∧ ∃ (L : List RE_) (R : RE_), T = some L ∧ L[k.toNat]? = some R))
theorem nl_c {T : Option (List RE_)} {V : VW_} {k f r : Int} {g : Nat → Int32} (h : cR6_ T V k f g) (hr : (0 ≤ f ∧ r = -1) ∨ (f < 0 ∧ r = k)) : r = nl6_ T := by
  rcases h with ⟨h1, L, h2, h3, _⟩ | ⟨h1, h2, h3⟩
  · rw [h2]
    show r = (L.length : Int)
    omega
  · rw [h2]
    show r = -1
    omega
theorem gq_c {T : Option (List RE_)} {V : VW_} {n f k r th : Int} {g : Nat → Int32} (h : cR6_ T V n f g) (hr : (th = 0 ∧ 0 ≤ k ∧ k < n ∧ r = gx g k) ∨ (th = 1 ∧ ¬ (0 ≤ k ∧ k < n))) : gq6_ V T k r th := by
  rcases h with ⟨h1, L, h2, h3, h4⟩ | ⟨h1, h2, h3⟩
  · rcases hr with ⟨q1, q2, q3, q4⟩ | ⟨q1, q2⟩
    · obtain ⟨R, hR⟩ : ∃ R : RE_, L[k.toNat]? = some R := ⟨L[k.toNat]'(by omega), List.getElem?_eq_getElem (by omega)⟩
      refine Or.inl ⟨q1, q2, L, R, h2, hR, ?_⟩
      have e := h4 k.toNat R hR
      rw [show ((k.toNat : Nat) : Int) = k by omega] at e
      rw [q4]
      exact e
    · refine Or.inr ⟨q1, fun w => q2 ⟨w.1, ?_⟩⟩
      obtain ⟨w0, L', R, w1, w2⟩ := w
      rw [h2] at w1
      have e := Option.some.inj w1
      have l := (List.getElem?_eq_some_iff.mp w2).1
      rw [← e] at l
      omega
  · rcases hr with ⟨q1, q2, q3, q4⟩ | ⟨q1, q2⟩
    · omega
    · refine Or.inr ⟨q1, fun w => ?_⟩
      obtain ⟨w0, L', R, w1, w2⟩ := w
      rw [h2] at w1
      exact absurd w1 (by simp)
/-- the reference's -/
theorem tl_m {c i l r : Int} {z n k rl : Nat → Int32} (h : isF_ (cN_ c n z) l (gx k) r) (e : l = gx z i + 5) (h1 : ∀ j : Int, 0 ≤ j → j < gx z i → gx k j = gx n (24 * i + j)) (h2 : ∀ j : Int, 0 ≤ j → j < 5 → gx k (gx z i + j) = gx rl j) (h3 : ∀ j : Int, 0 ≤ j → j < 5 → gx rl j = tr_ j) : isF_ (cN_ c n z) (gx z i + 5) (tn6_ (cN_ c n z) i) r := by
  rw [e] at h
  refine isF_cg h (fun j j0 j1 => ?_)
  by_cases w : j < gx z i
  · rw [tn_nm w]
    exact h1 j j0 w
  · have q := h2 (j - gx z i) (by omega) (by omega)
    rw [show gx z i + (j - gx z i) = j by omega] at q
    rw [tn_rl w, q]
    exact h3 _ (by omega) (by omega)
theorem rr_0 {t b k : Int} {X : Option (List RE_)} {s i u g : Nat → Int32} (h : t < 0) (hb : b = 0) (hk : k = 0) : mR6_ (tT6_ t X) b k s i u g := Or.inl ⟨hb, [], if_pos h, hk, fun R q => absurd q (by simp), rl6_0⟩
theorem rr_1 {t b k : Int} {X : Option (List RE_)} {s i u g : Nat → Int32} (h : 0 ≤ t) (m : mR6_ X b k s i u g) : mR6_ (tT6_ t X) b k s i u g := by
  unfold tT6_
  rw [if_neg (by omega)]
  exact m
theorem nl_m {T : Option (List RE_)} {b k r : Int} {s i u g : Nat → Int32} (h : mR6_ T b k s i u g) (hr : (b = 0 ∧ r = k) ∨ (¬ b = 0 ∧ r = -1)) : r = nl6_ T := by
  rcases h with ⟨h1, L, h2, h3, _⟩ | ⟨h1, h2⟩
  · rw [h2]
    show r = (L.length : Int)
    omega
  · rw [h2]
    show r = -1
    omega
theorem gq_m {T : Option (List RE_)} {V : VW_} {b n k r th : Int} {s i u g : Nat → Int32} (h : mR6_ T b n s i u g) (hr : (th = 0 ∧ b = 0 ∧ 0 ≤ k ∧ k < n ∧ isF_ V (gx u k) (fun j => gx g (24 * k + j)) r) ∨ (th = 1 ∧ ¬ (b = 0 ∧ 0 ≤ k ∧ k < n))) : gq6_ V T k r th := by
  rcases h with ⟨h1, L, h2, h3, h4, h5⟩ | ⟨h1, h2⟩
  · rcases hr with ⟨q1, q2, q3, q4, q5⟩ | ⟨q1, q2⟩
    · obtain ⟨R, hR⟩ : ∃ R : RE_, L[k.toNat]? = some R := ⟨L[k.toNat]'(by omega), List.getElem?_eq_getElem (by omega)⟩
      have e := (h5 k.toNat R hR).2
      rw [show ((k.toNat : Nat) : Int) = k by omega] at e
      refine Or.inl ⟨q1, q3, L, R, h2, hR, ?_⟩
      rw [e.1] at q5
      exact isF_cg q5 (fun j j0 j1 => e.2 j j0 j1)
    · refine Or.inr ⟨q1, fun w => q2 ⟨h1, w.1, ?_⟩⟩
      obtain ⟨w0, L', R, w1, w2⟩ := w
      rw [h2] at w1
      have e := Option.some.inj w1
      have l := (List.getElem?_eq_some_iff.mp w2).1
      rw [← e] at l
      omega
  · rcases hr with ⟨q1, q2, _⟩ | ⟨q1, q2⟩
    · exact absurd q2 h1
    · refine Or.inr ⟨q1, fun w => ?_⟩
      obtain ⟨w0, L', R, w1, w2⟩ := w
      rw [h2] at w1
      exact absurd w1 (by simp)
/-- both sides -/
theorem mk_C {c t : Int} {fn fz fb fg : Nat → Int32} {V : VW_} (R : rC_ c fn fz fb fg V) (h1 : t < c) : tT6_ t (mk_ (mB_ fb (gx fg t)) (gx fg (t + 1) - gx fg t)) = tT6_ t (mk_ (vD V t) (vS V t)) := by
  unfold tT6_
  by_cases w : t < 0
  · rw [if_pos w, if_pos w]
  · have q := R.2 t (by omega) h1
    rw [if_neg w, if_neg w, q.2.1]
    exact mk_g (fun j j0 j1 => q.2.2.2 j j0 j1)
theorem mk_M {c t : Int} {z n s d : Nat → Int32} {V : VW_} (R : rM_ 0 c z n s d V) (h1 : t < c) : tT6_ t (mk_ (fun j => gr d (4000 * t + j)) (gx s t)) = tT6_ t (mk_ (vD V t) (vS V t)) := by
  unfold tT6_
  by_cases w : t < 0
  · rw [if_pos w, if_pos w]
  · have q := R.2 t (by omega) h1
    simp only [Int.zero_add] at q
    rw [if_neg w, if_neg w, q.2.1]
    exact mk_g (fun j j0 j1 => q.2.2.2 j j0 j1)
theorem rM_N {c : Int} {z n s d : Nat → Int32} {V : VW_} (R : rM_ 0 c z n s d V) : rN_ c n z V := ⟨R.1, fun i i0 i1 => by
  have q := R.2 i i0 i1
  simp only [Int.zero_add] at q
  exact ⟨q.1, q.2.2.1⟩⟩
theorem isF_lt {V : VW_} {m r : Int} {a : Int → Int} (h : isF_ V m a r) (h0 : 0 ≤ vC V) : r < vC V := by
  rcases h with ⟨_, q, _⟩ | ⟨q, _⟩
  · exact q
  · omega
theorem ce_p {B : Int → Int32} {n : Int} {V : VW_} {p r a k k2 : Int} {g g2 : Nat → Int32} (e : cE6_ B n V p r a k k2 g g2) (hr : ¬ r = 0) (hp : p ≤ n) : p + 20 ≤ a := by
  rcases e with ⟨_, _, R, e1, _⟩ | ⟨c, _⟩
  · exact (eF_up e1 hp).1
  · exact absurd c hr
theorem gq_cg {V : VW_} {T : Option (List RE_)} {k r s th : Int} (h : gq6_ V T k r th) (e : s = r) : gq6_ V T k s th := by
  subst e
  exact h
