/-! ROWS OF NUMBERS -/
theorem omg_8c94102622 {x0 : Int} {x1 : Int} (a0 : (((x0 = (1 : Int)) ∧ ((x1 % (2 : Int)) = (0 : Int))) ∨ ((x0 = (2 : Int)) ∧ (x1 < (2 : Int))))) (a1 : (¬ (x0 = (1 : Int)))) (a2 : (((x1 + x0) % (2 : Int)) = (1 : Int))) : ((x1 % (2 : Int)) = (1 : Int)) := by omega
/-! what the reference keeps of a markup's relations -/
def re6_ (c : Int) (s a s2 a2 : Nat → Int32) (k z : Int) (W : Int → Int) : Prop := (∀ i : Int, 0 ≤ i → i < k → gx s2 i = gx s i) ∧ (∀ j : Int, 0 ≤ j → j < c * k → gx a2 j = gx a j) ∧ gx s2 k = z ∧ ∀ j : Int, 0 ≤ j → j < z → gx a2 (c * k + j) = W j
def aN6_ (B : Int → Int32) (n d p : Int) : Option Int := if wh_ B n d p = 0 then none else some (lF B n p)
def aT6_ (B : Int → Int32) (n d p : Int) : Option (Int × Int × (Int → Int)) := ((aN6_ B n d p).bind (nd_ B n 61)).bind (vq_ B n)
theorem at_T (B : Int → Int32) (n d p : Int) : at_F B n d p = (aT6_ B n d p).bind (va_ (wh_ B n d p)) := by
  unfold at_F aT6_ aN6_
  by_cases c : wh_ B n d p = 0
  · rw [if_pos c, if_pos c]
    rfl
  · rw [if_neg c, if_neg c]
    show (nd_ B n 61 (lF B n p)).bind (fun q => (vq_ B n q).bind (va_ (wh_ B n d p))) = ((nd_ B n 61 (lF B n p)).bind (vq_ B n)).bind (va_ (wh_ B n d p))
    cases nd_ B n 61 (lF B n p) with
    | none => rfl
    | some q => rfl
theorem a6_w {B : Int → Int32} {n d p w z : Int} (hz : p + z = lF B n p) (h : (w = 1 ∧ d % 2 = 0 ∧ z = 2 ∧ cm_ B n p = 105 ∧ cm_ B n (p + 1) = 100) ∨ (w = 2 ∧ d < 2 ∧ z = 2 ∧ cm_ B n p = 116 ∧ cm_ B n (p + 1) = 111) ∨ (w = 0 ∧ ¬ (d % 2 = 0 ∧ z = 2 ∧ cm_ B n p = 105 ∧ cm_ B n (p + 1) = 100) ∧ ¬ (d < 2 ∧ z = 2 ∧ cm_ B n p = 116 ∧ cm_ B n (p + 1) = 111))) : w = wh_ B n d p := by
  unfold wh_
  rcases h with q | q | ⟨q1, q2, q3⟩
  · rw [if_pos (by omega)]
    exact q.1
  · rw [if_neg (by omega), if_pos (by omega)]
    exact q.1
  · rw [if_neg (fun y => q2 ⟨y.2.2.2, by omega, y.2.1, y.2.2.1⟩), if_neg (fun y => q3 ⟨y.2.2.2, by omega, y.2.1, y.2.2.1⟩)]
    exact q1
theorem a6_m {B : Int → Int32} {n d p w b a : Int} (hw : w = wh_ B n d p) (h : (w = 0 ∧ ¬ b = 0) ∨ (¬ w = 0 ∧ b = 0)) (ha : b = 0 → a = lF B n p) : om_ b a = aN6_ B n d p := by
  unfold aN6_
  rcases h with ⟨q1, q2⟩ | ⟨q1, q2⟩
  · rw [if_pos (by omega), om_f q2]
  · rw [if_neg (by omega), om_t q2, ha q2]
theorem a6_v {B : Int → Int32} {n d p x b a b2 a2 z : Int} {g : Nat → Int32} (h : om_ b a = (aN6_ B n d p).bind (nd_ B n 61)) (hb : b = 0) (k : vR_ x (vq_ B n a) b2 a2 z g) : vR_ x (aT6_ B n d p) b2 a2 z g := by
  unfold aT6_
  rw [← h, om_t hb]
  exact k
theorem a6_b {B : Int → Int32} {n d p x b a a2 z : Int} {g : Nat → Int32} (h : om_ b a = (aN6_ B n d p).bind (nd_ B n 61)) (hb : ¬ b = 0) : vR_ x (aT6_ B n d p) b a2 z g := by
  unfold aT6_
  rw [← h, om_f hb]
  exact Or.inr ⟨hb, rfl⟩
/-- an attribute taken, not yet kept -/
def aW6_ (B : Int → Int32) (n d p w b a z : Int) (g : Nat → Int32) : Prop := (b = 0 ∧ ∃ W : Int → Int, at_F B n d p = some (a + 1, w, z, W) ∧ ∀ j : Int, 0 ≤ j → j < z → gx g j = W j) ∨ (¬ b = 0 ∧ at_F B n d p = none)
theorem a6_y {B : Int → Int32} {n d p w b a z : Int} {g : Nat → Int32} (hw : w = wh_ B n d p) (h : vR_ 4000 (aT6_ B n d p) b a z g) (hb : b = 0) (hz : z ≤ 4000) (hk : (w = 1 ∧ 1 ≤ z ∧ z ≤ 8) ∨ (¬ w = 1 ∧ iA_ (gx g) 0 z)) : aW6_ B n d p w b a z g := by
  rcases h with ⟨_, W, k1, k2⟩ | ⟨k, _⟩
  · have e : ∀ j : Int, 0 ≤ j → j < z → gx g j = W j := fun j j0 j1 => k2 j j0 j1 (by omega)
    refine Or.inl ⟨hb, W, ?_, e⟩
    rw [at_T, k1, ← hw]
    show va_ w (a, z, W) = _
    refine va_y ?_
    rcases hk with q | q
    · exact Or.inl q
    · exact Or.inr ⟨q.1, iA_cong (fun k k0 k1 => e k k0 (by omega)) q.2⟩
  · exact absurd hb k
theorem a6_z {B : Int → Int32} {n d p w b a z b2 a2 : Int} {g : Nat → Int32} (hw : w = wh_ B n d p) (h : vR_ 4000 (aT6_ B n d p) b a z g) (hb : b = 0) (hz : z ≤ 4000) (hk : ¬ ((w = 1 ∧ 1 ≤ z ∧ z ≤ 8) ∨ (¬ w = 1 ∧ iA_ (gx g) 0 z))) (hb2 : ¬ b2 = 0) : aW6_ B n d p w b2 a2 z g := by
  rcases h with ⟨_, W, k1, k2⟩ | ⟨k, _⟩
  · have e : ∀ j : Int, 0 ≤ j → j < z → gx g j = W j := fun j j0 j1 => k2 j j0 j1 (by omega)
    refine Or.inr ⟨hb2, ?_⟩
    rw [at_T, k1, ← hw]
    show va_ w (a, z, W) = _
    refine va_n (fun q => hk ?_)
    rcases q with q | q
    · exact Or.inl q
    · exact Or.inr ⟨q.1, iA_cong (fun k k0 k1 => (e k k0 (by omega)).symm) q.2⟩
  · exact absurd hb k
theorem a6_x {B : Int → Int32} {n d p w b a z a2 : Int} {g : Nat → Int32} (h : vR_ 4000 (aT6_ B n d p) b a z g) (hb : ¬ b = 0) : aW6_ B n d p w b a2 z g := by
  rcases h with ⟨k, _⟩ | ⟨_, k⟩
  · exact absurd k hb
  · exact Or.inr ⟨hb, by rw [at_T, k]; rfl⟩
/-- it is kept -/
def cp6_ (c : Prop) (o : Int) (a b v : Nat → Int32) (k : Int) : Prop := (∀ j : Int, 0 ≤ j → j < o → gx b j = gx a j) ∧ (c → ∀ j : Int, 0 ≤ j → j < k → gx b (o + j) = gx v j) ∧ (¬ c → b = a)
theorem cp6_0 {c : Prop} {o k : Int} {a v : Nat → Int32} (hk : k = 0) : cp6_ c o a a v k := ⟨fun _ _ _ => rfl, fun _ j j0 j1 => absurd j1 (by omega), fun _ => rfl⟩
theorem cp6_s {c : Prop} {o k k2 : Int} {a b b2 v : Nat → Int32} (h : cp6_ c o a b v k) (hc : c) (hg : ∀ j : Int, 0 ≤ j → gx b2 j = if j = o + k then gx v k else gx b j) (ho : 0 ≤ o) (h0 : 0 ≤ k) (hk : k2 = k + 1) : cp6_ c o a b2 v k2 := by
  obtain ⟨h1, h2, h3⟩ := h
  refine ⟨fun j j0 j1 => ?_, fun _ j j0 j1 => ?_, fun q => absurd hc q⟩
  · rw [hg j j0, if_neg (by omega), h1 j j0 j1]
  · rw [hg (o + j) (by omega)]
    by_cases w : j = k
    · rw [if_pos (by omega), w]
    · rw [if_neg (by omega)]
      exact h2 hc j j0 (by omega)
theorem cp6_k {c : Prop} {o k k2 : Int} {a b v : Nat → Int32} (h : cp6_ c o a b v k) (hc : ¬ c) : cp6_ c o a b v k2 := ⟨h.1, fun q => absurd q hc, h.2.2⟩
def aR6_ (B : Int → Int32) (n d p b a r k : Int) (s i t g s2 i2 t2 g2 : Nat → Int32) : Prop := (b = 0 ∧ ∃ (z : Int) (W : Int → Int), at_F B n d p = some (a, r, z, W) ∧ ((r = 1 ∧ re6_ 8 s i s2 i2 k z W ∧ t2 = t ∧ g2 = g) ∨ (¬ r = 1 ∧ re6_ 24 t g t2 g2 k z W ∧ s2 = s ∧ i2 = i))) ∨ (¬ b = 0 ∧ at_F B n d p = none)
theorem a6_i {B : Int → Int32} {n d p w b a z k a2 q : Int} {v s i t g s2 i2 g2 : Nat → Int32} (h : aW6_ B n d p w b a z v) (hb : b = 0) (hw : w = 1) (ea : a2 = a + 1) (ci : cp6_ (w = 1) (8 * k) i i2 v q) (cg : cp6_ (¬ w = 1) (24 * k) g g2 v q) (hq : z ≤ q) (hs : ∀ j : Int, 0 ≤ j → gx s2 j = if j = k then z else gx s j) (hk : 0 ≤ k) : aR6_ B n d p b a2 w k s i t g s2 i2 t g2 := by
  rcases h with ⟨_, W, w1, w2⟩ | ⟨q, _⟩
  · refine Or.inl ⟨hb, z, W, by rw [ea]; exact w1, Or.inl ⟨hw, ⟨fun j j0 j1 => ?_, ci.1, ?_, fun j j0 j1 => ?_⟩, rfl, cg.2.2 (fun y => y hw)⟩⟩
    · rw [hs j j0, if_neg (by omega)]
    · rw [hs k hk, if_pos rfl]
    · rw [ci.2.1 hw j j0 (by omega), w2 j j0 j1]
  · exact absurd hb q
theorem a6_g {B : Int → Int32} {n d p w b a z k a2 q : Int} {v s i t g t2 i2 g2 : Nat → Int32} (h : aW6_ B n d p w b a z v) (hb : b = 0) (hw : ¬ w = 1) (ea : a2 = a + 1) (ci : cp6_ (w = 1) (8 * k) i i2 v q) (cg : cp6_ (¬ w = 1) (24 * k) g g2 v q) (hq : z ≤ q) (hs : ∀ j : Int, 0 ≤ j → gx t2 j = if j = k then z else gx t j) (hk : 0 ≤ k) : aR6_ B n d p b a2 w k s i t g s i2 t2 g2 := by
  rcases h with ⟨_, W, w1, w2⟩ | ⟨q, _⟩
  · refine Or.inl ⟨hb, z, W, by rw [ea]; exact w1, Or.inr ⟨hw, ⟨fun j j0 j1 => ?_, cg.1, ?_, fun j j0 j1 => ?_⟩, rfl, ci.2.2 hw⟩⟩
    · rw [hs j j0, if_neg (by omega)]
    · rw [hs k hk, if_pos rfl]
    · rw [cg.2.1 hw j j0 (by omega), w2 j j0 j1]
  · exact absurd hb q
theorem a6_o {B : Int → Int32} {n d p w b a z k a2 : Int} {v s i t g s2 i2 t2 g2 : Nat → Int32} (h : aW6_ B n d p w b a z v) (hb : ¬ b = 0) : aR6_ B n d p b a2 w k s i t g s2 i2 t2 g2 := by
  rcases h with ⟨q, _⟩ | ⟨_, q⟩
  · exact absurd q hb
  · exact Or.inr ⟨hb, q⟩
/-- an element while it is read: what stands at place k of the arrays; below k they are as they were -/
def ar6_ (h k : Int) (s i t g s2 i2 t2 g2 : Nat → Int32) (R : RE_) : Prop := (∀ x : Int, 0 ≤ x → x < k → gx s2 x = gx s x ∧ gx t2 x = gx t x) ∧ (∀ j : Int, 0 ≤ j → j < 8 * k → gx i2 j = gx i j) ∧ (∀ j : Int, 0 ≤ j → j < 24 * k → gx g2 j = gx g j) ∧ (h % 2 = 1 → gx s2 k = R.1 ∧ ∀ j : Int, 0 ≤ j → j < R.1 → gx i2 (8 * k + j) = R.2.1 j) ∧ (2 ≤ h → gx t2 k = R.2.2.1 ∧ ∀ j : Int, 0 ≤ j → j < R.2.2.1 → gx g2 (24 * k + j) = R.2.2.2 j)
def elM_ (B : Int → Int32) (n : Int) (T : Option (Int × Int × RE_)) (b h a k : Int) (s i t g s2 i2 t2 g2 : Nat → Int32) : Prop := (b = 0 ∧ (0 ≤ h ∧ h ≤ 3) ∧ ∃ R : RE_, T = el_ B n (fu_ h) h R (sF B n a) (if a < sF B n a then 1 else 0) ∧ ar6_ h k s i t g s2 i2 t2 g2 R) ∨ (¬ b = 0 ∧ T = none)
def elL_ (B : Int → Int32) (n : Int) (T : Option (Int × Int × RE_)) (b h a sp k : Int) (s i t g s2 i2 t2 g2 : Nat → Int32) : Prop := (b = 0 ∧ (0 ≤ h ∧ h ≤ 3) ∧ ∃ R : RE_, T = el_ B n (fu_ h) h R a sp ∧ ar6_ h k s i t g s2 i2 t2 g2 R) ∨ (¬ b = 0 ∧ T = none)
theorem ar6_0 {k : Int} {s i t g : Nat → Int32} {R : RE_} : ar6_ 0 k s i t g s i t g R := ⟨fun _ _ _ => ⟨rfl, rfl⟩, fun _ _ _ => rfl, fun _ _ _ => rfl, fun q => absurd q (by decide), fun q => absurd q (by decide)⟩
theorem e6_0 {B : Int → Int32} {n p b a k : Int} {t0 : Int → Int} {s i t g : Nat → Int32} {h : Int} (hh : h = 0) (e : om_ b a = (om_ 0 p).bind (wk_ B n t0 4)) (ht : ∀ j : Int, 0 ≤ j → j < 4 → t0 j = tE_ j) : elM_ B n ((wk_ B n tE_ 4 p).bind (eA_ B n)) b h a k s i t g s i t g := by
  have e2 : om_ b a = wk_ B n tE_ 4 p := by rw [e, om_t rfl, ← wk_c 4 ht]; rfl
  by_cases c : b = 0
  · rw [om_t c] at e2
    refine Or.inl ⟨c, by omega, RZ_, ?_, by rw [hh]; exact ar6_0⟩
    rw [← e2, hh]
    rfl
  · rw [om_f c] at e2
    exact Or.inr ⟨c, by rw [← e2]; rfl⟩
theorem e6_s {B : Int → Int32} {n b h a a2 sp k : Int} {T : Option (Int × Int × RE_)} {s i t g s2 i2 t2 g2 : Nat → Int32} (m : elM_ B n T b h a k s i t g s2 i2 t2 g2) (e : om_ b a2 = (om_ b a).map (sF B n)) (hs : (sp = 1 ∧ a < a2) ∨ (sp = 0 ∧ a2 = a)) : elL_ B n T b h a2 sp k s i t g s2 i2 t2 g2 := by
  rcases m with ⟨c, hh, R, r1, r2⟩ | ⟨c, r⟩
  · rw [om_t c, om_t c] at e
    have e2 : a2 = sF B n a := Option.some.inj e
    refine Or.inl ⟨c, hh, R, ?_, r2⟩
    rw [r1, ← e2]
    congr 1
    split <;> omega
  · exact Or.inr ⟨c, r⟩
theorem fu_s {h w : Int} (h0 : 0 ≤ h) (h3 : h ≤ 3) (c : w = 1 ∧ h % 2 = 0 ∨ w = 2 ∧ h < 2) : fu_ h = fu_ (h + w) + 1 := by
  unfold fu_
  (repeat' split) <;> omega
theorem fu_p (h : Int) : ∃ m : Nat, fu_ h = m + 1 := by
  unfold fu_
  (repeat' split)
  · exact ⟨2, rfl⟩
  · exact ⟨0, rfl⟩
  · exact ⟨1, rfl⟩
theorem ar6_s {d w k z : Int} {W : Int → Int} {s i t g s2 i2 t2 g2 s3 i3 t3 g3 : Nat → Int32} {R : RE_} (m : ar6_ d k s i t g s2 i2 t2 g2 R) (h0 : 0 ≤ d) (c : (w = 1 ∧ d % 2 = 0) ∨ (w = 2 ∧ d < 2)) (u : (w = 1 ∧ re6_ 8 s2 i2 s3 i3 k z W ∧ t3 = t2 ∧ g3 = g2) ∨ (¬ w = 1 ∧ re6_ 24 t2 g2 t3 g3 k z W ∧ s3 = s2 ∧ i3 = i2)) : ar6_ (d + w) k s i t g s3 i3 t3 g3 (rp_ R w z W) := by
  obtain ⟨m1, m2, m3, m4, m5⟩ := m
  unfold rp_
  rcases u with ⟨u0, ⟨u1, u2, u3, u4⟩, e1, e2⟩ | ⟨u0, ⟨u1, u2, u3, u4⟩, e1, e2⟩
  · subst e1 e2
    rw [if_pos u0]
    refine ⟨fun x x0 x1 => ⟨(u1 x x0 x1).trans (m1 x x0 x1).1, (m1 x x0 x1).2⟩, fun j j0 j1 => (u2 j j0 j1).trans (m2 j j0 j1), m3, fun _ => ⟨u3, u4⟩, fun q => m5 (by omega)⟩
  · subst e1 e2
    rw [if_neg u0]
    refine ⟨fun x x0 x1 => ⟨(m1 x x0 x1).1, (u1 x x0 x1).trans (m1 x x0 x1).2⟩, m2, fun j j0 j1 => (u2 j j0 j1).trans (m3 j j0 j1), fun q => m4 (by (exact omg_8c94102622 c u0 q)), fun _ => ⟨u3, u4⟩⟩
theorem e6_a {B : Int → Int32} {n b d a sp k b2 a2 w d2 : Int} {T : Option (Int × Int × RE_)} {s i t g s2 i2 t2 g2 s3 i3 t3 g3 : Nat → Int32} (m : elL_ B n T b d a sp k s i t g s2 i2 t2 g2) (hb : b = 0) (hc : ¬ (cm_ B n a = 47 ∨ cm_ B n a = 62)) (hs : ¬ sp = 0) (r : aR6_ B n d a b2 a2 w k s2 i2 t2 g2 s3 i3 t3 g3) (hd : d2 = d + w) : elM_ B n T b2 d2 a2 k s i t g s3 i3 t3 g3 := by
  rcases m with ⟨c, hh, R, r1, r2⟩ | ⟨c, _⟩
  · rcases r with ⟨c2, z, W, w1, w2⟩ | ⟨c2, w1⟩
    · have u := at_up w1
      have v : w = 1 ∧ d % 2 = 0 ∨ w = 2 ∧ d < 2 := by
        rcases u.1 with y | y
        · exact Or.inl ⟨y.1, y.2.1⟩
        · exact Or.inr ⟨y.1, y.2.1⟩
      refine Or.inl ⟨c2, by omega, rp_ R w z W, ?_, by rw [hd]; exact ar6_s r2 hh.1 v w2⟩
      rw [r1, fu_s hh.1 hh.2 v, el_s hc hs w1, hd]
    · obtain ⟨m, hm⟩ := fu_p d
      exact Or.inr ⟨c2, by rw [r1, hm, el_f hc w1]⟩
  · exact absurd hb c
theorem e6_n {B : Int → Int32} {n b d a sp k b2 d2 a2 : Int} {T : Option (Int × Int × RE_)} {s i t g s2 i2 t2 g2 s3 i3 t3 g3 : Nat → Int32} (m : elL_ B n T b d a sp k s i t g s2 i2 t2 g2) (hb : b = 0) (hc : ¬ (cm_ B n a = 47 ∨ cm_ B n a = 62)) (hs : sp = 0) (hb2 : ¬ b2 = 0) : elM_ B n T b2 d2 a2 k s i t g s3 i3 t3 g3 := by
  rcases m with ⟨c, hh, R, r1, r2⟩ | ⟨c, _⟩
  · obtain ⟨m, hm⟩ := fu_p d
    exact Or.inr ⟨hb2, by rw [r1, hm, el_0 hc hs]⟩
  · exact absurd hb c
/-- behind the attributes -/
def eX6_ (B : Int → Int32) (n : Int) (T : Option (Int × Int × RE_)) (b a k : Int) (s i t g s2 i2 t2 g2 : Nat → Int32) : Prop := (b = 0 ∧ (cm_ B n a = 47 ∨ cm_ B n a = 62) ∧ ∃ R : RE_, T = some (a, 3, R) ∧ ar6_ 3 k s i t g s2 i2 t2 g2 R) ∨ (¬ b = 0 ∧ T.bind (ee_ B n) = none)
theorem e6_y {B : Int → Int32} {n b d a sp k : Int} {T : Option (Int × Int × RE_)} {s i t g s2 i2 t2 g2 : Nat → Int32} (m : elL_ B n T b d a sp k s i t g s2 i2 t2 g2) (hc : cm_ B n a = 47 ∨ cm_ B n a = 62) (hb : b = 0) (hd : d = 3) : eX6_ B n T b a k s i t g s2 i2 t2 g2 := by
  rcases m with ⟨c, hh, R, r1, r2⟩ | ⟨c, _⟩
  · refine Or.inl ⟨c, hc, R, ?_, by rw [← hd]; exact r2⟩
    obtain ⟨m, hm⟩ := fu_p d
    rw [r1, hm, el_q hc, hd]
  · exact absurd hb c
theorem e6_z {B : Int → Int32} {n b d a sp k b2 a2 : Int} {T : Option (Int × Int × RE_)} {s i t g s2 i2 t2 g2 : Nat → Int32} (m : elL_ B n T b d a sp k s i t g s2 i2 t2 g2) (hc : cm_ B n a = 47 ∨ cm_ B n a = 62) (hb : b = 0) (hd : ¬ d = 3) (hb2 : ¬ b2 = 0) : eX6_ B n T b2 a2 k s i t g s2 i2 t2 g2 := by
  rcases m with ⟨c, hh, R, r1, r2⟩ | ⟨c, _⟩
  · obtain ⟨m, hm⟩ := fu_p d
    refine Or.inr ⟨hb2, ?_⟩
    rw [r1, hm, el_q hc]
    show ee_ B n (a, d, R) = none
    unfold ee_
    rw [if_pos hd]
  · exact absurd hb c
theorem e6_x {B : Int → Int32} {n b d a sp k a2 : Int} {T : Option (Int × Int × RE_)} {s i t g s2 i2 t2 g2 : Nat → Int32} (m : elL_ B n T b d a sp k s i t g s2 i2 t2 g2) (hb : ¬ b = 0) : eX6_ B n T b a2 k s i t g s2 i2 t2 g2 := by
  rcases m with ⟨c, _⟩ | ⟨c, r⟩
  · exact absurd c hb
  · exact Or.inr ⟨hb, by rw [r]; rfl⟩
def eR6_ (B : Int → Int32) (n p b a k : Int) (s i t g s2 i2 t2 g2 : Nat → Int32) : Prop := (b = 0 ∧ ∃ R : RE_, eF_ B n p = some (a, R) ∧ ar6_ 3 k s i t g s2 i2 t2 g2 R) ∨ (¬ b = 0 ∧ eF_ B n p = none)
theorem eF_T (B : Int → Int32) (n p : Int) : eF_ B n p = ((wk_ B n tE_ 4 p).bind (eA_ B n)).bind (ee_ B n) := by
  unfold eF_
  cases wk_ B n tE_ 4 p with
  | none => rfl
  | some q => rfl
theorem e6_e {B : Int → Int32} {n p b a k b2 a2 : Int} {t0 : Int → Int} {s i t g s2 i2 t2 g2 : Nat → Int32} (m : eX6_ B n ((wk_ B n tE_ 4 p).bind (eA_ B n)) b a k s i t g s2 i2 t2 g2) (hc : ¬ b = 0 ∨ cm_ B n a = 47) (e : om_ b2 a2 = (om_ b a).bind (wk_ B n t0 2)) (ht : ∀ j : Int, 0 ≤ j → j < 2 → t0 j = tG_ j) : eR6_ B n p b2 a2 k s i t g s2 i2 t2 g2 := by
  rcases m with ⟨c, _, R, r1, r2⟩ | ⟨c, r⟩
  · have c4 : cm_ B n a = 47 := by
      rcases hc with q | q
      · exact absurd c q
      · exact q
    rw [om_t c] at e
    have e2 : om_ b2 a2 = wk_ B n tG_ 2 a := by rw [e, ← wk_c 2 ht]; rfl
    have f : eF_ B n p = (wk_ B n tG_ 2 a).map (fun x => (x, R)) := by
      rw [eF_T, r1]
      show ee_ B n (a, 3, R) = _
      unfold ee_
      rw [if_neg (by simp), if_pos c4]
    by_cases w : b2 = 0
    · rw [om_t w] at e2
      exact Or.inl ⟨w, R, by rw [f, ← e2]; rfl, r2⟩
    · rw [om_f w] at e2
      exact Or.inr ⟨w, by rw [f, ← e2]; rfl⟩
  · rw [om_f c] at e
    have w := om_n e
    exact Or.inr ⟨w, by rw [eF_T, r]⟩
theorem e6_c {B : Int → Int32} {n p b a k b1 a1 a0 b2 a2 : Int} {t0 : Int → Int} {s i t g s2 i2 t2 g2 : Nat → Int32} (m : eX6_ B n ((wk_ B n tE_ 4 p).bind (eA_ B n)) b a k s i t g s2 i2 t2 g2) (hb : b = 0) (hc : ¬ cm_ B n a = 47) (h0 : a0 = a + 1) (h1 : om_ b1 a1 = (om_ b a0).bind (gF B n)) (h2 : om_ b2 a2 = (om_ b1 a1).bind (cl_ B n t0 5)) (ht : ∀ j : Int, 0 ≤ j → j < 5 → t0 j = tF_ j) : eR6_ B n p b2 a2 k s i t g s2 i2 t2 g2 := by
  rcases m with ⟨c, c6, R, r1, r2⟩ | ⟨c, r⟩
  · have c5 : cm_ B n a = 62 := by omega
    have ec : cl_ B n t0 5 = cl_ B n tF_ 5 := by
      funext x
      unfold cl_
      rw [wk_c 5 ht]
    have e2 : om_ b2 a2 = ((nd_ B n 62 a).bind (gF B n)).bind (cl_ B n tF_ 5) := by
      rw [h2, h1, om_t hb, ec, nd_y c5, h0]
    have f : eF_ B n p = (om_ b2 a2).map (fun x => (x, R)) := by
      rw [eF_T, r1, e2]
      show ee_ B n (a, 3, R) = _
      unfold ee_
      rw [if_neg (by simp), if_neg hc]
    by_cases w : b2 = 0
    · exact Or.inl ⟨w, R, by rw [f, om_t w]; rfl, r2⟩
    · exact Or.inr ⟨w, by rw [f, om_f w]; rfl⟩
  · exact absurd hb c
/-- all the relations that it has: k of them -/
def rl6_ (s i t g : Nat → Int32) (L : List RE_) : Prop := ∀ (x : Nat) (R : RE_), L[x]? = some R → (gx s x = R.1 ∧ ∀ j : Int, 0 ≤ j → j < R.1 → gx i (8 * x + j) = R.2.1 j) ∧ (gx t x = R.2.2.1 ∧ ∀ j : Int, 0 ≤ j → j < R.2.2.1 → gx g (24 * x + j) = R.2.2.2 j)
theorem rl6_0 {s i t g : Nat → Int32} : rl6_ s i t g [] := fun x R h => absurd h (by simp)
theorem rl6_s {k : Int} {s i t g s2 i2 t2 g2 : Nat → Int32} {L : List RE_} {R : RE_} (h : rl6_ s i t g L) (hk : k = L.length) (hP : ∀ R ∈ L, PQ6_ 3 R) (hR : PQ6_ 3 R) (m : ar6_ 3 k s i t g s2 i2 t2 g2 R) : rl6_ s2 i2 t2 g2 (L ++ [R]) := by
  obtain ⟨m1, m2, m3, m4, m5⟩ := m
  intro x Q hx
  by_cases c : x < L.length
  · rw [List.getElem?_append_left c] at hx
    have w := h x Q hx
    have u := hP Q (List.mem_of_getElem? hx)
    have u1 := u.1 (by decide)
    have u2 := (u.2 (by decide)).2.1
    have f := m1 x (by omega) (by omega)
    refine ⟨⟨f.1.trans w.1.1, fun j j0 j1 => (m2 _ (by omega) (by omega)).trans (w.1.2 j j0 j1)⟩, ⟨f.2.trans w.2.1, fun j j0 j1 => (m3 _ (by omega) (by omega)).trans (w.2.2 j j0 j1)⟩⟩
  · have e : x = L.length := by
      have l := (List.getElem?_eq_some_iff.mp hx).1
      rw [List.length_append, List.length_singleton] at l
      omega
    rw [e, List.getElem?_append_right (Nat.le_refl _), Nat.sub_self] at hx
    have e2 : R = Q := Option.some.inj hx
    have w := m4 (by decide)
    have w2 := m5 (by decide)
    rw [← e2, e, ← hk]
    exact ⟨w, w2⟩
/-- the elements while they are read -/
def es6_ (B : Int → Int32) (n : Int) (T : Option (Int × List RE_)) (b a k : Int) (s i t g : Nat → Int32) : Prop := (b = 0 ∧ ∃ L : List RE_, k = L.length ∧ (∀ R ∈ L, PQ6_ 3 R) ∧ T = eS B n a L ∧ rl6_ s i t g L) ∨ (¬ b = 0 ∧ T = none)
theorem s6_0 {B : Int → Int32} {n b a k : Int} {X : Option Int} {s i t g : Nat → Int32} (h : om_ b a = X) (hk : k = 0) : es6_ B n (X.bind (fun g => eS B n g [])) b a k s i t g := by
  rw [← h]
  by_cases c : b = 0
  · rw [om_t c]
    exact Or.inl ⟨c, [], hk, fun R q => absurd q (by simp), rfl, rl6_0⟩
  · rw [om_f c]
    exact Or.inr ⟨c, rfl⟩
theorem s6_s {B : Int → Int32} {n b a k b1 a1 b2 a2 k2 : Int} {T : Option (Int × List RE_)} {s i t g s2 i2 t2 g2 : Nat → Int32} (m : es6_ B n T b a k s i t g) (hb : b = 0) (ha : a ≤ n) (hc : ¬ (cm_ B n a = 60 ∧ cm_ B n (a + 1) = 47)) (r : eR6_ B n a b1 a1 k s i t g s2 i2 t2 g2) (e : om_ b2 a2 = (om_ b1 a1).bind (gF B n)) (hk : b1 = 0 → k2 = k + 1) : es6_ B n T b2 a2 k2 s2 i2 t2 g2 := by
  rcases m with ⟨_, L, l1, l2, l3, l4⟩ | ⟨c, _⟩
  · rcases r with ⟨c, R, r1, r2⟩ | ⟨c, r1⟩
    · have u := eF_up r1 ha
      rw [om_t c] at e
      have e1 : om_ b2 a2 = gF B n a1 := e
      by_cases w : b2 = 0
      · rw [om_t w] at e1
        refine Or.inl ⟨w, L ++ [R], ?_, ?_, ?_, ?_⟩
        · have y := hk c
          rw [List.length_append, List.length_singleton]
          omega
        · intro Q q
          rcases List.mem_append.mp q with y | y
          · exact l2 Q y
          · rw [List.mem_singleton.mp y]
            exact u.2.2
        · rw [l3, eS_s ha hc r1 e1.symm]
        · exact rl6_s l4 l1 l2 u.2.2 r2
      · rw [om_f w] at e1
        exact Or.inr ⟨w, by rw [l3, eS_g hc r1 e1.symm]⟩
    · rw [om_f c] at e
      have w := om_n e
      exact Or.inr ⟨w, by rw [l3, eS_f hc r1]⟩
  · exact absurd hb c
/-- read: none, or the relations -/
def mR6_ (T : Option (List RE_)) (b k : Int) (s i t g : Nat → Int32) : Prop := (b = 0 ∧ ∃ L : List RE_, T = some L ∧ k = L.length ∧ (∀ R ∈ L, PQ6_ 3 R) ∧ rl6_ s i t g L) ∨ (¬ b = 0 ∧ T = none)
/-- read up to the last gaps -/
def mG6_ (B : Int → Int32) (n : Int) (T : Option (List RE_)) (b a k : Int) (s i t g : Nat → Int32) : Prop := (b = 0 ∧ ∃ L : List RE_, T = tA6_ B n L a ∧ k = L.length ∧ (∀ R ∈ L, PQ6_ 3 R) ∧ rl6_ s i t g L) ∨ (¬ b = 0 ∧ T = none)
theorem m6_e {B : Int → Int32} {n b a k b2 a2 : Int} {X : Option Int} {t0 : Int → Int} {s i t g : Nat → Int32} (hX : hs_ B n = X) (h : om_ b a = X) (hb : b = 0) (hc : cm_ B n a = 47) (e : om_ b2 a2 = (om_ b a).bind (wk_ B n t0 2)) (ht : ∀ j : Int, 0 ≤ j → j < 2 → t0 j = tG_ j) (hk : k = 0) : mG6_ B n (mk_ B n) b2 a2 k s i t g := by
  rw [om_t hb] at h e
  have e2 : om_ b2 a2 = wk_ B n tG_ 2 a := by rw [e, ← wk_c 2 ht]; rfl
  have f : mk_ B n = (om_ b2 a2).bind (tA6_ B n []) := by
    unfold mk_
    rw [hX, ← h, e2]
    show (if cm_ B n a = 47 then (wk_ B n tG_ 2 a).bind (tA6_ B n []) else ((nd_ B n 62 a).bind (gF B n)).bind (fun g => (eS B n g []).bind (mT6_ B n))) = _
    rw [if_pos hc]
  by_cases w : b2 = 0
  · exact Or.inl ⟨w, [], by rw [f, om_t w]; rfl, hk, fun R q => absurd q (by simp), rl6_0⟩
  · exact Or.inr ⟨w, by rw [f, om_f w]; rfl⟩
theorem m6_f {B : Int → Int32} {n b a : Int} {X : Option Int} (hX : hs_ B n = X) (h : om_ b a = X) (hc : ¬ (b = 0 ∧ cm_ B n a = 47)) : mk_ B n = (((om_ b a).bind (nd_ B n 62)).bind (gF B n)).bind (fun g => (eS B n g []).bind (mT6_ B n)) := by
  unfold mk_
  rw [hX, ← h]
  by_cases w : b = 0
  · rw [om_t w]
    show (if cm_ B n a = 47 then (wk_ B n tG_ 2 a).bind (tA6_ B n []) else ((nd_ B n 62 a).bind (gF B n)).bind (fun g => (eS B n g []).bind (mT6_ B n))) = _
    rw [if_neg (fun q => hc ⟨w, q⟩)]
    rfl
  · rw [om_f w]
    rfl
theorem bd6_ {X : Option Int} {B : Int → Int32} {n : Int} : X.bind (fun g => (eS B n g []).bind (mT6_ B n)) = (X.bind (fun g => eS B n g [])).bind (mT6_ B n) := by
  cases X with
  | none => rfl
  | some x => rfl
theorem m6_c {B : Int → Int32} {n b a k b2 a2 : Int} {T : Option (Int × List RE_)} {t0 : Int → Int} {s i t g : Nat → Int32} (hT : mk_ B n = T.bind (mT6_ B n)) (m : es6_ B n T b a k s i t g) (hc : ¬ b = 0 ∨ (cm_ B n a = 60 ∧ cm_ B n (a + 1) = 47)) (e : om_ b2 a2 = (om_ b a).bind (cl_ B n t0 6)) (ht : ∀ j : Int, 0 ≤ j → j < 6 → t0 j = tI_ j) : mG6_ B n (mk_ B n) b2 a2 k s i t g := by
  rw [hT]
  rcases m with ⟨c, L, l1, l2, l3, l4⟩ | ⟨c, l⟩
  · have c2 : cm_ B n a = 60 ∧ cm_ B n (a + 1) = 47 := by
      rcases hc with q | q
      · exact absurd c q
      · exact q
    have ec : cl_ B n t0 6 = cl_ B n tI_ 6 := by
      funext x
      unfold cl_
      rw [wk_c 6 ht]
    rw [om_t c, ec] at e
    have e2 : om_ b2 a2 = cl_ B n tI_ 6 a := e
    rw [l3, eS_q c2]
    show mG6_ B n ((cl_ B n tI_ 6 a).bind (tA6_ B n L)) b2 a2 k s i t g
    rw [← e2]
    by_cases w : b2 = 0
    · rw [om_t w]
      exact Or.inl ⟨w, L, rfl, l1, l2, l4⟩
    · rw [om_f w]
      exact Or.inr ⟨w, rfl⟩
  · rw [om_f c] at e
    have w := om_n e
    rw [l]
    exact Or.inr ⟨w, rfl⟩
theorem m6_t {B : Int → Int32} {n b a k b2 a2 b3 : Int} {T : Option (List RE_)} {s i t g : Nat → Int32} (m : mG6_ B n T b a k s i t g) (e : om_ b2 a2 = (om_ b a).bind (gF B n)) (ha : a2 ≤ n) (h0 : 0 ≤ a2) (h : (cm_ B n a2 < 0 ∧ b3 = b2) ∨ (0 ≤ cm_ B n a2 ∧ ¬ b3 = 0)) : mR6_ T b3 k s i t g := by
  rcases m with ⟨c, L, l1, l2, l3, l4⟩ | ⟨c, l⟩
  · rw [om_t c] at e
    have e2 : om_ b2 a2 = gF B n a := e
    have f : T = (om_ b2 a2).bind (fun g => if g = n then some L else none) := by rw [l1, e2]; rfl
    by_cases w : b2 = 0
    · rw [om_t w] at f
      have f2 : T = if a2 = n then some L else none := f
      rcases h with ⟨q1, q2⟩ | ⟨q1, q2⟩
      · have y : a2 = n := by
          by_cases z : a2 < n
          · have r := ti_and (z := B a2 &&& 255) (m := 255) (b := 255) 8 rfl (by decide) (by decide)
            rw [cm_at h0 z] at q1
            omega
          · omega
        rw [if_pos y] at f2
        exact Or.inl ⟨by omega, L, f2, l2, l3, l4⟩
      · have y := cm_in q1
        rw [if_neg (by omega)] at f2
        exact Or.inr ⟨q2, f2⟩
    · rw [om_f w] at f
      exact Or.inr ⟨by omega, f⟩
  · rw [om_f c] at e
    have w := om_n e
    exact Or.inr ⟨by omega, l⟩
theorem i2b_id {x z : Int32} (e : z = x.toInt8.toInt32) (h : 0 ≤ x.toInt ∧ x.toInt ≤ 126) : z.toInt = x.toInt := by
  have q : x.toInt8.toInt32 = x := nar_byte (v := x) (by omega)
  rw [e, q]
theorem dm_s {f d : Nat → Int32} {k k2 o : Int} {i v : Int32} (h : ∀ j : Int, 0 ≤ j → j < k → gr f j = gr d (o + j)) (hi : i.toInt = k) (hv : -128 ≤ v.toInt ∧ v.toInt ≤ 127) (hx : v = gr d (o + k)) (h0 : 0 ≤ k) (hk : k2 = k + 1) : ∀ j : Int, 0 ≤ j → j < k2 → gr (upd f i.toNatClampNeg (vp_nar .byte v)) j = gr d (o + j) := by
  intro j j0 j1
  have q : v.toInt8.toInt32 = v := nar_byte (v := v) hv
  rw [gr_updb hi j h0 j0, q]
  by_cases c : j = k
  · rw [if_pos c, hx, c]
  · rw [if_neg c, h j j0 (by omega)]
theorem m6_h {B : Int → Int32} {n b0 a0 b1 a1 b2 a2 a3 : Int} {t : Int → Int} (hb : b0 = 0) (ha : a0 = 0) (h1 : om_ b1 a1 = (om_ b0 a0).bind (gF B n)) (h2 : om_ b2 a2 = (om_ b1 a1).bind (wk_ B n t 5)) (h3 : om_ b2 a3 = (om_ b2 a2).map (sF B n)) (ht : ∀ j : Int, 0 ≤ j → j < 5 → t j = tH_ j) : om_ b2 a3 = hs_ B n := by
  have e : wk_ B n t 5 = wk_ B n tH_ 5 := by
    funext p
    exact wk_c 5 ht
  rw [h3, h2, h1, om_t hb, ha, e]
  rfl
theorem m6_g {B : Int → Int32} {n b a b1 a1 b2 a2 : Int} (h : om_ b a = hs_ B n) (hc : ¬ (b = 0 ∧ cm_ B n a = 47)) (h1 : om_ b1 a1 = (om_ b a).bind (nd_ B n 62)) (h2 : om_ b2 a2 = (om_ b1 a1).bind (gF B n)) : mk_ B n = ((om_ b2 a2).bind (fun g => eS B n g [])).bind (mT6_ B n) := by
  rw [m6_f rfl h hc, ← h1, ← h2, bd6_]
/-! ROWS OF NUMBERS -/
theorem omg_6b2edaf66e {x0 : Int} {x1 : Int} {x2 : Int} {x3 : Int} {x4 : Int} (a0 : (((x0 = (0 : Int)) ∧ ((0 : Int) ≤ x1)) ∨ ((¬ (x0 = (0 : Int))) ∧ (x1 = x2)))) (a1 : (¬ (x0 = (0 : Int)))) (a2 : (((x3 = (0 : Int)) ∧ ((0 : Int) ≤ x4)) ∨ ((¬ (x3 = (0 : Int))) ∧ (x4 = x1)))) : (((x3 = (0 : Int)) ∧ ((0 : Int) ≤ x4)) ∨ ((¬ (x3 = (0 : Int))) ∧ (x4 = x2))) := by omega
theorem omg_5a3444c68b {x0 : Int} {x1 : Int} {x2 : Int} {x3 : Int} {x4 : Int} {x5 : Int} {x6 : Int} (a0 : (x0 = (x1 + ((2 : Int) * x2)))) (a1 : ((x1 = (0 : Int)) ∨ (x1 = (1 : Int)))) (a2 : (((x0 % (2 : Int)) = (0 : Int)) ∧ (((x3 - x4) = (2 : Int)) ∧ ((x5 = (105 : Int)) ∧ (x6 = (100 : Int)))))) : (x1 = (0 : Int)) := by omega
theorem omg_ab4f633451 {x0 : Int} {x1 : Int} {x2 : Int} (a0 : (x0 = (x1 + ((2 : Int) * x2)))) (a1 : ((x1 = (0 : Int)) ∨ (x1 = (1 : Int)))) (a2 : ((x2 = (0 : Int)) ∨ (x2 = (1 : Int)))) : (x0 ≤ (3 : Int)) := by omega
theorem omg_bdd4e6d0b7 {x0 : Int} {x1 : Int} {x2 : Int} (a0 : (x0 = (x1 + ((2 : Int) * x2)))) (a1 : ((x1 = (0 : Int)) ∨ (x1 = (1 : Int)))) (a2 : ((x2 = (0 : Int)) ∨ (x2 = (1 : Int)))) : ((0 : Int) ≤ x0) := by omega
theorem omg_f83adc4345 {x0 : Int} {x1 : Int} {x2 : Int} {x3 : Int} (a0 : (x0 = (x1 + ((2 : Int) * x2)))) (a1 : ((x1 = (0 : Int)) ∨ (x1 = (1 : Int)))) (a2 : (((x3 = (1 : Int)) ∧ ((x0 % (2 : Int)) = (0 : Int))) ∨ ((x3 = (2 : Int)) ∧ (x0 < (2 : Int))))) (a3 : (x3 = (1 : Int))) : (x1 = (0 : Int)) := by omega
theorem omg_42195a8493 {x0 : Int} {x1 : Int} (a0 : ((x0 = (0 : Int)) ∨ (x0 = (1 : Int)))) (a1 : (x1 = x0)) : ((x1 = (0 : Int)) ∨ (x1 = (1 : Int))) := by omega
theorem omg_abd6fee92d {x0 : Int} {x1 : Int} {x2 : Int} {x3 : Int} (a0 : (x0 = (x1 + ((2 : Int) * x2)))) (a1 : ((x1 = (0 : Int)) ∨ (x1 = (1 : Int)))) (a2 : ((x2 = (0 : Int)) ∨ (x2 = (1 : Int)))) (a3 : (((x3 = (1 : Int)) ∧ ((x0 % (2 : Int)) = (0 : Int))) ∨ ((x3 = (2 : Int)) ∧ (x0 < (2 : Int))))) (a4 : (x3 = (2 : Int))) : (x2 = (0 : Int)) := by omega
/-! its markup -/
def mB_ (f : Nat → Int32) (o : Int) : Int → Int32 := fun j => gr f (o + j)
def ft_ (r f g : Int) : Prop := (r = 0 ∧ 0 ≤ g) ∨ (¬ r = 0 ∧ g = f)
theorem ft_c {r f g r2 g2 : Int} (h : ft_ r f g) (hr : ¬ r = 0) (h2 : ft_ r2 g g2) : ft_ r2 f g2 := by
  unfold ft_ at *
  (exact omg_6b2edaf66e h hr h2)
theorem ft_0 {r f g r2 : Int} (h : ft_ r f g) (hr : r = 0) (h2 : r2 = 0) : ft_ r2 f g := by
  unfold ft_ at *
  omega
theorem ft_1 {r f g r2 : Int} (h : ft_ r f g) (hr : ¬ r = 0) (h2 : ¬ r2 = 0) : ft_ r2 f g := by
  unfold ft_ at *
  omega
theorem ft_e {r f g : Int} (h : ¬ r = 0) (e : g = f) : ft_ r f g := Or.inr ⟨h, e⟩
theorem ft_f {r f g : Int} (h : r = 0) (e : 0 ≤ g) : ft_ r f g := Or.inl ⟨h, e⟩
/-- the strings -/
theorem sw6 {B : Int → Int32} {n p : Int} {k : Nat} (T : List Int) (h : (st_byts.getD k []).map Int32.toInt = T) (hl : (st_len k).toNat = T.length) : wk_ B n (st_c k) (st_len k).toNat p = wk_ B n (tx_ T) T.length p := by
  rw [hl]
  refine wk_c _ (fun j j0 j1 => ?_)
  unfold st_c tx_
  rw [← h]
  generalize st_byts.getD k [] = S
  rw [List.getD_eq_getElem?_getD, List.getD_eq_getElem?_getD, List.getElem?_map]
  cases c : S[j.toNat]? with
  | none => rfl
  | some x => rfl
theorem sc6 {k : Nat} (T : List Int) (h : (st_byts.getD k []).map Int32.toInt = T) (j : Int) : st_c k j = tx_ T j := by
  unfold st_c tx_
  rw [← h]
  generalize st_byts.getD k [] = S
  rw [List.getD_eq_getElem?_getD, List.getD_eq_getElem?_getD, List.getElem?_map]
  cases c : S[j.toNat]? with
  | none => rfl
  | some x => rfl
theorem wk_y {B : Int → Int32} {n p q q2 k k2 : Int} {t : Int → Int} (h : wk_ B n t k.toNat p = some q) (hc : cm_ B n q = t k) (h0 : 0 ≤ k) (hk : k2 = k + 1) (e : q2 = q + 1) : wk_ B n t k2.toNat p = some q2 := by
  obtain ⟨m, hm⟩ : ∃ m : Nat, k = m := ⟨k.toNat, by omega⟩
  rw [show k2.toNat = m + 1 by omega]
  show (wk_ B n t m p).bind (nd_ B n (t m)) = some q2
  rw [show k.toNat = m by omega] at h
  rw [h, ← hm]
  show nd_ B n (t k) q = some q2
  rw [nd_y hc, e]
theorem wk_z {B : Int → Int32} {n p : Int} {t : Int → Int} {k : Nat} (h : wk_ B n t k p = none) : ∀ d : Nat, wk_ B n t (k + d) p = none
  | 0 => h
  | d + 1 => by
    show (wk_ B n t (k + d) p).bind (nd_ B n (t ((k + d : Nat) : Int))) = none
    rw [wk_z h d]
    rfl
theorem wk_no {B : Int → Int32} {n p q k m : Int} {t : Int → Int} (h : wk_ B n t k.toNat p = some q) (hc : ¬ cm_ B n q = t k) (h0 : 0 ≤ k) (h1 : k < m) : wk_ B n t m.toNat p = none := by
  obtain ⟨x, hx⟩ : ∃ x : Nat, k = x := ⟨k.toNat, by omega⟩
  have e : wk_ B n t (x + 1) p = none := by
    show (wk_ B n t x p).bind (nd_ B n (t x)) = none
    rw [show k.toNat = x by omega] at h
    rw [h, ← hx]
    exact nd_x hc
  have e2 := wk_z e (m.toNat - (x + 1))
  rw [show x + 1 + (m.toNat - (x + 1)) = m.toNat by omega] at e2
  exact e2
theorem wk_1 (B : Int → Int32) (n p c : Int) : wk_ B n (tx_ [c]) 1 p = nd_ B n c p := rfl
/-- a text between two places -/
def tm6_ (B : Int → Int32) (n p q : Int) (t : Int → Int) (m : Int) : Prop := q - p = m ∧ ∀ j : Int, 0 ≤ j → j < m → cm_ B n (p + j) = t j
def tL_ (B : Int → Int32) (n p q : Int) (t : Int → Int) (m s k : Int) : Prop := (s = 1 ∧ q - p = m ∧ ∀ j : Int, 0 ≤ j → j < k → cm_ B n (p + j) = t j) ∨ (s = 0 ∧ ¬ tm6_ B n p q t m)
theorem tL_0 {B : Int → Int32} {n p q m s k : Int} {t : Int → Int} (h : (s = 1 ∧ q - p = m) ∨ (s = 0 ∧ ¬ q - p = m)) (hk : k = 0) : tL_ B n p q t m s k := by
  rcases h with ⟨h1, h2⟩ | ⟨h1, h2⟩
  · exact Or.inl ⟨h1, h2, fun j j0 j1 => absurd j1 (by omega)⟩
  · exact Or.inr ⟨h1, fun w => h2 w.1⟩
theorem tL_s {B : Int → Int32} {n p q m s k s2 k2 : Int} {t : Int → Int} (h : tL_ B n p q t m s k) (hs : ¬ s = 0) (hm : k < m) (h0 : 0 ≤ k) (hc : (s2 = 1 ∧ cm_ B n (p + k) = t k) ∨ (s2 = 0 ∧ ¬ cm_ B n (p + k) = t k)) (hk : k2 = k + 1) : tL_ B n p q t m s2 k2 := by
  rcases h with ⟨h1, h2, h3⟩ | ⟨h1, _⟩
  · rcases hc with ⟨c1, c2⟩ | ⟨c1, c2⟩
    · refine Or.inl ⟨c1, h2, fun j j0 j1 => ?_⟩
      by_cases w : j = k
      · rw [w]
        exact c2
      · exact h3 j j0 (by omega)
    · exact Or.inr ⟨c1, fun w => c2 (w.2 k h0 hm)⟩
  · exact absurd h1 hs
theorem tL_e {B : Int → Int32} {n p q m s k : Int} {t : Int → Int} (h : tL_ B n p q t m s k) (hk : s = 0 ∨ m ≤ k) : s = 1 ↔ tm6_ B n p q t m := by
  rcases h with ⟨h1, h2, h3⟩ | ⟨h1, h2⟩
  · exact ⟨fun _ => ⟨h2, fun j j0 j1 => h3 j j0 (by omega)⟩, fun _ => h1⟩
  · exact ⟨fun w => absurd w (by omega), fun w => absurd w h2⟩
theorem tm_2 {B : Int → Int32} {n p q x y : Int} {k : Nat} (h : (st_byts.getD k []).map Int32.toInt = [x, y]) (hl : st_len k = 2) : tm6_ B n p q (st_c k) (st_len k) ↔ (q - p = 2 ∧ cm_ B n p = x ∧ cm_ B n (p + 1) = y) := by
  unfold tm6_
  rw [hl]
  have e0 := sc6 _ h 0
  have e1 := sc6 _ h 1
  have f0 : tx_ [x, y] 0 = x := rfl
  have f1 : tx_ [x, y] 1 = y := rfl
  constructor
  · intro w
    have w0 := w.2 0 (by omega) (by omega)
    have w1 := w.2 1 (by omega) (by omega)
    rw [Int.add_zero] at w0
    exact ⟨w.1, by rw [w0, e0, f0], by rw [w1, e1, f1]⟩
  · intro w
    refine ⟨w.1, fun j j0 j1 => ?_⟩
    by_cases c : j = 0
    · rw [c, Int.add_zero, e0, f0]
      exact w.2.1
    · rw [show j = 1 by omega, e1, f1]
      exact w.2.2
theorem tm_3 {B : Int → Int32} {n p q x y z : Int} {k : Nat} (h : (st_byts.getD k []).map Int32.toInt = [x, y, z]) (hl : st_len k = 3) : tm6_ B n p q (st_c k) (st_len k) ↔ (q - p = 3 ∧ cm_ B n p = x ∧ cm_ B n (p + 1) = y ∧ cm_ B n (p + 2) = z) := by
  unfold tm6_
  rw [hl]
  have e0 := sc6 _ h 0
  have e1 := sc6 _ h 1
  have e2 := sc6 _ h 2
  have f0 : tx_ [x, y, z] 0 = x := rfl
  have f1 : tx_ [x, y, z] 1 = y := rfl
  have f2 : tx_ [x, y, z] 2 = z := rfl
  constructor
  · intro w
    have w0 := w.2 0 (by omega) (by omega)
    have w1 := w.2 1 (by omega) (by omega)
    have w2 := w.2 2 (by omega) (by omega)
    rw [Int.add_zero] at w0
    exact ⟨w.1, by rw [w0, e0, f0], by rw [w1, e1, f1], by rw [w2, e2, f2]⟩
  · intro w
    refine ⟨w.1, fun j j0 j1 => ?_⟩
    by_cases c : j = 0
    · rw [c, Int.add_zero, e0, f0]
      exact w.2.1
    · by_cases d : j = 1
      · rw [d, e1, f1]
        exact w.2.2.1
      · rw [show j = 2 by omega, e2, f2]
        exact w.2.2.2
theorem tm_4 {B : Int → Int32} {n p q x y z u : Int} {k : Nat} (h : (st_byts.getD k []).map Int32.toInt = [x, y, z, u]) (hl : st_len k = 4) : tm6_ B n p q (st_c k) (st_len k) ↔ (q - p = 4 ∧ cm_ B n p = x ∧ cm_ B n (p + 1) = y ∧ cm_ B n (p + 2) = z ∧ cm_ B n (p + 3) = u) := by
  unfold tm6_
  rw [hl]
  have e0 := sc6 _ h 0
  have e1 := sc6 _ h 1
  have e2 := sc6 _ h 2
  have e3 := sc6 _ h 3
  have f0 : tx_ [x, y, z, u] 0 = x := rfl
  have f1 : tx_ [x, y, z, u] 1 = y := rfl
  have f2 : tx_ [x, y, z, u] 2 = z := rfl
  have f3 : tx_ [x, y, z, u] 3 = u := rfl
  constructor
  · intro w
    have w0 := w.2 0 (by omega) (by omega)
    have w1 := w.2 1 (by omega) (by omega)
    have w2 := w.2 2 (by omega) (by omega)
    have w3 := w.2 3 (by omega) (by omega)
    rw [Int.add_zero] at w0
    exact ⟨w.1, by rw [w0, e0, f0], by rw [w1, e1, f1], by rw [w2, e2, f2], by rw [w3, e3, f3]⟩
  · intro w
    refine ⟨w.1, fun j j0 j1 => ?_⟩
    by_cases c : j = 0
    · rw [c, Int.add_zero, e0, f0]
      exact w.2.1
    · by_cases d : j = 1
      · rw [d, e1, f1]
        exact w.2.2.1
      · by_cases e : j = 2
        · rw [e, e2, f2]
          exact w.2.2.2.1
        · rw [show j = 3 by omega, e3, f3]
          exact w.2.2.2.2
/-- its steps -/
theorem c6_0 {B : Int → Int32} {n p r a : Int} (h : oy_ r a = wk_ B n tC_ 4 p) (hr : ¬ r = 0) : dD_ B n a = cF B n p := by
  rw [oy_t hr] at h
  unfold cF
  rw [← h]
  rfl
theorem c6_x {B : Int → Int32} {n q r2 a2 : Int} {X : Option Int} (h : dD_ B n q = X) (hq : ¬ q < n ∨ (cm_ B n q = 45 ∧ cm_ B n (q + 1) = 45)) (h2 : oy_ r2 a2 = wk_ B n tD_ 3 q) : oy_ r2 a2 = X := by
  rw [h2, ← h]
  unfold dD_
  rcases hq with c | c
  · rw [dF_o c]
  · rw [dF_y c.1 c.2]
theorem c6_n {B : Int → Int32} {n p r a r2 a2 : Int} (h : oy_ r a = wk_ B n tC_ 4 p) (hr : r = 0) (h2 : r2 = 0) : oy_ r2 a2 = cF B n p := by
  rw [oy_f hr] at h
  unfold cF
  rw [← h, oy_f h2]
  rfl
theorem c6_d {B : Int → Int32} {n q q2 : Int} {X : Option Int} (h : dD_ B n q = X) (hq : q < n) (hc : ¬ (cm_ B n q = 45 ∧ cm_ B n (q + 1) = 45)) (e : q2 = q + 1) : dD_ B n q2 = X := by
  rw [← h]
  unfold dD_
  rw [dF_n hq hc, e]
theorem g6_y {B : Int → Int32} {n a s : Int} {X : Option Int} (h : gF B n a = X) (hs : s = sF B n a) (ha : a ≤ n) (hc : ¬ (cm_ B n s = 60 ∧ cm_ B n (s + 1) = 33)) {r : Int} (hr : ¬ r = 0) : oy_ r s = X := by
  rw [← h, gF_e ha, ← hs, gG_n hc, oy_t hr]
theorem g6_n {B : Int → Int32} {n a s r b r2 b2 : Int} {X : Option Int} (h : gF B n a = X) (hs : s = sF B n a) (ha : a ≤ n) (c1 : cm_ B n s = 60) (c2 : cm_ B n (s + 1) = 33) (hc : oy_ r b = cF B n s) (hr : r = 0) (h2 : r2 = 0) : oy_ r2 b2 = X := by
  rw [oy_f hr] at hc
  rw [← h, gF_e ha, ← hs, gG_y c1 c2, ← hc, oy_f h2]
  rfl
theorem g6_s {B : Int → Int32} {n a s r b : Int} {X : Option Int} (h : gF B n a = X) (hs : s = sF B n a) (ha : a ≤ n) (c1 : cm_ B n s = 60) (c2 : cm_ B n (s + 1) = 33) (hc : oy_ r b = cF B n s) (hr : ¬ r = 0) : gF B n b = X := by
  rw [oy_t hr] at hc
  rw [← h, gF_e ha, ← hs, gG_y c1 c2, ← hc]
  rfl
theorem cl6_ {B : Int → Int32} {n p r a s r2 a2 : Int} {t : Int → Int} {m : Nat} (h : oy_ r a = wk_ B n t m p) (hr : ¬ r = 0) (hs : s = sF B n a) (h2 : oy_ r2 a2 = nd_ B n 62 s) : oy_ r2 a2 = cl_ B n t m p := by
  rw [oy_t hr] at h
  unfold cl_
  rw [← h, h2, hs]
  rfl
theorem cl6_n {B : Int → Int32} {n p r a r2 a2 : Int} {t : Int → Int} {m : Nat} (h : oy_ r a = wk_ B n t m p) (hr : r = 0) (h2 : r2 = 0) : oy_ r2 a2 = cl_ B n t m p := by
  rw [oy_f hr] at h
  unfold cl_
  rw [← h, oy_f h2]
  rfl
theorem cw6 {B : Int → Int32} {n p : Int} {k : Nat} (T : List Int) (h : (st_byts.getD k []).map Int32.toInt = T) (hl : (st_len k).toNat = T.length) : cl_ B n (st_c k) (st_len k).toNat p = cl_ B n (tx_ T) T.length p := by
  unfold cl_
  rw [sw6 T h hl]
/-- the head -/
def hd6_ (B : Int → Int32) (n r io a : Int) : Prop := (¬ r = 0 ∧ ∃ s : Int, hs_ B n = some s ∧ ((io = 0 ∧ cm_ B n s = 47 ∧ wk_ B n tG_ 2 s = some a) ∨ (¬ io = 0 ∧ ¬ cm_ B n s = 47 ∧ (nd_ B n 62 s).bind (gF B n) = some a))) ∨ (r = 0 ∧ mk_ B n = none)
theorem hs_n1 {B : Int → Int32} {n r a r2 io a2 : Int} (h : oy_ r a = gF B n 0) (hr : r = 0) (h2 : r2 = 0) : hd6_ B n r2 io a2 := by
  rw [oy_f hr] at h
  refine Or.inr ⟨h2, ?_⟩
  unfold mk_ hs_
  rw [← h]
  rfl
theorem hs_n2 {B : Int → Int32} {n r a r1 a1 r2 io a2 : Int} (h : oy_ r a = gF B n 0) (hr : ¬ r = 0) (h1 : oy_ r1 a1 = wk_ B n tH_ 5 a) (hr1 : r1 = 0) (h2 : r2 = 0) : hd6_ B n r2 io a2 := by
  rw [oy_t hr] at h
  rw [oy_f hr1] at h1
  refine Or.inr ⟨h2, ?_⟩
  unfold mk_ hs_
  rw [← h]
  show (((wk_ B n tH_ 5 a).map (sF B n)).bind _) = none
  rw [← h1]
  rfl
theorem hs_y {B : Int → Int32} {n r a r1 a1 s : Int} (h : oy_ r a = gF B n 0) (hr : ¬ r = 0) (h1 : oy_ r1 a1 = wk_ B n tH_ 5 a) (hr1 : ¬ r1 = 0) (hs : s = sF B n a1) : hs_ B n = some s := by
  rw [oy_t hr] at h
  rw [oy_t hr1] at h1
  unfold hs_
  rw [← h]
  show (wk_ B n tH_ 5 a).map (sF B n) = some s
  rw [← h1, hs]
  rfl
theorem mk_s {B : Int → Int32} {n s : Int} (h : hs_ B n = some s) (hc : cm_ B n s = 47) : mk_ B n = (wk_ B n tG_ 2 s).bind (tA6_ B n []) := by
  unfold mk_
  rw [h]
  show (if cm_ B n s = 47 then (wk_ B n tG_ 2 s).bind (tA6_ B n []) else ((nd_ B n 62 s).bind (gF B n)).bind (fun g => (eS B n g []).bind (mT6_ B n))) = _
  rw [if_pos hc]
theorem mk_o {B : Int → Int32} {n s : Int} (h : hs_ B n = some s) (hc : ¬ cm_ B n s = 47) : mk_ B n = ((nd_ B n 62 s).bind (gF B n)).bind (fun g => (eS B n g []).bind (mT6_ B n)) := by
  unfold mk_
  rw [h]
  show (if cm_ B n s = 47 then (wk_ B n tG_ 2 s).bind (tA6_ B n []) else ((nd_ B n 62 s).bind (gF B n)).bind (fun g => (eS B n g []).bind (mT6_ B n))) = _
  rw [if_neg hc]
theorem hd_c {B : Int → Int32} {n s r a io : Int} (h : hs_ B n = some s) (hc : cm_ B n s = 47) (e : oy_ r a = wk_ B n tG_ 2 s) (hi : io = 0) : hd6_ B n r io a := by
  by_cases w : r = 0
  · rw [oy_f w] at e
    exact Or.inr ⟨w, by rw [mk_s h hc, ← e]; rfl⟩
  · rw [oy_t w] at e
    exact Or.inl ⟨w, s, h, Or.inl ⟨hi, hc, e.symm⟩⟩
theorem hd_o {B : Int → Int32} {n s r1 a1 r a io : Int} (h : hs_ B n = some s) (hc : ¬ cm_ B n s = 47) (e1 : oy_ r1 a1 = nd_ B n 62 s) (hr1 : ¬ r1 = 0) (e : oy_ r a = gF B n a1) (hi : ¬ io = 0) : hd6_ B n r io a := by
  rw [oy_t hr1] at e1
  by_cases w : r = 0
  · rw [oy_f w] at e
    refine Or.inr ⟨w, ?_⟩
    rw [mk_o h hc, ← e1]
    show (gF B n a1).bind _ = none
    rw [← e]
    rfl
  · rw [oy_t w] at e
    refine Or.inl ⟨w, s, h, Or.inr ⟨hi, hc, ?_⟩⟩
    rw [← e1]
    exact e.symm
theorem hd_on {B : Int → Int32} {n s r1 a1 r a io : Int} (h : hs_ B n = some s) (hc : ¬ cm_ B n s = 47) (e1 : oy_ r1 a1 = nd_ B n 62 s) (hr1 : r1 = 0) (hr : r = 0) : hd6_ B n r io a := by
  rw [oy_f hr1] at e1
  refine Or.inr ⟨hr, ?_⟩
  rw [mk_o h hc, ← e1]
  rfl
/-- the tail -/
def tl6_ (B : Int → Int32) (n io r p : Int) : Prop := (¬ r = 0 ∧ (if io = 0 then some p else cl_ B n tI_ 6 p).bind (gF B n) = some n) ∨ (r = 0 ∧ ¬ (if io = 0 then some p else cl_ B n tI_ 6 p).bind (gF B n) = some n)
theorem tl_c {B : Int → Int32} {n io p r1 a1 r : Int} (hi : ¬ io = 0) (h1 : oy_ r1 a1 = cl_ B n tI_ 6 p) (hr1 : r1 = 0) (hr : r = 0) : tl6_ B n io r p := by
  rw [oy_f hr1] at h1
  refine Or.inr ⟨hr, ?_⟩
  rw [if_neg hi, ← h1]
  exact fun q => absurd q (by simp)
theorem tl_g {B : Int → Int32} {n io p a1 r2 a2 r : Int} (hX : (if io = 0 then some p else cl_ B n tI_ 6 p) = some a1) (h2 : oy_ r2 a2 = gF B n a1) (h : (r2 = 0 ∧ r = 0) ∨ (¬ r2 = 0 ∧ a2 = n ∧ ¬ r = 0) ∨ (¬ r2 = 0 ∧ ¬ a2 = n ∧ r = 0)) : tl6_ B n io r p := by
  unfold tl6_
  rw [hX]
  show (¬ r = 0 ∧ gF B n a1 = some n) ∨ (r = 0 ∧ ¬ gF B n a1 = some n)
  rw [← h2]
  rcases h with ⟨q1, q2⟩ | ⟨q1, q2, q3⟩ | ⟨q1, q2, q3⟩
  · rw [oy_f q1]
    exact Or.inr ⟨q2, fun q => absurd q (by simp)⟩
  · rw [oy_t q1, q2]
    exact Or.inl ⟨q3, rfl⟩
  · rw [oy_t q1]
    exact Or.inr ⟨q3, fun q => q2 (Option.some.inj q)⟩
theorem tl_X0 {B : Int → Int32} {n io p : Int} (h : io = 0) : (if io = 0 then some p else cl_ B n tI_ 6 p) = some p := if_pos h
theorem tl_X1 {B : Int → Int32} {n io p r a : Int} (h : ¬ io = 0) (e : oy_ r a = cl_ B n tI_ 6 p) (hr : ¬ r = 0) : (if io = 0 then some p else cl_ B n tI_ 6 p) = some a := by
  rw [if_neg h, ← e, oy_t hr]
/-- what is behind an and, and the semicolon -/
def ov_ (r a : Int) : Option (Int × Int) := if r < 0 then none else some (a, r)
theorem rf_c {B : Int → Int32} {n p b a r a2 : Int} (h : (cm_ B n p = 35 ∧ ov_ b a = nu_ B n p) ∨ (¬ cm_ B n p = 35 ∧ ov_ b a = nM6_ B n p)) (hb : ¬ b < 0) (e : oy_ r a2 = nd_ B n 59 a) : or2_ (if r = 0 then 1 else 0) a2 b = rf_ B n p := by
  unfold rf_
  have k : (if cm_ B n p = 35 then nu_ B n p else nM6_ B n p) = some (a, b) := by
    unfold ov_ at h
    rw [if_neg hb] at h
    rcases h with ⟨c, q⟩ | ⟨c, q⟩
    · rw [if_pos c, ← q]
    · rw [if_neg c, ← q]
  rw [k]
  show _ = (nd_ B n 59 a).map (fun q => (q, b))
  rw [← e]
  by_cases w : r = 0
  · rw [oy_f w, if_pos w]
    rfl
  · rw [oy_t w, if_neg w]
    rfl
theorem rf_cn {B : Int → Int32} {n p b a : Int} (h : (cm_ B n p = 35 ∧ ov_ b a = nu_ B n p) ∨ (¬ cm_ B n p = 35 ∧ ov_ b a = nM6_ B n p)) (hb : b < 0) : rf_ B n p = none := by
  unfold rf_
  unfold ov_ at h
  rw [if_pos hb] at h
  rcases h with ⟨c, q⟩ | ⟨c, q⟩
  · rw [if_pos c, ← q]
    rfl
  · rw [if_neg c, ← q]
    rfl
theorem ov_m {B : Int → Int32} {n p q r a z : Int} (hz : q = lF B n p) (hr : (z = 0 ∧ r < 0) ∨ (¬ z = 0 ∧ r = z ∧ 0 ≤ r ∧ a = q)) (e : z = nc_ B n p (q - p)) : ov_ r a = nM6_ B n p := by
  unfold ov_ nM6_
  rw [← hz, ← e]
  rcases hr with ⟨q1, q2⟩ | ⟨q1, q2, q3, q4⟩
  · rw [if_pos q1, if_pos q2]
  · rw [if_neg q1, if_neg (by omega), q2, q4]
theorem ov_u {B : Int → Int32} {n p a5 v r a : Int} (hd : dg_ B n 3 (p + 1) 0 = (a5, v)) (hr : ((cm_ B n (p + 1) = 48 ∨ v < 32 ∨ 126 < v) ∧ r < 0) ∨ (¬ (cm_ B n (p + 1) = 48 ∨ v < 32 ∨ 126 < v) ∧ r = v ∧ a = a5)) : ov_ r a = nu_ B n p := by
  unfold ov_ nu_
  rw [hd]
  dsimp only
  rcases hr with ⟨q1, q2⟩ | ⟨q1, q2, q3⟩
  · rw [if_pos q1, if_pos q2]
  · rw [if_neg q1, if_neg (by omega), q2, q3]
/-- a value: its answer with a place -/
theorem vL_k {B : Int → Int32} {n q x b a z b2 a2 z2 p : Int} {g g2 : Nat → Int32} {T : Option (Int × Int × (Int → Int))} (h : vL_ B n q x T b a z g) (hb : b = 0) (h1 : ¬ cm_ B n a = q) (h3 : cm_ B n a = 38) (hp : p = a + 1) (hr : rf_ B n p = none) (hb2 : ¬ b2 = 0) : vL_ B n q x T b2 a2 z2 g2 := by
  obtain ⟨W, w1, w2⟩ := vL_o h hb
  exact Or.inr ⟨hb2, by rw [← w1, vG_f h1 h3 (by rw [← hp]; exact hr)]⟩
theorem oy_1 {r r1 a : Int} {X : Option Int} (h : oy_ r a = X) (hr : ¬ r = 0) (h1 : ¬ r1 = 0) : oy_ r1 a = X := by
  rw [← h, oy_t hr, oy_t h1]
theorem oy_0 {r r1 a a1 : Int} {X : Option Int} (h : oy_ r a = X) (hr : r = 0) (h1 : r1 = 0) : oy_ r1 a1 = X := by
  rw [← h, oy_f hr, oy_f h1]
def fn_ (r f g : Int) : Prop := (r < 0 ∧ 0 ≤ g) ∨ (¬ r < 0 ∧ g = f)
theorem nc_1 {B : Int → Int32} {n p z : Int} (h : z = 3 ∧ cm_ B n p = 97 ∧ cm_ B n (p + 1) = 109 ∧ cm_ B n (p + 2) = 112) : 38 = nc_ B n p z := by
  unfold nc_
  rw [if_pos h]
theorem nc_2 {B : Int → Int32} {n p z : Int} (h1 : ¬ (z = 3 ∧ cm_ B n p = 97 ∧ cm_ B n (p + 1) = 109 ∧ cm_ B n (p + 2) = 112)) (h : z = 2 ∧ cm_ B n p = 108 ∧ cm_ B n (p + 1) = 116) : 60 = nc_ B n p z := by
  unfold nc_
  rw [if_neg h1, if_pos h]
theorem nc_3 {B : Int → Int32} {n p z : Int} (h1 : ¬ (z = 3 ∧ cm_ B n p = 97 ∧ cm_ B n (p + 1) = 109 ∧ cm_ B n (p + 2) = 112)) (h2 : ¬ (z = 2 ∧ cm_ B n p = 108 ∧ cm_ B n (p + 1) = 116)) (h : z = 2 ∧ cm_ B n p = 103 ∧ cm_ B n (p + 1) = 116) : 62 = nc_ B n p z := by
  unfold nc_
  rw [if_neg h1, if_neg h2, if_pos h]
theorem nc_4 {B : Int → Int32} {n p z : Int} (h1 : ¬ (z = 3 ∧ cm_ B n p = 97 ∧ cm_ B n (p + 1) = 109 ∧ cm_ B n (p + 2) = 112)) (h2 : ¬ (z = 2 ∧ cm_ B n p = 108 ∧ cm_ B n (p + 1) = 116)) (h3 : ¬ (z = 2 ∧ cm_ B n p = 103 ∧ cm_ B n (p + 1) = 116)) (h : z = 4 ∧ cm_ B n p = 113 ∧ cm_ B n (p + 1) = 117 ∧ cm_ B n (p + 2) = 111 ∧ cm_ B n (p + 3) = 116) : 34 = nc_ B n p z := by
  unfold nc_
  rw [if_neg h1, if_neg h2, if_neg h3, if_pos h]
theorem nc_5 {B : Int → Int32} {n p z : Int} (h1 : ¬ (z = 3 ∧ cm_ B n p = 97 ∧ cm_ B n (p + 1) = 109 ∧ cm_ B n (p + 2) = 112)) (h2 : ¬ (z = 2 ∧ cm_ B n p = 108 ∧ cm_ B n (p + 1) = 116)) (h3 : ¬ (z = 2 ∧ cm_ B n p = 103 ∧ cm_ B n (p + 1) = 116)) (h4 : ¬ (z = 4 ∧ cm_ B n p = 113 ∧ cm_ B n (p + 1) = 117 ∧ cm_ B n (p + 2) = 111 ∧ cm_ B n (p + 3) = 116)) (h : z = 4 ∧ cm_ B n p = 97 ∧ cm_ B n (p + 1) = 112 ∧ cm_ B n (p + 2) = 111 ∧ cm_ B n (p + 3) = 115) : 39 = nc_ B n p z := by
  unfold nc_
  rw [if_neg h1, if_neg h2, if_neg h3, if_neg h4, if_pos h]
theorem nc_6 {B : Int → Int32} {n p z : Int} (h1 : ¬ (z = 3 ∧ cm_ B n p = 97 ∧ cm_ B n (p + 1) = 109 ∧ cm_ B n (p + 2) = 112)) (h2 : ¬ (z = 2 ∧ cm_ B n p = 108 ∧ cm_ B n (p + 1) = 116)) (h3 : ¬ (z = 2 ∧ cm_ B n p = 103 ∧ cm_ B n (p + 1) = 116)) (h4 : ¬ (z = 4 ∧ cm_ B n p = 113 ∧ cm_ B n (p + 1) = 117 ∧ cm_ B n (p + 2) = 111 ∧ cm_ B n (p + 3) = 116)) (h5 : ¬ (z = 4 ∧ cm_ B n p = 97 ∧ cm_ B n (p + 1) = 112 ∧ cm_ B n (p + 2) = 111 ∧ cm_ B n (p + 3) = 115)) : 0 = nc_ B n p z := by
  unfold nc_
  rw [if_neg h1, if_neg h2, if_neg h3, if_neg h4, if_neg h5]
theorem rf_y {B : Int → Int32} {n p b a r a2 : Int} (h : (cm_ B n p = 35 ∧ ov_ b a = nu_ B n p) ∨ (¬ cm_ B n p = 35 ∧ ov_ b a = nM6_ B n p)) (hb : ¬ b < 0) (e : oy_ r a2 = nd_ B n 59 a) (hr : ¬ r = 0) : rf_ B n p = some (a2, b) := by
  have k := rf_c h hb e
  rw [if_neg hr] at k
  rw [← k]
  rfl
theorem rf_n2 {B : Int → Int32} {n p b a r a2 : Int} (h : (cm_ B n p = 35 ∧ ov_ b a = nu_ B n p) ∨ (¬ cm_ B n p = 35 ∧ ov_ b a = nM6_ B n p)) (hb : ¬ b < 0) (e : oy_ r a2 = nd_ B n 59 a) (hr : r = 0) : rf_ B n p = none := by
  have k := rf_c h hb e
  rw [if_pos hr] at k
  rw [← k]
  rfl
theorem vL_i {B : Int → Int32} {n q x a z : Int} {g : Nat → Int32} (hz : z = 0) : vL_ B n q x (vG B n q a 0 (fun _ => 0)) 0 a z g := Or.inl ⟨rfl, fun _ => 0, by rw [hz], fun j j0 j1 => absurd j1 (by omega)⟩
theorem vR_e {x b b2 a z : Int} {g : Nat → Int32} {T : Option (Int × Int × (Int → Int))} (h : vR_ x T b a z g) (e : b2 = b) : vR_ x T b2 a z g := by
  rw [e]
  exact h
def jr_ (B : Int → Int32) (n a a3 b3 : Int) : Prop := (¬ cm_ B n a = 38 ∧ b3 = cm_ B n a ∧ a3 = a + 1) ∨ (cm_ B n a = 38 ∧ rf_ B n (a + 1) = some (a3, b3))
theorem vL_j {B : Int → Int32} {n q x a z a3 b3 z2 : Int} {g g2 : Nat → Int32} {T : Option (Int × Int × (Int → Int))} (h : vL_ B n q x T 0 a z g) (h1 : ¬ cm_ B n a = q) (h2 : ¬ (cm_ B n a < 32 ∨ 126 < cm_ B n a ∨ cm_ B n a = 60)) (j6 : jr_ B n a a3 b3) (ez : z2 = z + 1) (hg : 0 ≤ b3 → b3 ≤ 126 → ∀ j : Int, 0 ≤ j → j < z + 1 → j < x → gx g2 j = if j = z then b3 else gx g j) : vL_ B n q x T 0 a3 z2 g2 := by
  rcases j6 with ⟨c, e1, e2⟩ | ⟨c, e⟩
  · exact vL_c h rfl h1 h2 c rfl e2 ez (by rw [← e1]; exact hg (by omega) (by omega))
  · exact vL_r (r := b3) (p := a + 1) h rfl h1 c rfl (by rw [e]; rfl) ez (fun u0 u1 => hg (by omega) u1)
/-- an attribute kept -/
def kG6_ (V : VW_) (k r z ht2 : Int) (v g g2 : Nat → Int32) : Prop := (¬ r = 0 ∧ iA_ (gx v) 0 z ∧ ht2 = 1 ∧ isF_ V z (gx v) (gx g2 k) ∧ ∀ x : Int, 0 ≤ x → x < k → gx g2 x = gx g x) ∨ (r = 0 ∧ ¬ iA_ (gx v) 0 z)
def cA6_ (B : Int → Int32) (n : Int) (V : VW_) (k d p r a hi ht hi2 ht2 : Int) (g g2 : Nat → Int32) : Prop := (¬ r = 0 ∧ ∃ (w z : Int) (W : Int → Int), at_F B n d p = some (a, w, z, W) ∧ ((w = 1 ∧ hi2 = 1 ∧ ht2 = ht ∧ g2 = g) ∨ (w = 2 ∧ hi2 = hi ∧ ht2 = 1 ∧ isF_ V z W (gx g2 k) ∧ ∀ x : Int, 0 ≤ x → x < k → gx g2 x = gx g x))) ∨ (r = 0 ∧ at_F B n d p = none)
theorem cA_w {B : Int → Int32} {n d p q hi ht w : Int} (hq : q = lF B n p) (hd : d = hi + 2 * ht) (h0 : hi = 0 ∨ hi = 1) (h1 : ht = 0 ∨ ht = 1) (h : (w = 1 ∧ (q - p = 2 ∧ cm_ B n p = 105 ∧ cm_ B n (p + 1) = 100) ∧ hi = 0) ∨ (w = 2 ∧ (q - p = 2 ∧ cm_ B n p = 116 ∧ cm_ B n (p + 1) = 111) ∧ ht = 0) ∨ (w = 0 ∧ ¬ ((q - p = 2 ∧ cm_ B n p = 105 ∧ cm_ B n (p + 1) = 100) ∧ hi = 0) ∧ ¬ ((q - p = 2 ∧ cm_ B n p = 116 ∧ cm_ B n (p + 1) = 111) ∧ ht = 0))) : w = wh_ B n d p := by
  refine a6_w (z := q - p) (by omega) ?_
  rcases h with ⟨e, y, k⟩ | ⟨e, y, k⟩ | ⟨e, y, k⟩
  · exact Or.inl ⟨e, by omega, y.1, y.2.1, y.2.2⟩
  · exact Or.inr (Or.inl ⟨e, by omega, y.1, y.2.1, y.2.2⟩)
  · exact Or.inr (Or.inr ⟨e, fun u => y ⟨⟨u.2.1, u.2.2.1, u.2.2.2⟩, by (exact omg_5a3444c68b hd h0 u)⟩, fun u => k ⟨⟨u.2.1, u.2.2.1, u.2.2.2⟩, by omega⟩⟩)
theorem cA_0 {B : Int → Int32} {n d p : Int} (h : 0 = wh_ B n d p) : at_F B n d p = none := by
  unfold at_F
  rw [if_pos h.symm]
theorem cA_e {B : Int → Int32} {n d p w q r a : Int} (h : w = wh_ B n d p) (hw : ¬ w = 0) (hq : q = lF B n p) (e : oy_ r a = nd_ B n 61 q) (hr : r = 0) : at_F B n d p = none := by
  unfold at_F
  rw [if_neg (by omega), ← hq, ← e, oy_f hr]
  rfl
theorem cA_T {B : Int → Int32} {n d p w q r a : Int} (h : w = wh_ B n d p) (hw : ¬ w = 0) (hq : q = lF B n p) (e : oy_ r a = nd_ B n 61 q) (hr : ¬ r = 0) : at_F B n d p = (vq_ B n a).bind (va_ w) := by
  unfold at_F
  rw [if_neg (by omega), ← hq, ← e, oy_t hr, ← h]
  rfl
theorem vq_n {B : Int → Int32} {n a : Int} (h : ¬ (cm_ B n a = 34 ∨ cm_ B n a = 39)) : vq_ B n a = none := by
  unfold vq_
  rw [if_neg h]
theorem vq_y {B : Int → Int32} {n a q p : Int} (h : cm_ B n a = 34 ∨ cm_ B n a = 39) (hq : q = cm_ B n a) (hp : p = a + 1) : vq_ B n a = vG B n q p 0 (fun _ => 0) := by
  unfold vq_
  rw [if_pos h, hq, hp]
theorem cA_q {B : Int → Int32} {n d p w a : Int} (T : at_F B n d p = (vq_ B n a).bind (va_ w)) (h : ¬ (cm_ B n a = 34 ∨ cm_ B n a = 39)) : at_F B n d p = none := by
  rw [T, vq_n h]
  rfl
theorem cA_v {B : Int → Int32} {n d p w a q p2 x b a2 z : Int} {g : Nat → Int32} (T : at_F B n d p = (vq_ B n a).bind (va_ w)) (h : cm_ B n a = 34 ∨ cm_ B n a = 39) (hq : q = cm_ B n a) (hp : p2 = a + 1) (v : vR_ x (vG B n q p2 0 (fun _ => 0)) b a2 z g) (hb : ¬ b = 0) : at_F B n d p = none := by
  rw [T, vq_y h hq hp]
  rcases v with ⟨k, _⟩ | ⟨_, k⟩
  · exact absurd k hb
  · rw [k]
    rfl
theorem cA_V {B : Int → Int32} {n d p w a q p2 b a2 z : Int} {g : Nat → Int32} (T : at_F B n d p = (vq_ B n a).bind (va_ w)) (h : cm_ B n a = 34 ∨ cm_ B n a = 39) (hq : q = cm_ B n a) (hp : p2 = a + 1) (v : vR_ 24 (vG B n q p2 0 (fun _ => 0)) b a2 z g) (hb : b = 0) : ∃ W : Int → Int, at_F B n d p = va_ w (a2, z, W) ∧ ∀ j : Int, 0 ≤ j → j < z → j < 24 → gx g j = W j := by
  rw [T, vq_y h hq hp]
  rcases v with ⟨_, W, k1, k2⟩ | ⟨k, _⟩
  · exact ⟨W, by rw [k1]; rfl, k2⟩
  · exact absurd hb k
theorem iA_24 {v : Nat → Int32} {W : Int → Int} {z : Int} (h : ∀ j : Int, 0 ≤ j → j < z → j < 24 → gx v j = W j) : iA_ (gx v) 0 z ↔ iA_ W 0 z := by
  constructor
  · intro q
    have q2 := q.2.1
    exact iA_cong (fun k k0 k1 => h k k0 (by omega) (by omega)) q
  · intro q
    have q2 := q.2.1
    exact iA_cong (fun k k0 k1 => (h k k0 (by omega) (by omega)).symm) q
theorem cA_i {B : Int → Int32} {n : Int} {V : VW_} {k d p w a2 z r a hi ht hi2 ht2 : Int} {g g2 : Nat → Int32} {v : Nat → Int32} (u : ∃ W : Int → Int, at_F B n d p = va_ w (a2, z, W) ∧ ∀ j : Int, 0 ≤ j → j < z → j < 24 → gx v j = W j) (hw : w = 1) (hz : 1 ≤ z ∧ z ≤ 8) (hr : ¬ r = 0) (ea : a = a2 + 1) (h1 : hi2 = 1) (h2 : ht2 = ht) (h3 : g2 = g) : cA6_ B n V k d p r a hi ht hi2 ht2 g g2 := by
  obtain ⟨W, u1, u2⟩ := u
  refine Or.inl ⟨hr, 1, z, W, ?_, Or.inl ⟨rfl, h1, h2, h3⟩⟩
  rw [u1, va_y (Or.inl ⟨hw, hz.1, hz.2⟩), ea, hw]
theorem cA_in {B : Int → Int32} {n : Int} {V : VW_} {k d p w a2 z r a hi ht hi2 ht2 : Int} {g g2 : Nat → Int32} {v : Nat → Int32} (u : ∃ W : Int → Int, at_F B n d p = va_ w (a2, z, W) ∧ ∀ j : Int, 0 ≤ j → j < z → j < 24 → gx v j = W j) (hw : w = 1) (hz : ¬ (1 ≤ z ∧ z ≤ 8)) (hr : r = 0) : cA6_ B n V k d p r a hi ht hi2 ht2 g g2 := by
  obtain ⟨W, u1, u2⟩ := u
  exact Or.inr ⟨hr, by rw [u1, va_n (fun q => by rcases q with q | q; exact hz q.2; exact q.1 hw)]⟩
theorem cA_g {B : Int → Int32} {n : Int} {V : VW_} {k d p w a2 z r r1 a hi ht hi2 ht2 : Int} {v g g2 : Nat → Int32} (u : ∃ W : Int → Int, at_F B n d p = va_ w (a2, z, W) ∧ ∀ j : Int, 0 ≤ j → j < z → j < 24 → gx v j = W j) (hw : w = 2) (kg : kG6_ V k r1 z ht2 v g g2) (hr1 : ¬ r1 = 0) (hr : ¬ r = 0) (ea : a = a2 + 1) (h1 : hi2 = hi) : cA6_ B n V k d p r a hi ht hi2 ht2 g g2 := by
  obtain ⟨W, u1, u2⟩ := u
  rcases kg with ⟨_, c1, c2, c3, c4⟩ | ⟨c, _⟩
  · have c5 := c1.2.1
    refine Or.inl ⟨hr, 2, z, W, ?_, Or.inr ⟨rfl, h1, c2, isF_cg c3 (fun j j0 j1 => u2 j j0 j1 (by omega)), c4⟩⟩
    rw [u1, va_y (Or.inr ⟨by omega, (iA_24 u2).mp c1⟩), ea, hw]
  · exact absurd c hr1
theorem cA_gn {B : Int → Int32} {n : Int} {V : VW_} {k d p w a2 z r r1 a hi ht hi2 ht2 ht3 : Int} {v g g2 g3 : Nat → Int32} (u : ∃ W : Int → Int, at_F B n d p = va_ w (a2, z, W) ∧ ∀ j : Int, 0 ≤ j → j < z → j < 24 → gx v j = W j) (hw : w = 2) (kg : kG6_ V k r1 z ht3 v g g3) (hr1 : r1 = 0) (hr : r = 0) : cA6_ B n V k d p r a hi ht hi2 ht2 g g2 := by
  obtain ⟨W, u1, u2⟩ := u
  rcases kg with ⟨c, _⟩ | ⟨_, c1⟩
  · exact absurd hr1 c
  · exact Or.inr ⟨hr, by rw [u1, va_n (fun q => by rcases q with q | q; omega; exact c1 ((iA_24 u2).mpr q.2))]⟩
theorem cA_n {B : Int → Int32} {n : Int} {V : VW_} {k d p r a hi ht hi2 ht2 : Int} {g g2 : Nat → Int32} (h : at_F B n d p = none) (hr : r = 0) : cA6_ B n V k d p r a hi ht hi2 ht2 g g2 := Or.inr ⟨hr, h⟩
/-- an element: the goal's part, where there is a goal -/
def gl6_ (V : VW_) (k ht : Int) (g g2 : Nat → Int32) (R : RE_) : Prop := (∀ x : Int, 0 ≤ x → x < k → gx g2 x = gx g x) ∧ (ht = 1 → isF_ V R.2.2.1 R.2.2.2 (gx g2 k))
def cL6_ (B : Int → Int32) (n : Int) (V : VW_) (T : Option (Int × Int × RE_)) (k a sp hi ht j : Int) (g g2 : Nat → Int32) : Prop := (hi = 0 ∨ hi = 1) ∧ (ht = 0 ∨ ht = 1) ∧ j = hi + ht ∧ ∃ R : RE_, T = el_ B n (fu_ (hi + 2 * ht)) (hi + 2 * ht) R a sp ∧ gl6_ V k ht g g2 R
theorem cL_0 {B : Int → Int32} {n : Int} {V : VW_} {p r q a sp k : Int} {g : Nat → Int32} {hi ht j : Int} (h : oy_ r q = wk_ B n tE_ 4 p) (hr : ¬ r = 0) (hs : a = sF B n q) (hx : (sp = 1 ∧ q < a) ∨ (sp = 0 ∧ a = q)) (h1 : hi = 0) (h2 : ht = 0) (h3 : j = 0) : cL6_ B n V ((wk_ B n tE_ 4 p).bind (eA_ B n)) k a sp hi ht j g g := by
  rw [oy_t hr] at h
  refine ⟨Or.inl h1, Or.inl h2, by omega, RZ_, ?_, fun _ _ _ => rfl, fun w => absurd w (by omega)⟩
  rw [← h, h1, h2]
  show el_ B n 3 0 RZ_ (sF B n q) (if q < sF B n q then 1 else 0) = el_ B n (fu_ (0 + 2 * 0)) (0 + 2 * 0) RZ_ a sp
  rw [← hs]
  have e : (if q < a then (1 : Int) else 0) = sp := by split <;> omega
  rw [e]
  rfl
theorem cL_s {B : Int → Int32} {n : Int} {V : VW_} {T : Option (Int × Int × RE_)} {k a sp hi ht j r q a2 sp2 hi2 ht2 j2 d : Int} {g g2 g3 : Nat → Int32} (m : cL6_ B n V T k a sp hi ht j g g2) (hc : ¬ (cm_ B n a = 47 ∨ cm_ B n a = 62)) (hs : ¬ sp = 0) (hd : d = hi + 2 * ht) (r6 : cA6_ B n V k d a r q hi ht hi2 ht2 g2 g3) (hr : ¬ r = 0) (h2 : a2 = sF B n q) (hx : (sp2 = 1 ∧ q < a2) ∨ (sp2 = 0 ∧ a2 = q)) (hj : j2 = j + 1) (hk : 0 ≤ k) : cL6_ B n V T k a2 sp2 hi2 ht2 j2 g g3 := by
  obtain ⟨m1, m2, m3, R, m4, m5, m6⟩ := m
  rcases r6 with ⟨_, w, z, W, r1, r2⟩ | ⟨c, _⟩
  · have u := at_up r1
    have v : w = 1 ∧ d % 2 = 0 ∨ w = 2 ∧ d < 2 := by
      rcases u.1 with y | y
      · exact Or.inl ⟨y.1, y.2.1⟩
      · exact Or.inr ⟨y.1, y.2.1⟩
    have e : (if q < sF B n q then (1 : Int) else 0) = sp2 := by
      rw [← h2]
      split <;> omega
    have eT : T = el_ B n (fu_ (d + w)) (d + w) (rp_ R w z W) a2 sp2 := by
      rw [m4, ← hd, fu_s (by (exact omg_bdd4e6d0b7 hd m1 m2)) (by (exact omg_ab4f633451 hd m1 m2)) v, el_s hc hs r1, e, h2]
    rcases r2 with ⟨w1, y1, y2, y3⟩ | ⟨w2, y1, y2, y3, y4⟩
    · have hh : hi = 0 := by (exact omg_f83adc4345 hd m1 v w1)
      refine ⟨by omega, by (exact omg_42195a8493 m2 y2), by omega, rp_ R w z W, ?_, ?_, ?_⟩
      · rw [eT, show d + w = hi2 + 2 * ht2 by omega]
      · rw [y3]
        exact m5
      · intro q9
        unfold rp_
        rw [if_pos w1, y3]
        exact m6 (by omega)
    · have hh : ht = 0 := by (exact omg_abd6fee92d hd m1 m2 v w2)
      refine ⟨by (exact omg_42195a8493 m1 y1), by omega, by omega, rp_ R w z W, ?_, ?_, ?_⟩
      · rw [eT, show d + w = hi2 + 2 * ht2 by omega]
      · intro x x0 x1
        rw [y4 x x0 x1, m5 x x0 x1]
      · intro q9
        unfold rp_
        rw [if_neg (by omega)]
        exact y3
  · exact absurd c hr
theorem cL_n {B : Int → Int32} {n : Int} {V : VW_} {T : Option (Int × Int × RE_)} {k a sp hi ht j r q hi2 ht2 d : Int} {g g2 g3 : Nat → Int32} (m : cL6_ B n V T k a sp hi ht j g g2) (hc : ¬ (cm_ B n a = 47 ∨ cm_ B n a = 62)) (hd : d = hi + 2 * ht) (r6 : cA6_ B n V k d a r q hi ht hi2 ht2 g2 g3) (hr : r = 0) : T = none := by
  obtain ⟨m1, m2, m3, R, m4, m5, m6⟩ := m
  rcases r6 with ⟨c, _⟩ | ⟨_, c⟩
  · exact absurd hr c
  · obtain ⟨x, hx⟩ := fu_p (hi + 2 * ht)
    rw [m4, hx, el_f hc (by rw [← hd]; exact c)]
theorem cL_z {B : Int → Int32} {n : Int} {V : VW_} {T : Option (Int × Int × RE_)} {k a sp hi ht j : Int} {g g2 : Nat → Int32} (m : cL6_ B n V T k a sp hi ht j g g2) (hc : ¬ (cm_ B n a = 47 ∨ cm_ B n a = 62)) (hs : sp = 0) : T = none := by
  obtain ⟨m1, m2, m3, R, m4, m5, m6⟩ := m
  obtain ⟨x, hx⟩ := fu_p (hi + 2 * ht)
  rw [m4, hx, el_0 hc hs]
/-- an element read by it -/
def cE6_ (B : Int → Int32) (n : Int) (V : VW_) (p r a k k2 : Int) (g g2 : Nat → Int32) : Prop := (¬ r = 0 ∧ k2 = k + 1 ∧ ∃ R : RE_, eF_ B n p = some (a, R) ∧ isF_ V R.2.2.1 R.2.2.2 (gx g2 k) ∧ ∀ x : Int, 0 ≤ x → x < k → gx g2 x = gx g x) ∨ (r = 0 ∧ eF_ B n p = none)
theorem cE_t {B : Int → Int32} {n : Int} {V : VW_} {p r a k k2 : Int} {g g2 : Nat → Int32} (h : (wk_ B n tE_ 4 p).bind (eA_ B n) = none) (hr : r = 0) : cE6_ B n V p r a k k2 g g2 := Or.inr ⟨hr, by rw [eF_T, h]; rfl⟩
theorem cE_w {B : Int → Int32} {n : Int} {V : VW_} {p r1 q r a k k2 : Int} {g g2 : Nat → Int32} (h : oy_ r1 q = wk_ B n tE_ 4 p) (h1 : r1 = 0) (hr : r = 0) : cE6_ B n V p r a k k2 g g2 := cE_t (by rw [← h, oy_f h1]; rfl) hr
/-- behind the loop: both there, or not -/
theorem cL_q {B : Int → Int32} {n : Int} {V : VW_} {T : Option (Int × Int × RE_)} {k a sp hi ht j : Int} {g g2 : Nat → Int32} (m : cL6_ B n V T k a sp hi ht j g g2) (hc : cm_ B n a = 47 ∨ cm_ B n a = 62) : ∃ R : RE_, T = some (a, hi + 2 * ht, R) ∧ gl6_ V k ht g g2 R := by
  obtain ⟨m1, m2, m3, R, m4, m5⟩ := m
  obtain ⟨x, hx⟩ := fu_p (hi + 2 * ht)
  exact ⟨R, by rw [m4, hx, el_q hc], m5⟩
theorem cE_f {B : Int → Int32} {n : Int} {V : VW_} {p k a sp hi ht j r a2 k2 : Int} {g g2 : Nat → Int32} (m : cL6_ B n V ((wk_ B n tE_ 4 p).bind (eA_ B n)) k a sp hi ht j g g2) (hc : ¬ j < 2 ∨ cm_ B n a = 47 ∨ cm_ B n a = 62) (h : hi = 0 ∨ ht = 0) (hr : r = 0) : cE6_ B n V p r a2 k k2 g g2 := by
  have c : cm_ B n a = 47 ∨ cm_ B n a = 62 := by
    rcases hc with q | q
    · have m1 := m.1
      have m2 := m.2.1
      have m3 := m.2.2.1
      omega
    · exact q
  obtain ⟨R, r1, r2⟩ := cL_q m c
  refine Or.inr ⟨hr, ?_⟩
  have m1 := m.1
  have m2 := m.2.1
  rw [eF_T, r1]
  show ee_ B n (a, hi + 2 * ht, R) = none
  unfold ee_
  dsimp only
  rw [if_pos (by omega)]
theorem el_3 {B : Int → Int32} {n a sp : Int} {R : RE_} (h : ¬ (cm_ B n a = 47 ∨ cm_ B n a = 62)) : el_ B n 1 3 R a sp = none := el_f (m := 0) h (by
  unfold at_F
  rw [if_pos (wh_3 rfl)])
theorem cE_c {B : Int → Int32} {n : Int} {V : VW_} {p k a sp hi ht j r a2 k2 : Int} {g g2 : Nat → Int32} (m : cL6_ B n V ((wk_ B n tE_ 4 p).bind (eA_ B n)) k a sp hi ht j g g2) (h1 : ¬ hi = 0) (h2 : ¬ ht = 0) (e : (cm_ B n a = 47 ∧ oy_ r a2 = wk_ B n tG_ 2 a) ∨ (¬ cm_ B n a = 47 ∧ oy_ r a2 = ((nd_ B n 62 a).bind (gF B n)).bind (cl_ B n tF_ 5))) (hk : k2 = k + 1) : cE6_ B n V p r a2 k k2 g g2 := by
  have m1 := m.1
  have m2 := m.2.1
  have hd : hi + 2 * ht = 3 := by omega
  by_cases c : cm_ B n a = 47 ∨ cm_ B n a = 62
  · obtain ⟨R, r1, r2⟩ := cL_q m c
    have f : eF_ B n p = (oy_ r a2).map (fun x => (x, R)) := by
      rw [eF_T, r1]
      show ee_ B n (a, hi + 2 * ht, R) = _
      unfold ee_
      rw [if_neg (by rw [hd]; simp)]
      rcases e with ⟨c1, c2⟩ | ⟨c1, c2⟩
      · rw [if_pos c1, c2]
      · rw [if_neg c1, c2]
    by_cases w : r = 0
    · exact Or.inr ⟨w, by rw [f, oy_f w]; rfl⟩
    · exact Or.inl ⟨w, hk, R, by rw [f, oy_t w]; rfl, r2.2 (by omega), r2.1⟩
  · obtain ⟨m1, m2, m3, R, m4, m5⟩ := m
    have c2 : oy_ r a2 = none := by
      rcases e with ⟨c1, c2⟩ | ⟨c1, c2⟩
      · exact absurd (Or.inl c1) c
      · rw [c2, nd_x (fun q => c (Or.inr q))]
        rfl
    refine Or.inr ⟨oy_n c2, ?_⟩
    have e3 : fu_ (hi + 2 * ht) = 1 := by rw [hd]; rfl
    rw [eF_T, m4, e3, hd, el_3 c]
    rfl
theorem ec6_ {B : Int → Int32} {n a r1 a1 r2 a2 r3 a3 : Int} (h1 : oy_ r1 a1 = nd_ B n 62 a) (n1 : ¬ r1 = 0) (h2 : oy_ r2 a2 = gF B n a1) (n2 : ¬ r2 = 0) (h3 : oy_ r3 a3 = cl_ B n tF_ 5 a2) : oy_ r3 a3 = ((nd_ B n 62 a).bind (gF B n)).bind (cl_ B n tF_ 5) := by
  rw [oy_t n1] at h1
  rw [oy_t n2] at h2
  rw [← h1]
  show _ = (gF B n a1).bind (cl_ B n tF_ 5)
  rw [← h2]
  exact h3
theorem ec6_2 {B : Int → Int32} {n a r1 a1 r2 a2 r3 a3 : Int} (h1 : oy_ r1 a1 = nd_ B n 62 a) (n1 : ¬ r1 = 0) (h2 : oy_ r2 a2 = gF B n a1) (n2 : r2 = 0) (n3 : r3 = 0) : oy_ r3 a3 = ((nd_ B n 62 a).bind (gF B n)).bind (cl_ B n tF_ 5) := by
  rw [oy_t n1] at h1
  rw [oy_f n2] at h2
  rw [← h1, oy_f n3]
  show _ = (gF B n a1).bind (cl_ B n tF_ 5)
  rw [← h2]
  rfl
theorem ec6_1 {B : Int → Int32} {n a r1 a1 r3 a3 : Int} (h1 : oy_ r1 a1 = nd_ B n 62 a) (n1 : r1 = 0) (n3 : r3 = 0) : oy_ r3 a3 = ((nd_ B n 62 a).bind (gF B n)).bind (cl_ B n tF_ 5) := by
  rw [oy_f n1] at h1
  rw [← h1, oy_f n3]
  rfl
/-- the relations that it has read: where each goes -/
def rK6_ (V : VW_) (g : Nat → Int32) (L : List RE_) : Prop := ∀ (x : Nat) (R : RE_), L[x]? = some R → isF_ V R.2.2.1 R.2.2.2 (gx g x)
theorem rK_s {V : VW_} {k : Int} {g g2 : Nat → Int32} {L : List RE_} {R : RE_} (h : rK6_ V g L) (hk : k = L.length) (h1 : isF_ V R.2.2.1 R.2.2.2 (gx g2 k)) (h2 : ∀ x : Int, 0 ≤ x → x < k → gx g2 x = gx g x) : rK6_ V g2 (L ++ [R]) := by
  intro x Q hx
  by_cases c : x < L.length
  · rw [List.getElem?_append_left c] at hx
    rw [h2 x (by omega) (by omega)]
    exact h x Q hx
  · have e : x = L.length := by
      have l := (List.getElem?_eq_some_iff.mp hx).1
      rw [List.length_append, List.length_singleton] at l
      omega
    rw [e, List.getElem?_append_right (Nat.le_refl _), Nat.sub_self] at hx
    have e2 : R = Q := Option.some.inj hx
    rw [← e2, e, ← hk]
    exact h1
def cM6_ (B : Int → Int32) (n : Int) (V : VW_) (rt io a k : Int) (g : Nat → Int32) : Prop := (¬ rt = 0 ∧ ((¬ io = 0 ∧ ∃ L : List RE_, k = L.length ∧ mk_ B n = (eS B n a L).bind (mT6_ B n) ∧ rK6_ V g L) ∨ (io = 0 ∧ k = 0 ∧ mk_ B n = tA6_ B n [] a))) ∨ (rt = 0 ∧ mk_ B n = none)
theorem cM_0 {B : Int → Int32} {n : Int} {V : VW_} {r io a k : Int} {g : Nat → Int32} (h : hd6_ B n r io a) (hk : k = 0) : cM6_ B n V r io a k g := by
  rcases h with ⟨c, s, h1, h2⟩ | ⟨c, h1⟩
  · rcases h2 with ⟨i, y, z⟩ | ⟨i, y, z⟩
    · refine Or.inl ⟨c, Or.inr ⟨i, hk, ?_⟩⟩
      rw [mk_s h1 y, z]
      rfl
    · refine Or.inl ⟨c, Or.inl ⟨i, [], hk, ?_, fun x R q => absurd q (by simp)⟩⟩
      rw [mk_o h1 y, z]
      rfl
  · exact Or.inr ⟨c, h1⟩
theorem cM_s {B : Int → Int32} {n : Int} {V : VW_} {rt io a k r a1 k2 r2 a2 rt2 : Int} {g g2 : Nat → Int32} (m : cM6_ B n V rt io a k g) (hr : ¬ rt = 0) (ha : a ≤ n) (hc : ¬ io = 0 ∧ cm_ B n a = 60 ∧ ¬ cm_ B n (a + 1) = 47) (e : cE6_ B n V a r a1 k k2 g g2) (h1 : ¬ r = 0) (h : oy_ r2 a2 = gF B n a1) (h2 : ¬ r2 = 0) (ht : ¬ rt2 = 0) : cM6_ B n V rt2 io a2 k2 g2 := by
  rcases m with ⟨_, ⟨_, L, l1, l2, l3⟩ | ⟨i, _⟩⟩ | ⟨c, _⟩
  · rcases e with ⟨_, e0, R, e1, e2, e3⟩ | ⟨c, _⟩
    · rw [oy_t h2] at h
      refine Or.inl ⟨ht, Or.inl ⟨hc.1, L ++ [R], ?_, ?_, rK_s l3 l1 e2 e3⟩⟩
      · rw [List.length_append, List.length_singleton]
        omega
      · rw [l2, eS_s ha (fun q => hc.2.2 q.2) e1 h.symm]
    · exact absurd c h1
  · exact absurd i hc.1
  · exact absurd c hr
theorem cM_e {B : Int → Int32} {n : Int} {V : VW_} {rt io a k r a1 k2 a2 k3 rt2 : Int} {g g2 g3 : Nat → Int32} (m : cM6_ B n V rt io a k g) (hr : ¬ rt = 0) (hc : ¬ io = 0 ∧ cm_ B n a = 60 ∧ ¬ cm_ B n (a + 1) = 47) (e : cE6_ B n V a r a1 k k2 g g2) (h1 : r = 0) (ht : rt2 = 0) : cM6_ B n V rt2 io a2 k3 g3 := by
  rcases m with ⟨_, ⟨_, L, l1, l2, l3⟩ | ⟨i, _⟩⟩ | ⟨c, _⟩
  · rcases e with ⟨c, _⟩ | ⟨_, c⟩
    · exact absurd h1 c
    · exact Or.inr ⟨ht, by rw [l2, eS_f (fun q => hc.2.2 q.2) c]; rfl⟩
  · exact absurd i hc.1
  · exact absurd c hr
theorem cM_g {B : Int → Int32} {n : Int} {V : VW_} {rt io a k r a1 k2 r2 b2 a2 k3 rt2 : Int} {g g2 g3 : Nat → Int32} (m : cM6_ B n V rt io a k g) (hr : ¬ rt = 0) (hc : ¬ io = 0 ∧ cm_ B n a = 60 ∧ ¬ cm_ B n (a + 1) = 47) (e : cE6_ B n V a r a1 k k2 g g2) (h1 : ¬ r = 0) (h : oy_ r2 b2 = gF B n a1) (h2 : r2 = 0) (ht : rt2 = 0) : cM6_ B n V rt2 io a2 k3 g3 := by
  rcases m with ⟨_, ⟨_, L, l1, l2, l3⟩ | ⟨i, _⟩⟩ | ⟨c, _⟩
  · rcases e with ⟨_, e0, R, e1, e2, e3⟩ | ⟨c, _⟩
    · rw [oy_f h2] at h
      exact Or.inr ⟨ht, by rw [l2, eS_g (fun q => hc.2.2 q.2) e1 h.symm]; rfl⟩
    · exact absurd c h1
  · exact absurd i hc.1
  · exact absurd c hr
/-- loaded: the relations, or none and a fault -/
def cR6_ (T : Option (List RE_)) (V : VW_) (k f : Int) (g : Nat → Int32) : Prop := (f = -1 ∧ ∃ L : List RE_, T = some L ∧ k = L.length ∧ rK6_ V g L) ∨ (0 ≤ f ∧ T = none ∧ k = 0)
theorem cR_n {B : Int → Int32} {n : Int} {V : VW_} {rt io a k k2 f : Int} {g g2 : Nat → Int32} (m : cM6_ B n V rt io a k g) (hr : rt = 0) (hf : 0 ≤ f) (hk : k2 = 0) : cR6_ (mk_ B n) V k2 f g2 := by
  rcases m with ⟨c, _⟩ | ⟨_, c⟩
  · exact absurd hr c
  · exact Or.inr ⟨hf, c, hk⟩
theorem cR_t {B : Int → Int32} {n : Int} {V : VW_} {rt io a k r k2 f : Int} {g : Nat → Int32} (m : cM6_ B n V rt io a k g) (hr : ¬ rt = 0) (hc : ¬ (¬ io = 0 ∧ cm_ B n a = 60 ∧ ¬ cm_ B n (a + 1) = 47)) (t : tl6_ B n io r a) (h : (¬ r = 0 ∧ f = -1 ∧ k2 = k) ∨ (r = 0 ∧ 0 ≤ f ∧ k2 = 0)) : cR6_ (mk_ B n) V k2 f g := by
  rcases m with ⟨_, ⟨i, L, l1, l2, l3⟩ | ⟨i, l1, l2⟩⟩ | ⟨c, _⟩
  · have key : mk_ B n = if (cl_ B n tI_ 6 a).bind (gF B n) = some n then some L else none := by
      by_cases c : cm_ B n a = 60 ∧ cm_ B n (a + 1) = 47
      · rw [l2, eS_q c]
        show (cl_ B n tI_ 6 a).bind (tA6_ B n L) = _
        cases e : cl_ B n tI_ 6 a with
        | none => rfl
        | some x =>
          show tA6_ B n L x = if gF B n x = some n then some L else none
          unfold tA6_
          cases e2 : gF B n x with
          | none => rfl
          | some y =>
            show (if y = n then some L else none) = if some y = some n then some L else none
            by_cases w : y = n
            · rw [if_pos w, if_pos (by rw [w])]
            · rw [if_neg w, if_neg (fun q => w (Option.some.inj q))]
      · have c6 : ¬ cm_ B n a = 60 := fun q => hc ⟨i, q, fun q2 => c ⟨q, q2⟩⟩
        have w1 : cl_ B n tI_ 6 a = none := by
          have e := wk_z (B := B) (n := n) (t := tI_) (k := 1) (p := a) (by
            show (some a).bind (nd_ B n (tI_ ((0 : Nat) : Int))) = none
            exact nd_x c6) 5
          have e2 : wk_ B n tI_ 6 a = none := e
          unfold cl_
          rw [e2]
          rfl
        have w2 : eF_ B n a = none := by
          have e := wk_z (B := B) (n := n) (t := tE_) (k := 1) (p := a) (by
            show (some a).bind (nd_ B n (tE_ ((0 : Nat) : Int))) = none
            exact nd_x c6) 3
          have e2 : wk_ B n tE_ 4 a = none := e
          unfold eF_
          rw [e2]
          rfl
        rw [l2, eS_f c w2, w1]
        rfl
    unfold tl6_ at t
    rw [if_neg i] at t
    rcases t with ⟨t1, t2⟩ | ⟨t1, t2⟩
    · rw [if_pos t2] at key
      exact Or.inl ⟨by omega, L, key, by omega, l3⟩
    · rw [if_neg t2] at key
      exact Or.inr ⟨by omega, key, by omega⟩
  · have key : mk_ B n = if gF B n a = some n then some [] else none := by
      rw [l2]
      unfold tA6_
      cases e2 : gF B n a with
      | none => rfl
      | some y =>
        show (if y = n then some [] else none) = if some y = some n then some [] else none
        by_cases w : y = n
        · rw [if_pos w, if_pos (by rw [w])]
        · rw [if_neg w, if_neg (fun q => w (Option.some.inj q))]
    unfold tl6_ at t
    rw [if_pos i] at t
    have e3 : ((some a).bind (gF B n)) = gF B n a := rfl
    rw [e3] at t
    rcases t with ⟨t1, t2⟩ | ⟨t1, t2⟩
    · rw [if_pos t2] at key
      exact Or.inl ⟨by omega, [], key, by rw [List.length_nil]; omega, fun x R q => absurd q (by simp)⟩
    · rw [if_neg t2] at key
      exact Or.inr ⟨by omega, key, by omega⟩
  · exact absurd c hr
/-- the relations of a part whose teller is t: none of them where nobody tells -/
def tT6_ (t : Int) (X : Option (List RE_)) : Option (List RE_) := if t < 0 then some [] else X
def lo6_ (V : VW_) (t : Int) (f b : Nat → Int32) (k fa : Int) (g : Nat → Int32) : Prop := cR6_ (tT6_ t (mk_ (mB_ f (gx b t)) (gx b (t + 1) - gx b t))) V k fa g
theorem lo_0 {V : VW_} {t k fa : Int} {f b g : Nat → Int32} (h : t < 0) (hk : k = 0) (hf : fa = -1) : lo6_ V t f b k fa g := Or.inl ⟨hf, [], if_pos h, hk, fun x R q => absurd q (by simp)⟩
theorem lo_m {V : VW_} {t b3 e3 k fa : Int} {f b g : Nat → Int32} (ht : 0 ≤ t) (h1 : b3 = gx b t) (h2 : e3 = gx b (t + 1)) (h : cR6_ (mk_ (mB_ f b3) (e3 - b3)) V k fa g) : lo6_ V t f b k fa g := by
  unfold lo6_ tT6_
  rw [if_neg (by omega), ← h1, ← h2]
  exact h
theorem ce_20 {B : Int → Int32} {n : Int} {V : VW_} {p r a k k2 r2 a2 : Int} {g g2 : Nat → Int32} (hp : p ≤ n) (e : cE6_ B n V p r a k k2 g g2) (hr : ¬ r = 0) (h : oy_ r2 a2 = gF B n a) (h2 : ¬ r2 = 0) (h20 : 20 * k ≤ p) : 20 * k2 ≤ a2 := by
  rcases e with ⟨_, e0, R, e1, _⟩ | ⟨c, _⟩
  · have u := eF_up e1 hp
    rw [oy_t h2] at h
    have v := gF_up u.2.1 h.symm
    omega
  · exact absurd c hr
/-- how many, or -1; where one goes -/
def nl6_ (T : Option (List RE_)) : Int := match T with
  | none => -1
  | some L => (L.length : Int)
def gq6_ (V : VW_) (T : Option (List RE_)) (k r th : Int) : Prop := (th = 0 ∧ 0 ≤ k ∧ ∃ (L : List RE_) (R : RE_), T = some L ∧ L[k.toNat]? = some R ∧ isF_ V R.2.2.1 R.2.2.2 r) ∨ (th = 1 ∧ ¬ (0 ≤ k ∧ ∃ (L : List RE_) (R : RE_), T = some L ∧ L[k.toNat]? = some R))
theorem nl_c {T : Option (List RE_)} {V : VW_} {k f r : Int} {g : Nat → Int32} (h : cR6_ T V k f g) (hr : (0 ≤ f ∧ r = -1) ∨ (f < 0 ∧ r = k)) : r = nl6_ T := by
  rcases h with ⟨h1, L, h2, h3, _⟩ | ⟨h1, h2, h3⟩
  · rw [h2]
    show r = (L.length : Int)
    omega
  · rw [h2]
    show r = -1
    omega
theorem gq_c {T : Option (List RE_)} {V : VW_} {n f k r th : Int} {g : Nat → Int32} (h : cR6_ T V n f g) (hr : (th = 0 ∧ 0 ≤ k ∧ k < n ∧ r = gx g k) ∨ (th = 1 ∧ ¬ (0 ≤ k ∧ k < n))) : gq6_ V T k r th := by
  rcases h with ⟨h1, L, h2, h3, h4⟩ | ⟨h1, h2, h3⟩
  · rcases hr with ⟨q1, q2, q3, q4⟩ | ⟨q1, q2⟩
    · obtain ⟨R, hR⟩ : ∃ R : RE_, L[k.toNat]? = some R := ⟨L[k.toNat]'(by omega), List.getElem?_eq_getElem (by omega)⟩
      refine Or.inl ⟨q1, q2, L, R, h2, hR, ?_⟩
      have e := h4 k.toNat R hR
      rw [show ((k.toNat : Nat) : Int) = k by omega] at e
      rw [q4]
      exact e
    · refine Or.inr ⟨q1, fun w => q2 ⟨w.1, ?_⟩⟩
      obtain ⟨w0, L', R, w1, w2⟩ := w
      rw [h2] at w1
      have e := Option.some.inj w1
      have l := (List.getElem?_eq_some_iff.mp w2).1
      rw [← e] at l
      omega
  · rcases hr with ⟨q1, q2, q3, q4⟩ | ⟨q1, q2⟩
    · omega
    · refine Or.inr ⟨q1, fun w => ?_⟩
      obtain ⟨w0, L', R, w1, w2⟩ := w
      rw [h2] at w1
      exact absurd w1 (by simp)
/-- the reference's -/
theorem tl_m {c i l r : Int} {z n k rl : Nat → Int32} (h : isF_ (cN_ c n z) l (gx k) r) (e : l = gx z i + 5) (h1 : ∀ j : Int, 0 ≤ j → j < gx z i → gx k j = gx n (24 * i + j)) (h2 : ∀ j : Int, 0 ≤ j → j < 5 → gx k (gx z i + j) = gx rl j) (h3 : ∀ j : Int, 0 ≤ j → j < 5 → gx rl j = tr_ j) : isF_ (cN_ c n z) (gx z i + 5) (tn6_ (cN_ c n z) i) r := by
  rw [e] at h
  refine isF_cg h (fun j j0 j1 => ?_)
  by_cases w : j < gx z i
  · rw [tn_nm w]
    exact h1 j j0 w
  · have q := h2 (j - gx z i) (by omega) (by omega)
    rw [show gx z i + (j - gx z i) = j by omega] at q
    rw [tn_rl w, q]
    exact h3 _ (by omega) (by omega)
theorem rr_0 {t b k : Int} {X : Option (List RE_)} {s i u g : Nat → Int32} (h : t < 0) (hb : b = 0) (hk : k = 0) : mR6_ (tT6_ t X) b k s i u g := Or.inl ⟨hb, [], if_pos h, hk, fun R q => absurd q (by simp), rl6_0⟩
theorem rr_1 {t b k : Int} {X : Option (List RE_)} {s i u g : Nat → Int32} (h : 0 ≤ t) (m : mR6_ X b k s i u g) : mR6_ (tT6_ t X) b k s i u g := by
  unfold tT6_
  rw [if_neg (by omega)]
  exact m
theorem nl_m {T : Option (List RE_)} {b k r : Int} {s i u g : Nat → Int32} (h : mR6_ T b k s i u g) (hr : (b = 0 ∧ r = k) ∨ (¬ b = 0 ∧ r = -1)) : r = nl6_ T := by
  rcases h with ⟨h1, L, h2, h3, _⟩ | ⟨h1, h2⟩
  · rw [h2]
    show r = (L.length : Int)
    omega
  · rw [h2]
    show r = -1
    omega
theorem gq_m {T : Option (List RE_)} {V : VW_} {b n k r th : Int} {s i u g : Nat → Int32} (h : mR6_ T b n s i u g) (hr : (th = 0 ∧ b = 0 ∧ 0 ≤ k ∧ k < n ∧ isF_ V (gx u k) (fun j => gx g (24 * k + j)) r) ∨ (th = 1 ∧ ¬ (b = 0 ∧ 0 ≤ k ∧ k < n))) : gq6_ V T k r th := by
  rcases h with ⟨h1, L, h2, h3, h4, h5⟩ | ⟨h1, h2⟩
  · rcases hr with ⟨q1, q2, q3, q4, q5⟩ | ⟨q1, q2⟩
    · obtain ⟨R, hR⟩ : ∃ R : RE_, L[k.toNat]? = some R := ⟨L[k.toNat]'(by omega), List.getElem?_eq_getElem (by omega)⟩
      have e := (h5 k.toNat R hR).2
      rw [show ((k.toNat : Nat) : Int) = k by omega] at e
      refine Or.inl ⟨q1, q3, L, R, h2, hR, ?_⟩
      rw [e.1] at q5
      exact isF_cg q5 (fun j j0 j1 => e.2 j j0 j1)
    · refine Or.inr ⟨q1, fun w => q2 ⟨h1, w.1, ?_⟩⟩
      obtain ⟨w0, L', R, w1, w2⟩ := w
      rw [h2] at w1
      have e := Option.some.inj w1
      have l := (List.getElem?_eq_some_iff.mp w2).1
      rw [← e] at l
      omega
  · rcases hr with ⟨q1, q2, _⟩ | ⟨q1, q2⟩
    · exact absurd q2 h1
    · refine Or.inr ⟨q1, fun w => ?_⟩
      obtain ⟨w0, L', R, w1, w2⟩ := w
      rw [h2] at w1
      exact absurd w1 (by simp)
/-- both sides -/
theorem mk_C {c t : Int} {fn fz fb fg : Nat → Int32} {V : VW_} (R : rC_ c fn fz fb fg V) (h1 : t < c) : tT6_ t (mk_ (mB_ fb (gx fg t)) (gx fg (t + 1) - gx fg t)) = tT6_ t (mk_ (vD V t) (vS V t)) := by
  unfold tT6_
  by_cases w : t < 0
  · rw [if_pos w, if_pos w]
  · have q := R.2 t (by omega) h1
    rw [if_neg w, if_neg w, q.2.1]
    exact mk_g (fun j j0 j1 => q.2.2.2 j j0 j1)
theorem mk_M {c t : Int} {z n s d : Nat → Int32} {V : VW_} (R : rM_ 0 c z n s d V) (h1 : t < c) : tT6_ t (mk_ (fun j => gr d (4000 * t + j)) (gx s t)) = tT6_ t (mk_ (vD V t) (vS V t)) := by
  unfold tT6_
  by_cases w : t < 0
  · rw [if_pos w, if_pos w]
  · have q := R.2 t (by omega) h1
    simp only [Int.zero_add] at q
    rw [if_neg w, if_neg w, q.2.1]
    exact mk_g (fun j j0 j1 => q.2.2.2 j j0 j1)
theorem rM_N {c : Int} {z n s d : Nat → Int32} {V : VW_} (R : rM_ 0 c z n s d V) : rN_ c n z V := ⟨R.1, fun i i0 i1 => by
  have q := R.2 i i0 i1
  simp only [Int.zero_add] at q
  exact ⟨q.1, q.2.2.1⟩⟩
theorem isF_lt {V : VW_} {m r : Int} {a : Int → Int} (h : isF_ V m a r) (h0 : 0 ≤ vC V) : r < vC V := by
  rcases h with ⟨_, q, _⟩ | ⟨q, _⟩
  · exact q
  · omega
theorem ce_p {B : Int → Int32} {n : Int} {V : VW_} {p r a k k2 : Int} {g g2 : Nat → Int32} (e : cE6_ B n V p r a k k2 g g2) (hr : ¬ r = 0) (hp : p ≤ n) : p + 20 ≤ a := by
  rcases e with ⟨_, _, R, e1, _⟩ | ⟨c, _⟩
  · exact (eF_up e1 hp).1
  · exact absurd c hr
theorem gq_cg {V : VW_} {T : Option (List RE_)} {k r s th : Int} (h : gq6_ V T k r th) (e : s = r) : gq6_ V T k s th := by
  subst e
  exact h
/-! CHECK: ids, tellers, what is reached -/
def pk7_ (W : Int → Int) : Nat → Int
  | 0 => 0
  | k + 1 => 256 * pk7_ W k + W k
theorem pk7_nn {W : Int → Int} {z : Int} (h : ∀ j : Int, 0 ≤ j → j < z → 1 ≤ W j ∧ W j ≤ 126) : ∀ k : Nat, (k : Int) ≤ z → 0 ≤ pk7_ W k
  | 0, _ => Int.le_refl _
  | k + 1, hk => by
    have ih := pk7_nn h k (by omega)
    have d := h k (by omega) (by omega)
    show 0 ≤ 256 * pk7_ W k + W k
    omega
theorem pk7_u {W U : Int → Int} {z y : Int} (h : ∀ j : Int, 0 ≤ j → j < z → 1 ≤ W j ∧ W j ≤ 126) (g : ∀ j : Int, 0 ≤ j → j < y → 1 ≤ U j ∧ U j ≤ 126) : ∀ k m : Nat, (k : Int) ≤ z → (m : Int) ≤ y → pk7_ W k = pk7_ U m → k = m ∧ ∀ j : Int, 0 ≤ j → j < k → W j = U j
  | 0, 0, _, _, _ => ⟨rfl, fun j j0 j1 => absurd j1 (by omega)⟩
  | 0, m + 1, _, hm, e => by
    have a := pk7_nn g m (by omega)
    have d := g m (by omega) (by omega)
    have e2 : 0 = 256 * pk7_ U m + U m := e
    omega
  | k + 1, 0, hk, _, e => by
    have a := pk7_nn h k (by omega)
    have d := h k (by omega) (by omega)
    have e2 : 256 * pk7_ W k + W k = 0 := e
    omega
  | k + 1, m + 1, hk, hm, e => by
    have a := pk7_nn h k (by omega)
    have d := h k (by omega) (by omega)
    have b := pk7_nn g m (by omega)
    have f := g m (by omega) (by omega)
    have e2 : 256 * pk7_ W k + W k = 256 * pk7_ U m + U m := e
    have ih := pk7_u h g k m (by omega) (by omega) (by omega)
    refine ⟨by omega, fun j j0 j1 => ?_⟩
    by_cases w : j = k
    · have w2 : j = m := by omega
      have e3 : W k = U m := by omega
      rw [w, e3, ← w2, w]
    · exact ih.2 j j0 (by omega)
theorem pk7_c {W U : Int → Int} : ∀ k : Nat, (∀ j : Int, 0 ≤ j → j < k → W j = U j) → pk7_ W k = pk7_ U k
  | 0, _ => rfl
  | k + 1, h => by
    show 256 * pk7_ W k + W k = 256 * pk7_ U k + U k
    rw [pk7_c k (fun j a b => h j a (by omega)), h k (by omega) (by omega)]
def e256 : Nat → Int
  | 0 => 1
  | k + 1 => 256 * e256 k
theorem pk7_lt {W : Int → Int} {z : Int} (h : ∀ j : Int, 0 ≤ j → j < z → 1 ≤ W j ∧ W j ≤ 126) : ∀ k : Nat, (k : Int) + 1 ≤ z → pk7_ W (k + 1) < 127 * e256 k
  | 0, hk => by
    have d := h 0 (by omega) (by omega)
    show 256 * 0 + W 0 < 127 * 1
    omega
  | k + 1, hk => by
    have ih := pk7_lt h k (by omega)
    have d := h (k + 1 : Nat) (by omega) (by omega)
    show 256 * pk7_ W (k + 1) + W ((k + 1 : Nat) : Int) < 127 * (256 * e256 k)
    omega
/-- two relations with the same id; the faults of a list of them, up to its k-th -/
def sI7_ (R Q : RE_) : Prop := R.1 = Q.1 ∧ ∀ j : Int, 0 ≤ j → j < R.1 → R.2.1 j = Q.2.1 j
def ag7_ (L : List RE_) (k : Nat) : Prop := ∃ (j : Nat) (R Q : RE_), j < k ∧ L[j]? = some R ∧ L[k]? = some Q ∧ sI7_ R Q
def dn7_ (V : VW_) (L : List RE_) (k : Nat) : Prop := ∃ R : RE_, L[k]? = some R ∧ isF_ V R.2.2.1 R.2.2.2 (-1)
noncomputable def w7_ (p : Prop) : Int := @ite _ p (Classical.propDecidable p) 1 0
theorem w7_y {p : Prop} (h : p) : w7_ p = 1 := by
  unfold w7_
  rw [if_pos h]
theorem w7_n {p : Prop} (h : ¬ p) : w7_ p = 0 := by
  unfold w7_
  rw [if_neg h]
theorem w7_rng (p : Prop) : 0 ≤ w7_ p ∧ w7_ p ≤ 1 := by
  by_cases h : p
  · rw [w7_y h]
    omega
  · rw [w7_n h]
    omega
noncomputable def fc7_ (V : VW_) (L : List RE_) : Nat → Int
  | 0 => 0
  | k + 1 => fc7_ V L k + w7_ (ag7_ L k) + w7_ (dn7_ V L k)
theorem fc7_rng (V : VW_) (L : List RE_) : ∀ k : Nat, 0 ≤ fc7_ V L k ∧ fc7_ V L k ≤ 2 * k
  | 0 => ⟨Int.le_refl _, by show (0 : Int) ≤ 2 * ((0 : Nat) : Int); omega⟩
  | k + 1 => by
    have ih := fc7_rng V L k
    have a := w7_rng (ag7_ L k)
    have b := w7_rng (dn7_ V L k)
    show 0 ≤ fc7_ V L k + w7_ (ag7_ L k) + w7_ (dn7_ V L k) ∧ fc7_ V L k + w7_ (ag7_ L k) + w7_ (dn7_ V L k) ≤ 2 * ((k + 1 : Nat) : Int)
    omega
/-- the relations of part i; its faults -/
noncomputable def tl7_ (V : VW_) (i : Int) : Int := @ite _ (∃ t : Int, 0 ≤ t ∧ t < vC V ∧ nE_ V t (vZ V i + 5) (tn6_ V i)) (Classical.propDecidable _) (Classical.epsilon (fun t : Int => 0 ≤ t ∧ t < vC V ∧ nE_ V t (vZ V i + 5) (tn6_ V i))) (-1)
theorem tl7_F {V : VW_} {i : Int} : isF_ V (vZ V i + 5) (tn6_ V i) (tl7_ V i) := by
  unfold tl7_
  by_cases h : ∃ t : Int, 0 ≤ t ∧ t < vC V ∧ nE_ V t (vZ V i + 5) (tn6_ V i)
  · rw [if_pos h]
    have e := Classical.epsilon_spec h
    exact Or.inl ⟨e.1, e.2.1, e.2.2⟩
  · rw [if_neg h]
    exact Or.inr ⟨rfl, fun t t0 t1 q => h ⟨t, t0, t1, q⟩⟩
noncomputable def T7_ (V : VW_) (i : Int) : Option (List RE_) := tT6_ (tl7_ V i) (mk_ (vD V (tl7_ V i)) (vS V (tl7_ V i)))
theorem T7_e {V : VW_} {i t : Int} (hs : srt_ V) (h : isF_ V (vZ V i + 5) (tn6_ V i) t) : T7_ V i = tT6_ t (mk_ (vD V t) (vS V t)) := by
  unfold T7_
  rw [isF_u hs h tl7_F]
noncomputable def pt7_ (V : VW_) (T : Option (List RE_)) : Int := match T with
  | none => 1
  | some L => fc7_ V L L.length
noncomputable def pf7_ (V : VW_) (i : Int) : Int := pt7_ V (T7_ V i)
noncomputable def pn7_ (V : VW_) (i : Int) : Int := @ite _ (iT7_ V i) (Classical.propDecidable _) 0 (pf7_ V i)
noncomputable def sm7_ (f : Int → Int) : Nat → Int
  | 0 => 0
  | k + 1 => sm7_ f k + f k
/-- from part i to part j; what can be reached -/
def E7_ (V : VW_) (i j : Int) : Prop := ¬ iT7_ V i ∧ 0 ≤ j ∧ ∃ (L : List RE_) (R : RE_), T7_ V i = some L ∧ R ∈ L ∧ isF_ V R.2.2.1 R.2.2.2 j
def ro7_ (V : VW_) (i : Int) : Prop := 0 ≤ i ∧ i < vC V ∧ vZ V i = 4 ∧ vN V i 0 = 114 ∧ vN V i 1 = 111 ∧ vN V i 2 = 111 ∧ vN V i 3 = 116
def RQ7 (V : VW_) (i : Int) : Prop := ∀ S : Int → Prop, (∀ x : Int, ro7_ V x → S x) → (∀ x y : Int, S x → E7_ V x y → S y) → S i
theorem RQ7_r {V : VW_} {i : Int} (h : ro7_ V i) : RQ7 V i := fun S h0 _ => h0 i h
theorem RQ7_s {V : VW_} {i j : Int} (h : RQ7 V i) (e : E7_ V i j) : RQ7 V j := fun S h0 h1 => h1 i j (h S h0 h1) e
theorem RQ7_of {V : VW_} {S : Int → Prop} (h0 : ∀ i : Int, ro7_ V i → S i) (h1 : ∀ i j : Int, S i → E7_ V i j → S j) {i : Int} (h : RQ7 V i) : S i := h S h0 h1
theorem RQ7_iff {V : VW_} {S : Int → Prop} (h0 : ∀ i : Int, ro7_ V i → S i) (h1 : ∀ i j : Int, S i → E7_ V i j → S j) (h2 : ∀ i : Int, S i → RQ7 V i) (i : Int) : S i ↔ RQ7 V i := ⟨h2 i, RQ7_of h0 h1⟩
/-- how many of the first k have a property -/
noncomputable def cn7_ (S : Int → Prop) : Nat → Int
  | 0 => 0
  | k + 1 => cn7_ S k + w7_ (S k)
theorem cn7_rng (S : Int → Prop) : ∀ k : Nat, 0 ≤ cn7_ S k ∧ cn7_ S k ≤ k
  | 0 => ⟨Int.le_refl _, Int.le_refl _⟩
  | k + 1 => by
    have ih := cn7_rng S k
    have a := w7_rng (S k)
    show 0 ≤ cn7_ S k + w7_ (S k) ∧ cn7_ S k + w7_ (S k) ≤ ((k + 1 : Nat) : Int)
    omega
theorem cn7_le {S U : Int → Prop} (h : ∀ i : Int, S i → U i) : ∀ k : Nat, cn7_ S k ≤ cn7_ U k
  | 0 => Int.le_refl _
  | k + 1 => by
    have ih := cn7_le h k
    show cn7_ S k + w7_ (S k) ≤ cn7_ U k + w7_ (U k)
    by_cases c : S k
    · rw [w7_y c, w7_y (h _ c)]
      omega
    · have a := w7_rng (U k)
      rw [w7_n c]
      omega
theorem cn7_lt {S U : Int → Prop} (h : ∀ i : Int, S i → U i) {j : Nat} (h1 : U j) (h2 : ¬ S j) : ∀ k : Nat, j < k → cn7_ S k + 1 ≤ cn7_ U k
  | 0, hk => absurd hk (Nat.not_lt_zero _)
  | k + 1, hk => by
    show cn7_ S k + w7_ (S k) + 1 ≤ cn7_ U k + w7_ (U k)
    by_cases c : j = k
    · have a := cn7_le h k
      subst c
      rw [w7_y h1, w7_n h2]
      omega
    · have ih := cn7_lt h h1 h2 k (by omega)
      by_cases d : S k
      · rw [w7_y d, w7_y (h _ d)]
        omega
      · have b := w7_rng (U k)
        rw [w7_n d]
        omega
theorem cn7_p {S : Int → Prop} {j : Nat} (h : S j) : ∀ k : Nat, j < k → 1 ≤ cn7_ S k
  | 0, hk => absurd hk (Nat.not_lt_zero _)
  | k + 1, hk => by
    show 1 ≤ cn7_ S k + w7_ (S k)
    by_cases c : j = k
    · have a := cn7_rng S k
      subst c
      rw [w7_y h]
      omega
    · have ih := cn7_p h k (by omega)
      have b := w7_rng (S k)
      omega
/-! CHECK: what the relations of a markup are like -/
theorem up7 {W : Int → Int} {z x : Int} (h : ∀ j : Int, 0 ≤ j → j < z → 1 ≤ W j ∧ W j ≤ 126) (h0 : 1 ≤ x) (h1 : x ≤ 126) : ∀ j : Int, 0 ≤ j → j < z + 1 → 1 ≤ (if j = z then x else W j) ∧ (if j = z then x else W j) ≤ 126 := fun j j0 j1 => by
  by_cases c : j = z
  · rw [if_pos c]
    exact ⟨h0, h1⟩
  · rw [if_neg c]
    exact h j j0 (by omega)
theorem vl_rg {B : Int → Int32} {n q : Int} : ∀ (m : Nat) (p z : Int) (W : Int → Int) (o : Int × Int × (Int → Int)), vl_ B n q m p z W = some o → p ≤ n → 0 ≤ z → (∀ j : Int, 0 ≤ j → j < z → 1 ≤ W j ∧ W j ≤ 126) → ∀ j : Int, 0 ≤ j → j < o.2.1 → 1 ≤ o.2.2 j ∧ o.2.2 j ≤ 126
  | 0, p, z, W, o, h, _, _, _ => absurd h (by simp [vl_])
  | m + 1, p, z, W, o, h, hp, hz, hW => by
    have h2 : (if cm_ B n p = q then some (p, z, W) else if cm_ B n p < 32 ∨ 126 < cm_ B n p ∨ cm_ B n p = 60 then none else if cm_ B n p = 38 then (rf_ B n (p + 1)).bind (fun o => vl_ B n q m o.1 (z + 1) (fun j => if j = z then o.2 else W j)) else vl_ B n q m (p + 1) (z + 1) (fun j => if j = z then cm_ B n p else W j)) = some o := h
    by_cases c1 : cm_ B n p = q
    · rw [if_pos c1] at h2
      have e := Option.some.inj h2
      rw [← e]
      exact hW
    · rw [if_neg c1] at h2
      by_cases c2 : cm_ B n p < 32 ∨ 126 < cm_ B n p ∨ cm_ B n p = 60
      · rw [if_pos c2] at h2
        exact absurd h2 (by simp)
      · rw [if_neg c2] at h2
        have l := cm_in (B := B) (n := n) (j := p) (by omega)
        by_cases c3 : cm_ B n p = 38
        · rw [if_pos c3] at h2
          cases e2 : rf_ B n (p + 1) with
          | none =>
            rw [e2] at h2
            exact absurd h2 (by simp)
          | some x =>
            have u := rf_up e2 (by omega)
            rw [e2] at h2
            exact vl_rg m x.1 (z + 1) (fun j => if j = z then x.2 else W j) o h2 u.1.2 (by omega) (up7 hW (by omega) u.2.2)
        · rw [if_neg c3] at h2
          exact vl_rg m (p + 1) (z + 1) (fun j => if j = z then cm_ B n p else W j) o h2 (by omega) (by omega) (up7 hW (by omega) (by omega))
theorem vq_rg {B : Int → Int32} {n p : Int} {o : Int × Int × (Int → Int)} (h : vq_ B n p = some o) : ∀ j : Int, 0 ≤ j → j < o.2.1 → 1 ≤ o.2.2 j ∧ o.2.2 j ≤ 126 := by
  unfold vq_ at h
  by_cases c : cm_ B n p = 34 ∨ cm_ B n p = 39
  · rw [if_pos c] at h
    have l := cm_in (B := B) (n := n) (j := p) (by omega)
    unfold vG at h
    exact vl_rg _ _ _ _ _ h (by omega) (by omega) (fun j j0 j1 => absurd j1 (by omega))
  · rw [if_neg c] at h
    exact absurd h (by simp)
theorem at_rg {B : Int → Int32} {n had p a w z : Int} {W : Int → Int} (h : at_F B n had p = some (a, w, z, W)) : ∀ j : Int, 0 ≤ j → j < z → 1 ≤ W j ∧ W j ≤ 126 := by
  unfold at_F at h
  by_cases c : wh_ B n had p = 0
  · rw [if_pos c] at h
    exact absurd h (by simp)
  · rw [if_neg c] at h
    by_cases c2 : cm_ B n (lF B n p) = 61
    · rw [nd_y c2] at h
      have h2 : (vq_ B n (lF B n p + 1)).bind (va_ (wh_ B n had p)) = some (a, w, z, W) := h
      cases e : vq_ B n (lF B n p + 1) with
      | none =>
        rw [e] at h2
        exact absurd h2 (by simp)
      | some o =>
        obtain ⟨x, y, Y⟩ := o
        rw [e] at h2
        have h3 : va_ (wh_ B n had p) (x, y, Y) = some (a, w, z, W) := h2
        by_cases c3 : (wh_ B n had p = 1 ∧ 1 ≤ y ∧ y ≤ 8) ∨ (¬ wh_ B n had p = 1 ∧ iA_ Y 0 y)
        · rw [va_y c3] at h3
          have e3 := Option.some.inj h3
          injection e3 with f1 f2
          injection f2 with f2 f3
          injection f3 with f3 f4
          subst f1 f3 f4
          exact vq_rg e
        · rw [va_n c3] at h3
          exact absurd h3 (by simp)
    · rw [nd_x c2] at h
      exact absurd h (by simp)
def PR7_ (h : Int) (R : RE_) : Prop := h % 2 = 1 → ∀ j : Int, 0 ≤ j → j < R.1 → 1 ≤ R.2.1 j ∧ R.2.1 j ≤ 126
theorem PR7_s {h w z : Int} {W : Int → Int} {R : RE_} (k : PR7_ h R) (c : w = 1 ∨ w = 2) (hW : ∀ j : Int, 0 ≤ j → j < z → 1 ≤ W j ∧ W j ≤ 126) : PR7_ (h + w) (rp_ R w z W) := fun q => by
  unfold rp_
  rcases c with c | c
  · rw [if_pos c]
    exact hW
  · rw [if_neg (by omega)]
    exact k (by omega)
theorem el_rg {B : Int → Int32} {n : Int} : ∀ (m : Nat) (had : Int) (R : RE_) (p sp a h : Int) (R' : RE_), el_ B n m had R p sp = some (a, h, R') → PR7_ had R → PR7_ h R'
  | 0, _, _, _, _, _, _, _, e, _ => absurd e (by simp [el_])
  | m + 1, had, R, p, sp, a, h, R', e, k => by
    by_cases c : cm_ B n p = 47 ∨ cm_ B n p = 62
    · rw [el_q c] at e
      have f := Option.some.inj e
      injection f with f1 f2
      injection f2 with f2 f3
      subst f1 f2 f3
      exact k
    · by_cases c2 : sp = 0
      · rw [el_0 c c2] at e
        exact absurd e (by simp)
      · cases e2 : at_F B n had p with
        | none =>
          rw [el_f c e2] at e
          exact absurd e (by simp)
        | some o =>
          obtain ⟨x, w, z, W⟩ := o
          rw [el_s c c2 e2] at e
          have u := (at_up e2).1
          exact el_rg m (had + w) (rp_ R w z W) _ _ a h R' e (PR7_s k (u.elim (fun q => Or.inl q.1) (fun q => Or.inr q.1)) (at_rg e2))
theorem eF_rg {B : Int → Int32} {n p e : Int} {R : RE_} (k : eF_ B n p = some (e, R)) (hp : p ≤ n) : PR7_ 3 R := by
  unfold eF_ at k
  cases w : wk_ B n tE_ 4 p with
  | none =>
    rw [w] at k
    exact absurd k (by simp)
  | some q =>
    have u := wk_up5 (by decide) w hp
    rw [w] at k
    have k2 : (eA_ B n q).bind (ee_ B n) = some (e, R) := k
    cases w2 : eA_ B n q with
    | none =>
      rw [w2] at k2
      exact absurd k2 (by simp)
    | some o =>
      obtain ⟨a, h, S⟩ := o
      have v := eA_up w2 u.2
      rw [w2] at k2
      have k3 : ee_ B n (a, h, S) = some (e, R) := k2
      have y := ee_up k3 (by omega)
      unfold eA_ at w2
      have z0 : PR7_ 0 RZ_ := fun q => absurd q (by decide)
      have x : PR7_ h S := el_rg 3 0 RZ_ _ _ a h S w2 z0
      rw [y.1, ← y.2.1] at x
      exact x
def RG7_ (L : List RE_) : Prop := ∀ R ∈ L, PQ6_ 3 R ∧ PR7_ 3 R
theorem es_rg {B : Int → Int32} {n : Int} : ∀ (m : Nat) (p : Int) (L : List RE_) (x : Int) (K : List RE_), es_ B n m p L = some (x, K) → p ≤ n → RG7_ L → 20 * (L.length : Int) ≤ p → RG7_ K ∧ 20 * (K.length : Int) ≤ x ∧ x ≤ n
  | 0, _, _, _, _, e, _, _, _ => absurd e (by simp [es_])
  | m + 1, p, L, x, K, e, hp, hL, h20 => by
    have e1 : (if cm_ B n p = 60 ∧ cm_ B n (p + 1) = 47 then some (p, L) else (eF_ B n p).bind (fun o => (gF B n o.1).bind (fun g => es_ B n m g (L ++ [o.2])))) = some (x, K) := e
    by_cases c : cm_ B n p = 60 ∧ cm_ B n (p + 1) = 47
    · rw [if_pos c] at e1
      have f := Option.some.inj e1
      injection f with f1 f2
      subst f1 f2
      exact ⟨hL, h20, hp⟩
    · rw [if_neg c] at e1
      cases w : eF_ B n p with
      | none =>
        rw [w] at e1
        exact absurd e1 (by simp)
      | some o =>
        obtain ⟨y, R⟩ := o
        have u := eF_up w hp
        rw [w] at e1
        have e2 : (gF B n y).bind (fun g => es_ B n m g (L ++ [R])) = some (x, K) := e1
        cases w2 : gF B n y with
        | none =>
          rw [w2] at e2
          exact absurd e2 (by simp)
        | some g =>
          have v := gF_up u.2.1 w2
          rw [w2] at e2
          have e3 : es_ B n m g (L ++ [R]) = some (x, K) := e2
          have z : 20 * (((L ++ [R]).length : Nat) : Int) ≤ g := by
            rw [List.length_append, List.length_singleton]
            omega
          refine es_rg m g (L ++ [R]) x K e3 v.2 (fun S hS => ?_) z
          rcases List.mem_append.mp hS with q | q
          · exact hL S q
          · rw [List.mem_singleton.mp q]
            exact ⟨u.2.2, eF_rg w hp⟩
theorem tA_rg {B : Int → Int32} {n p : Int} {L K : List RE_} (e : tA6_ B n L p = some K) : K = L := by
  unfold tA6_ at e
  cases w : gF B n p with
  | none =>
    rw [w] at e
    exact absurd e (by simp)
  | some g =>
    rw [w] at e
    have e2 : (if g = n then some L else none) = some K := e
    by_cases c : g = n
    · rw [if_pos c] at e2
      exact (Option.some.inj e2).symm
    · rw [if_neg c] at e2
      exact absurd e2 (by simp)
theorem hs_up {B : Int → Int32} {n s : Int} (hn : 0 ≤ n) (e : hs_ B n = some s) : 0 ≤ s ∧ s ≤ n := by
  unfold hs_ at e
  cases w : gF B n 0 with
  | none =>
    rw [w] at e
    exact absurd e (by simp)
  | some g =>
    have u := gF_up hn w
    rw [w] at e
    have e2 : (wk_ B n tH_ 5 g).map (sF B n) = some s := e
    cases w2 : wk_ B n tH_ 5 g with
    | none =>
      rw [w2] at e2
      exact absurd e2 (by simp)
    | some a =>
      have v := wk_up5 (by decide) w2 u.2
      rw [w2] at e2
      have e3 : sF B n a = s := Option.some.inj e2
      have l := sF_le (B := B) v.2
      rw [e3] at l
      omega
theorem mk_rg {B : Int → Int32} {n : Int} {K : List RE_} (hn : 0 ≤ n) (e : mk_ B n = some K) : RG7_ K ∧ 20 * (K.length : Int) ≤ n := by
  have z0 : RG7_ [] := fun R h => absurd h (by simp)
  have z1 : 20 * ((([] : List RE_).length : Nat) : Int) = 0 := rfl
  unfold mk_ at e
  cases w : hs_ B n with
  | none =>
    rw [w] at e
    exact absurd e (by simp)
  | some s =>
    have us := hs_up hn w
    rw [w] at e
    have e1 : (if cm_ B n s = 47 then (wk_ B n tG_ 2 s).bind (tA6_ B n []) else ((nd_ B n 62 s).bind (gF B n)).bind (fun g => (eS B n g []).bind (mT6_ B n))) = some K := e
    by_cases c : cm_ B n s = 47
    · rw [if_pos c] at e1
      cases w2 : wk_ B n tG_ 2 s with
      | none =>
        rw [w2] at e1
        exact absurd e1 (by simp)
      | some a =>
        rw [w2] at e1
        have e2 : tA6_ B n [] a = some K := e1
        rw [tA_rg e2]
        exact ⟨z0, by omega⟩
    · rw [if_neg c] at e1
      by_cases c2 : cm_ B n s = 62
      · rw [nd_y c2] at e1
        have e2 : (gF B n (s + 1)).bind (fun g => (eS B n g []).bind (mT6_ B n)) = some K := e1
        have l := cm_in (B := B) (n := n) (j := s) (by omega)
        cases w3 : gF B n (s + 1) with
        | none =>
          rw [w3] at e2
          exact absurd e2 (by simp)
        | some g =>
          have v := gF_up (show s + 1 ≤ n by omega) w3
          rw [w3] at e2
          have e3 : (eS B n g []).bind (mT6_ B n) = some K := e2
          cases w4 : eS B n g [] with
          | none =>
            rw [w4] at e3
            exact absurd e3 (by simp)
          | some o =>
            obtain ⟨x, L⟩ := o
            rw [w4] at e3
            have e4 : mT6_ B n (x, L) = some K := e3
            unfold eS at w4
            have q := es_rg _ g [] x L w4 v.2 z0 (by omega)
            unfold mT6_ at e4
            dsimp only at e4
            cases w5 : cl_ B n tI_ 6 x with
            | none =>
              rw [w5] at e4
              exact absurd e4 (by simp)
            | some y =>
              rw [w5] at e4
              have e5 : tA6_ B n L y = some K := e4
              rw [tA_rg e5]
              exact ⟨q.1, by omega⟩
      · rw [nd_x c2] at e1
        exact absurd e1 (by simp)
theorem tT_rg {B : Int → Int32} {n t : Int} {K : List RE_} (hn : 0 ≤ t → 0 ≤ n) (e : tT6_ t (mk_ B n) = some K) : RG7_ K ∧ (t < 0 → K = []) ∧ (0 ≤ t → 20 * (K.length : Int) ≤ n) := by
  unfold tT6_ at e
  by_cases c : t < 0
  · rw [if_pos c] at e
    rw [← Option.some.inj e]
    exact ⟨fun R h => absurd h (by simp), fun _ => rfl, fun w => absurd w (by omega)⟩
  · rw [if_neg c] at e
    have q := mk_rg (hn (by omega)) e
    exact ⟨q.1, fun w => absurd w c, fun _ => q.2⟩
/-! ROWS OF NUMBERS -/
theorem omg_63096e67f2 {x0 : Int} {x1 : Int} {x2 : Int} {x3 : Int} {x4 : Int} (a0 : (x0 = (x1 + ((2 : Int) * x2)))) (a1 : ((x1 = (0 : Int)) ∨ (x1 = (1 : Int)))) (a2 : (x3 = x4)) (a3 : (((x4 = (1 : Int)) ∧ ((x0 % (2 : Int)) = (0 : Int))) ∨ ((x4 = (2 : Int)) ∧ (x0 < (2 : Int))))) (a4 : (x3 = (1 : Int))) : (x1 = (0 : Int)) := by omega
/-! CHECK: the class's ids as numbers -/
def gl7 (f : Nat → Int64) (k : Int) : Int := (f k.toNat).toInt
theorem gl7_ld {z : Int64} {i : Int32} {f : Nat → Int64} {k : Int} (e : z = f i.toNatClampNeg) (hi : i.toInt = k) : z.toInt = gl7 f k := by subst e hi; rfl
theorem gl7_upd {f : Nat → Int64} {i : Int32} {v : Int64} {a : Int} (hi : i.toInt = a) (k : Int) (h0 : 0 ≤ a) (hk : 0 ≤ k) : gl7 (vp_updL f i.toNatClampNeg v) k = if k = a then v.toInt else gl7 f k := by
  subst hi
  unfold gl7
  by_cases h : k = i.toInt
  · subst h
    rw [if_pos rfl]
    exact congrArg Int64.toInt pk_uLs
  · rw [if_neg h]
    refine congrArg Int64.toInt (pk_uLn (fun z9 => h ?_))
    have h2 : ((i.toNatClampNeg : Nat) : Int) = i.toInt := ti_clamp h0
    omega
theorem e256_6 : ∀ k : Nat, k ≤ 6 → e256 k ≤ 281474976710656
  | 0, _ => by decide
  | 1, _ => by decide
  | 2, _ => by decide
  | 3, _ => by decide
  | 4, _ => by decide
  | 5, _ => by decide
  | 6, _ => by decide
  | k + 7, h => absurd h (by omega)
theorem pk7_256 {W : Int → Int} {z : Int} (h : ∀ j : Int, 0 ≤ j → j < z → 1 ≤ W j ∧ W j ≤ 126) (hz : z ≤ 8) : ∀ j : Nat, (j : Int) + 1 ≤ z → 0 ≤ pk7_ W j ∧ pk7_ W j * 256 < 9223372036854775808
  | 0, _ => ⟨Int.le_refl _, (by decide : (0 : Int) * 256 < 9223372036854775808)⟩
  | j + 1, hj => by
    have a := pk7_nn h (j + 1) (by omega)
    have b := pk7_lt h j (by omega)
    have c := e256_6 j (by omega)
    omega
theorem id7_st {d z x y : Int64} {W : Int → Int} {j : Nat} {b : Int} (e : z = x ||| y) (hx : x.toInt = d.toInt * 256) (hy : y.toInt = b) (b0 : 0 ≤ b) (b1 : b < 256) (hd : d.toInt = pk7_ W j) (d0 : 0 ≤ d.toInt) (hb : b = W j) : z.toInt = pk7_ W (j + 1) := by
  have e2 : z = y ||| x := by
    rw [e]
    exact Int64.or_comm x y
  have q := tl_orv (c := 256) 8 e2 hy hx (by decide) b0 b1 d0
  show z.toInt = 256 * pk7_ W j + W j
  rw [q, hd, hb]
  omega
def cA7_ (B : Int → Int32) (n d p k r a : Int) (D D2 : Nat → Int64) : Prop := ¬ r = 0 → ∃ (w z : Int) (W : Int → Int), at_F B n d p = some (a, w, z, W) ∧ (∀ x : Int, 0 ≤ x → x < k → gl7 D2 x = gl7 D x) ∧ (w = 1 → gl7 D2 k = pk7_ W z.toNat) ∧ (¬ w = 1 → D2 = D)
theorem cA7_0 {B : Int → Int32} {n d p k r a : Int} {D D2 : Nat → Int64} (hr : r = 0) : cA7_ B n d p k r a D D2 := fun q => absurd hr q
theorem cA7_i {B : Int → Int32} {n d p k r a w a2 z : Int} {v : Nat → Int32} {D D2 : Nat → Int64} (u : ∃ W : Int → Int, at_F B n d p = va_ w (a2, z, W) ∧ ∀ j : Int, 0 ≤ j → j < z → j < 24 → gx v j = W j) (hw : w = 1) (hz : 1 ≤ z ∧ z ≤ 8) (ea : a = a2 + 1) (hi : gl7 D2 k = pk7_ (gx v) z.toNat ∧ ∀ x : Int, 0 ≤ x → x < k → gl7 D2 x = gl7 D x) : cA7_ B n d p k r a D D2 := fun _ => by
  obtain ⟨W, u1, u2⟩ := u
  refine ⟨1, z, W, ?_, hi.2, fun _ => ?_, fun q => absurd rfl q⟩
  · rw [u1, va_y (Or.inl ⟨hw, hz.1, hz.2⟩), ea, hw]
  · rw [hi.1]
    exact pk7_c _ (fun j j0 j1 => u2 j j0 (by omega) (by omega))
theorem cA7_g {B : Int → Int32} {n d p k r a w a2 z r1 ht2 : Int} {V : VW_} {v g g2 : Nat → Int32} {D D2 : Nat → Int64} (u : ∃ W : Int → Int, at_F B n d p = va_ w (a2, z, W) ∧ ∀ j : Int, 0 ≤ j → j < z → j < 24 → gx v j = W j) (hw : w = 2) (kg : kG6_ V k r1 z ht2 v g g2) (hr1 : ¬ r1 = 0) (ea : a = a2 + 1) (hD : D2 = D) : cA7_ B n d p k r a D D2 := fun _ => by
  obtain ⟨W, u1, u2⟩ := u
  rcases kg with ⟨_, c1, c2, c3, c4⟩ | ⟨c, _⟩
  · refine ⟨2, z, W, ?_, fun x _ _ => by rw [hD], fun q => absurd q (by decide), fun _ => hD⟩
    rw [u1, va_y (Or.inr ⟨by omega, (iA_24 u2).mp c1⟩), ea, hw]
  · exact absurd c hr1
theorem vR_rg {B : Int → Int32} {n q p b a z : Int} {g : Nat → Int32} (h : vR_ 24 (vG B n q p 0 (fun _ => 0)) b a z g) (hb : b = 0) (hp : p ≤ n) (hz : z ≤ 8) : ∀ j : Int, 0 ≤ j → j < z → 1 ≤ gx g j ∧ gx g j ≤ 126 := fun j j0 j1 => by
  rcases h with ⟨_, W, k1, k2⟩ | ⟨k, _⟩
  · rw [k2 j j0 j1 (by omega)]
    unfold vG at k1
    exact vl_rg _ _ _ _ _ k1 hp (by omega) (fun x x0 x1 => absurd x1 (by omega)) j j0 j1
  · exact absurd hb k
def cL7_ (B : Int → Int32) (n : Int) (T : Option (Int × Int × RE_)) (k a sp hi ht : Int) (D D2 : Nat → Int64) : Prop := ∃ R : RE_, T = el_ B n (fu_ (hi + 2 * ht)) (hi + 2 * ht) R a sp ∧ (∀ x : Int, 0 ≤ x → x < k → gl7 D2 x = gl7 D x) ∧ (hi = 1 → gl7 D2 k = pk7_ R.2.1 R.1.toNat)
theorem cL7_0 {B : Int → Int32} {n p r q a sp k hi ht : Int} {D : Nat → Int64} (h : oy_ r q = wk_ B n tE_ 4 p) (hr : ¬ r = 0) (hs : a = sF B n q) (hx : (sp = 1 ∧ q < a) ∨ (sp = 0 ∧ a = q)) (h1 : hi = 0) (h2 : ht = 0) : cL7_ B n ((wk_ B n tE_ 4 p).bind (eA_ B n)) k a sp hi ht D D := by
  rw [oy_t hr] at h
  refine ⟨RZ_, ?_, fun _ _ _ => rfl, fun w => absurd w (by omega)⟩
  rw [← h, h1, h2]
  show el_ B n 3 0 RZ_ (sF B n q) (if q < sF B n q then 1 else 0) = el_ B n (fu_ (0 + 2 * 0)) (0 + 2 * 0) RZ_ a sp
  rw [← hs]
  have e : (if q < a then (1 : Int) else 0) = sp := by split <;> omega
  rw [e]
  rfl
theorem cL7_s {B : Int → Int32} {n : Int} {V : VW_} {T : Option (Int × Int × RE_)} {k a sp hi ht j r q a2 sp2 hi2 ht2 d : Int} {g g2 g3 : Nat → Int32} {D D2 D3 : Nat → Int64} (m : cL7_ B n T k a sp hi ht D D2) (m6 : cL6_ B n V T k a sp hi ht j g g2) (hc : ¬ (cm_ B n a = 47 ∨ cm_ B n a = 62)) (hs : ¬ sp = 0) (hd : d = hi + 2 * ht) (r6 : cA6_ B n V k d a r q hi ht hi2 ht2 g2 g3) (r7 : cA7_ B n d a k r q D2 D3) (hr : ¬ r = 0) (h2 : a2 = sF B n q) (hx : (sp2 = 1 ∧ q < a2) ∨ (sp2 = 0 ∧ a2 = q)) : cL7_ B n T k a2 sp2 hi2 ht2 D D3 := by
  obtain ⟨R, m4, m5, m7⟩ := m
  have n1 := m6.1
  have n2 := m6.2.1
  obtain ⟨w, z, W, r1, r2, r3, r4⟩ := r7 hr
  rcases r6 with ⟨_, w', z', W', s1, s2⟩ | ⟨c, _⟩
  · have ew : w' = w := by
      have e := Option.some.inj (s1.symm.trans r1)
      exact congrArg (fun o : Int × Int × Int × (Int → Int) => o.2.1) e
    have u := at_up r1
    have v : w = 1 ∧ d % 2 = 0 ∨ w = 2 ∧ d < 2 := by
      rcases u.1 with y | y
      · exact Or.inl ⟨y.1, y.2.1⟩
      · exact Or.inr ⟨y.1, y.2.1⟩
    have e : (if q < sF B n q then (1 : Int) else 0) = sp2 := by
      rw [← h2]
      split <;> omega
    have eT : T = el_ B n (fu_ (d + w)) (d + w) (rp_ R w z W) a2 sp2 := by
      rw [m4, ← hd, fu_s (by (exact omg_bdd4e6d0b7 hd n1 n2)) (by (exact omg_ab4f633451 hd n1 n2)) v, el_s hc hs r1, e, h2]
    rcases s2 with ⟨w1, y1, y2, y3⟩ | ⟨w2, y1, y2, y3, y4⟩
    · have hh : hi = 0 := by (exact omg_63096e67f2 hd n1 ew v w1)
      refine ⟨rp_ R w z W, ?_, fun x x0 x1 => (r2 x x0 x1).trans (m5 x x0 x1), fun _ => ?_⟩
      · rw [eT, show d + w = hi2 + 2 * ht2 by omega]
      · unfold rp_
        rw [if_pos (by omega)]
        exact r3 (by omega)
    · have hh : ht = 0 := by omega
      refine ⟨rp_ R w z W, ?_, fun x x0 x1 => (r2 x x0 x1).trans (m5 x x0 x1), fun q9 => ?_⟩
      · rw [eT, show d + w = hi2 + 2 * ht2 by omega]
      · unfold rp_
        rw [if_neg (by omega), r4 (by omega)]
        exact m7 (by omega)
  · exact absurd c hr
def cE7_ (B : Int → Int32) (n p r k : Int) (D D2 : Nat → Int64) : Prop := ¬ r = 0 → (∀ x : Int, 0 ≤ x → x < k → gl7 D2 x = gl7 D x) ∧ ∀ (a : Int) (R : RE_), eF_ B n p = some (a, R) → gl7 D2 k = pk7_ R.2.1 R.1.toNat
theorem cE7_0 {B : Int → Int32} {n p r k : Int} {D D2 : Nat → Int64} (hr : r = 0) : cE7_ B n p r k D D2 := fun q => absurd hr q
theorem cE7_c {B : Int → Int32} {n p r k a sp hi ht : Int} {D D2 : Nat → Int64} (m : cL7_ B n ((wk_ B n tE_ 4 p).bind (eA_ B n)) k a sp hi ht D D2) (h1 : hi = 1) (h2 : ht = 1) : cE7_ B n p r k D D2 := fun _ => by
  obtain ⟨R, m4, m5, m6⟩ := m
  refine ⟨m5, fun x Q e => ?_⟩
  have f3 : fu_ (1 + 2 * 1) = 1 := rfl
  have g3 : (1 + 2 * 1 : Int) = 3 := rfl
  rw [eF_T, m4, h1, h2, f3, g3] at e
  by_cases c : cm_ B n a = 47 ∨ cm_ B n a = 62
  · have l := cm_in (B := B) (n := n) (j := a) (by omega)
    have e1 : el_ B n 1 3 R a sp = some (a, 3, R) := el_q (m := 0) c
    rw [e1] at e
    have k3 : ee_ B n (a, 3, R) = some (x, Q) := e
    have y := ee_up k3 (by omega)
    rw [y.2.1]
    exact m6 h1
  · rw [el_3 c] at e
    exact absurd e (by simp)
def rK7_ (D : Nat → Int64) (L : List RE_) : Prop := ∀ (x : Nat) (R : RE_), L[x]? = some R → gl7 D x = pk7_ R.2.1 R.1.toNat
theorem rK7_s {k : Int} {D D2 : Nat → Int64} {L : List RE_} {R : RE_} (h : rK7_ D L) (hk : k = L.length) (h1 : gl7 D2 k = pk7_ R.2.1 R.1.toNat) (h2 : ∀ x : Int, 0 ≤ x → x < k → gl7 D2 x = gl7 D x) : rK7_ D2 (L ++ [R]) := by
  intro x Q hx
  by_cases c : x < L.length
  · rw [List.getElem?_append_left c] at hx
    rw [h2 x (by omega) (by omega)]
    exact h x Q hx
  · have e : x = L.length := by
      have l := (List.getElem?_eq_some_iff.mp hx).1
      rw [List.length_append, List.length_singleton] at l
      omega
    rw [e, List.getElem?_append_right (Nat.le_refl _), Nat.sub_self] at hx
    have e2 : R = Q := Option.some.inj hx
    rw [← e2, e, ← hk]
    exact h1
def cM7_ (B : Int → Int32) (n rt io a k : Int) (D : Nat → Int64) : Prop := ¬ rt = 0 → ¬ io = 0 → ∃ L : List RE_, k = L.length ∧ mk_ B n = (eS B n a L).bind (mT6_ B n) ∧ rK7_ D L
theorem cM7_0 {B : Int → Int32} {n r io a k : Int} {D : Nat → Int64} (h : hd6_ B n r io a) (hk : k = 0) : cM7_ B n r io a k D := fun hr hi => by
  rcases h with ⟨c, s, h1, h2⟩ | ⟨c, h1⟩
  · rcases h2 with ⟨i, y, z⟩ | ⟨i, y, z⟩
    · exact absurd i hi
    · refine ⟨[], hk, ?_, fun x R q => absurd q (by simp)⟩
      rw [mk_o h1 y, z]
      rfl
  · exact absurd c hr
theorem cM7_z {B : Int → Int32} {n rt io a k : Int} {D : Nat → Int64} (hr : rt = 0) : cM7_ B n rt io a k D := fun q => absurd hr q
theorem cM7_s {B : Int → Int32} {n : Int} {V : VW_} {rt io a k r a1 k2 r2 a2 rt2 : Int} {g g2 : Nat → Int32} {D D2 : Nat → Int64} (m : cM7_ B n rt io a k D) (hr : ¬ rt = 0) (ha : a ≤ n) (hc : ¬ io = 0 ∧ cm_ B n a = 60 ∧ ¬ cm_ B n (a + 1) = 47) (e : cE6_ B n V a r a1 k k2 g g2) (e7 : cE7_ B n a r k D D2) (h1 : ¬ r = 0) (h : oy_ r2 a2 = gF B n a1) (h2 : ¬ r2 = 0) : cM7_ B n rt2 io a2 k2 D2 := fun _ _ => by
  obtain ⟨L, l1, l2, l3⟩ := m hr hc.1
  rcases e with ⟨_, e0, R, e1, e2, e3⟩ | ⟨c, _⟩
  · rw [oy_t h2] at h
    have q := e7 h1
    refine ⟨L ++ [R], ?_, ?_, rK7_s l3 l1 (q.2 _ _ e1) q.1⟩
    · rw [List.length_append, List.length_singleton]
      omega
    · rw [l2, eS_s ha (fun q => hc.2.2 q.2) e1 h.symm]
  · exact absurd c h1
theorem cR7_t {B : Int → Int32} {n : Int} {V : VW_} {rt io a k : Int} {g : Nat → Int32} {D : Nat → Int64} {K : List RE_} (m : cM7_ B n rt io a k D) (m6 : cM6_ B n V rt io a k g) (hr : ¬ rt = 0) (hc : ¬ (¬ io = 0 ∧ cm_ B n a = 60 ∧ ¬ cm_ B n (a + 1) = 47)) (e : mk_ B n = some K) : rK7_ D K := by
  by_cases hi : io = 0
  · rcases m6 with ⟨_, ⟨i, _⟩ | ⟨_, _, l2⟩⟩ | ⟨c, _⟩
    · exact absurd hi i
    · rw [l2] at e
      rw [tA_rg e]
      exact fun x R q => absurd q (by simp)
    · exact absurd c hr
  · obtain ⟨L, l1, l2, l3⟩ := m hr hi
    rw [l2] at e
    by_cases c : cm_ B n a = 60 ∧ cm_ B n (a + 1) = 47
    · rw [eS_q c] at e
      have e2 : mT6_ B n (a, L) = some K := e
      unfold mT6_ at e2
      dsimp only at e2
      cases w : cl_ B n tI_ 6 a with
      | none =>
        rw [w] at e2
        exact absurd e2 (by simp)
      | some x =>
        rw [w] at e2
        have e3 : tA6_ B n L x = some K := e2
        rw [tA_rg e3]
        exact l3
    · have c6 : ¬ cm_ B n a = 60 := fun q => hc ⟨hi, q, fun q2 => c ⟨q, q2⟩⟩
      have w2 : eF_ B n a = none := by
        have e := wk_z (B := B) (n := n) (t := tE_) (k := 1) (p := a) (by
          show (some a).bind (nd_ B n (tE_ ((0 : Nat) : Int))) = none
          exact nd_x c6) 3
        have e2 : wk_ B n tE_ 4 a = none := e
        unfold eF_
        rw [e2]
        rfl
      rw [eS_f c w2] at e
      exact absurd e (by simp)
theorem cR7_n {B : Int → Int32} {n : Int} {V : VW_} {rt io a k : Int} {g : Nat → Int32} {D : Nat → Int64} {K : List RE_} (m6 : cM6_ B n V rt io a k g) (hr : rt = 0) (e : mk_ B n = some K) : rK7_ D K := by
  rcases m6 with ⟨c, _⟩ | ⟨_, c⟩
  · exact absurd hr c
  · rw [c] at e
    exact absurd e (by simp)
def lo7_ (t : Int) (f b : Nat → Int32) (D : Nat → Int64) : Prop := ∀ L : List RE_, tT6_ t (mk_ (mB_ f (gx b t)) (gx b (t + 1) - gx b t)) = some L → rK7_ D L
theorem lo7_0 {t : Int} {f b : Nat → Int32} {D : Nat → Int64} (h : t < 0) : lo7_ t f b D := fun L e => by
  unfold tT6_ at e
  rw [if_pos h] at e
  rw [← Option.some.inj e]
  exact fun x R q => absurd q (by simp)
theorem lo7_m {t b3 e3 : Int} {f b : Nat → Int32} {D : Nat → Int64} (ht : 0 ≤ t) (h1 : b3 = gx b t) (h2 : e3 = gx b (t + 1)) (h : ∀ L : List RE_, mk_ (mB_ f b3) (e3 - b3) = some L → rK7_ D L) : lo7_ t f b D := fun L e => by
  unfold tT6_ at e
  rw [if_neg (by omega), ← h1, ← h2] at e
  exact h L e
/-- an id that stood before: by the numbers, and by the bytes -/
theorem RG7_m {L : List RE_} {k : Nat} {R : RE_} (h : RG7_ L) (e : L[k]? = some R) : (1 ≤ R.1 ∧ R.1 ≤ 8) ∧ ∀ j : Int, 0 ≤ j → j < R.1 → 1 ≤ R.2.1 j ∧ R.2.1 j ≤ 126 := by
  have q := h R (List.mem_of_getElem? e)
  exact ⟨q.1.1 (by decide), q.2 (by decide)⟩
theorem id7_eq {L : List RE_} {D : Nat → Int64} {j k : Nat} {R Q : RE_} (hD : rK7_ D L) (hL : RG7_ L) (e1 : L[j]? = some R) (e2 : L[k]? = some Q) : gl7 D j = gl7 D k ↔ sI7_ R Q := by
  have r := RG7_m hL e1
  have q := RG7_m hL e2
  rw [hD j R e1, hD k Q e2]
  constructor
  · intro e
    have u := pk7_u r.2 q.2 R.1.toNat Q.1.toNat (by omega) (by omega) e
    exact ⟨by omega, fun x x0 x1 => u.2 x x0 (by omega)⟩
  · intro s
    rw [s.1]
    exact pk7_c _ (fun x x0 x1 => s.2 x x0 (by have w := s.1; omega))
theorem ag7_c {L : List RE_} {D : Nat → Int64} {k r : Int} (hD : rK7_ D L) (hL : RG7_ L) (k0 : 0 ≤ k) (k1 : k < L.length) (h : (r = 1 ∧ ∃ j : Int, 0 ≤ j ∧ j < k ∧ gl7 D j = gl7 D k) ∨ (r = 0 ∧ ∀ j : Int, 0 ≤ j → j < k → ¬ gl7 D j = gl7 D k)) : r = w7_ (ag7_ L k.toNat) := by
  obtain ⟨Q, hQ⟩ : ∃ Q : RE_, L[k.toNat]? = some Q := ⟨L[k.toNat]'(by omega), List.getElem?_eq_getElem (by omega)⟩
  have kk : ((k.toNat : Nat) : Int) = k := by omega
  rcases h with ⟨h1, j, j0, j1, j2⟩ | ⟨h1, h2⟩
  · obtain ⟨R, hR⟩ : ∃ R : RE_, L[j.toNat]? = some R := ⟨L[j.toNat]'(by omega), List.getElem?_eq_getElem (by omega)⟩
    have jj : ((j.toNat : Nat) : Int) = j := by omega
    rw [w7_y ⟨j.toNat, R, Q, by omega, hR, hQ, (id7_eq hD hL hR hQ).mp (by rw [jj, kk]; exact j2)⟩]
    exact h1
  · rw [w7_n (fun w => by
      obtain ⟨j, R, Q', w1, w2, w3, w4⟩ := w
      have e : Q = Q' := Option.some.inj (hQ.symm.trans w3)
      rw [← e] at w4
      have v := (id7_eq hD hL w2 hQ).mpr w4
      rw [kk] at v
      exact h2 j (by omega) (by omega) v)]
    exact h1
/-! ROWS OF NUMBERS -/
theorem omg_5347c246c5 {x0 : Int} {x1 : Nat} {x2 : Int} (a0 : (x0 = ((x1 : Nat) : Int))) (a1 : (x2 = (x0 % (2 : Int)))) : (((x2 = (1 : Int)) ∧ ((x1 % (2 : Nat)) = (1 : Nat))) ∨ ((x2 = (0 : Int)) ∧ (¬ ((x1 % (2 : Nat)) = (1 : Nat))))) := by omega
/-! CHECK: sets of parts as bits, and what is reached -/
def bt7_ (x : Int32) (j : Int) : Prop := x.toInt.toNat.testBit j.toNat = true
theorem bt7_0 (j : Int) : ¬ bt7_ 0 j := by
  unfold bt7_
  rw [show (0 : Int32).toInt.toNat = 0 by decide, Nat.zero_testBit]
  decide
theorem bt7_or {x y z : Int32} (e : z = x ||| y) (hx : 0 ≤ x.toInt) (hy : 0 ≤ y.toInt) (j : Int) : bt7_ z j ↔ (bt7_ x j ∨ bt7_ y j) := by
  obtain ⟨a, ha, rfl⟩ := ti_nat hx
  obtain ⟨b, hb, rfl⟩ := ti_nat hy
  subst e
  unfold bt7_
  rw [ti_orN ha hb, nI_toInt ha, nI_toInt hb]
  show (a ||| b).testBit j.toNat = true ↔ (a.testBit j.toNat = true ∨ b.testBit j.toNat = true)
  rw [Nat.testBit_or, Bool.or_eq_true]
theorem sh7_k {s : Int32} (h0 : 0 ≤ s.toInt) (h1 : s.toInt ≤ 15) : ∃ k : Nat, k ≤ 15 ∧ s.toInt = (k : Int) ∧ ((s &&& 31).toBitVec.smod 32).toNat = k := by
  rcases (show s.toInt = 0 ∨ s.toInt = 1 ∨ s.toInt = 2 ∨ s.toInt = 3 ∨ s.toInt = 4 ∨ s.toInt = 5 ∨ s.toInt = 6 ∨ s.toInt = 7 ∨ s.toInt = 8 ∨ s.toInt = 9 ∨ s.toInt = 10 ∨ s.toInt = 11 ∨ s.toInt = 12 ∨ s.toInt = 13 ∨ s.toInt = 14 ∨ s.toInt = 15 by omega) with h | h | h | h | h | h | h | h | h | h | h | h | h | h | h | h
  · obtain rfl : s = 0 := Int32.toInt_inj.mp (h.trans (by decide))
    exact ⟨0, by decide, h, by decide⟩
  · obtain rfl : s = 1 := Int32.toInt_inj.mp (h.trans (by decide))
    exact ⟨1, by decide, h, by decide⟩
  · obtain rfl : s = 2 := Int32.toInt_inj.mp (h.trans (by decide))
    exact ⟨2, by decide, h, by decide⟩
  · obtain rfl : s = 3 := Int32.toInt_inj.mp (h.trans (by decide))
    exact ⟨3, by decide, h, by decide⟩
  · obtain rfl : s = 4 := Int32.toInt_inj.mp (h.trans (by decide))
    exact ⟨4, by decide, h, by decide⟩
  · obtain rfl : s = 5 := Int32.toInt_inj.mp (h.trans (by decide))
    exact ⟨5, by decide, h, by decide⟩
  · obtain rfl : s = 6 := Int32.toInt_inj.mp (h.trans (by decide))
    exact ⟨6, by decide, h, by decide⟩
  · obtain rfl : s = 7 := Int32.toInt_inj.mp (h.trans (by decide))
    exact ⟨7, by decide, h, by decide⟩
  · obtain rfl : s = 8 := Int32.toInt_inj.mp (h.trans (by decide))
    exact ⟨8, by decide, h, by decide⟩
  · obtain rfl : s = 9 := Int32.toInt_inj.mp (h.trans (by decide))
    exact ⟨9, by decide, h, by decide⟩
  · obtain rfl : s = 10 := Int32.toInt_inj.mp (h.trans (by decide))
    exact ⟨10, by decide, h, by decide⟩
  · obtain rfl : s = 11 := Int32.toInt_inj.mp (h.trans (by decide))
    exact ⟨11, by decide, h, by decide⟩
  · obtain rfl : s = 12 := Int32.toInt_inj.mp (h.trans (by decide))
    exact ⟨12, by decide, h, by decide⟩
  · obtain rfl : s = 13 := Int32.toInt_inj.mp (h.trans (by decide))
    exact ⟨13, by decide, h, by decide⟩
  · obtain rfl : s = 14 := Int32.toInt_inj.mp (h.trans (by decide))
    exact ⟨14, by decide, h, by decide⟩
  · obtain rfl : s = 15 := Int32.toInt_inj.mp (h.trans (by decide))
    exact ⟨15, by decide, h, by decide⟩
theorem bt7_sl {z s : Int32} (e : z = 1 <<< (s &&& 31)) (h0 : 0 ≤ s.toInt) (h1 : s.toInt ≤ 15) : (0 ≤ z.toInt ∧ z.toInt < 65536) ∧ ∀ j : Int, 0 ≤ j → (bt7_ z j ↔ j = s.toInt) := by
  obtain ⟨k, k0, k1, k2⟩ := sh7_k h0 h1
  have p : (2 : Nat) ^ k ≤ 2 ^ 15 := Nat.pow_le_pow_right (by decide) k0
  rw [show (2 : Nat) ^ 15 = 32768 by decide] at p
  have v : z.toInt = 1 * ((2 ^ k : Nat) : Int) := ti_shl e (by decide) k k2 rfl (by decide) (by
    generalize (2 : Nat) ^ k = B at *
    omega)
  have v2 : z.toInt.toNat = 2 ^ k := by
    generalize (2 : Nat) ^ k = B at *
    omega
  refine ⟨by generalize (2 : Nat) ^ k = B at *; omega, fun j j0 => ?_⟩
  unfold bt7_
  rw [v2, Nat.testBit_two_pow, decide_eq_true_iff]
  omega
theorem ti7_and1 {x z : Int32} (e : z = x &&& 1) (h : 0 ≤ x.toInt) : z.toInt = x.toInt % 2 := by
  subst e
  obtain ⟨j, hj, rfl⟩ := ti_nat h
  have e1 := nI_toInt hj
  rw [pk_and _ 1 (by decide), pk_tn (by omega), nI_toInt (by omega), e1, show (2 : Nat) ^ 1 = 2 from rfl]
  omega
theorem bt7_t {x s z y : Int32} (e : z = x >>> (s &&& 31)) (e2 : y = z &&& 1) (hx : 0 ≤ x.toInt) (h0 : 0 ≤ s.toInt) (h1 : s.toInt ≤ 15) : (y.toInt = 1 ∧ bt7_ x s.toInt) ∨ (y.toInt = 0 ∧ ¬ bt7_ x s.toInt) := by
  obtain ⟨k, k0, k1, k2⟩ := sh7_k h0 h1
  have v : z.toInt = x.toInt / ((2 ^ k : Nat) : Int) := ti_shr e rfl k k2 rfl
  obtain ⟨a, ha, rfl⟩ := ti_nat hx
  have e1 := nI_toInt ha
  rw [e1, ← Int.natCast_ediv] at v
  have t : bt7_ (nI a) s.toInt ↔ a / 2 ^ k % 2 = 1 := by
    unfold bt7_
    rw [e1, k1]
    show a.testBit k = true ↔ _
    rw [Nat.testBit_eq_decide_div_mod_eq, decide_eq_true_iff]
  rw [t]
  generalize a / 2 ^ k = m at *
  have w := ti7_and1 e2 (by omega)
  (exact omg_5347c246c5 v w)
/-- the ends of what goes from i -/
theorem E7_b {V : VW_} {i j : Int} (h : E7_ V i j) : 0 ≤ j ∧ j < vC V := by
  obtain ⟨_, h0, L, R, _, _, h3⟩ := h
  rcases h3 with ⟨_, q, _⟩ | ⟨q, _⟩
  · exact ⟨h0, q⟩
  · omega
theorem RQ7_b {V : VW_} {i : Int} (h : RQ7 V i) : 0 ≤ i ∧ i < vC V := h (fun j => 0 ≤ j ∧ j < vC V) (fun x q => ⟨q.1, q.2.1⟩) (fun x y _ q => E7_b q)
theorem ro7_u {V : VW_} {i j : Int} (hs : srt_ V) (h : ro7_ V i) (k : ro7_ V j) : i = j := by
  have e : ∀ {x : Int}, ro7_ V x → isF_ V 4 (fun q => if q = 0 then 114 else if q = 3 then 116 else 111) x := fun {x} w => by
    refine Or.inl ⟨w.1, w.2.1, w.2.2.1, fun q q0 q1 => ?_⟩
    rcases (show q = 0 ∨ q = 1 ∨ q = 2 ∨ q = 3 by omega) with c | c | c | c
    · rw [c]
      exact w.2.2.2.1
    · rw [c]
      exact w.2.2.2.2.1
    · rw [c]
      exact w.2.2.2.2.2.1
    · rw [c]
      exact w.2.2.2.2.2.2
  exact isF_u hs (e h) (e k)
/-- closed under the relations; the rounds of the class -/
def cl7_ (V : VW_) (S : Int → Prop) : Prop := ∀ i j : Int, S i → E7_ V i j → S j
def st7_ (V : VW_) (x : Int32) : Int → Prop := fun j => 0 ≤ j ∧ j < vC V ∧ bt7_ x j
def rd7_ (V : VW_) (x : Int32) (r : Int) : Prop := (0 ≤ x.toInt ∧ x.toInt < 65536) ∧ (∀ j : Int, 0 ≤ j → bt7_ x j → RQ7 V j) ∧ (∀ j : Int, ro7_ V j → bt7_ x j) ∧ (cl7_ V (st7_ V x) ∨ r + 1 ≤ cn7_ (st7_ V x) (vC V).toNat)
theorem rd7_0 {V : VW_} {x : Int32} {r : Int} (hr : r = 0) (h0 : 0 ≤ x.toInt ∧ x.toInt < 65536) (h : ∀ j : Int, 0 ≤ j → (bt7_ x j ↔ ro7_ V j)) : rd7_ V x r := by
  refine ⟨h0, fun j j0 q => RQ7_r ((h j j0).mp q), fun j q => (h j q.1).mpr q, ?_⟩
  by_cases c : ∃ j : Int, ro7_ V j
  · obtain ⟨j, hj⟩ := c
    have j0 := hj.1
    have j1 := hj.2.1
    have e : ((j.toNat : Nat) : Int) = j := by omega
    have p : st7_ V x ((j.toNat : Nat) : Int) := by
      rw [e]
      exact ⟨j0, j1, (h j j0).mpr hj⟩
    have q := cn7_p (S := st7_ V x) p (vC V).toNat (by omega)
    exact Or.inr (by omega)
  · exact Or.inl (fun i j hi _ => absurd ⟨i, (h i hi.1).mp hi.2.2⟩ c)
/-- one round: a part after the other -/
def ri7_ (V : VW_) (x y : Int32) (k : Int) : Prop := (0 ≤ y.toInt ∧ y.toInt < 65536) ∧ (∀ j : Int, 0 ≤ j → bt7_ y j → RQ7 V j) ∧ (∀ j : Int, 0 ≤ j → bt7_ x j → bt7_ y j) ∧ (∀ i j : Int, 0 ≤ i → i < k → bt7_ x i → E7_ V i j → bt7_ y j) ∧ (cl7_ V (st7_ V x) → ∀ j : Int, 0 ≤ j → j < vC V → bt7_ y j → bt7_ x j)
theorem ri7_0 {V : VW_} {x : Int32} {r k : Int} (h : rd7_ V x r) (hk : k = 0) : ri7_ V x x k := ⟨h.1, h.2.1, fun _ _ q => q, fun i j i0 i1 => absurd i1 (by omega), fun _ _ _ _ q => q⟩
theorem ri7_n {V : VW_} {x y : Int32} {k m : Int} (h : ri7_ V x y k) (hm : m = k + 1) (hb : ¬ bt7_ y k) : ri7_ V x y m := by
  refine ⟨h.1, h.2.1, h.2.2.1, fun i j i0 i1 q e => ?_, h.2.2.2.2⟩
  by_cases c : i = k
  · rw [c] at q i0
    exact absurd (h.2.2.1 k i0 q) hb
  · exact h.2.2.2.1 i j i0 (by omega) q e
theorem ri7_y {V : VW_} {x y z g : Int32} {k m : Int} (h : ri7_ V x y k) (hm : m = k + 1) (k0 : 0 ≤ k) (k1 : k < vC V) (hb : bt7_ y k) (hg : (0 ≤ g.toInt ∧ g.toInt < 65536) ∧ ∀ j : Int, 0 ≤ j → (bt7_ g j ↔ E7_ V k j)) (e : z = y ||| g) (hz : 0 ≤ z.toInt ∧ z.toInt < 65536) : ri7_ V x z m := by
  have o : ∀ j : Int, bt7_ z j ↔ (bt7_ y j ∨ bt7_ g j) := bt7_or e h.1.1 hg.1.1
  refine ⟨hz, fun j j0 q => ?_, fun j j0 q => (o j).mpr (Or.inl (h.2.2.1 j j0 q)), fun i j i0 i1 q w => ?_, fun c j j0 j1 q => ?_⟩
  · rcases (o j).mp q with a | a
    · exact h.2.1 j j0 a
    · exact RQ7_s (h.2.1 k k0 hb) ((hg.2 j j0).mp a)
  · by_cases d : i = k
    · rw [d] at w
      exact (o j).mpr (Or.inr ((hg.2 j (E7_b w).1).mpr w))
    · exact (o j).mpr (Or.inl (h.2.2.2.1 i j i0 (by omega) q w))
  · rcases (o j).mp q with a | a
    · exact h.2.2.2.2 c j j0 j1 a
    · have b := h.2.2.2.2 c k k0 k1 hb
      exact (c k j ⟨k0, k1, b⟩ ((hg.2 j j0).mp a)).2.2
theorem rd7_s {V : VW_} {x y : Int32} {r s k : Int} (h : rd7_ V x r) (i : ri7_ V x y k) (hk : vC V ≤ k) (hs : s = r + 1) : rd7_ V y s := by
  refine ⟨i.1, i.2.1, fun j q => i.2.2.1 j q.1 (h.2.2.1 j q), ?_⟩
  by_cases c : cl7_ V (st7_ V x)
  · refine Or.inl (fun a b ha w => ?_)
    have p := i.2.2.2.2 c a ha.1 ha.2.1 ha.2.2
    have q := c a b ⟨ha.1, ha.2.1, p⟩ w
    exact ⟨q.1, q.2.1, i.2.2.1 b q.1 q.2.2⟩
  · rcases h.2.2.2 with d | d
    · exact absurd d c
    · obtain ⟨a, b, ha, w, nb⟩ : ∃ a b : Int, st7_ V x a ∧ E7_ V a b ∧ ¬ st7_ V x b := Classical.byContradiction (fun n => c (fun a b ha w => Classical.byContradiction (fun nb => n ⟨a, b, ha, w, nb⟩)))
      have eb := E7_b w
      have e : ((b.toNat : Nat) : Int) = b := by omega
      have yb : st7_ V y ((b.toNat : Nat) : Int) := by
        rw [e]
        exact ⟨eb.1, eb.2, i.2.2.2.1 a b ha.1 (by have q := ha.2.1; omega) ha.2.2 w⟩
      have nb2 : ¬ st7_ V x ((b.toNat : Nat) : Int) := by
        rw [e]
        exact nb
      have l := cn7_lt (S := st7_ V x) (U := st7_ V y) (fun q hq => ⟨hq.1, hq.2.1, i.2.2.1 q hq.1 hq.2.2⟩) yb nb2 (vC V).toNat (by omega)
      exact Or.inr (by omega)
theorem rd7_e {V : VW_} {x : Int32} {r : Int} (h : rd7_ V x r) (hr : vC V ≤ r) (h0 : 0 ≤ vC V) (j : Int) (j0 : 0 ≤ j) (j1 : j < vC V) : bt7_ x j ↔ RQ7 V j := by
  refine ⟨h.2.1 j j0, fun q => ?_⟩
  rcases h.2.2.2 with c | c
  · exact (q (st7_ V x) (fun a w => ⟨w.1, w.2.1, h.2.2.1 a w⟩) c).2.2
  · have l := (cn7_rng (st7_ V x) (vC V).toNat).2
    omega
/-- how many faults a check finds -/
noncomputable def un7_ (V : VW_) : Int → Prop := fun i => ¬ RQ7 V i ∧ ¬ iT7_ V i
noncomputable def N7_ (V : VW_) : Int := sm7_ (pn7_ V) (vC V).toNat + cn7_ (un7_ V) (vC V).toNat
theorem sm7_s {f : Int → Int} {i m : Int} (h0 : 0 ≤ i) (hm : m = i + 1) : sm7_ f m.toNat = sm7_ f i.toNat + f i := by
  rw [show m.toNat = i.toNat + 1 by omega]
  show sm7_ f i.toNat + f ((i.toNat : Nat) : Int) = _
  rw [show ((i.toNat : Nat) : Int) = i by omega]
theorem cn7_s {S : Int → Prop} {i m : Int} (h0 : 0 ≤ i) (hm : m = i + 1) : cn7_ S m.toNat = cn7_ S i.toNat + w7_ (S i) := by
  rw [show m.toNat = i.toNat + 1 by omega]
  show cn7_ S i.toNat + w7_ (S ((i.toNat : Nat) : Int)) = _
  rw [show ((i.toNat : Nat) : Int) = i by omega]
/-- the goals of the relations as bits -/
theorem al7_n {g : Nat → Int32} {al : Int32} {j m : Int} (h : ∀ y : Int, 0 ≤ y → (bt7_ al y ↔ ∃ x : Int, 0 ≤ x ∧ x < j ∧ gx g x = y)) (hm : m = j + 1) (hg : gx g j < 0) : ∀ y : Int, 0 ≤ y → (bt7_ al y ↔ ∃ x : Int, 0 ≤ x ∧ x < m ∧ gx g x = y) := fun y y0 => by
  rw [h y y0]
  constructor
  · intro q
    obtain ⟨x, x0, x1, x2⟩ := q
    exact ⟨x, x0, by omega, x2⟩
  · intro q
    obtain ⟨x, x0, x1, x2⟩ := q
    by_cases c : x = j
    · rw [c] at x2
      omega
    · exact ⟨x, x0, by omega, x2⟩
theorem al7_y {g : Nat → Int32} {al b z : Int32} {j m s : Int} (h : ∀ y : Int, 0 ≤ y → (bt7_ al y ↔ ∃ x : Int, 0 ≤ x ∧ x < j ∧ gx g x = y)) (hm : m = j + 1) (j0 : 0 ≤ j) (hs : ∀ y : Int, 0 ≤ y → (bt7_ b y ↔ y = s)) (es : s = gx g j) (e : z = al ||| b) (a0 : 0 ≤ al.toInt) (b0 : 0 ≤ b.toInt) : ∀ y : Int, 0 ≤ y → (bt7_ z y ↔ ∃ x : Int, 0 ≤ x ∧ x < m ∧ gx g x = y) := fun y y0 => by
  rw [bt7_or e a0 b0 y, h y y0, hs y y0]
  constructor
  · intro q
    rcases q with ⟨x, x0, x1, x2⟩ | q
    · exact ⟨x, x0, by omega, x2⟩
    · exact ⟨j, j0, by omega, by omega⟩
  · intro q
    obtain ⟨x, x0, x1, x2⟩ := q
    by_cases c : x = j
    · rw [c] at x2
      exact Or.inr (by omega)
    · exact Or.inl ⟨x, x0, by omega, x2⟩
/-! CHECK: there are never more faults than there is room for -/
theorem sm7_le {f g : Int → Int} : ∀ k : Nat, (∀ t : Int, 0 ≤ t → t < k → f t ≤ g t) → sm7_ f k ≤ sm7_ g k
  | 0, _ => Int.le_refl _
  | k + 1, h => by
    have a := sm7_le k (fun t t0 t1 => h t t0 (by omega))
    have b := h k (by omega) (by omega)
    show sm7_ f k + f k ≤ sm7_ g k + g k
    omega
theorem sm7_up {f : Int → Int} {t0 x : Int} (h0 : 0 ≤ t0) : ∀ k : Nat, sm7_ (fun t => f t + (if t = t0 then x else 0)) k = sm7_ f k + (if t0 < (k : Int) then x else 0)
  | 0 => by
    rw [if_neg (by omega)]
    rfl
  | k + 1 => by
    have a := sm7_up (f := f) (x := x) h0 k
    show sm7_ (fun t => f t + (if t = t0 then x else 0)) k + (f k + (if (k : Int) = t0 then x else 0)) = sm7_ f k + f k + (if t0 < ((k + 1 : Nat) : Int) then x else 0)
    rw [a]
    by_cases c : (k : Int) = t0
    · rw [if_pos c, if_neg (by omega), if_pos (by omega)]
      omega
    · rw [if_neg c]
      by_cases d : t0 < (k : Int)
      · rw [if_pos d, if_pos (by omega)]
        omega
      · rw [if_neg d, if_neg (by omega)]
        omega
noncomputable def wt7_ (p : Prop) (x : Int) : Int := @ite _ p (Classical.propDecidable p) x 0
theorem wt7_y {p : Prop} {x : Int} (h : p) : wt7_ p x = x := by
  unfold wt7_
  rw [if_pos h]
theorem wt7_n {p : Prop} {x : Int} (h : ¬ p) : wt7_ p x = 0 := by
  unfold wt7_
  rw [if_neg h]
theorem inj7_ {c : Nat} {v T : Int → Int} (hv : ∀ t : Int, 0 ≤ t → t < c → 0 ≤ v t) (hT : ∀ i : Int, 0 ≤ i → i < c → T i < c) (inj : ∀ i j : Int, 0 ≤ i → i < c → 0 ≤ j → j < c → 0 ≤ T i → T i = T j → i = j) : ∀ m : Nat, m ≤ c → sm7_ (fun i => wt7_ (0 ≤ T i) (v (T i))) m ≤ sm7_ (fun t => wt7_ (∃ j : Int, 0 ≤ j ∧ j < m ∧ T j = t) (v t)) c
  | 0, _ => by
    have z : ∀ k : Nat, sm7_ (fun _ => 0) k = 0 := fun k => by
      induction k with
      | zero => rfl
      | succ k ih =>
        show sm7_ (fun _ => 0) k + 0 = 0
        rw [ih]
        rfl
    have a := sm7_le (f := fun _ => 0) (g := fun t => wt7_ (∃ j : Int, 0 ≤ j ∧ j < ((0 : Nat) : Int) ∧ T j = t) (v t)) c (fun t t0 t1 => by
      try dsimp only
      rw [wt7_n (fun q => by
        obtain ⟨j, j0, j1, _⟩ := q
        omega)]
      exact Int.le_refl _)
    rw [z c] at a
    exact a
  | m + 1, hm => by
    have ih := inj7_ hv hT inj m (by omega)
    show sm7_ (fun i => wt7_ (0 ≤ T i) (v (T i))) m + wt7_ (0 ≤ T (m : Int)) (v (T (m : Int))) ≤ _
    by_cases c0 : 0 ≤ T (m : Int)
    · have b1 := hT m (by omega) (by omega)
      have u := sm7_up (f := fun t => wt7_ (∃ j : Int, 0 ≤ j ∧ j < (m : Int) ∧ T j = t) (v t)) (x := v (T (m : Int))) c0 c
      rw [if_pos b1] at u
      have a := sm7_le (f := fun t => wt7_ (∃ j : Int, 0 ≤ j ∧ j < (m : Int) ∧ T j = t) (v t) + (if t = T (m : Int) then v (T (m : Int)) else 0)) (g := fun t => wt7_ (∃ j : Int, 0 ≤ j ∧ j < ((m + 1 : Nat) : Int) ∧ T j = t) (v t)) c (fun t t0 t1 => by
        try dsimp only
        by_cases d : t = T (m : Int)
        · rw [if_pos d, wt7_n (fun q => by
            obtain ⟨j, j0, j1, j2⟩ := q
            have w := inj m j (by omega) (by omega) j0 (by omega) c0 (by omega)
            omega), wt7_y ⟨(m : Int), by omega, by omega, d.symm⟩, d]
          omega
        · rw [if_neg d]
          by_cases q : ∃ j : Int, 0 ≤ j ∧ j < (m : Int) ∧ T j = t
          · obtain ⟨j, j0, j1, j2⟩ := q
            rw [wt7_y ⟨j, j0, j1, j2⟩, wt7_y ⟨j, j0, by omega, j2⟩]
            omega
          · rw [wt7_n q, wt7_n (fun w => by
              obtain ⟨j, j0, j1, j2⟩ := w
              by_cases k : j = (m : Int)
              · rw [k] at j2
                exact d j2.symm
              · exact q ⟨j, j0, by omega, j2⟩)]
            omega)
      rw [wt7_y c0]
      omega
    · have a := sm7_le (f := fun t => wt7_ (∃ j : Int, 0 ≤ j ∧ j < (m : Int) ∧ T j = t) (v t)) (g := fun t => wt7_ (∃ j : Int, 0 ≤ j ∧ j < ((m + 1 : Nat) : Int) ∧ T j = t) (v t)) c (fun t t0 t1 => by
        try dsimp only
        by_cases q : ∃ j : Int, 0 ≤ j ∧ j < (m : Int) ∧ T j = t
        · obtain ⟨j, j0, j1, j2⟩ := q
          rw [wt7_y ⟨j, j0, j1, j2⟩, wt7_y ⟨j, j0, by omega, j2⟩]
          exact Int.le_refl _
        · rw [wt7_n q]
          by_cases w : ∃ j : Int, 0 ≤ j ∧ j < ((m + 1 : Nat) : Int) ∧ T j = t
          · rw [wt7_y w]
            exact hv t t0 t1
          · rw [wt7_n w]
            exact Int.le_refl _)
      rw [wt7_n c0]
      omega
/-- who tells: one part alone for each -/
theorem tl7_b {V : VW_} {i : Int} (h : 0 ≤ vC V) : tl7_ V i < vC V := isF_lt tl7_F h
theorem tl7_n {V : VW_} {i : Int} (h : 0 ≤ tl7_ V i) : nE_ V (tl7_ V i) (vZ V i + 5) (tn6_ V i) := by
  rcases (tl7_F (V := V) (i := i)) with q | q
  · exact q.2.2
  · exact absurd q.1 (by omega)
theorem tl7_j {V : VW_} {i j : Int} (hs : srt_ V) (i0 : 0 ≤ i) (i1 : i < vC V) (j0 : 0 ≤ j) (j1 : j < vC V) (h0 : 0 ≤ tl7_ V i) (e : tl7_ V i = tl7_ V j) : i = j := by
  have a := tl7_n h0
  have b := tl7_n (V := V) (i := j) (by omega)
  rw [← e] at b
  have a1 := a.1
  have b1 := b.1
  have z : vZ V i = vZ V j := by omega
  have n : nE_ V i (vZ V j) (vN V j) := ⟨z, fun k k0 k1 => by
    have q1 := a.2 k k0 (by omega)
    have q2 := b.2 k k0 (by omega)
    rw [q1] at q2
    unfold tn6_ at q2
    rw [if_pos (by omega), if_pos (by omega)] at q2
    exact q2⟩
  exact isF_u hs (m := vZ V j) (a := vN V j) (Or.inl ⟨i0, i1, n⟩) (Or.inl ⟨j0, j1, rfl, fun _ _ _ => rfl⟩)
theorem pf7_n {V : VW_} {i : Int} (e : T7_ V i = none) : pf7_ V i = 1 := by
  unfold pf7_
  rw [e]
  rfl
theorem pf7_s {V : VW_} {i : Int} {L : List RE_} (e : T7_ V i = some L) : pf7_ V i = fc7_ V L L.length := by
  unfold pf7_
  rw [e]
  rfl
theorem pn7_y {V : VW_} {i : Int} (h : iT7_ V i) : pn7_ V i = 0 := by
  unfold pn7_
  rw [if_pos h]
theorem pn7_x {V : VW_} {i : Int} (h : ¬ iT7_ V i) : pn7_ V i = pf7_ V i := by
  unfold pn7_
  rw [if_neg h]
theorem T7_g {V : VW_} {i : Int} {L : List RE_} (hv : ∀ t : Int, 0 ≤ t → t < vC V → 0 ≤ vS V t) (h0 : 0 ≤ vC V) (e : T7_ V i = some L) : RG7_ L ∧ (tl7_ V i < 0 → L = []) ∧ (0 ≤ tl7_ V i → 20 * (L.length : Int) ≤ vS V (tl7_ V i)) := by
  unfold T7_ at e
  exact tT_rg (fun q => hv _ q (tl7_b h0)) e
theorem pn7_b {V : VW_} {i : Int} (hv : ∀ t : Int, 0 ≤ t → t < vC V → 0 ≤ vS V t) (h0 : 0 ≤ vC V) : 0 ≤ pn7_ V i ∧ 10 * (pn7_ V i - 1) ≤ wt7_ (0 ≤ tl7_ V i) (vS V (tl7_ V i)) := by
  have ts : 0 ≤ wt7_ (0 ≤ tl7_ V i) (vS V (tl7_ V i)) := by
    by_cases c : 0 ≤ tl7_ V i
    · rw [wt7_y c]
      exact hv _ c (tl7_b h0)
    · rw [wt7_n c]
      exact Int.le_refl _
  by_cases c : iT7_ V i
  · rw [pn7_y c]
    omega
  · rw [pn7_x c]
    cases e : T7_ V i with
    | none =>
      rw [pf7_n e]
      omega
    | some L =>
      rw [pf7_s e]
      have g := T7_g hv h0 e
      have r := fc7_rng V L L.length
      by_cases d : 0 ≤ tl7_ V i
      · have q := g.2.2 d
        rw [wt7_y d] at ts ⊢
        omega
      · have q := g.2.1 (by omega)
        rw [q] at r ⊢
        have z : ((([] : List RE_).length : Nat) : Int) = 0 := rfl
        omega
theorem sm7_b {V : VW_} (hs : srt_ V) (h0 : 0 ≤ vC V) (hv : ∀ t : Int, 0 ≤ t → t < vC V → 0 ≤ vS V t) (hS : sm7_ (vS V) (vC V).toNat ≤ 12000) {i : Int} (i0 : 0 ≤ i) (i1 : i ≤ vC V) : 0 ≤ sm7_ (pn7_ V) i.toNat ∧ sm7_ (pn7_ V) i.toNat ≤ 1200 + i := by
  have e : (((vC V).toNat : Nat) : Int) = vC V := by omega
  have a : ∀ k : Nat, 0 ≤ sm7_ (pn7_ V) k ∧ 10 * (sm7_ (pn7_ V) k - (k : Int)) ≤ sm7_ (fun i => wt7_ (0 ≤ tl7_ V i) (vS V (tl7_ V i))) k := fun k => by
    induction k with
    | zero => exact ⟨Int.le_refl _, by show (10 : Int) * (0 - ((0 : Nat) : Int)) ≤ 0; omega⟩
    | succ k ih =>
      have b := pn7_b (i := (k : Int)) hv h0
      show 0 ≤ sm7_ (pn7_ V) k + pn7_ V (k : Int) ∧ 10 * (sm7_ (pn7_ V) k + pn7_ V (k : Int) - ((k + 1 : Nat) : Int)) ≤ sm7_ (fun i => wt7_ (0 ≤ tl7_ V i) (vS V (tl7_ V i))) k + wt7_ (0 ≤ tl7_ V (k : Int)) (vS V (tl7_ V (k : Int)))
      omega
  have b := inj7_ (c := (vC V).toNat) (v := vS V) (T := tl7_ V) (fun t t0 t1 => hv t t0 (by omega)) (fun x _ _ => by rw [e]; exact tl7_b h0) (fun x y x0 x1 y0 y1 p q => tl7_j hs x0 (by omega) y0 (by omega) p q) i.toNat (by omega)
  have d := sm7_le (f := fun t => wt7_ (∃ j : Int, 0 ≤ j ∧ j < ((i.toNat : Nat) : Int) ∧ tl7_ V j = t) (vS V t)) (g := vS V) (vC V).toNat (fun t t0 t1 => by
    try dsimp only
    by_cases q : ∃ j : Int, 0 ≤ j ∧ j < ((i.toNat : Nat) : Int) ∧ tl7_ V j = t
    · rw [wt7_y q]
      exact Int.le_refl _
    · rw [wt7_n q]
      exact hv t t0 (by omega))
  have w := a i.toNat
  omega
theorem sm7_C {c : Int} {fn fz fb fg : Nat → Int32} {V : VW_} (R : rC_ c fn fz fb fg V) (I : sh_I c fz fg) : ∀ k : Nat, (k : Int) ≤ c → sm7_ (vS V) k = gx fg k
  | 0, _ => by
    have q := I.2.2.1
    show (0 : Int) = gx fg 0
    omega
  | k + 1, hk => by
    have ih := sm7_C R I k (by omega)
    have r := (R.2 (k : Int) (by omega) (by omega)).2.1
    show sm7_ (vS V) k + vS V (k : Int) = gx fg ((k + 1 : Nat) : Int)
    rw [ih, ← r, show ((k + 1 : Nat) : Int) = (k : Int) + 1 by omega]
    omega
theorem sm7_cb {c : Int} {fn fz fb fg : Nat → Int32} {V : VW_} (R : rC_ c fn fz fb fg V) (I : sh_I c fz fg) (hs : srt_ V) : (∀ t : Int, 0 ≤ t → t < vC V → 0 ≤ vS V t) ∧ ∀ i : Int, 0 ≤ i → i ≤ c → 0 ≤ sm7_ (pn7_ V) i.toNat ∧ sm7_ (pn7_ V) i.toNat ≤ 1200 + i := by
  have e := R.1
  have c0 := I.1
  have hv : ∀ t : Int, 0 ≤ t → t < vC V → 0 ≤ vS V t := fun t t0 t1 => by
    have r := (R.2 t t0 (by omega)).2.1
    have q := (I.2.2.2.2 t t0 (by omega)).1
    omega
  have z := sm7_C R I c.toNat (by omega)
  have y := I.2.2.2.1
  rw [show ((c.toNat : Nat) : Int) = c by omega] at z
  refine ⟨hv, fun i i0 i1 => sm7_b hs (by omega) hv ?_ i0 (by omega)⟩
  rw [← e, z]
  exact y
/-- where a relation goes -/
theorem dn7_c {V : VW_} {L : List RE_} {g : Nat → Int32} {k : Int} (hs : srt_ V) (hK : rK6_ V g L) (k0 : 0 ≤ k) (k1 : k < L.length) : (gx g k < 0 → w7_ (dn7_ V L k.toNat) = 1) ∧ (0 ≤ gx g k → w7_ (dn7_ V L k.toNat) = 0) := by
  obtain ⟨Q, hQ⟩ : ∃ Q : RE_, L[k.toNat]? = some Q := ⟨L[k.toNat]'(by omega), List.getElem?_eq_getElem (by omega)⟩
  have f := hK k.toNat Q hQ
  rw [show ((k.toNat : Nat) : Int) = k by omega] at f
  constructor
  · intro h
    refine w7_y ⟨Q, hQ, ?_⟩
    rcases f with q | q
    · exact absurd q.1 (by omega)
    · exact Or.inr ⟨rfl, q.2⟩
  · intro h
    refine w7_n (fun q => ?_)
    obtain ⟨R, r1, r2⟩ := q
    have e : Q = R := Option.some.inj (hQ.symm.trans r1)
    rw [← e] at r2
    have u := isF_u hs f r2
    omega
theorem fc7_st {V : VW_} {L : List RE_} {k m a b : Int} (k0 : 0 ≤ k) (hm : m = k + 1) (ha : a = w7_ (ag7_ L k.toNat)) (hb : b = w7_ (dn7_ V L k.toNat)) : fc7_ V L m.toNat = fc7_ V L k.toNat + a + b := by
  rw [show m.toNat = k.toNat + 1 by omega, ha, hb]
  rfl
/-! CHECK: the reference's ids, roots, tellers -/
def sA7_ (s i : Nat → Int32) (j k : Int) : Prop := gx s j = gx s k ∧ ∀ x : Int, 0 ≤ x → x < gx s k → gx i (8 * j + x) = gx i (8 * k + x)
theorem sA7_m {s i t g : Nat → Int32} {L : List RE_} {j k : Nat} {R Q : RE_} (h : rl6_ s i t g L) (e1 : L[j]? = some R) (e2 : L[k]? = some Q) : sA7_ s i j k ↔ sI7_ R Q := by
  have r := (h j R e1).1
  have q := (h k Q e2).1
  unfold sA7_
  rw [r.1, q.1]
  constructor
  · intro w
    refine ⟨w.1, fun x x0 x1 => ?_⟩
    rw [← r.2 x x0 x1, ← q.2 x x0 (by omega)]
    exact w.2 x x0 (by omega)
  · intro w
    have w1 := w.1
    refine ⟨w1, fun x x0 x1 => ?_⟩
    rw [r.2 x x0 (by omega), q.2 x x0 x1]
    exact w.2 x x0 (by omega)
theorem ag7_m {s i t g : Nat → Int32} {L : List RE_} {k r : Int} (h : rl6_ s i t g L) (k0 : 0 ≤ k) (k1 : k < L.length) (w : (r = 1 ∧ ∃ j : Int, 0 ≤ j ∧ j < k ∧ sA7_ s i j k) ∨ (r = 0 ∧ ∀ j : Int, 0 ≤ j → j < k → ¬ sA7_ s i j k)) : r = w7_ (ag7_ L k.toNat) := by
  obtain ⟨Q, hQ⟩ : ∃ Q : RE_, L[k.toNat]? = some Q := ⟨L[k.toNat]'(by omega), List.getElem?_eq_getElem (by omega)⟩
  have kk : ((k.toNat : Nat) : Int) = k := by omega
  rcases w with ⟨h1, j, j0, j1, j2⟩ | ⟨h1, h2⟩
  · obtain ⟨R, hR⟩ : ∃ R : RE_, L[j.toNat]? = some R := ⟨L[j.toNat]'(by omega), List.getElem?_eq_getElem (by omega)⟩
    have jj : ((j.toNat : Nat) : Int) = j := by omega
    rw [w7_y ⟨j.toNat, R, Q, by omega, hR, hQ, (sA7_m h hR hQ).mp (by rw [jj, kk]; exact j2)⟩]
    exact h1
  · rw [w7_n (fun w => by
      obtain ⟨j, R, Q', w1, w2, w3, w4⟩ := w
      have e : Q = Q' := Option.some.inj (hQ.symm.trans w3)
      rw [← e] at w4
      have v := (sA7_m h w2 hQ).mpr w4
      rw [kk] at v
      exact h2 j (by omega) (by omega) v)]
    exact h1
/-- while it is looked for: j ids before, x bytes of one -/
def aS7_ (s i : Nat → Int32) (k j r : Int) : Prop := (r = 1 ∧ ∃ y : Int, 0 ≤ y ∧ y < j ∧ sA7_ s i y k) ∨ (r = 0 ∧ ∀ y : Int, 0 ≤ y → y < j → ¬ sA7_ s i y k)
def aX7_ (s i : Nat → Int32) (k j x r : Int) : Prop := (r = 1 ∧ gx s j = gx s k ∧ ∀ y : Int, 0 ≤ y → y < x → gx i (8 * j + y) = gx i (8 * k + y)) ∨ (r = 0 ∧ ¬ sA7_ s i j k)
theorem aS7_0 {s i : Nat → Int32} {k j r : Int} (hr : r = 0) (hj : j = 0) : aS7_ s i k j r := Or.inr ⟨hr, fun y y0 y1 => absurd y1 (by omega)⟩
theorem aX7_0 {s i : Nat → Int32} {k j x r : Int} (hx : x = 0) (h : (r = 1 ∧ gx s j = gx s k) ∨ (r = 0 ∧ ¬ gx s j = gx s k)) : aX7_ s i k j x r := by
  rcases h with h | h
  · exact Or.inl ⟨h.1, h.2, fun y y0 y1 => absurd y1 (by omega)⟩
  · exact Or.inr ⟨h.1, fun q => h.2 q.1⟩
theorem aX7_s {s i : Nat → Int32} {k j x y r r2 : Int} (h : aX7_ s i k j x r) (hr : ¬ r = 0) (x0 : 0 ≤ x) (x1 : x < gx s k) (hy : y = x + 1) (w : (r2 = 1 ∧ gx i (8 * j + x) = gx i (8 * k + x)) ∨ (r2 = 0 ∧ ¬ gx i (8 * j + x) = gx i (8 * k + x))) : aX7_ s i k j y r2 := by
  rcases h with ⟨a, b, c⟩ | ⟨a, _⟩
  · rcases w with ⟨p, q⟩ | ⟨p, q⟩
    · refine Or.inl ⟨p, b, fun z z0 z1 => ?_⟩
      by_cases e : z = x
      · rw [e]
        exact q
      · exact c z z0 (by omega)
    · exact Or.inr ⟨p, fun z => q (z.2 x x0 x1)⟩
  · exact absurd a hr
theorem aX7_e {s i : Nat → Int32} {k j x r : Int} (h : aX7_ s i k j x r) (hx : r = 0 ∨ gx s k ≤ x) : (r = 1 ∧ sA7_ s i j k) ∨ (r = 0 ∧ ¬ sA7_ s i j k) := by
  rcases h with ⟨a, b, c⟩ | h
  · refine Or.inl ⟨a, b, fun y y0 y1 => c y y0 ?_⟩
    rcases hx with q | q
    · omega
    · omega
  · exact Or.inr h
theorem aS7_s {s i : Nat → Int32} {k j j2 r e r2 : Int} (h : aS7_ s i k j r) (j0 : 0 ≤ j) (hj : j2 = j + 1) (w : (e = 1 ∧ sA7_ s i j k) ∨ (e = 0 ∧ ¬ sA7_ s i j k)) (hr : (r2 = 1 ∧ (¬ r = 0 ∨ ¬ e = 0)) ∨ (r2 = 0 ∧ r = 0 ∧ e = 0)) : aS7_ s i k j2 r2 := by
  rcases hr with ⟨a, b⟩ | ⟨a, b, c⟩
  · refine Or.inl ⟨a, ?_⟩
    rcases h with ⟨_, y, y0, y1, y2⟩ | ⟨h1, _⟩
    · exact ⟨y, y0, by omega, y2⟩
    · rcases w with ⟨_, w2⟩ | ⟨w1, _⟩
      · exact ⟨j, j0, by omega, w2⟩
      · rcases b with b | b
        · exact absurd h1 b
        · exact absurd w1 b
  · refine Or.inr ⟨a, fun y y0 y1 => ?_⟩
    rcases h with ⟨h1, _⟩ | ⟨_, h2⟩
    · omega
    · rcases w with ⟨w1, _⟩ | ⟨_, w2⟩
      · omega
      · by_cases q : y = j
        · rw [q]
          exact w2
        · exact h2 y y0 (by omega)
/-- the reference's teller: by all parts -/
def iK7_ (V : VW_) (i k : Int) : Prop := ∃ x : Int, 0 ≤ x ∧ x < k ∧ nE_ V i (vZ V x + 5) (tn6_ V x)
def tS7_ (V : VW_) (i k r : Int) : Prop := (r = 1 ∧ iK7_ V i k) ∨ (r = 0 ∧ ¬ iK7_ V i k)
theorem tS7_0 {V : VW_} {i k r : Int} (hr : r = 0) (hk : k = 0) : tS7_ V i k r := Or.inr ⟨hr, fun q => by
  obtain ⟨x, x0, x1, _⟩ := q
  omega⟩
theorem tS7_s {V : VW_} {i k m r r2 t : Int} (hs : srt_ V) (i0 : 0 ≤ i) (i1 : i < vC V) (h : tS7_ V i k r) (k0 : 0 ≤ k) (hm : m = k + 1) (f : isF_ V (vZ V k + 5) (tn6_ V k) t) (hr : (r2 = 1 ∧ (¬ r = 0 ∨ t = i)) ∨ (r2 = 0 ∧ r = 0 ∧ ¬ t = i)) : tS7_ V i m r2 := by
  rcases hr with ⟨a, b⟩ | ⟨a, b, c⟩
  · refine Or.inl ⟨a, ?_⟩
    rcases h with ⟨_, y, y0, y1, y2⟩ | ⟨h1, _⟩
    · exact ⟨y, y0, by omega, y2⟩
    · rcases b with b | b
      · exact absurd h1 b
      · rw [b] at f
        rcases f with q | q
        · exact ⟨k, k0, by omega, q.2.2⟩
        · omega
  · refine Or.inr ⟨a, fun q => ?_⟩
    rcases h with ⟨h1, _⟩ | ⟨_, h2⟩
    · omega
    · obtain ⟨y, y0, y1, y2⟩ := q
      by_cases d : y = k
      · rw [d] at y2
        exact c (isF_u hs f (Or.inl ⟨i0, i1, y2⟩))
      · exact h2 ⟨y, y0, by omega, y2⟩
theorem tS7_e {V : VW_} {i k r : Int} (h : tS7_ V i k r) (hk : k = vC V) : (r = 1 ∧ iT7_ V i) ∨ (r = 0 ∧ ¬ iT7_ V i) := by
  rw [hk] at h
  exact h
/-- the reference's rounds -/
def sr7_ (V : VW_) (f : Nat → Int32) : Int → Prop := fun j => 0 ≤ j ∧ j < vC V ∧ ¬ gx f j = 0
def sO7_ (V : VW_) (f : Nat → Int32) : Prop := ∀ j : Int, sr7_ V f j → RQ7 V j
/-- of f, after the parts before k: g; so = 0: nothing has come -/
def sp7_ (V : VW_) (f g : Nat → Int32) (k so : Int) : Prop := (sO7_ V f → sO7_ V g) ∧ (∀ j : Int, sr7_ V f j → sr7_ V g j) ∧ (so = 0 → (∀ j : Int, 0 ≤ j → j < vC V → gx g j = gx f j) ∧ ∀ i j : Int, 0 ≤ i → i < k → sr7_ V f i → E7_ V i j → sr7_ V f j)
theorem sp7_0 {V : VW_} {f : Nat → Int32} {k so : Int} (hk : k = 0) : sp7_ V f f k so := ⟨fun h => h, fun _ h => h, fun _ => ⟨fun _ _ _ => rfl, fun i j i0 i1 => absurd i1 (by omega)⟩⟩
theorem sp7_n {V : VW_} {f g : Nat → Int32} {k m so : Int} (h : sp7_ V f g k so) (hm : m = k + 1) (hk : gx g k = 0 ∨ ∀ j : Int, ¬ E7_ V k j) (k0 : 0 ≤ k) (k1 : k < vC V) : sp7_ V f g m so := by
  refine ⟨h.1, h.2.1, fun q => ⟨(h.2.2 q).1, fun i j i0 i1 si e => ?_⟩⟩
  by_cases c : i = k
  · rcases hk with w | w
    · have u := (h.2.2 q).1 k k0 k1
      rw [c] at si
      exact absurd (u.symm.trans w) si.2.2
    · rw [c] at e
      exact absurd e (w j)
  · exact (h.2.2 q).2 i j i0 (by omega) si e
/-- within a part: its relations before x -/
def sq7_ (V : VW_) (f g : Nat → Int32) (k so x : Int) (L : List RE_) : Prop := sp7_ V f g k so ∧ (so = 0 → ∀ (y : Nat) (R : RE_) (j : Int), (y : Int) < x → L[y]? = some R → isF_ V R.2.2.1 R.2.2.2 j → 0 ≤ j → sr7_ V f j)
theorem sq7_0 {V : VW_} {f g : Nat → Int32} {k so x : Int} {L : List RE_} (h : sp7_ V f g k so) (hx : x = 0) : sq7_ V f g k so x L := ⟨h, fun _ y R j y1 => absurd y1 (by omega)⟩
theorem sq7_n {V : VW_} {f g : Nat → Int32} {k so x y r : Int} {L : List RE_} {R : RE_} (hs : srt_ V) (h : sq7_ V f g k so x L) (x0 : 0 ≤ x) (hy : y = x + 1) (e : L[x.toNat]? = some R) (fr : isF_ V R.2.2.1 R.2.2.2 r) (c : r < 0 ∨ ¬ gx g r = 0) : sq7_ V f g k so y L := by
  refine ⟨h.1, fun q z Q j z1 z2 z3 j0 => ?_⟩
  by_cases d : z = x.toNat
  · rw [d, e] at z2
    have w := Option.some.inj z2
    rw [← w] at z3
    have u := isF_u hs fr z3
    rcases c with c | c
    · omega
    · rcases z3 with ⟨_, b, _⟩ | ⟨b, _⟩
      · refine ⟨j0, b, fun v => c ?_⟩
        rw [u, (h.1.2.2 q).1 j j0 b]
        exact v
      · omega
  · exact h.2 q z Q j (by omega) z2 z3 j0
theorem sq7_y {V : VW_} {f g g2 : Nat → Int32} {k so so2 x y r : Int} {L : List RE_} {R : RE_} (h : sq7_ V f g k so x L) (x0 : 0 ≤ x) (hy : y = x + 1) (hT : T7_ V k = some L) (nT : ¬ iT7_ V k) (k0 : 0 ≤ k) (k1 : k < vC V) (gk : sO7_ V f → RQ7 V k) (e : L[x.toNat]? = some R) (fr : isF_ V R.2.2.1 R.2.2.2 r) (r0 : 0 ≤ r) (hg : ∀ j : Int, 0 ≤ j → j < vC V → gx g2 j = if j = r then 1 else gx g j) (hs2 : so2 = 1) : sq7_ V f g2 k so2 y L := by
  have rq : E7_ V k r := ⟨nT, r0, L, R, hT, List.mem_of_getElem? e, fr⟩
  refine ⟨⟨fun o j sj => ?_, fun j sj => ?_, fun q => absurd q (by omega)⟩, fun q => absurd q (by omega)⟩
  · by_cases c : j = r
    · rw [c]
      exact RQ7_s (gk o) rq
    · refine h.1.1 o j ⟨sj.1, sj.2.1, ?_⟩
      have w := hg j sj.1 sj.2.1
      rw [if_neg c] at w
      rw [← w]
      exact sj.2.2
  · have u := h.1.2.1 j sj
    refine ⟨u.1, u.2.1, ?_⟩
    rw [hg j u.1 u.2.1]
    by_cases c : j = r
    · rw [if_pos c]
      decide
    · rw [if_neg c]
      exact u.2.2
theorem sq7_e {V : VW_} {f g : Nat → Int32} {k m so x : Int} {L : List RE_} (h : sq7_ V f g k so x L) (hx : (L.length : Int) ≤ x) (hm : m = k + 1) (hT : T7_ V k = some L) : sp7_ V f g m so := by
  refine ⟨h.1.1, h.1.2.1, fun q => ⟨(h.1.2.2 q).1, fun i j i0 i1 si e => ?_⟩⟩
  by_cases c : i = k
  · rw [c] at e
    obtain ⟨_, e0, K, R, e1, e2, e3⟩ := e
    have w : L = K := Option.some.inj (hT.symm.trans e1)
    rw [← w] at e2
    obtain ⟨y, y1, y2⟩ := List.getElem_of_mem e2
    have y3 : L[y]? = some R := by
      rw [List.getElem?_eq_getElem y1, y2]
    exact h.2 q y R j (by omega) y3 e3 e0
  · exact (h.1.2.2 q).2 i j i0 (by omega) si e
theorem sr7_e {V : VW_} {f g : Nat → Int32} {k so : Int} (h : sp7_ V f g k so) (hk : vC V ≤ k) (hso : so = 0) (o : sO7_ V f) (ro : ∀ j : Int, ro7_ V j → sr7_ V f j) (j : Int) (j0 : 0 ≤ j) (j1 : j < vC V) : ¬ gx g j = 0 ↔ RQ7 V j := by
  have e := (h.2.2 hso).1 j j0 j1
  rw [e]
  refine ⟨fun q => o j ⟨j0, j1, q⟩, fun q => ?_⟩
  exact (q (sr7_ V f) ro (fun a b sa w => (h.2.2 hso).2 a b sa.1 (by have z := sa.2.1; omega) sa w)).2.2
/-! CHECK: the class's notes -/
theorem fc7_up (V : VW_) (L : List RE_) : ∀ (d k : Nat), fc7_ V L k ≤ fc7_ V L (k + d)
  | 0, k => Int.le_refl _
  | d + 1, k => by
    have ih := fc7_up V L d k
    have a := w7_rng (ag7_ L (k + d))
    have b := w7_rng (dn7_ V L (k + d))
    show fc7_ V L k ≤ fc7_ V L (k + d) + w7_ (ag7_ L (k + d)) + w7_ (dn7_ V L (k + d))
    omega
theorem fc7_lt {V : VW_} {L : List RE_} {k : Int} (k0 : 0 ≤ k) (k1 : k < L.length) : fc7_ V L k.toNat + w7_ (ag7_ L k.toNat) + w7_ (dn7_ V L k.toNat) ≤ fc7_ V L L.length := by
  have u := fc7_up V L (L.length - (k.toNat + 1)) (k.toNat + 1)
  rw [show k.toNat + 1 + (L.length - (k.toNat + 1)) = L.length by omega] at u
  exact u
def nr7_ (V : VW_) (T : Option (List RE_)) (n m k c : Int) : Prop := (∃ L : List RE_, T = some L ∧ c = L.length ∧ m = n + fc7_ V L k.toNat) ∨ (T = none ∧ c = 0 ∧ m = n + 1)
def nq7_ (V : VW_) (T : Option (List RE_)) (n m k c : Int) : Prop := ∃ L : List RE_, T = some L ∧ c = L.length ∧ m = n + fc7_ V L k.toNat + w7_ (ag7_ L k.toNat)
def id7L_ (T : Option (List RE_)) (D : Nat → Int64) : Prop := ∀ L : List RE_, T = some L → rK7_ D L ∧ RG7_ L
theorem nb7_f {V : VW_} {T : Option (List RE_)} {n c f : Int} {g : Nat → Int32} (h : cR6_ T V c f g) (hf : 0 ≤ f) (hp : n + pt7_ V T ≤ 1232) : n < 1232 := by
  rcases h with ⟨h1, _⟩ | ⟨_, h2, _⟩
  · omega
  · rw [h2] at hp
    have e : pt7_ V none = 1 := rfl
    omega
theorem nr7_f {V : VW_} {T : Option (List RE_)} {n m k c f : Int} {g : Nat → Int32} (h : cR6_ T V c f g) (hf : 0 ≤ f) (hm : m = n + 1) : nr7_ V T n m k c := by
  rcases h with ⟨h1, _⟩ | ⟨_, h2, h3⟩
  · omega
  · exact Or.inr ⟨h2, h3, hm⟩
theorem nr7_0 {V : VW_} {T : Option (List RE_)} {n m k c f : Int} {g : Nat → Int32} (h : cR6_ T V c f g) (hf : f < 0) (hm : m = n) (hk : k = 0) : nr7_ V T n m k c := by
  rcases h with ⟨_, L, h2, h3, _⟩ | ⟨h1, _, _⟩
  · refine Or.inl ⟨L, h2, h3, ?_⟩
    rw [hk]
    show m = n + 0
    omega
  · omega
theorem rp7_ {T : Option (List RE_)} {L : List RE_} {D : Nat → Int64} {k r : Int} (hD : id7L_ T D) (e : T = some L) (k0 : 0 ≤ k) (k1 : k < L.length) (w : hid_ ((r = 1 ∧ ∃ j : Int, 0 ≤ j ∧ j < k ∧ gl7 D j = gl7 D k) ∨ (r = 0 ∧ ∀ j : Int, 0 ≤ j → j < k → ¬ gl7 D j = gl7 D k))) : r = w7_ (ag7_ L k.toNat) := ag7_c (hD L e).1 (hD L e).2 k0 k1 (hid_o w)
theorem nb7_a {V : VW_} {T : Option (List RE_)} {D : Nat → Int64} {n m k c r : Int} (h : nr7_ V T n m k c) (k0 : 0 ≤ k) (k1 : k < c) (hD : id7L_ T D) (w : hid_ ((r = 1 ∧ ∃ j : Int, 0 ≤ j ∧ j < k ∧ gl7 D j = gl7 D k) ∨ (r = 0 ∧ ∀ j : Int, 0 ≤ j → j < k → ¬ gl7 D j = gl7 D k))) (hr : r = 1) (hp : n + pt7_ V T ≤ 1232) : m < 1232 := by
  rcases h with ⟨L, h1, h2, h3⟩ | ⟨_, h2, _⟩
  · have e := rp7_ hD h1 k0 (by omega) w
    have b := w7_rng (dn7_ V L k.toNat)
    have l := fc7_lt (V := V) (L := L) k0 (by omega)
    rw [h1] at hp
    have p : pt7_ V (some L) = fc7_ V L L.length := rfl
    omega
  · omega
theorem nm7_ {V : VW_} {T : Option (List RE_)} {D : Nat → Int64} {n m m2 k c r : Int} (h : nr7_ V T n m k c) (k0 : 0 ≤ k) (k1 : k < c) (hD : id7L_ T D) (w : hid_ ((r = 1 ∧ ∃ j : Int, 0 ≤ j ∧ j < k ∧ gl7 D j = gl7 D k) ∨ (r = 0 ∧ ∀ j : Int, 0 ≤ j → j < k → ¬ gl7 D j = gl7 D k))) (hm : (r = 1 ∧ m2 = m + 1) ∨ (r = 0 ∧ m2 = m)) : nq7_ V T n m2 k c := by
  rcases h with ⟨L, h1, h2, h3⟩ | ⟨_, h2, _⟩
  · have e := rp7_ hD h1 k0 (by omega) w
    exact ⟨L, h1, h2, by omega⟩
  · omega
theorem nb7_d {V : VW_} {T : Option (List RE_)} {n m k c f : Int} {g : Nat → Int32} (h : nq7_ V T n m k c) (hs : srt_ V) (k0 : 0 ≤ k) (k1 : k < c) (hK : cR6_ T V c f g) (hg : gx g k < 0) (hp : n + pt7_ V T ≤ 1232) : m < 1232 := by
  obtain ⟨L, h1, h2, h3⟩ := h
  rcases hK with ⟨_, K, q2, q3, q4⟩ | ⟨_, q2, q3⟩
  · have e : L = K := Option.some.inj (h1.symm.trans q2)
    rw [← e] at q4
    have d := (dn7_c hs q4 k0 (by omega)).1 hg
    have l := fc7_lt (V := V) (L := L) k0 (by omega)
    rw [h1] at hp
    have p : pt7_ V (some L) = fc7_ V L L.length := rfl
    omega
  · omega
theorem nr7_s {V : VW_} {T : Option (List RE_)} {n m m2 k k2 c f : Int} {g : Nat → Int32} (h : nq7_ V T n m k c) (hs : srt_ V) (k0 : 0 ≤ k) (k1 : k < c) (hK : cR6_ T V c f g) (hm : (gx g k < 0 ∧ m2 = m + 1) ∨ (0 ≤ gx g k ∧ m2 = m)) (e : k2 = k + 1) : nr7_ V T n m2 k2 c := by
  obtain ⟨L, h1, h2, h3⟩ := h
  rcases hK with ⟨_, K, q2, q3, q4⟩ | ⟨_, q2, q3⟩
  · have eL : L = K := Option.some.inj (h1.symm.trans q2)
    rw [← eL] at q4
    have d := dn7_c hs q4 k0 (by omega)
    refine Or.inl ⟨L, h1, h2, ?_⟩
    rcases hm with ⟨a, b⟩ | ⟨a, b⟩
    · rw [fc7_st k0 e rfl (d.1 a).symm]
      omega
    · rw [fc7_st k0 e rfl (d.2 a).symm]
      omega
  · omega
theorem nr7_e {V : VW_} {T : Option (List RE_)} {n m k c : Int} (h : nr7_ V T n m k c) (k0 : c ≤ k) (k1 : k ≤ c) : m = n + pt7_ V T := by
  rcases h with ⟨L, h1, h2, h3⟩ | ⟨h1, _, h3⟩
  · rw [h1, h3, show k.toNat = L.length by omega]
    rfl
  · rw [h1, h3]
    rfl
/-- what was loaded, of the parts as they are -/
theorem ld7_ {V : VW_} {c i k fa : Int} {fn fz fb fg g : Nat → Int32} (hs : srt_ V) (Rc : rC_ c fn fz fb fg V) (c0 : 0 ≤ c) (i0 : 0 ≤ i) (i1 : i < c) (h : hid_ (∃ t : Int, isF_ (cN_ c fn fz) (gx fz i + 5) (tn6_ (cN_ c fn fz) i) t ∧ lo6_ (cN_ c fn fz) t fb fg k fa g)) : cR6_ (T7_ V i) V k fa g := by
  obtain ⟨t, t1, t2⟩ := hid_o h
  have t3 := tl_N (rC_N Rc) i0 i1 t1
  have tl : t < c := by
    have w := isF_lt t3 (by rw [← Rc.1]; exact c0)
    rw [← Rc.1] at w
    exact w
  rw [T7_e hs t3]
  unfold lo6_ at t2
  rw [mk_C Rc tl] at t2
  rcases t2 with ⟨a, L, b, d, e⟩ | q
  · exact Or.inl ⟨a, L, b, d, fun x R hx => isF_N (rC_N Rc) (e x R hx)⟩
  · exact Or.inr q
theorem ld7_i {V : VW_} {c i : Int} {fn fz fb fg : Nat → Int32} {D : Nat → Int64} (hs : srt_ V) (Rc : rC_ c fn fz fb fg V) (I : sh_I c fz fg) (i0 : 0 ≤ i) (i1 : i < c) (h : hid_ (∃ t : Int, isF_ (cN_ c fn fz) (gx fz i + 5) (tn6_ (cN_ c fn fz) i) t ∧ lo7_ t fb fg D)) : id7L_ (T7_ V i) D := fun L e => by
  have c0 := I.1
  have eC := Rc.1
  have g := T7_g (sm7_cb Rc I hs).1 (by omega) e
  refine ⟨?_, g.1⟩
  obtain ⟨t, t1, t2⟩ := hid_o h
  have t3 := tl_N (rC_N Rc) i0 i1 t1
  have tl : t < c := by
    have w := isF_lt t3 (by omega)
    omega
  rw [T7_e hs t3, ← mk_C Rc tl] at e
  exact t2 L e
/-- the goals of a part as bits: where it goes -/
theorem gb7_ {V : VW_} {i k fa : Int} {g : Nat → Int32} {r : Int32} (hs : srt_ V) (c16 : vC V ≤ 16) (nT : ¬ iT7_ V i) (h : cR6_ (T7_ V i) V k fa g) (w : hid_ ((0 ≤ r.toInt ∧ r.toInt < 65536) ∧ ∀ y : Int, 0 ≤ y → (bt7_ r y ↔ ∃ x : Int, 0 ≤ x ∧ x < k ∧ gx g x = y))) : (0 ≤ r.toInt ∧ r.toInt < 65536) ∧ ∀ j : Int, 0 ≤ j → (bt7_ r j ↔ E7_ V i j) := by
  have u := hid_o w
  refine ⟨u.1, fun j j0 => ?_⟩
  rw [u.2 j j0]
  rcases h with ⟨_, L, h2, h3, h4⟩ | ⟨_, h2, h3⟩
  · constructor
    · intro q
      obtain ⟨x, x0, x1, x2⟩ := q
      obtain ⟨R, hR⟩ : ∃ R : RE_, L[x.toNat]? = some R := ⟨L[x.toNat]'(by omega), List.getElem?_eq_getElem (by omega)⟩
      have f := h4 x.toNat R hR
      rw [show ((x.toNat : Nat) : Int) = x by omega, x2] at f
      exact ⟨nT, j0, L, R, h2, List.mem_of_getElem? hR, f⟩
    · intro q
      obtain ⟨_, _, K, R, e1, e2, e3⟩ := q
      have e : L = K := Option.some.inj (h2.symm.trans e1)
      rw [← e] at e2
      obtain ⟨y, y1, y2⟩ := List.getElem_of_mem e2
      have y3 : L[y]? = some R := by
        rw [List.getElem?_eq_getElem y1, y2]
      exact ⟨(y : Int), by omega, by omega, isF_u hs (h4 y R y3) e3⟩
  · constructor
    · intro q
      obtain ⟨x, x0, x1, _⟩ := q
      omega
    · intro q
      obtain ⟨_, _, K, R, e1, _, _⟩ := q
      rw [h2] at e1
      exact absurd e1 (by simp)
theorem go16_ {V : VW_} {T : Option (List RE_)} {k fa : Int} {g : Nat → Int32} (c16 : vC V ≤ 16) (h : cR6_ T V k fa g) : ∀ x : Int, 0 ≤ x → x < k → gx g x < 16 := fun x x0 x1 => by
  rcases h with ⟨_, L, h2, h3, h4⟩ | ⟨_, h2, h3⟩
  · obtain ⟨R, hR⟩ : ∃ R : RE_, L[x.toNat]? = some R := ⟨L[x.toNat]'(by omega), List.getElem?_eq_getElem (by omega)⟩
    have f := h4 x.toNat R hR
    rw [show ((x.toNat : Nat) : Int) = x by omega] at f
    rcases f with q | q
    · have w := q.2.1
      omega
    · have w := q.1
      omega
  · omega
theorem gz7_ {V : VW_} {i : Int} (h : iT7_ V i) : ((0 ≤ (0 : Int32).toInt ∧ (0 : Int32).toInt < 65536) ∧ ∀ j : Int, 0 ≤ j → (bt7_ 0 j ↔ E7_ V i j)) := ⟨by decide, fun j _ => ⟨fun q => absurd q (bt7_0 j), fun q => absurd h q.1⟩⟩
/-! CHECK: the class's walk over all parts -/
theorem ro7_N {c i : Int} {n z : Nat → Int32} {V : VW_} (R : rN_ c n z V) (i0 : 0 ≤ i) (i1 : i < c) (hl : st_len 18 = 4) : nE_ (cN_ c n z) i (st_len 18) (st_c 18) ↔ ro7_ V i := by
  rw [nE_N R i0 i1, hl]
  have a0 : st_c 18 0 = 114 := by decide +kernel
  have a1 : st_c 18 1 = 111 := by decide +kernel
  have a2 : st_c 18 2 = 111 := by decide +kernel
  have a3 : st_c 18 3 = 116 := by decide +kernel
  have iC : i < vC V := by
    rw [← R.1]
    exact i1
  constructor
  · intro q
    exact ⟨i0, iC, q.1, (q.2 0 (by decide) (by decide)).trans a0, (q.2 1 (by decide) (by decide)).trans a1, (q.2 2 (by decide) (by decide)).trans a2, (q.2 3 (by decide) (by decide)).trans a3⟩
  · intro q
    refine ⟨q.2.2.1, fun k k0 k1 => ?_⟩
    rcases (show k = 0 ∨ k = 1 ∨ k = 2 ∨ k = 3 by omega) with e | e | e | e
    · rw [e, a0]
      exact q.2.2.2.1
    · rw [e, a1]
      exact q.2.2.2.2.1
    · rw [e, a2]
      exact q.2.2.2.2.2.1
    · rw [e, a3]
      exact q.2.2.2.2.2.2
theorem rr7_n {V : VW_} {x : Int32} {i m : Int} (h : ∀ j : Int, 0 ≤ j → (bt7_ x j ↔ ro7_ V j ∧ j < i)) (hm : m = i + 1) (hn : ¬ ro7_ V i) : ∀ j : Int, 0 ≤ j → (bt7_ x j ↔ ro7_ V j ∧ j < m) := fun j j0 => by
  rw [h j j0]
  constructor
  · intro q
    exact ⟨q.1, by omega⟩
  · intro q
    refine ⟨q.1, ?_⟩
    by_cases c : j = i
    · have w := q.1
      rw [c] at w
      exact absurd w hn
    · omega
theorem rr7_y {V : VW_} {x : Int32} {i m : Int} (hs : srt_ V) (hm : m = i + 1) (hy : ro7_ V i) (w : ∀ j : Int, 0 ≤ j → (bt7_ x j ↔ j = i)) : ∀ j : Int, 0 ≤ j → (bt7_ x j ↔ ro7_ V j ∧ j < m) := fun j j0 => by
  rw [w j j0]
  constructor
  · intro q
    rw [q]
    exact ⟨hy, by omega⟩
  · intro q
    exact ro7_u hs q.1 hy
theorem cn7_up (S : Int → Prop) : ∀ (d k : Nat), cn7_ S k ≤ cn7_ S (k + d)
  | 0, k => Int.le_refl _
  | d + 1, k => by
    have ih := cn7_up S d k
    have a := w7_rng (S ((k + d : Nat) : Int))
    show cn7_ S k ≤ cn7_ S (k + d) + w7_ (S ((k + d : Nat) : Int))
    omega
theorem un7_y {S : Int → Prop} {n m m2 i k : Int} (h : m = n + cn7_ S i.toNat) (i0 : 0 ≤ i) (hk : k = i + 1) (u : S i) (e : m2 = m + 1) : m2 = n + cn7_ S k.toNat := by
  rw [cn7_s i0 hk, w7_y u]
  omega
theorem un7_n {S : Int → Prop} {n m i k : Int} (h : m = n + cn7_ S i.toNat) (i0 : 0 ≤ i) (hk : k = i + 1) (u : ¬ S i) : m = n + cn7_ S k.toNat := by
  rw [cn7_s i0 hk, w7_n u]
  omega
theorem un7_b {S : Int → Prop} {n m i c : Int} (h : m = n + cn7_ S i.toNat) (i0 : 0 ≤ i) (i1 : i < c) (u : S i) (hp : n + cn7_ S c.toNat ≤ 1232) : m < 1232 := by
  have a := cn7_s (S := S) i0 (show i + 1 = i + 1 from rfl)
  rw [w7_y u] at a
  have b := cn7_up S (c.toNat - (i + 1).toNat) (i + 1).toNat
  rw [show (i + 1).toNat + (c.toNat - (i + 1).toNat) = c.toNat by omega] at b
  omega
def gA7_ (V : VW_) (g : Nat → Int32) (k : Int) : Prop := ∀ x : Int, 0 ≤ x → x < k → (0 ≤ (gr g x).toInt ∧ (gr g x).toInt < 65536) ∧ ∀ j : Int, 0 ≤ j → (bt7_ (gr g x) j ↔ E7_ V x j)
theorem gr7_upd {f : Nat → Int32} {i v : Int32} {a : Int} (hi : i.toInt = a) (k : Int) (h0 : 0 ≤ a) (hk : 0 ≤ k) : gr (upd f i.toNatClampNeg v) k = if k = a then v else gr f k := by
  subst hi
  unfold gr
  by_cases h : k = i.toInt
  · subst h
    rw [if_pos rfl]
    exact pk_us
  · rw [if_neg h]
    refine pk_un (fun z9 => h ?_)
    have h2 : ((i.toNatClampNeg : Nat) : Int) = i.toInt := ti_clamp h0
    omega
theorem gA7_s {V : VW_} {g g2 : Nat → Int32} {v : Int32} {k m : Int} (h : gA7_ V g k) (k0 : 0 ≤ k) (hm : m = k + 1) (e : ∀ x : Int, 0 ≤ x → gr g2 x = if x = k then v else gr g x) (w : (0 ≤ v.toInt ∧ v.toInt < 65536) ∧ ∀ j : Int, 0 ≤ j → (bt7_ v j ↔ E7_ V k j)) : gA7_ V g2 m := fun x x0 x1 => by
  rw [e x x0]
  by_cases c : x = k
  · rw [if_pos c, c]
    exact w
  · rw [if_neg c]
    exact h x x0 (by omega)
theorem gu7_2 {f : Nat → Int32} {i v w : Int32} (h0 : 0 ≤ i.toInt) : ∀ x : Int, 0 ≤ x → gr (upd (upd f i.toNatClampNeg v) i.toNatClampNeg w) x = if x = i.toInt then w else gr f x := fun x x0 => by
  rw [gr7_upd rfl x h0 x0]
  by_cases c : x = i.toInt
  · rw [if_pos c, if_pos c]
  · rw [if_neg c, if_neg c, gr7_upd rfl x h0 x0, if_neg c]
/-! ROWS OF NUMBERS -/
theorem omg_4c27f0e6a7 {x0 : Int} {x1 : Int} {x2 : Int} {x3 : Int} (a0 : (x0 = x1)) (a1 : (¬ (x0 < (97 : Int)))) (a2 : (x2 = x1)) (a3 : ((((0 : Int) ≤ x2) ∧ (x3 = x2)) ∨ ((x2 < (0 : Int)) ∧ ((128 : Int) ≤ x3)))) (a4 : (¬ ((122 : Int) < x2))) : (((97 : Int) ≤ x3) ∧ (x3 ≤ (122 : Int))) := by omega
theorem omg_4b6a8e5a1f {x0 : Int} {x1 : Int} {x2 : Int} {x3 : Int} {x4 : Int} {x5 : Int} {x6 : Int} (a0 : (x0 ≤ x1)) (a1 : (x1 ≤ (12000 : Int))) (a2 : (((-(2147483648 : Int)) ≤ x2) ∧ (x2 < (2147483648 : Int)))) (a3 : ((x3 = (0 : Int)) ∨ (x3 = (1 : Int)))) (a4 : ((x3 = (1 : Int)) → ((x0 - x2) = x4))) (a5 : ((0 : Int) ≤ x5)) (a6 : (x6 = x4)) (a7 : (¬ (x6 ≤ x5))) (a8 : (¬ (x3 = (0 : Int)))) : (((-(2147483648 : Int)) ≤ (x2 + x5)) ∧ ((x2 + x5) < (2147483648 : Int))) := by omega
theorem omg_2502584797 {x0 : Int} {x1 : Int} {x2 : Int} {x3 : Int} {x4 : Int} {x5 : Int} {x6 : Int} {x7 : Int} (a0 : (x0 ≤ x1)) (a1 : (x1 ≤ (12000 : Int))) (a2 : ((0 : Int) ≤ x2)) (a3 : ((x3 = (0 : Int)) ∨ (x3 = (1 : Int)))) (a4 : ((x3 = (1 : Int)) → ((x0 - x2) = x4))) (a5 : ((0 : Int) ≤ x5)) (a6 : (x6 = x4)) (a7 : (¬ (x6 ≤ x5))) (a8 : (¬ (x3 = (0 : Int)))) (a9 : (x7 = (x2 + x5))) : (((0 : Int) ≤ x7) ∧ (x7 < (((12000 : Nat) : Nat) : Int))) := by omega
theorem omg_825d369e30 {x0 : Int} {x1 : Int} {x2 : Int} {x3 : Int} {x4 : Int} {x5 : Int} {x6 : Int} {x7 : Int} (a0 : (x0 ≤ x1)) (a1 : ((x2 = (0 : Int)) ∨ (x2 = (1 : Int)))) (a2 : ((x2 = (1 : Int)) → ((x0 - x3) = x4))) (a3 : (x5 = x4)) (a4 : (¬ (x5 ≤ x6))) (a5 : (¬ (x2 = (0 : Int)))) : (((x3 - x7) + x6) < (x1 - x7)) := by omega
theorem omg_977dafba84 {x0 : Int} {x1 : Int} {x2 : Int} {x3 : Int} {x4 : Int} (a0 : (x0 = (0 : Int))) (a1 : ((((0 : Int) ≤ x1) ∧ (x2 = x1)) ∨ ((x1 < (0 : Int)) ∧ ((128 : Int) ≤ x2)))) (a2 : (x3 = x4)) (a3 : (((0 : Int) ≤ x4) ∧ (x4 ≤ (127 : Int)))) (a4 : (¬ (x1 = x3))) : (((x0 = (1 : Int)) ∧ (x2 = x4)) ∨ ((x0 = (0 : Int)) ∧ (¬ (x2 = x4)))) := by omega
theorem omg_5271d995ac {x0 : Int} {x1 : Int} {x2 : Int} {x3 : Int} {x4 : Int} (a0 : (x0 = (1 : Int))) (a1 : ((((0 : Int) ≤ x1) ∧ (x2 = x1)) ∨ ((x1 < (0 : Int)) ∧ ((128 : Int) ≤ x2)))) (a2 : (x3 = x4)) (a3 : (((0 : Int) ≤ x4) ∧ (x4 ≤ (127 : Int)))) (a4 : (x1 = x3)) : (((x0 = (1 : Int)) ∧ (x2 = x4)) ∨ ((x0 = (0 : Int)) ∧ (¬ (x2 = x4)))) := by omega
theorem omg_0ee089787d {x0 : Int} {x1 : Int} {x2 : Int} {x3 : Int} {x4 : Int} (a0 : ((x0 = (0 : Int)) ∨ (x0 = (1 : Int)))) (a1 : ((x0 = (1 : Int)) → ((x1 - x2) = x3))) (a2 : (¬ (x0 = (0 : Int)))) : ((x4 = (1 : Int)) → ((x1 - x2) = x3)) := by omega
theorem omg_0f7446dc31 {x0 : Int} {x1 : Int} {x2 : Int} {x3 : Int} {x4 : Int} {x5 : Int} {x6 : Int} {x7 : Int} {x8 : Int} (a0 : (x0 ≤ x1)) (a1 : (x1 ≤ (12000 : Int))) (a2 : ((0 : Int) ≤ x2)) (a3 : (x3 = (x0 - x2))) (a4 : (x4 = x5)) (a5 : (x3 = x4)) (a6 : ((0 : Int) ≤ x6)) (a7 : (x7 = x5)) (a8 : (¬ (x7 ≤ x6))) (a9 : (x8 = (x2 + x6))) : (((0 : Int) ≤ x8) ∧ (x8 < (((12000 : Nat) : Nat) : Int))) := by omega
theorem omg_670d9c80e4 {x0 : Int} {x1 : Int} {x2 : Int} {x3 : Int} {x4 : Int} {x5 : Int} {x6 : Int} (a0 : (x0 = (1 : Int))) (a1 : (x1 = (x2 - x3))) (a2 : (x4 = x5)) (a3 : (x1 = x4)) : (((x0 = (1 : Int)) ∧ (((x2 - x6) - (x3 - x6)) = x5)) ∨ ((x0 = (0 : Int)) ∧ (¬ (((x2 - x6) - (x3 - x6)) = x5)))) := by omega
theorem d_Markup_next_0 : decode prog_7_method_24_code 0 = .ok (.aload_n 0, 1) := by decide +kernel
theorem d_Markup_next_1 : decode prog_7_method_24_code 1 = .ok (.getfield 48, 3) := by decide +kernel
theorem k_326 : (Jvm.Cond.fieldLink "PackageBook$Markup" (48 : Nat) "PackageBook$Markup" "at" "I") ∈ uW := uW_c0 209 rfl (by decide +kernel)
theorem d_Markup_next_4 : decode prog_7_method_24_code 4 = .ok (.iload_n 1, 1) := by decide +kernel
theorem d_Markup_next_5 : decode prog_7_method_24_code 5 = .ok (.iadd, 1) := by decide +kernel
theorem d_Markup_next_6 : decode prog_7_method_24_code 6 = .ok (.aload_n 0, 1) := by decide +kernel
theorem d_Markup_next_7 : decode prog_7_method_24_code 7 = .ok (.getfield 51, 3) := by decide +kernel
theorem k_327 : (Jvm.Cond.fieldLink "PackageBook$Markup" (51 : Nat) "PackageBook$Markup" "end" "I") ∈ uW := uW_c0 210 rfl (by decide +kernel)
theorem d_Markup_next_10 : decode prog_7_method_24_code 10 = .ok (.if_icmp .ge 21, 3) := by decide +kernel
theorem d_Markup_next_31 : decode prog_7_method_24_code 31 = .ok (.iconst (-1), 1) := by decide +kernel
theorem d_Markup_next_32 : decode prog_7_method_24_code 32 = .ok (.ireturn, 1) := by decide +kernel
theorem d_Markup_next_13 : decode prog_7_method_24_code 13 = .ok (.aload_n 0, 1) := by decide +kernel
theorem d_Markup_next_14 : decode prog_7_method_24_code 14 = .ok (.getfield 23, 3) := by decide +kernel
theorem d_Markup_next_17 : decode prog_7_method_24_code 17 = .ok (.aload_n 0, 1) := by decide +kernel
theorem d_Markup_next_18 : decode prog_7_method_24_code 18 = .ok (.getfield 48, 3) := by decide +kernel
theorem d_Markup_next_21 : decode prog_7_method_24_code 21 = .ok (.iload_n 1, 1) := by decide +kernel
theorem d_Markup_next_22 : decode prog_7_method_24_code 22 = .ok (.iadd, 1) := by decide +kernel
theorem d_Markup_next_23 : decode prog_7_method_24_code 23 = .ok (.baload, 1) := by decide +kernel
theorem d_Markup_next_24 : decode prog_7_method_24_code 24 = .ok (.sipush 255, 3) := by decide +kernel
theorem d_Markup_next_27 : decode prog_7_method_24_code 27 = .ok (.iand, 1) := by decide +kernel
theorem d_Markup_next_28 : decode prog_7_method_24_code 28 = .ok (.goto 4, 3) := by decide +kernel
abbrev y_Markup_next : MethodName := ⟨"PackageBook$Markup", "next", "(I)I"⟩
abbrev i_Markup_next : pb_I := (y_Markup_next, prog_7_method_24_code, 2, (some Jvm.ClassFile.FieldType.int), [], { frames := 0, cells := 0, slots := 0, locals := 0 })
set_option maxRecDepth 100000 in
set_option maxHeartbeats 4000000 in
theorem g_Mu_next {l : Launch} (hl : l.stackTraces = false) (G : pb_G) (h : Nat) (ui : Nat) (ug : Nat) (uv : Nat) (ur : Nat) (ct : Int32) (fa : Int32) (bg : Int32) (at_ : Int32) (en : Int32) (vs : Int32) (io : Int32) (hi : Int32) (ht : Int32) (uf : Nat → Int32) (k : Int32) (a0 : 0 ≤ at_.toInt) (a1 : at_.toInt ≤ en.toInt) (a2 : en.toInt ≤ 12000) (a3 : 0 ≤ bg.toInt) (a4 : bg.toInt ≤ at_.toInt) (k0 : 0 ≤ k.toInt) (k1 : k.toInt ≤ 1) (F_uf : sb_Fit uf) : Cn l G i_Markup_next [.ref h, .int k] [(h, .inr (8, [.ref ui, .ref ug, .ref uv, .ref ur, .int ct, .int fa, .int bg, .int at_, .int en, .int vs, .int io, .int hi, .int ht])), (ur, .inl (G.2.1, 12000, .inl uf))] (S := Int32) (fun rv_ u => rv_ = some (.int u) ∧ (-1 ≤ u.toInt) ∧ (u.toInt ≤ 255) ∧ (0 ≤ u.toInt → at_.toInt + k.toInt < en.toInt) ∧ (u.toInt = cm_ (mB_ uf bg.toInt) (en.toInt - bg.toInt) ((at_.toInt - bg.toInt) + k.toInt))) (fun u => [(h, .inr (8, [.ref ui, .ref ug, .ref uv, .ref ur, .int ct, .int fa, .int bg, .int at_, .int en, .int vs, .int io, .int hi, .int ht])), (ur, .inl (G.2.1, 12000, .inl uf))]) := by
  refine Cn.of hl (by decide +kernel) rfl (Nat.le_of_ble_eq_true rfl) (fun M hQ => ?_)
  refine pb_eq (pc' := 0) (lo' := [(0, .ref h), (1, .int k)]) (rest' := []) (ws' := [(h, .inr (8, [.ref ui, .ref ug, .ref uv, .ref ur, .int ct, .int fa, .int bg, .int at_, .int en, .int vs, .int io, .int hi, .int ht])), (ur, .inl (G.2.1, 12000, .inl uf))]) ?_
  have zm1 : ((-1) : Int32).toInt = (-1) := by decide
  have zl0 : (0 : Int32).toInt = 0 := by decide
  have zl1 : (1 : Int32).toInt = 1 := by decide
  refine pb_aload_n (pc := 0) d_Markup_next_0 0 rfl rfl ?_
  refine pb_get (pc := 1) d_Markup_next_1 0 7 rfl rfl (by decide) in_Markup k_326 rfl ?_
  refine pb_iload_n (pc := 4) d_Markup_next_4 1 rfl rfl ?_
  refine pb_iadd (pc := 5) d_Markup_next_5 ?_
  refine pb_topi (fun i1 ei1 => ?_)
  try have ti1 : i1.toInt = at_.toInt + k.toInt := t2_add ei1 rfl rfl (by omega)
  refine pb_aload_n (pc := 6) d_Markup_next_6 0 rfl rfl ?_
  refine pb_get (pc := 7) d_Markup_next_7 0 8 rfl rfl (by decide) in_Markup k_327 rfl ?_
  refine pb_icmp_ge (pc := 10) (tgt := 31) d_Markup_next_10 (by decide) (fun w2 => ?_) (fun w2 => ?_)
  · have tw2 : en.toInt ≤ i1.toInt := (ti_le rfl rfl).mp w2
    refine pb_iconst (pc := 31) (v := (-1)) d_Markup_next_31 (by decide) ?_
    exact pb_iret (pc := 32) hQ d_Markup_next_32 rfl rfl ((-1)) ⟨rfl, (by (try dsimp only); first | done | (with_reducible assumption) | omega (splitDisjunctions := false) | assumption | omega | decide), (by (try dsimp only); first | done | (with_reducible assumption) | omega (splitDisjunctions := false) | assumption | omega | decide), (by (try dsimp only); first | done | (with_reducible assumption) | omega (splitDisjunctions := false) | assumption | omega | decide), (show ((-1) : Int32).toInt = cm_ (mB_ uf bg.toInt) (en.toInt - bg.toInt) ((at_.toInt - bg.toInt) + k.toInt) from (by first | exact cm_ld (B := (mB_ uf bg.toInt)) eA xA (by omega) (by omega) | (rw [cm_out (by omega)]; decide)))⟩ [0, 1] (by decide) rfl rfl (by decide) (by decide)
  · have tw2 : ¬ en.toInt ≤ i1.toInt := fun z9 => w2 ((ti_le rfl rfl).mpr z9)
    refine pb_aload_n (pc := 13) d_Markup_next_13 0 rfl rfl ?_
    refine pb_get (pc := 14) d_Markup_next_14 0 3 rfl rfl (by decide) in_Markup k_320 rfl ?_
    refine pb_aload_n (pc := 17) d_Markup_next_17 0 rfl rfl ?_
    refine pb_get (pc := 18) d_Markup_next_18 0 7 rfl rfl (by decide) in_Markup k_326 rfl ?_
    refine pb_iload_n (pc := 21) d_Markup_next_21 1 rfl rfl ?_
    refine pb_iadd (pc := 22) d_Markup_next_22 ?_
    refine pb_topi (fun i3 ei3 => ?_)
    try have ti3 : i3.toInt = at_.toInt + k.toInt := t2_add ei3 rfl rfl (by omega)
    refine pb_bald (pc := 23) d_Markup_next_23 1 rfl (vp_in_iff.mpr (by omega)) ?_
    refine pb_topi (fun i4 ei4 => ?_)
    have xi4 : i4 = gr uf (bg.toInt + ((at_.toInt - bg.toInt) + k.toInt)) := gr_ld ei4 (by omega)
    have yi4 : i4.toInt = gx uf (bg.toInt + ((at_.toInt - bg.toInt) + k.toInt)) := congrArg Int32.toInt xi4
    have ti4 : -128 ≤ i4.toInt ∧ i4.toInt ≤ 127 := ti_fit (F_uf _) ei4
    have xA := xi4
    refine pb_sipush (pc := 24) (v := 255) d_Markup_next_24 (by decide) ?_
    refine pb_iand (pc := 27) d_Markup_next_27 ?_
    refine pb_topi (fun i5 ei5 => ?_)
    have ti5 : 0 ≤ i5.toInt ∧ i5.toInt ≤ 255 := ti_and 8 ei5 (by decide) (by decide)
    have eA := ei5
    refine pb_goto (pc := 28) (tgt := 32) d_Markup_next_28 (by decide) ?_
    exact pb_iret (pc := 32) hQ d_Markup_next_32 rfl rfl (i5) ⟨rfl, (by (try dsimp only); first | done | (with_reducible assumption) | omega (splitDisjunctions := false) | assumption | omega | decide), (by (try dsimp only); first | done | (with_reducible assumption) | omega (splitDisjunctions := false) | assumption | omega | decide), (by (try dsimp only); first | done | (with_reducible assumption) | omega (splitDisjunctions := false) | assumption | omega | decide), (show i5.toInt = cm_ (mB_ uf bg.toInt) (en.toInt - bg.toInt) ((at_.toInt - bg.toInt) + k.toInt) from (by first | exact cm_ld (B := (mB_ uf bg.toInt)) eA xA (by omega) (by omega) | (rw [cm_out (by omega)]; decide)))⟩ [0, 1] (by decide) rfl rfl (by decide) (by decide)

theorem d_Markup_fail_0 : decode prog_7_method_25_code 0 = .ok (.aload_n 0, 1) := by decide +kernel
theorem d_Markup_fail_1 : decode prog_7_method_25_code 1 = .ok (.iload_n 1, 1) := by decide +kernel
theorem d_Markup_fail_2 : decode prog_7_method_25_code 2 = .ok (.aload_n 0, 1) := by decide +kernel
theorem d_Markup_fail_3 : decode prog_7_method_25_code 3 = .ok (.getfield 45, 3) := by decide +kernel
theorem k_325 : (Jvm.Cond.fieldLink "PackageBook$Markup" (45 : Nat) "PackageBook$Markup" "begin" "I") ∈ uW := uW_c0 208 rfl (by decide +kernel)
theorem d_Markup_fail_6 : decode prog_7_method_25_code 6 = .ok (.isub, 1) := by decide +kernel
theorem d_Markup_fail_7 : decode prog_7_method_25_code 7 = .ok (.putfield 26, 3) := by decide +kernel
theorem d_Markup_fail_10 : decode prog_7_method_25_code 10 = .ok (.iconst 0, 1) := by decide +kernel
theorem d_Markup_fail_11 : decode prog_7_method_25_code 11 = .ok (.ireturn, 1) := by decide +kernel
abbrev y_Markup_fail : MethodName := ⟨"PackageBook$Markup", "fail", "(I)Z"⟩
abbrev i_Markup_fail : pb_I := (y_Markup_fail, prog_7_method_25_code, 2, (some Jvm.ClassFile.FieldType.boolean), [], { frames := 0, cells := 0, slots := 0, locals := 0 })
set_option maxRecDepth 100000 in
set_option maxHeartbeats 4000000 in
theorem g_Mu_fail {l : Launch} (hl : l.stackTraces = false) (G : pb_G) (h : Nat) (ui : Nat) (ug : Nat) (uv : Nat) (ur : Nat) (ct : Int32) (fa : Int32) (bg : Int32) (at_ : Int32) (en : Int32) (vs : Int32) (io : Int32) (hi : Int32) (ht : Int32) (p : Int32) (b0 : 0 ≤ bg.toInt) (b1 : bg.toInt ≤ p.toInt) (b2 : p.toInt ≤ 13000) : Cn l G i_Markup_fail [.ref h, .int p] [(h, .inr (8, [.ref ui, .ref ug, .ref uv, .ref ur, .int ct, .int fa, .int bg, .int at_, .int en, .int vs, .int io, .int hi, .int ht]))] (S := Int32) (fun rv_ u => rv_ = some (.int 0) ∧ (0 ≤ u.toInt)) (fun u => [(h, .inr (8, [.ref ui, .ref ug, .ref uv, .ref ur, .int ct, .int u, .int bg, .int at_, .int en, .int vs, .int io, .int hi, .int ht]))]) := by
  refine Cn.of hl (by decide +kernel) rfl (Nat.le_of_ble_eq_true rfl) (fun M hQ => ?_)
  refine pb_eq (pc' := 0) (lo' := [(0, .ref h), (1, .int p)]) (rest' := []) (ws' := [(h, .inr (8, [.ref ui, .ref ug, .ref uv, .ref ur, .int ct, .int fa, .int bg, .int at_, .int en, .int vs, .int io, .int hi, .int ht]))]) ?_
  have zl0 : (0 : Int32).toInt = 0 := by decide
  have zl1 : (1 : Int32).toInt = 1 := by decide
  refine pb_aload_n (pc := 0) d_Markup_fail_0 0 rfl rfl ?_
  refine pb_iload_n (pc := 1) d_Markup_fail_1 1 rfl rfl ?_
  refine pb_aload_n (pc := 2) d_Markup_fail_2 0 rfl rfl ?_
  refine pb_get (pc := 3) d_Markup_fail_3 0 6 rfl rfl (by decide) in_Markup k_325 rfl ?_
  refine pb_isub (pc := 6) d_Markup_fail_6 ?_
  refine pb_topi (fun i1 ei1 => ?_)
  try have ti1 : i1.toInt = p.toInt - bg.toInt := t2_sub ei1 rfl rfl (by omega)
  refine pb_put (pc := 7) (ty := .int) (ws' := [(h, .inr (8, [.ref ui, .ref ug, .ref uv, .ref ur, .int ct, .int i1, .int bg, .int at_, .int en, .int vs, .int io, .int hi, .int ht]))]) d_Markup_fail_7 0 5 t_Markup t_Markup_ok n_Markup rfl rfl (by decide) in_Markup k_323 rfl (by decide +kernel) rfl rfl (Nat.le_of_ble_eq_true rfl) rfl ?_
  refine pb_iconst (pc := 10) (v := 0) d_Markup_fail_10 (by decide) ?_
  exact pb_iret (pc := 11) hQ d_Markup_fail_11 rfl rfl (i1) ⟨rfl, (by (try dsimp only); first | done | (with_reducible assumption) | omega (splitDisjunctions := false) | assumption | omega | decide)⟩ [0] (by decide) rfl rfl (by decide) (by decide)

theorem d_Markup_isSpace_0 : decode prog_7_method_23_code 0 = .ok (.iload_n 0, 1) := by decide +kernel
theorem d_Markup_isSpace_1 : decode prog_7_method_23_code 1 = .ok (.bipush 32, 2) := by decide +kernel
theorem d_Markup_isSpace_3 : decode prog_7_method_23_code 3 = .ok (.if_icmp .eq 21, 3) := by decide +kernel
theorem d_Markup_isSpace_24 : decode prog_7_method_23_code 24 = .ok (.iconst 1, 1) := by decide +kernel
theorem d_Markup_isSpace_25 : decode prog_7_method_23_code 25 = .ok (.goto 4, 3) := by decide +kernel
theorem d_Markup_isSpace_29 : decode prog_7_method_23_code 29 = .ok (.ireturn, 1) := by decide +kernel
theorem d_Markup_isSpace_6 : decode prog_7_method_23_code 6 = .ok (.iload_n 0, 1) := by decide +kernel
theorem d_Markup_isSpace_7 : decode prog_7_method_23_code 7 = .ok (.bipush 9, 2) := by decide +kernel
theorem d_Markup_isSpace_9 : decode prog_7_method_23_code 9 = .ok (.if_icmp .eq 15, 3) := by decide +kernel
theorem d_Markup_isSpace_12 : decode prog_7_method_23_code 12 = .ok (.iload_n 0, 1) := by decide +kernel
theorem d_Markup_isSpace_13 : decode prog_7_method_23_code 13 = .ok (.bipush 10, 2) := by decide +kernel
theorem d_Markup_isSpace_15 : decode prog_7_method_23_code 15 = .ok (.if_icmp .eq 9, 3) := by decide +kernel
theorem d_Markup_isSpace_18 : decode prog_7_method_23_code 18 = .ok (.iload_n 0, 1) := by decide +kernel
theorem d_Markup_isSpace_19 : decode prog_7_method_23_code 19 = .ok (.bipush 13, 2) := by decide +kernel
theorem d_Markup_isSpace_21 : decode prog_7_method_23_code 21 = .ok (.if_icmp .ne 7, 3) := by decide +kernel
theorem d_Markup_isSpace_28 : decode prog_7_method_23_code 28 = .ok (.iconst 0, 1) := by decide +kernel
abbrev y_Markup_isSpace : MethodName := ⟨"PackageBook$Markup", "isSpace", "(I)Z"⟩
abbrev i_Markup_isSpace : pb_I := (y_Markup_isSpace, prog_7_method_23_code, 1, (some Jvm.ClassFile.FieldType.boolean), [], { frames := 0, cells := 0, slots := 0, locals := 0 })
set_option maxRecDepth 100000 in
set_option maxHeartbeats 4000000 in
theorem g_Mu_isSpace {l : Launch} (hl : l.stackTraces = false) (G : pb_G) (b : Int32) : Cn l G i_Markup_isSpace [.int b] [] (S := Int32) (fun rv_ u => rv_ = some (.int u) ∧ (u.toInt = 0 ∨ u.toInt = 1) ∧ (hid_ (u.toInt = 1 ↔ sp_c b.toInt = true))) (fun u => []) := by
  refine Cn.of hl (by decide +kernel) rfl (Nat.le_of_ble_eq_true rfl) (fun M hQ => ?_)
  refine pb_eq (pc' := 0) (lo' := [(0, .int b)]) (rest' := []) (ws' := []) ?_
  have zl0 : (0 : Int32).toInt = 0 := by decide
  have zl1 : (1 : Int32).toInt = 1 := by decide
  refine pb_iload_n (pc := 0) d_Markup_isSpace_0 0 rfl rfl ?_
  refine pb_bipush (pc := 1) (v := 32) d_Markup_isSpace_1 (by decide) ?_
  refine pb_icmp_eq (pc := 3) (tgt := 24) d_Markup_isSpace_3 (by decide) (fun w1 => ?_) (fun w1 => ?_)
  · have tw1 : b.toInt = 32 := (ti_eq rfl (by decide)).mp w1
    refine pb_iconst (pc := 24) (v := 1) d_Markup_isSpace_24 (by decide) ?_
    refine pb_goto (pc := 25) (tgt := 29) d_Markup_isSpace_25 (by decide) ?_
    exact pb_iret (pc := 29) hQ d_Markup_isSpace_29 rfl rfl (1) ⟨rfl, (by (try dsimp only); first | done | (with_reducible assumption) | omega (splitDisjunctions := false) | assumption | omega | decide), (show hid_ ((1 : Int32).toInt = 1 ↔ sp_c b.toInt = true) from (hid_i (by rw [sp_i]; constructor <;> (intro q9; omega))))⟩ [] (by decide) rfl rfl (by decide) (by decide)
  · have tw1 : ¬ b.toInt = 32 := fun z9 => w1 ((ti_eq rfl (by decide)).mpr z9)
    refine pb_iload_n (pc := 6) d_Markup_isSpace_6 0 rfl rfl ?_
    refine pb_bipush (pc := 7) (v := 9) d_Markup_isSpace_7 (by decide) ?_
    refine pb_icmp_eq (pc := 9) (tgt := 24) d_Markup_isSpace_9 (by decide) (fun w2 => ?_) (fun w2 => ?_)
    · have tw2 : b.toInt = 9 := (ti_eq rfl (by decide)).mp w2
      refine pb_iconst (pc := 24) (v := 1) d_Markup_isSpace_24 (by decide) ?_
      refine pb_goto (pc := 25) (tgt := 29) d_Markup_isSpace_25 (by decide) ?_
      exact pb_iret (pc := 29) hQ d_Markup_isSpace_29 rfl rfl (1) ⟨rfl, (by (try dsimp only); first | done | (with_reducible assumption) | omega (splitDisjunctions := false) | assumption | omega | decide), (show hid_ ((1 : Int32).toInt = 1 ↔ sp_c b.toInt = true) from (hid_i (by rw [sp_i]; constructor <;> (intro q9; omega))))⟩ [] (by decide) rfl rfl (by decide) (by decide)
    · have tw2 : ¬ b.toInt = 9 := fun z9 => w2 ((ti_eq rfl (by decide)).mpr z9)
      refine pb_iload_n (pc := 12) d_Markup_isSpace_12 0 rfl rfl ?_
      refine pb_bipush (pc := 13) (v := 10) d_Markup_isSpace_13 (by decide) ?_
      refine pb_icmp_eq (pc := 15) (tgt := 24) d_Markup_isSpace_15 (by decide) (fun w3 => ?_) (fun w3 => ?_)
      · have tw3 : b.toInt = 10 := (ti_eq rfl (by decide)).mp w3
        refine pb_iconst (pc := 24) (v := 1) d_Markup_isSpace_24 (by decide) ?_
        refine pb_goto (pc := 25) (tgt := 29) d_Markup_isSpace_25 (by decide) ?_
        exact pb_iret (pc := 29) hQ d_Markup_isSpace_29 rfl rfl (1) ⟨rfl, (by (try dsimp only); first | done | (with_reducible assumption) | omega (splitDisjunctions := false) | assumption | omega | decide), (show hid_ ((1 : Int32).toInt = 1 ↔ sp_c b.toInt = true) from (hid_i (by rw [sp_i]; constructor <;> (intro q9; omega))))⟩ [] (by decide) rfl rfl (by decide) (by decide)
      · have tw3 : ¬ b.toInt = 10 := fun z9 => w3 ((ti_eq rfl (by decide)).mpr z9)
        refine pb_iload_n (pc := 18) d_Markup_isSpace_18 0 rfl rfl ?_
        refine pb_bipush (pc := 19) (v := 13) d_Markup_isSpace_19 (by decide) ?_
        refine pb_icmp_ne (pc := 21) (tgt := 28) d_Markup_isSpace_21 (by decide) (fun w4 => ?_) (fun w4 => ?_)
        · have tw4 : ¬ b.toInt = 13 := fun z9 => w4 ((ti_eq rfl (by decide)).mpr z9)
          refine pb_iconst (pc := 28) (v := 0) d_Markup_isSpace_28 (by decide) ?_
          exact pb_iret (pc := 29) hQ d_Markup_isSpace_29 rfl rfl (0) ⟨rfl, (by (try dsimp only); first | done | (with_reducible assumption) | omega (splitDisjunctions := false) | assumption | omega | decide), (show hid_ ((0 : Int32).toInt = 1 ↔ sp_c b.toInt = true) from (hid_i (by rw [sp_i]; constructor <;> (intro q9; omega))))⟩ [] (by decide) rfl rfl (by decide) (by decide)
        · have tw4 : b.toInt = 13 := (ti_eq rfl (by decide)).mp w4
          refine pb_iconst (pc := 24) (v := 1) d_Markup_isSpace_24 (by decide) ?_
          refine pb_goto (pc := 25) (tgt := 29) d_Markup_isSpace_25 (by decide) ?_
          exact pb_iret (pc := 29) hQ d_Markup_isSpace_29 rfl rfl (1) ⟨rfl, (by (try dsimp only); first | done | (with_reducible assumption) | omega (splitDisjunctions := false) | assumption | omega | decide), (show hid_ ((1 : Int32).toInt = 1 ↔ sp_c b.toInt = true) from (hid_i (by rw [sp_i]; constructor <;> (intro q9; omega))))⟩ [] (by decide) rfl rfl (by decide) (by decide)

theorem d_Markup_skipSpace_0 : decode prog_7_method_19_code 0 = .ok (.aload_n 0, 1) := by decide +kernel
theorem d_Markup_skipSpace_1 : decode prog_7_method_19_code 1 = .ok (.getfield 48, 3) := by decide +kernel
theorem d_Markup_skipSpace_4 : decode prog_7_method_19_code 4 = .ok (.istore_n 1, 1) := by decide +kernel
theorem d_Markup_skipSpace_5 : decode prog_7_method_19_code 5 = .ok (.aload_n 0, 1) := by decide +kernel
theorem d_Markup_skipSpace_6 : decode prog_7_method_19_code 6 = .ok (.getfield 48, 3) := by decide +kernel
theorem d_Markup_skipSpace_9 : decode prog_7_method_19_code 9 = .ok (.aload_n 0, 1) := by decide +kernel
theorem d_Markup_skipSpace_10 : decode prog_7_method_19_code 10 = .ok (.getfield 51, 3) := by decide +kernel
theorem d_Markup_skipSpace_13 : decode prog_7_method_19_code 13 = .ok (.if_icmp .ge 27, 3) := by decide +kernel
theorem d_Markup_skipSpace_40 : decode prog_7_method_19_code 40 = .ok (.aload_n 0, 1) := by decide +kernel
theorem d_Markup_skipSpace_41 : decode prog_7_method_19_code 41 = .ok (.getfield 48, 3) := by decide +kernel
theorem d_Markup_skipSpace_44 : decode prog_7_method_19_code 44 = .ok (.iload_n 1, 1) := by decide +kernel
theorem d_Markup_skipSpace_45 : decode prog_7_method_19_code 45 = .ok (.if_icmp .le 7, 3) := by decide +kernel
theorem d_Markup_skipSpace_52 : decode prog_7_method_19_code 52 = .ok (.iconst 0, 1) := by decide +kernel
theorem d_Markup_skipSpace_53 : decode prog_7_method_19_code 53 = .ok (.ireturn, 1) := by decide +kernel
theorem d_Markup_skipSpace_48 : decode prog_7_method_19_code 48 = .ok (.iconst 1, 1) := by decide +kernel
theorem d_Markup_skipSpace_49 : decode prog_7_method_19_code 49 = .ok (.goto 4, 3) := by decide +kernel
theorem d_Markup_skipSpace_16 : decode prog_7_method_19_code 16 = .ok (.aload_n 0, 1) := by decide +kernel
theorem d_Markup_skipSpace_17 : decode prog_7_method_19_code 17 = .ok (.iconst 0, 1) := by decide +kernel
theorem d_Markup_skipSpace_18 : decode prog_7_method_19_code 18 = .ok (.invokevirtual 80, 3) := by decide +kernel
theorem k_810 : (Jvm.Cond.methodLink "PackageBook$Markup" (80 : Nat) ({ cls := "PackageBook$Markup", name := "next", desc := "(I)I" } : Jvm.MethodName)) ∈ uW := uW_c2 213 rfl (by decide +kernel)
theorem k_813 : (Jvm.Cond.code ({ cls := "PackageBook$Markup", name := "next", desc := "(I)I" } : Jvm.MethodName) prog_7_method_24_code (2 : Nat) (Option.some Jvm.ClassFile.FieldType.int)) ∈ uW := uW_c2 216 rfl (by decide +kernel)
theorem k_812 : (Jvm.Cond.instanceMethod ({ cls := "PackageBook$Markup", name := "next", desc := "(I)I" } : Jvm.MethodName)) ∈ uW := uW_c2 215 rfl (by decide +kernel)
theorem k_33 : Cond.selects "PackageBook$Markup" ⟨"PackageBook$Markup", "next", "(I)I"⟩ ⟨"PackageBook$Markup", "next", "(I)I"⟩ ∈ uW := uW_of 33 (by decide +kernel) (by decide +kernel)
theorem hy_Markup_next : (y_Markup_next).cls ≠ "java/lang/invoke/MethodHandle" ∧ (y_Markup_next).cls ≠ "java/lang/invoke/VarHandle" ∧ (parseMethodDescriptor (y_Markup_next).desc).map (fun d => d.parameters.length) = some 1 := by decide +kernel
theorem d_Markup_skipSpace_21 : decode prog_7_method_19_code 21 = .ok (.invokestatic 172, 3) := by decide +kernel
theorem k_814 : (Jvm.Cond.methodLink "PackageBook$Markup" (172 : Nat) ({ cls := "PackageBook$Markup", name := "isSpace", desc := "(I)Z" } : Jvm.MethodName)) ∈ uW := uW_c2 217 rfl (by decide +kernel)
theorem k_816 : (Jvm.Cond.code ({ cls := "PackageBook$Markup", name := "isSpace", desc := "(I)Z" } : Jvm.MethodName) prog_7_method_23_code (1 : Nat) (Option.some Jvm.ClassFile.FieldType.boolean)) ∈ uW := uW_c2 219 rfl (by decide +kernel)
theorem k_815 : (Jvm.Cond.static ({ cls := "PackageBook$Markup", name := "isSpace", desc := "(I)Z" } : Jvm.MethodName)) ∈ uW := uW_c2 218 rfl (by decide +kernel)
theorem hy_Markup_isSpace : (y_Markup_isSpace).cls ≠ "java/lang/invoke/MethodHandle" ∧ (y_Markup_isSpace).cls ≠ "java/lang/invoke/VarHandle" ∧ (parseMethodDescriptor (y_Markup_isSpace).desc).map (fun d => d.parameters.length) = some 1 := by decide +kernel
theorem d_Markup_skipSpace_24 : decode prog_7_method_19_code 24 = .ok (.ifCond .eq 16, 3) := by decide +kernel
theorem d_Markup_skipSpace_27 : decode prog_7_method_19_code 27 = .ok (.aload_n 0, 1) := by decide +kernel
theorem d_Markup_skipSpace_28 : decode prog_7_method_19_code 28 = .ok (.dup, 1) := by decide +kernel
theorem d_Markup_skipSpace_29 : decode prog_7_method_19_code 29 = .ok (.getfield 48, 3) := by decide +kernel
theorem d_Markup_skipSpace_32 : decode prog_7_method_19_code 32 = .ok (.iconst 1, 1) := by decide +kernel
theorem d_Markup_skipSpace_33 : decode prog_7_method_19_code 33 = .ok (.iadd, 1) := by decide +kernel
theorem d_Markup_skipSpace_34 : decode prog_7_method_19_code 34 = .ok (.putfield 48, 3) := by decide +kernel
theorem d_Markup_skipSpace_37 : decode prog_7_method_19_code 37 = .ok (.goto (-32), 3) := by decide +kernel
abbrev y_Markup_skipSpace : MethodName := ⟨"PackageBook$Markup", "skipSpace", "()Z"⟩
abbrev i_Markup_skipSpace : pb_I := (y_Markup_skipSpace, prog_7_method_19_code, 2, (some Jvm.ClassFile.FieldType.boolean), [], { frames := 1, cells := 0, slots := 0, locals := 21 })
set_option maxRecDepth 100000 in
set_option maxHeartbeats 4000000 in
theorem g_Mu_skipSpace {l : Launch} (hl : l.stackTraces = false) (G : pb_G) (h : Nat) (ui : Nat) (ug : Nat) (uv : Nat) (ur : Nat) (ct : Int32) (fa : Int32) (bg : Int32) (at_ : Int32) (en : Int32) (vs : Int32) (io : Int32) (hi : Int32) (ht : Int32) (uf : Nat → Int32) (a0 : 0 ≤ at_.toInt) (a1 : at_.toInt ≤ en.toInt) (a2 : en.toInt ≤ 12000) (a3 : 0 ≤ bg.toInt) (a4 : bg.toInt ≤ at_.toInt) (F_uf : sb_Fit uf) : Cn l G i_Markup_skipSpace [.ref h] [(h, .inr (8, [.ref ui, .ref ug, .ref uv, .ref ur, .int ct, .int fa, .int bg, .int at_, .int en, .int vs, .int io, .int hi, .int ht])), (ur, .inl (G.2.1, 12000, .inl uf))] (S := Int32 × Int32) (fun rv_ u => rv_ = some (.int u.1) ∧ (u.1.toInt = 0 ∨ u.1.toInt = 1) ∧ (at_.toInt ≤ u.2.toInt) ∧ (u.2.toInt ≤ en.toInt) ∧ (u.2.toInt - bg.toInt = sF (mB_ uf bg.toInt) (en.toInt - bg.toInt) (at_.toInt - bg.toInt)) ∧ (hid_ (u.1.toInt = 1 ∧ at_.toInt < u.2.toInt ∨ u.1.toInt = 0 ∧ u.2.toInt = at_.toInt))) (fun u => [(h, .inr (8, [.ref ui, .ref ug, .ref uv, .ref ur, .int ct, .int fa, .int bg, .int u.2, .int en, .int vs, .int io, .int hi, .int ht])), (ur, .inl (G.2.1, 12000, .inl uf))]) := by
  refine Cn.of hl (by decide +kernel) rfl (Nat.le_of_ble_eq_true rfl) (fun M hQ => ?_)
  refine pb_eq (pc' := 0) (lo' := [(0, .ref h)]) (rest' := []) (ws' := [(h, .inr (8, [.ref ui, .ref ug, .ref uv, .ref ur, .int ct, .int fa, .int bg, .int at_, .int en, .int vs, .int io, .int hi, .int ht])), (ur, .inl (G.2.1, 12000, .inl uf))]) ?_
  have zl0 : (0 : Int32).toInt = 0 := by decide
  have zl1 : (1 : Int32).toInt = 1 := by decide
  refine pb_aload_n (pc := 0) d_Markup_skipSpace_0 0 rfl rfl ?_
  refine pb_get (pc := 1) d_Markup_skipSpace_1 0 7 rfl rfl (by decide) in_Markup k_326 rfl ?_
  refine pb_istore_n (pc := 4) (lo' := [(1, .int at_), (0, .ref h)]) d_Markup_skipSpace_4 rfl (by decide) rfl ?_
  have hL5_1 : ∀ (N9 : Nat) (a : Int32), (at_.toInt ≤ a.toInt) → (a.toInt ≤ en.toInt) → (sF (mB_ uf bg.toInt) (en.toInt - bg.toInt) (a.toInt - bg.toInt) = sF (mB_ uf bg.toInt) (en.toInt - bg.toInt) (at_.toInt - bg.toInt)) → ((en.toInt - a.toInt).toNat) < N9 → pb_P l G M i_Markup_skipSpace 5 [(1, .int at_), (0, .ref h)] [] [(h, .inr (8, [.ref ui, .ref ug, .ref uv, .ref ur, .int ct, .int fa, .int bg, .int a, .int en, .int vs, .int io, .int hi, .int ht])), (ur, .inl (G.2.1, 12000, .inl uf))] 0 0 := by
    intro N9
    induction N9 with
    | zero => intro a k0 k1 kS_ hm9; exact absurd hm9 (Nat.not_lt_zero _)
    | succ N9 ih5 =>
      intro a k0 k1 kS_ hm9
      refine pb_aload_n (pc := 5) d_Markup_skipSpace_5 1 rfl rfl ?_
      refine pb_get (pc := 6) d_Markup_skipSpace_6 0 7 rfl rfl (by decide) in_Markup k_326 rfl ?_
      refine pb_aload_n (pc := 9) d_Markup_skipSpace_9 1 rfl rfl ?_
      refine pb_get (pc := 10) d_Markup_skipSpace_10 0 8 rfl rfl (by decide) in_Markup k_327 rfl ?_
      refine pb_icmp_ge (pc := 13) (tgt := 40) d_Markup_skipSpace_13 (by decide) (fun w2 => ?_) (fun w2 => ?_)
      · have tw2 : en.toInt ≤ a.toInt := (ti_le rfl rfl).mp w2
        refine pb_aload_n (pc := 40) d_Markup_skipSpace_40 1 rfl rfl ?_
        refine pb_get (pc := 41) d_Markup_skipSpace_41 0 7 rfl rfl (by decide) in_Markup k_326 rfl ?_
        refine pb_iload_n (pc := 44) d_Markup_skipSpace_44 0 rfl rfl ?_
        refine pb_icmp_le (pc := 45) (tgt := 52) d_Markup_skipSpace_45 (by decide) (fun w3 => ?_) (fun w3 => ?_)
        · have tw3 : a.toInt ≤ at_.toInt := (ti_le rfl rfl).mp w3
          refine pb_iconst (pc := 52) (v := 0) d_Markup_skipSpace_52 (by decide) ?_
          exact pb_iret (pc := 53) hQ d_Markup_skipSpace_53 rfl rfl (0, a) ⟨rfl, (by (try dsimp only); first | done | (with_reducible assumption) | omega (splitDisjunctions := false) | assumption | omega | decide), (by (try dsimp only); first | done | (with_reducible assumption) | omega (splitDisjunctions := false) | assumption | omega | decide), (by (try dsimp only); first | done | (with_reducible assumption) | omega (splitDisjunctions := false) | assumption | omega | decide), (show a.toInt - bg.toInt = sF (mB_ uf bg.toInt) (en.toInt - bg.toInt) (at_.toInt - bg.toInt) from (by rw [← kS_]; first | exact (sF_n (fun q9 => absurd (sF9.mpr q9) (by omega))).symm | exact (sF_o (by omega)).symm)), (show hid_ ((0 : Int32).toInt = 1 ∧ at_.toInt < a.toInt ∨ (0 : Int32).toInt = 0 ∧ a.toInt = at_.toInt) from (hid_i (by omega)))⟩ [0, 1] (by decide) rfl rfl (by decide) (by decide)
        · have tw3 : ¬ a.toInt ≤ at_.toInt := fun z9 => w3 ((ti_le rfl rfl).mpr z9)
          refine pb_iconst (pc := 48) (v := 1) d_Markup_skipSpace_48 (by decide) ?_
          refine pb_goto (pc := 49) (tgt := 53) d_Markup_skipSpace_49 (by decide) ?_
          exact pb_iret (pc := 53) hQ d_Markup_skipSpace_53 rfl rfl (1, a) ⟨rfl, (by (try dsimp only); first | done | (with_reducible assumption) | omega (splitDisjunctions := false) | assumption | omega | decide), (by (try dsimp only); first | done | (with_reducible assumption) | omega (splitDisjunctions := false) | assumption | omega | decide), (by (try dsimp only); first | done | (with_reducible assumption) | omega (splitDisjunctions := false) | assumption | omega | decide), (show a.toInt - bg.toInt = sF (mB_ uf bg.toInt) (en.toInt - bg.toInt) (at_.toInt - bg.toInt) from (by rw [← kS_]; first | exact (sF_n (fun q9 => absurd (sF9.mpr q9) (by omega))).symm | exact (sF_o (by omega)).symm)), (show hid_ ((1 : Int32).toInt = 1 ∧ at_.toInt < a.toInt ∨ (1 : Int32).toInt = 0 ∧ a.toInt = at_.toInt) from (hid_i (by omega)))⟩ [0, 1] (by decide) rfl rfl (by decide) (by decide)
      · have tw2 : ¬ en.toInt ≤ a.toInt := fun z9 => w2 ((ti_le rfl rfl).mpr z9)
        refine pb_aload_n (pc := 16) d_Markup_skipSpace_16 1 rfl rfl ?_
        refine pb_iconst (pc := 17) (v := 0) d_Markup_skipSpace_17 (by decide) ?_
        refine pb_callV (pc := 18) (I := i_Markup_skipSpace) (qb := 0) (ci := 8) (nA := 1) (rest := []) (wr := []) d_Markup_skipSpace_18 (g_Mu_next hl G h ui ug uv ur ct fa bg a en vs io hi ht uf 0 (by first | (with_reducible assumption) | omega (splitDisjunctions := false) | assumption | omega | decide) (by first | (with_reducible assumption) | omega (splitDisjunctions := false) | assumption | omega | decide) (by first | (with_reducible assumption) | omega (splitDisjunctions := false) | assumption | omega | decide) (by first | (with_reducible assumption) | omega (splitDisjunctions := false) | assumption | omega | decide) (by first | (with_reducible assumption) | omega (splitDisjunctions := false) | assumption | omega | decide) (by first | (with_reducible assumption) | omega (splitDisjunctions := false) | assumption | omega | decide) (by first | (with_reducible assumption) | omega (splitDisjunctions := false) | assumption | omega | decide) F_uf) rfl rfl [0, 1] [] (by decide) rfl rfl rfl (by decide) (by decide) k_813 rfl k_125 k_810 k_812 k_33 ⟨rfl, hy_Markup_next⟩ (by decide) rfl rfl (Nat.le_of_ble_eq_true rfl) (by decide) (fun v9 u5 ch4 => ?_)
        obtain ⟨r_6, rfl⟩ : ∃ z9, z9 = u5 := ⟨_, rfl⟩
        obtain ⟨ech4, ch4⟩ := ch4
        have ech4 : v9 = some (.int r_6) := ech4
        subst ech4
        obtain ⟨fh7, fh8, fh9, fh10⟩ : (-1 ≤ r_6.toInt) ∧ (r_6.toInt ≤ 255) ∧ (0 ≤ r_6.toInt → a.toInt + (0 : Int32).toInt < en.toInt) ∧ (r_6.toInt = cm_ (mB_ uf bg.toInt) (en.toInt - bg.toInt) ((a.toInt - bg.toInt) + (0 : Int32).toInt)) := ch4
        have hF := fh10
        rw [zl0, Int.add_zero] at hF
        refine pb_eq (pc' := 21) (lo' := [(1, .int at_), (0, .ref h)]) (rest' := [.int r_6]) (ws' := [(h, .inr (8, [.ref ui, .ref ug, .ref uv, .ref ur, .int ct, .int fa, .int bg, .int a, .int en, .int vs, .int io, .int hi, .int ht])), (ur, .inl (G.2.1, 12000, .inl uf))]) ?_
        refine pb_callS (pc := 21) (I := i_Markup_skipSpace) (nA := 1) (rest := []) (wr := [(h, .inr (8, [.ref ui, .ref ug, .ref uv, .ref ur, .int ct, .int fa, .int bg, .int a, .int en, .int vs, .int io, .int hi, .int ht])), (ur, .inl (G.2.1, 12000, .inl uf))]) d_Markup_skipSpace_21 (g_Mu_isSpace hl G r_6) [] [0, 1] (by decide) rfl rfl rfl (by decide) (by decide) k_816 rfl k_125 k_814 k_815 hy_Markup_isSpace (by decide) rfl rfl (Nat.le_of_ble_eq_true rfl) (by decide) (fun v9 u12 ch11 => ?_)
        obtain ⟨r_13, rfl⟩ : ∃ z9, z9 = u12 := ⟨_, rfl⟩
        obtain ⟨ech11, ch11⟩ := ch11
        have ech11 : v9 = some (.int r_13) := ech11
        subst ech11
        obtain ⟨fh14, fh15⟩ : (r_13.toInt = 0 ∨ r_13.toInt = 1) ∧ (hid_ (r_13.toInt = 1 ↔ sp_c r_6.toInt = true)) := ch11
        have sF9 := hid_o fh15
        rw [hF] at sF9
        refine pb_eq (pc' := 24) (lo' := [(1, .int at_), (0, .ref h)]) (rest' := [.int r_13]) (ws' := [(h, .inr (8, [.ref ui, .ref ug, .ref uv, .ref ur, .int ct, .int fa, .int bg, .int a, .int en, .int vs, .int io, .int hi, .int ht])), (ur, .inl (G.2.1, 12000, .inl uf))]) ?_
        refine pb_if_eq (pc := 24) (tgt := 40) d_Markup_skipSpace_24 (by decide) (fun w16 => ?_) (fun w16 => ?_)
        · have tw16 : r_13.toInt = 0 := (ti_eq rfl (by decide)).mp w16
          refine pb_aload_n (pc := 40) d_Markup_skipSpace_40 1 rfl rfl ?_
          refine pb_get (pc := 41) d_Markup_skipSpace_41 0 7 rfl rfl (by decide) in_Markup k_326 rfl ?_
          refine pb_iload_n (pc := 44) d_Markup_skipSpace_44 0 rfl rfl ?_
          refine pb_icmp_le (pc := 45) (tgt := 52) d_Markup_skipSpace_45 (by decide) (fun w17 => ?_) (fun w17 => ?_)
          · have tw17 : a.toInt ≤ at_.toInt := (ti_le rfl rfl).mp w17
            refine pb_iconst (pc := 52) (v := 0) d_Markup_skipSpace_52 (by decide) ?_
            exact pb_iret (pc := 53) hQ d_Markup_skipSpace_53 rfl rfl (0, a) ⟨rfl, (by (try dsimp only); first | done | (with_reducible assumption) | omega (splitDisjunctions := false) | assumption | (clear fh9 hm9; first | omega (splitDisjunctions := false) | omega) | omega | decide), (by (try dsimp only); first | done | (with_reducible assumption) | omega (splitDisjunctions := false) | assumption | (clear fh9 hm9; first | omega (splitDisjunctions := false) | omega) | omega | decide), (by (try dsimp only); first | done | (with_reducible assumption) | omega (splitDisjunctions := false) | assumption | (clear fh9 hm9; first | omega (splitDisjunctions := false) | omega) | omega | decide), (show a.toInt - bg.toInt = sF (mB_ uf bg.toInt) (en.toInt - bg.toInt) (at_.toInt - bg.toInt) from (by rw [← kS_]; first | exact (sF_n (fun q9 => absurd (sF9.mpr q9) (by omega))).symm | exact (sF_o (by omega)).symm)), (show hid_ ((0 : Int32).toInt = 1 ∧ at_.toInt < a.toInt ∨ (0 : Int32).toInt = 0 ∧ a.toInt = at_.toInt) from (hid_i (by omega)))⟩ [0, 1] (by decide) rfl rfl (by decide) (by decide)
          · have tw17 : ¬ a.toInt ≤ at_.toInt := fun z9 => w17 ((ti_le rfl rfl).mpr z9)
            refine pb_iconst (pc := 48) (v := 1) d_Markup_skipSpace_48 (by decide) ?_
            refine pb_goto (pc := 49) (tgt := 53) d_Markup_skipSpace_49 (by decide) ?_
            exact pb_iret (pc := 53) hQ d_Markup_skipSpace_53 rfl rfl (1, a) ⟨rfl, (by (try dsimp only); first | done | (with_reducible assumption) | omega (splitDisjunctions := false) | assumption | (clear fh9 hm9; first | omega (splitDisjunctions := false) | omega) | omega | decide), (by (try dsimp only); first | done | (with_reducible assumption) | omega (splitDisjunctions := false) | assumption | (clear fh9 hm9; first | omega (splitDisjunctions := false) | omega) | omega | decide), (by (try dsimp only); first | done | (with_reducible assumption) | omega (splitDisjunctions := false) | assumption | (clear fh9 hm9; first | omega (splitDisjunctions := false) | omega) | omega | decide), (show a.toInt - bg.toInt = sF (mB_ uf bg.toInt) (en.toInt - bg.toInt) (at_.toInt - bg.toInt) from (by rw [← kS_]; first | exact (sF_n (fun q9 => absurd (sF9.mpr q9) (by omega))).symm | exact (sF_o (by omega)).symm)), (show hid_ ((1 : Int32).toInt = 1 ∧ at_.toInt < a.toInt ∨ (1 : Int32).toInt = 0 ∧ a.toInt = at_.toInt) from (hid_i (by omega)))⟩ [0, 1] (by decide) rfl rfl (by decide) (by decide)
        · have tw16 : ¬ r_13.toInt = 0 := fun z9 => w16 ((ti_eq rfl (by decide)).mpr z9)
          refine pb_aload_n (pc := 27) d_Markup_skipSpace_27 1 rfl rfl ?_
          refine pb_dup (pc := 28) d_Markup_skipSpace_28 rfl ?_
          refine pb_get (pc := 29) d_Markup_skipSpace_29 0 7 rfl rfl (by decide) in_Markup k_326 rfl ?_
          refine pb_iconst (pc := 32) (v := 1) d_Markup_skipSpace_32 (by decide) ?_
          refine pb_iadd (pc := 33) d_Markup_skipSpace_33 ?_
          refine pb_topi (fun i18 ei18 => ?_)
          try have ti18 : i18.toInt = a.toInt + 1 := t2_add ei18 rfl (by decide) (by omega)
          refine pb_put (pc := 34) (ty := .int) (ws' := [(h, .inr (8, [.ref ui, .ref ug, .ref uv, .ref ur, .int ct, .int fa, .int bg, .int i18, .int en, .int vs, .int io, .int hi, .int ht])), (ur, .inl (G.2.1, 12000, .inl uf))]) d_Markup_skipSpace_34 0 7 t_Markup t_Markup_ok n_Markup rfl rfl (by decide) in_Markup k_326 rfl (by decide +kernel) rfl rfl (Nat.le_of_ble_eq_true rfl) rfl ?_
          refine pb_goto (pc := 37) (tgt := 5) d_Markup_skipSpace_37 (by decide) ?_
          exact ih5 i18 (by first | (with_reducible assumption) | omega (splitDisjunctions := false) | assumption | (clear fh9 hm9; first | omega (splitDisjunctions := false) | omega) | omega | decide) (by first | (with_reducible assumption) | omega (splitDisjunctions := false) | assumption | (clear fh9 hm9; first | omega (splitDisjunctions := false) | omega) | omega | decide) (by rw [← kS_]; exact sF_y (sF9.mp (by omega)) (by omega)) (by first | (clear fh9; (exact omg_7c8a06b1f5 hm9 tw2 ti18)) | omega)
  exact hL5_1 _ at_ (by first | (with_reducible assumption) | omega (splitDisjunctions := false) | assumption | omega | decide) (by first | (with_reducible assumption) | omega (splitDisjunctions := false) | assumption | omega | decide) rfl (Nat.lt_succ_self _)

theorem d_Markup_skipLetters_0 : decode prog_7_method_20_code 0 = .ok (.aload_n 0, 1) := by decide +kernel
theorem d_Markup_skipLetters_1 : decode prog_7_method_20_code 1 = .ok (.getfield 48, 3) := by decide +kernel
theorem d_Markup_skipLetters_4 : decode prog_7_method_20_code 4 = .ok (.aload_n 0, 1) := by decide +kernel
theorem d_Markup_skipLetters_5 : decode prog_7_method_20_code 5 = .ok (.getfield 51, 3) := by decide +kernel
theorem d_Markup_skipLetters_8 : decode prog_7_method_20_code 8 = .ok (.if_icmp .ge 44, 3) := by decide +kernel
theorem d_Markup_skipLetters_52 : decode prog_7_method_20_code 52 = .ok (.return_, 1) := by decide +kernel
theorem d_Markup_skipLetters_11 : decode prog_7_method_20_code 11 = .ok (.aload_n 0, 1) := by decide +kernel
theorem d_Markup_skipLetters_12 : decode prog_7_method_20_code 12 = .ok (.getfield 23, 3) := by decide +kernel
theorem d_Markup_skipLetters_15 : decode prog_7_method_20_code 15 = .ok (.aload_n 0, 1) := by decide +kernel
theorem d_Markup_skipLetters_16 : decode prog_7_method_20_code 16 = .ok (.getfield 48, 3) := by decide +kernel
theorem d_Markup_skipLetters_19 : decode prog_7_method_20_code 19 = .ok (.baload, 1) := by decide +kernel
theorem d_Markup_skipLetters_20 : decode prog_7_method_20_code 20 = .ok (.bipush 97, 2) := by decide +kernel
theorem d_Markup_skipLetters_22 : decode prog_7_method_20_code 22 = .ok (.if_icmp .lt 30, 3) := by decide +kernel
theorem d_Markup_skipLetters_25 : decode prog_7_method_20_code 25 = .ok (.aload_n 0, 1) := by decide +kernel
theorem d_Markup_skipLetters_26 : decode prog_7_method_20_code 26 = .ok (.getfield 23, 3) := by decide +kernel
theorem d_Markup_skipLetters_29 : decode prog_7_method_20_code 29 = .ok (.aload_n 0, 1) := by decide +kernel
theorem d_Markup_skipLetters_30 : decode prog_7_method_20_code 30 = .ok (.getfield 48, 3) := by decide +kernel
theorem d_Markup_skipLetters_33 : decode prog_7_method_20_code 33 = .ok (.baload, 1) := by decide +kernel
theorem d_Markup_skipLetters_34 : decode prog_7_method_20_code 34 = .ok (.bipush 122, 2) := by decide +kernel
theorem d_Markup_skipLetters_36 : decode prog_7_method_20_code 36 = .ok (.if_icmp .gt 16, 3) := by decide +kernel
theorem d_Markup_skipLetters_39 : decode prog_7_method_20_code 39 = .ok (.aload_n 0, 1) := by decide +kernel
theorem d_Markup_skipLetters_40 : decode prog_7_method_20_code 40 = .ok (.dup, 1) := by decide +kernel
theorem d_Markup_skipLetters_41 : decode prog_7_method_20_code 41 = .ok (.getfield 48, 3) := by decide +kernel
theorem d_Markup_skipLetters_44 : decode prog_7_method_20_code 44 = .ok (.iconst 1, 1) := by decide +kernel
theorem d_Markup_skipLetters_45 : decode prog_7_method_20_code 45 = .ok (.iadd, 1) := by decide +kernel
theorem d_Markup_skipLetters_46 : decode prog_7_method_20_code 46 = .ok (.putfield 48, 3) := by decide +kernel
theorem d_Markup_skipLetters_49 : decode prog_7_method_20_code 49 = .ok (.goto (-49), 3) := by decide +kernel
abbrev y_Markup_skipLetters : MethodName := ⟨"PackageBook$Markup", "skipLetters", "()V"⟩
abbrev i_Markup_skipLetters : pb_I := (y_Markup_skipLetters, prog_7_method_20_code, 1, (Option.none : Option Jvm.ClassFile.FieldType), [], { frames := 0, cells := 0, slots := 0, locals := 0 })
set_option maxRecDepth 100000 in
set_option maxHeartbeats 4000000 in
theorem g_Mu_skipLetters {l : Launch} (hl : l.stackTraces = false) (G : pb_G) (h : Nat) (ui : Nat) (ug : Nat) (uv : Nat) (ur : Nat) (ct : Int32) (fa : Int32) (bg : Int32) (at_ : Int32) (en : Int32) (vs : Int32) (io : Int32) (hi : Int32) (ht : Int32) (uf : Nat → Int32) (a0 : 0 ≤ at_.toInt) (a1 : at_.toInt ≤ en.toInt) (a2 : en.toInt ≤ 12000) (a3 : 0 ≤ bg.toInt) (a4 : bg.toInt ≤ at_.toInt) (F_uf : sb_Fit uf) : Cn l G i_Markup_skipLetters [.ref h] [(h, .inr (8, [.ref ui, .ref ug, .ref uv, .ref ur, .int ct, .int fa, .int bg, .int at_, .int en, .int vs, .int io, .int hi, .int ht])), (ur, .inl (G.2.1, 12000, .inl uf))] (S := Int32) (fun rv_ u => rv_ = none ∧ (at_.toInt ≤ u.toInt) ∧ (u.toInt ≤ en.toInt) ∧ (u.toInt - bg.toInt = lF (mB_ uf bg.toInt) (en.toInt - bg.toInt) (at_.toInt - bg.toInt))) (fun u => [(h, .inr (8, [.ref ui, .ref ug, .ref uv, .ref ur, .int ct, .int fa, .int bg, .int u, .int en, .int vs, .int io, .int hi, .int ht])), (ur, .inl (G.2.1, 12000, .inl uf))]) := by
  refine Cn.of hl (by decide +kernel) rfl (Nat.le_of_ble_eq_true rfl) (fun M hQ => ?_)
  refine pb_eq (pc' := 0) (lo' := [(0, .ref h)]) (rest' := []) (ws' := [(h, .inr (8, [.ref ui, .ref ug, .ref uv, .ref ur, .int ct, .int fa, .int bg, .int at_, .int en, .int vs, .int io, .int hi, .int ht])), (ur, .inl (G.2.1, 12000, .inl uf))]) ?_
  have zl0 : (0 : Int32).toInt = 0 := by decide
  have zl1 : (1 : Int32).toInt = 1 := by decide
  have hL0_1 : ∀ (N9 : Nat) (a : Int32), (at_.toInt ≤ a.toInt) → (a.toInt ≤ en.toInt) → (lF (mB_ uf bg.toInt) (en.toInt - bg.toInt) (a.toInt - bg.toInt) = lF (mB_ uf bg.toInt) (en.toInt - bg.toInt) (at_.toInt - bg.toInt)) → ((en.toInt - a.toInt).toNat) < N9 → pb_P l G M i_Markup_skipLetters 0 [(0, .ref h)] [] [(h, .inr (8, [.ref ui, .ref ug, .ref uv, .ref ur, .int ct, .int fa, .int bg, .int a, .int en, .int vs, .int io, .int hi, .int ht])), (ur, .inl (G.2.1, 12000, .inl uf))] 0 0 := by
    intro N9
    induction N9 with
    | zero => intro a k0 k1 kl hm9; exact absurd hm9 (Nat.not_lt_zero _)
    | succ N9 ih0 =>
      intro a k0 k1 kl hm9
      refine pb_aload_n (pc := 0) d_Markup_skipLetters_0 0 rfl rfl ?_
      refine pb_get (pc := 1) d_Markup_skipLetters_1 0 7 rfl rfl (by decide) in_Markup k_326 rfl ?_
      refine pb_aload_n (pc := 4) d_Markup_skipLetters_4 0 rfl rfl ?_
      refine pb_get (pc := 5) d_Markup_skipLetters_5 0 8 rfl rfl (by decide) in_Markup k_327 rfl ?_
      refine pb_icmp_ge (pc := 8) (tgt := 52) d_Markup_skipLetters_8 (by decide) (fun w2 => ?_) (fun w2 => ?_)
      · have tw2 : en.toInt ≤ a.toInt := (ti_le rfl rfl).mp w2
        exact pb_vret (pc := 52) hQ d_Markup_skipLetters_52 rfl (a) ⟨rfl, (by (try dsimp only); first | done | (with_reducible assumption) | omega (splitDisjunctions := false) | assumption | omega | decide), (by (try dsimp only); first | done | (with_reducible assumption) | omega (splitDisjunctions := false) | assumption | omega | decide), (show a.toInt - bg.toInt = lF (mB_ uf bg.toInt) (en.toInt - bg.toInt) (at_.toInt - bg.toInt) from (by rw [← kl]; first | exact (lF_n (by omega)).symm | exact (lF_o (by omega)).symm))⟩ [0, 1] (by decide) rfl rfl (by decide) (by decide)
      · have tw2 : ¬ en.toInt ≤ a.toInt := fun z9 => w2 ((ti_le rfl rfl).mpr z9)
        refine pb_aload_n (pc := 11) d_Markup_skipLetters_11 0 rfl rfl ?_
        refine pb_get (pc := 12) d_Markup_skipLetters_12 0 3 rfl rfl (by decide) in_Markup k_320 rfl ?_
        refine pb_aload_n (pc := 15) d_Markup_skipLetters_15 0 rfl rfl ?_
        refine pb_get (pc := 16) d_Markup_skipLetters_16 0 7 rfl rfl (by decide) in_Markup k_326 rfl ?_
        refine pb_bald (pc := 19) d_Markup_skipLetters_19 1 rfl (vp_in_iff.mpr (by omega)) ?_
        refine pb_topi (fun i3 ei3 => ?_)
        have xi3 : i3 = gr uf (bg.toInt + (a.toInt - bg.toInt)) := gr_ld ei3 (by omega)
        have yi3 : i3.toInt = gx uf (bg.toInt + (a.toInt - bg.toInt)) := congrArg Int32.toInt xi3
        have ti3 : -128 ≤ i3.toInt ∧ i3.toInt ≤ 127 := ti_fit (F_uf _) ei3
        have sg1 := cm_sg (B := (mB_ uf bg.toInt)) (n := (en.toInt - bg.toInt)) (j := a.toInt - bg.toInt) xi3 ti3 (by omega) (by omega)
        refine pb_bipush (pc := 20) (v := 97) d_Markup_skipLetters_20 (by decide) ?_
        refine pb_icmp_lt (pc := 22) (tgt := 52) d_Markup_skipLetters_22 (by decide) (fun w4 => ?_) (fun w4 => ?_)
        · have tw4 : i3.toInt < 97 := (ti_lt rfl (by decide)).mp w4
          exact pb_vret (pc := 52) hQ d_Markup_skipLetters_52 rfl (a) ⟨rfl, (by (try dsimp only); first | done | (with_reducible assumption) | omega (splitDisjunctions := false) | assumption | omega | decide), (by (try dsimp only); first | done | (with_reducible assumption) | omega (splitDisjunctions := false) | assumption | omega | decide), (show a.toInt - bg.toInt = lF (mB_ uf bg.toInt) (en.toInt - bg.toInt) (at_.toInt - bg.toInt) from (by rw [← kl]; first | exact (lF_n (by omega)).symm | exact (lF_o (by omega)).symm))⟩ [0, 1] (by decide) rfl rfl (by decide) (by decide)
        · have tw4 : ¬ i3.toInt < 97 := fun z9 => w4 ((ti_lt rfl (by decide)).mpr z9)
          refine pb_aload_n (pc := 25) d_Markup_skipLetters_25 0 rfl rfl ?_
          refine pb_get (pc := 26) d_Markup_skipLetters_26 0 3 rfl rfl (by decide) in_Markup k_320 rfl ?_
          refine pb_aload_n (pc := 29) d_Markup_skipLetters_29 0 rfl rfl ?_
          refine pb_get (pc := 30) d_Markup_skipLetters_30 0 7 rfl rfl (by decide) in_Markup k_326 rfl ?_
          refine pb_bald (pc := 33) d_Markup_skipLetters_33 1 rfl (vp_in_iff.mpr (by omega)) ?_
          refine pb_topi (fun i5 ei5 => ?_)
          have xi5 : i5 = gr uf (bg.toInt + (a.toInt - bg.toInt)) := gr_ld ei5 (by omega)
          have yi5 : i5.toInt = gx uf (bg.toInt + (a.toInt - bg.toInt)) := congrArg Int32.toInt xi5
          have ti5 : -128 ≤ i5.toInt ∧ i5.toInt ≤ 127 := ti_fit (F_uf _) ei5
          have sg2 := cm_sg (B := (mB_ uf bg.toInt)) (n := (en.toInt - bg.toInt)) (j := a.toInt - bg.toInt) xi5 ti5 (by omega) (by omega)
          refine pb_bipush (pc := 34) (v := 122) d_Markup_skipLetters_34 (by decide) ?_
          refine pb_icmp_gt (pc := 36) (tgt := 52) d_Markup_skipLetters_36 (by decide) (fun w6 => ?_) (fun w6 => ?_)
          · have tw6 : 122 < i5.toInt := (ti_lt (by decide) rfl).mp w6
            exact pb_vret (pc := 52) hQ d_Markup_skipLetters_52 rfl (a) ⟨rfl, (by (try dsimp only); first | done | (with_reducible assumption) | omega (splitDisjunctions := false) | assumption | omega | decide), (by (try dsimp only); first | done | (with_reducible assumption) | omega (splitDisjunctions := false) | assumption | omega | decide), (show a.toInt - bg.toInt = lF (mB_ uf bg.toInt) (en.toInt - bg.toInt) (at_.toInt - bg.toInt) from (by rw [← kl]; first | exact (lF_n (by omega)).symm | exact (lF_o (by omega)).symm))⟩ [0, 1] (by decide) rfl rfl (by decide) (by decide)
          · have tw6 : ¬ 122 < i5.toInt := fun z9 => w6 ((ti_lt (by decide) rfl).mpr z9)
            refine pb_aload_n (pc := 39) d_Markup_skipLetters_39 0 rfl rfl ?_
            refine pb_dup (pc := 40) d_Markup_skipLetters_40 rfl ?_
            refine pb_get (pc := 41) d_Markup_skipLetters_41 0 7 rfl rfl (by decide) in_Markup k_326 rfl ?_
            refine pb_iconst (pc := 44) (v := 1) d_Markup_skipLetters_44 (by decide) ?_
            refine pb_iadd (pc := 45) d_Markup_skipLetters_45 ?_
            refine pb_topi (fun i7 ei7 => ?_)
            try have ti7 : i7.toInt = a.toInt + 1 := t2_add ei7 rfl (by decide) (by omega)
            refine pb_put (pc := 46) (ty := .int) (ws' := [(h, .inr (8, [.ref ui, .ref ug, .ref uv, .ref ur, .int ct, .int fa, .int bg, .int i7, .int en, .int vs, .int io, .int hi, .int ht])), (ur, .inl (G.2.1, 12000, .inl uf))]) d_Markup_skipLetters_46 0 7 t_Markup t_Markup_ok n_Markup rfl rfl (by decide) in_Markup k_326 rfl (by decide +kernel) rfl rfl (Nat.le_of_ble_eq_true rfl) rfl ?_
            refine pb_goto (pc := 49) (tgt := 0) d_Markup_skipLetters_49 (by decide) ?_
            exact ih0 i7 (by first | (with_reducible assumption) | omega (splitDisjunctions := false) | assumption | omega | decide) (by first | (with_reducible assumption) | omega (splitDisjunctions := false) | assumption | omega | decide) (by rw [← kl]; exact lF_y (by (exact omg_4c27f0e6a7 yi3 tw4 yi5 sg2 tw6)) (by omega)) (by (exact omg_7c8a06b1f5 hm9 tw2 ti7))
  exact hL0_1 _ at_ (by first | (with_reducible assumption) | omega (splitDisjunctions := false) | assumption | omega | decide) (by first | (with_reducible assumption) | omega (splitDisjunctions := false) | assumption | omega | decide) rfl (Nat.lt_succ_self _)

theorem d_Markup_takeText_0 : decode prog_7_method_21_code 0 = .ok (.iconst 0, 1) := by decide +kernel
theorem d_Markup_takeText_1 : decode prog_7_method_21_code 1 = .ok (.istore_n 2, 1) := by decide +kernel
theorem d_Markup_takeText_2 : decode prog_7_method_21_code 2 = .ok (.iload_n 2, 1) := by decide +kernel
theorem d_Markup_takeText_3 : decode prog_7_method_21_code 3 = .ok (.aload_n 1, 1) := by decide +kernel
theorem d_Markup_takeText_4 : decode prog_7_method_21_code 4 = .ok (.invokevirtual 175, 3) := by decide +kernel
theorem k_826 : (Jvm.Cond.methodLink "PackageBook$Markup" (175 : Nat) ({ cls := "java/lang/String", name := "length", desc := "()I" } : Jvm.MethodName)) ∈ uW := uW_c2 229 rfl (by decide +kernel)
theorem d_Markup_takeText_7 : decode prog_7_method_21_code 7 = .ok (.if_icmp .ge 41, 3) := by decide +kernel
theorem d_Markup_takeText_48 : decode prog_7_method_21_code 48 = .ok (.iconst 1, 1) := by decide +kernel
theorem d_Markup_takeText_49 : decode prog_7_method_21_code 49 = .ok (.ireturn, 1) := by decide +kernel
theorem d_Markup_takeText_10 : decode prog_7_method_21_code 10 = .ok (.aload_n 0, 1) := by decide +kernel
theorem d_Markup_takeText_11 : decode prog_7_method_21_code 11 = .ok (.iconst 0, 1) := by decide +kernel
theorem d_Markup_takeText_12 : decode prog_7_method_21_code 12 = .ok (.invokevirtual 80, 3) := by decide +kernel
theorem d_Markup_takeText_15 : decode prog_7_method_21_code 15 = .ok (.aload_n 1, 1) := by decide +kernel
theorem d_Markup_takeText_16 : decode prog_7_method_21_code 16 = .ok (.iload_n 2, 1) := by decide +kernel
theorem d_Markup_takeText_17 : decode prog_7_method_21_code 17 = .ok (.invokevirtual 180, 3) := by decide +kernel
theorem k_827 : (Jvm.Cond.methodLink "PackageBook$Markup" (180 : Nat) ({ cls := "java/lang/String", name := "charAt", desc := "(I)C" } : Jvm.MethodName)) ∈ uW := uW_c2 230 rfl (by decide +kernel)
theorem d_Markup_takeText_20 : decode prog_7_method_21_code 20 = .ok (.if_icmp .eq 12, 3) := by decide +kernel
theorem d_Markup_takeText_32 : decode prog_7_method_21_code 32 = .ok (.aload_n 0, 1) := by decide +kernel
theorem d_Markup_takeText_33 : decode prog_7_method_21_code 33 = .ok (.dup, 1) := by decide +kernel
theorem d_Markup_takeText_34 : decode prog_7_method_21_code 34 = .ok (.getfield 48, 3) := by decide +kernel
theorem d_Markup_takeText_37 : decode prog_7_method_21_code 37 = .ok (.iconst 1, 1) := by decide +kernel
theorem d_Markup_takeText_38 : decode prog_7_method_21_code 38 = .ok (.iadd, 1) := by decide +kernel
theorem d_Markup_takeText_39 : decode prog_7_method_21_code 39 = .ok (.putfield 48, 3) := by decide +kernel
theorem d_Markup_takeText_42 : decode prog_7_method_21_code 42 = .ok (.iinc 2 1, 3) := by decide +kernel
theorem d_Markup_takeText_45 : decode prog_7_method_21_code 45 = .ok (.goto (-43), 3) := by decide +kernel
theorem d_Markup_takeText_23 : decode prog_7_method_21_code 23 = .ok (.aload_n 0, 1) := by decide +kernel
theorem d_Markup_takeText_24 : decode prog_7_method_21_code 24 = .ok (.aload_n 0, 1) := by decide +kernel
theorem d_Markup_takeText_25 : decode prog_7_method_21_code 25 = .ok (.getfield 48, 3) := by decide +kernel
theorem d_Markup_takeText_28 : decode prog_7_method_21_code 28 = .ok (.invokevirtual 96, 3) := by decide +kernel
theorem k_828 : (Jvm.Cond.methodLink "PackageBook$Markup" (96 : Nat) ({ cls := "PackageBook$Markup", name := "fail", desc := "(I)Z" } : Jvm.MethodName)) ∈ uW := uW_c2 231 rfl (by decide +kernel)
theorem k_831 : (Jvm.Cond.code ({ cls := "PackageBook$Markup", name := "fail", desc := "(I)Z" } : Jvm.MethodName) prog_7_method_25_code (2 : Nat) (Option.some Jvm.ClassFile.FieldType.boolean)) ∈ uW := uW_c2 234 rfl (by decide +kernel)
theorem k_830 : (Jvm.Cond.instanceMethod ({ cls := "PackageBook$Markup", name := "fail", desc := "(I)Z" } : Jvm.MethodName)) ∈ uW := uW_c2 233 rfl (by decide +kernel)
theorem k_36 : Cond.selects "PackageBook$Markup" ⟨"PackageBook$Markup", "fail", "(I)Z"⟩ ⟨"PackageBook$Markup", "fail", "(I)Z"⟩ ∈ uW := uW_of 36 (by decide +kernel) (by decide +kernel)
theorem hy_Markup_fail : (y_Markup_fail).cls ≠ "java/lang/invoke/MethodHandle" ∧ (y_Markup_fail).cls ≠ "java/lang/invoke/VarHandle" ∧ (parseMethodDescriptor (y_Markup_fail).desc).map (fun d => d.parameters.length) = some 1 := by decide +kernel
theorem d_Markup_takeText_31 : decode prog_7_method_21_code 31 = .ok (.ireturn, 1) := by decide +kernel
abbrev y_Markup_takeText : MethodName := ⟨"PackageBook$Markup", "takeText", "(Ljava/lang/String;)Z"⟩
abbrev i_Markup_takeText : pb_I := (y_Markup_takeText, prog_7_method_21_code, 3, (some Jvm.ClassFile.FieldType.boolean), [], { frames := 4, cells := 0, slots := 0, locals := 85 })
set_option maxRecDepth 100000 in
set_option maxHeartbeats 4000000 in
theorem g_Mu_takeText {l : Launch} (hl : l.stackTraces = false) (G : pb_G) (h : Nat) (ui : Nat) (ug : Nat) (uv : Nat) (ur : Nat) (ct : Int32) (fa : Int32) (bg : Int32) (at_ : Int32) (en : Int32) (vs : Int32) (io : Int32) (hi : Int32) (ht : Int32) (uf : Nat → Int32) (k : Nat) (a0 : 0 ≤ at_.toInt) (a1 : at_.toInt ≤ en.toInt) (a2 : en.toInt ≤ 12000) (a3 : 0 ≤ bg.toInt) (a4 : bg.toInt ≤ at_.toInt) (hk : k < st_n) (F_uf : sb_Fit uf) : Cn l G i_Markup_takeText [.ref h, .ref (G.2.2.2.2.2.1 k)] [(h, .inr (8, [.ref ui, .ref ug, .ref uv, .ref ur, .int ct, .int fa, .int bg, .int at_, .int en, .int vs, .int io, .int hi, .int ht])), (ur, .inl (G.2.1, 12000, .inl uf))] (S := Int32 × Int32 × Int32) (fun rv_ u => rv_ = some (.int u.1) ∧ (u.1.toInt = 0 ∨ u.1.toInt = 1) ∧ (at_.toInt ≤ u.2.1.toInt) ∧ (u.2.1.toInt ≤ en.toInt) ∧ (oy_ u.1.toInt (u.2.1.toInt - bg.toInt) = wk_ (mB_ uf bg.toInt) (en.toInt - bg.toInt) (st_c k) (st_len k).toNat (at_.toInt - bg.toInt)) ∧ (ft_ u.1.toInt fa.toInt u.2.2.toInt)) (fun u => [(h, .inr (8, [.ref ui, .ref ug, .ref uv, .ref ur, .int ct, .int u.2.2, .int bg, .int u.2.1, .int en, .int vs, .int io, .int hi, .int ht])), (ur, .inl (G.2.1, 12000, .inl uf))]) := by
  refine Cn.of hl (by decide +kernel) rfl (Nat.le_of_ble_eq_true rfl) (fun M hQ => ?_)
  refine pb_eq (pc' := 0) (lo' := [(0, .ref h), (1, .ref (G.2.2.2.2.2.1 k))]) (rest' := []) (ws' := [(h, .inr (8, [.ref ui, .ref ug, .ref uv, .ref ur, .int ct, .int fa, .int bg, .int at_, .int en, .int vs, .int io, .int hi, .int ht])), (ur, .inl (G.2.1, 12000, .inl uf))]) ?_
  have zl0 : (0 : Int32).toInt = 0 := by decide
  have zl1 : (1 : Int32).toInt = 1 := by decide
  have sl := st_len_rng k
  refine pb_iconst (pc := 0) (v := 0) d_Markup_takeText_0 (by decide) ?_
  refine pb_istore_n (pc := 1) (lo' := [(2, .int 0), (0, .ref h), (1, .ref (G.2.2.2.2.2.1 k))]) d_Markup_takeText_1 rfl (by decide) rfl ?_
  have hL2_1 : ∀ (N9 : Nat) (j : Int32) (a : Int32), (at_.toInt ≤ a.toInt) → (a.toInt ≤ en.toInt) → (0 ≤ j.toInt) → (j.toInt ≤ st_len k) → (wk_ (mB_ uf bg.toInt) (en.toInt - bg.toInt) (st_c k) j.toInt.toNat (at_.toInt - bg.toInt) = some (a.toInt - bg.toInt)) → ((st_len k - j.toInt).toNat) < N9 → pb_P l G M i_Markup_takeText 2 [(2, .int j), (0, .ref h), (1, .ref (G.2.2.2.2.2.1 k))] [] [(h, .inr (8, [.ref ui, .ref ug, .ref uv, .ref ur, .int ct, .int fa, .int bg, .int a, .int en, .int vs, .int io, .int hi, .int ht])), (ur, .inl (G.2.1, 12000, .inl uf))] 0 0 := by
    intro N9
    induction N9 with
    | zero => intro j a k0 k1 k2 k3 kW hm9; exact absurd hm9 (Nat.not_lt_zero _)
    | succ N9 ih2 =>
      intro j a k0 k1 k2 k3 kW hm9
      refine pb_iload_n (pc := 2) d_Markup_takeText_2 0 rfl rfl ?_
      refine pb_aload_n (pc := 3) d_Markup_takeText_3 2 rfl rfl ?_
      refine pb_callVS (pc := 4) (I := i_Markup_takeText) (k := k) (nA := 0) (rest := [.int j]) (wr := [(h, .inr (8, [.ref ui, .ref ug, .ref uv, .ref ur, .int ct, .int fa, .int bg, .int a, .int en, .int vs, .int io, .int hi, .int ht])), (ur, .inl (G.2.1, 12000, .inl uf))]) d_Markup_takeText_4 (g_Str_length hl G k (by first | assumption | decide | omega)) hk rfl [] [0, 1] (by decide) rfl rfl rfl (by decide) (by decide) k_744 rfl k_138 k_826 k_742 k_743 ⟨rfl, hy_JString_length⟩ (by decide) rfl rfl (Nat.le_of_ble_eq_true rfl) (by decide) (fun v9 u3 ch2 => ?_)
      obtain ⟨r_4, rfl⟩ : ∃ z9, z9 = u3 := ⟨_, rfl⟩
      obtain ⟨ech2, ch2⟩ := ch2
      have ech2 : v9 = some (.int r_4) := ech2
      subst ech2
      have fh5 : r_4.toInt = st_len k := ch2
      refine pb_eq (pc' := 7) (lo' := [(2, .int j), (0, .ref h), (1, .ref (G.2.2.2.2.2.1 k))]) (rest' := [.int r_4, .int j]) (ws' := [(h, .inr (8, [.ref ui, .ref ug, .ref uv, .ref ur, .int ct, .int fa, .int bg, .int a, .int en, .int vs, .int io, .int hi, .int ht])), (ur, .inl (G.2.1, 12000, .inl uf))]) ?_
      refine pb_icmp_ge (pc := 7) (tgt := 48) d_Markup_takeText_7 (by decide) (fun w6 => ?_) (fun w6 => ?_)
      · have tw6 : r_4.toInt ≤ j.toInt := (ti_le rfl rfl).mp w6
        refine pb_iconst (pc := 48) (v := 1) d_Markup_takeText_48 (by decide) ?_
        exact pb_iret (pc := 49) hQ d_Markup_takeText_49 rfl rfl (1, a, fa) ⟨rfl, (by (try dsimp only); first | done | (with_reducible assumption) | omega (splitDisjunctions := false) | assumption | omega | decide), (by (try dsimp only); first | done | (with_reducible assumption) | omega (splitDisjunctions := false) | assumption | omega | decide), (by (try dsimp only); first | done | (with_reducible assumption) | omega (splitDisjunctions := false) | assumption | omega | decide), (show oy_ (1 : Int32).toInt (a.toInt - bg.toInt) = wk_ (mB_ uf bg.toInt) (en.toInt - bg.toInt) (st_c k) (st_len k).toNat (at_.toInt - bg.toInt) from (by rw [oy_t (by omega), show st_len k = j.toInt by omega]; exact kW.symm)), (show ft_ (1 : Int32).toInt fa.toInt fa.toInt from (by unfold ft_; omega))⟩ [0, 1] (by decide) rfl rfl (by decide) (by decide)
      · have tw6 : ¬ r_4.toInt ≤ j.toInt := fun z9 => w6 ((ti_le rfl rfl).mpr z9)
        refine pb_aload_n (pc := 10) d_Markup_takeText_10 1 rfl rfl ?_
        refine pb_iconst (pc := 11) (v := 0) d_Markup_takeText_11 (by decide) ?_
        refine pb_callV (pc := 12) (I := i_Markup_takeText) (qb := 0) (ci := 8) (nA := 1) (rest := []) (wr := []) d_Markup_takeText_12 (g_Mu_next hl G h ui ug uv ur ct fa bg a en vs io hi ht uf 0 (by first | (with_reducible assumption) | omega (splitDisjunctions := false) | assumption | omega | decide) (by first | (with_reducible assumption) | omega (splitDisjunctions := false) | assumption | omega | decide) (by first | (with_reducible assumption) | omega (splitDisjunctions := false) | assumption | omega | decide) (by first | (with_reducible assumption) | omega (splitDisjunctions := false) | assumption | omega | decide) (by first | (with_reducible assumption) | omega (splitDisjunctions := false) | assumption | omega | decide) (by first | (with_reducible assumption) | omega (splitDisjunctions := false) | assumption | omega | decide) (by first | (with_reducible assumption) | omega (splitDisjunctions := false) | assumption | omega | decide) F_uf) rfl rfl [0, 1] [] (by decide) rfl rfl rfl (by decide) (by decide) k_813 rfl k_125 k_810 k_812 k_33 ⟨rfl, hy_Markup_next⟩ (by decide) rfl rfl (Nat.le_of_ble_eq_true rfl) (by decide) (fun v9 u8 ch7 => ?_)
        obtain ⟨r_9, rfl⟩ : ∃ z9, z9 = u8 := ⟨_, rfl⟩
        obtain ⟨ech7, ch7⟩ := ch7
        have ech7 : v9 = some (.int r_9) := ech7
        subst ech7
        obtain ⟨fh10, fh11, fh12, fh13⟩ : (-1 ≤ r_9.toInt) ∧ (r_9.toInt ≤ 255) ∧ (0 ≤ r_9.toInt → a.toInt + (0 : Int32).toInt < en.toInt) ∧ (r_9.toInt = cm_ (mB_ uf bg.toInt) (en.toInt - bg.toInt) ((a.toInt - bg.toInt) + (0 : Int32).toInt)) := ch7
        have hF := fh13
        rw [zl0, Int.add_zero] at hF
        refine pb_eq (pc' := 15) (lo' := [(2, .int j), (0, .ref h), (1, .ref (G.2.2.2.2.2.1 k))]) (rest' := [.int r_9]) (ws' := [(h, .inr (8, [.ref ui, .ref ug, .ref uv, .ref ur, .int ct, .int fa, .int bg, .int a, .int en, .int vs, .int io, .int hi, .int ht])), (ur, .inl (G.2.1, 12000, .inl uf))]) ?_
        refine pb_aload_n (pc := 15) d_Markup_takeText_15 2 rfl rfl ?_
        refine pb_iload_n (pc := 16) d_Markup_takeText_16 0 rfl rfl ?_
        refine pb_callVS (pc := 17) (I := i_Markup_takeText) (k := k) (nA := 1) (rest := [.int r_9]) (wr := [(h, .inr (8, [.ref ui, .ref ug, .ref uv, .ref ur, .int ct, .int fa, .int bg, .int a, .int en, .int vs, .int io, .int hi, .int ht])), (ur, .inl (G.2.1, 12000, .inl uf))]) d_Markup_takeText_17 (g_Str_charAt hl G k j (by first | assumption | decide | omega) (by first | (with_reducible assumption) | omega (splitDisjunctions := false) | assumption | (clear fh12 hm9; first | omega (splitDisjunctions := false) | omega) | omega | decide) (by first | (with_reducible assumption) | omega (splitDisjunctions := false) | assumption | (clear fh12 hm9; first | omega (splitDisjunctions := false) | omega) | omega | decide)) hk rfl [] [0, 1] (by decide) rfl rfl rfl (by decide) (by decide) k_754 rfl k_138 k_827 k_752 k_753 ⟨rfl, hy_JString_charAt⟩ (by decide) rfl rfl (Nat.le_of_ble_eq_true rfl) (by decide) (fun v9 u15 ch14 => ?_)
        obtain ⟨r_16, rfl⟩ : ∃ z9, z9 = u15 := ⟨_, rfl⟩
        obtain ⟨ech14, ch14⟩ := ch14
        have ech14 : v9 = some (.int r_16) := ech14
        subst ech14
        obtain ⟨fh17, fh18, fh19⟩ : (0 ≤ r_16.toInt) ∧ (r_16.toInt ≤ 255) ∧ (r_16.toInt = st_c k j.toInt) := ch14
        have cF9 := fh19
        refine pb_eq (pc' := 20) (lo' := [(2, .int j), (0, .ref h), (1, .ref (G.2.2.2.2.2.1 k))]) (rest' := [.int r_16, .int r_9]) (ws' := [(h, .inr (8, [.ref ui, .ref ug, .ref uv, .ref ur, .int ct, .int fa, .int bg, .int a, .int en, .int vs, .int io, .int hi, .int ht])), (ur, .inl (G.2.1, 12000, .inl uf))]) ?_
        refine pb_icmp_eq (pc := 20) (tgt := 32) d_Markup_takeText_20 (by decide) (fun w20 => ?_) (fun w20 => ?_)
        · have tw20 : r_9.toInt = r_16.toInt := (ti_eq rfl rfl).mp w20
          refine pb_aload_n (pc := 32) d_Markup_takeText_32 1 rfl rfl ?_
          refine pb_dup (pc := 33) d_Markup_takeText_33 rfl ?_
          refine pb_get (pc := 34) d_Markup_takeText_34 0 7 rfl rfl (by decide) in_Markup k_326 rfl ?_
          refine pb_iconst (pc := 37) (v := 1) d_Markup_takeText_37 (by decide) ?_
          refine pb_iadd (pc := 38) d_Markup_takeText_38 ?_
          refine pb_topi (fun i21 ei21 => ?_)
          try have ti21 : i21.toInt = a.toInt + 1 := t2_add ei21 rfl (by decide) (by omega)
          refine pb_put (pc := 39) (ty := .int) (ws' := [(h, .inr (8, [.ref ui, .ref ug, .ref uv, .ref ur, .int ct, .int fa, .int bg, .int i21, .int en, .int vs, .int io, .int hi, .int ht])), (ur, .inl (G.2.1, 12000, .inl uf))]) d_Markup_takeText_39 0 7 t_Markup t_Markup_ok n_Markup rfl rfl (by decide) in_Markup k_326 rfl (by decide +kernel) rfl rfl (Nat.le_of_ble_eq_true rfl) rfl ?_
          refine pb_iincN (pc := 42) (c := 1) d_Markup_takeText_42 0 rfl (by decide) (by decide) (fun i22 ei22 => ?_)
          have ti22 : i22.toInt = j.toInt + 1 := t2_add ei22 rfl (by decide) (by first | omega | (have r90 := ti_rng i22; omega))
          refine pb_eq (pc' := 45) (lo' := [(2, .int i22), (0, .ref h), (1, .ref (G.2.2.2.2.2.1 k))]) (rest' := []) (ws' := [(h, .inr (8, [.ref ui, .ref ug, .ref uv, .ref ur, .int ct, .int fa, .int bg, .int i21, .int en, .int vs, .int io, .int hi, .int ht])), (ur, .inl (G.2.1, 12000, .inl uf))]) ?_
          refine pb_goto (pc := 45) (tgt := 2) d_Markup_takeText_45 (by decide) ?_
          exact ih2 i22 i21 (by first | (with_reducible assumption) | omega (splitDisjunctions := false) | assumption | (clear fh12 hm9; first | omega (splitDisjunctions := false) | omega) | omega | decide) (by first | (with_reducible assumption) | omega (splitDisjunctions := false) | assumption | (clear fh12 hm9; first | omega (splitDisjunctions := false) | omega) | omega | decide) (by first | (with_reducible assumption) | omega (splitDisjunctions := false) | assumption | (clear fh12 hm9; first | omega (splitDisjunctions := false) | omega) | omega | decide) (by first | (with_reducible assumption) | omega (splitDisjunctions := false) | assumption | (clear fh12 hm9; first | omega (splitDisjunctions := false) | omega) | omega | decide) (wk_y kW (by omega) k2 (by omega) (by omega)) (by first | (clear fh12; (exact omg_b30a0bed9f hm9 ch2 tw6 ti22)) | omega)
        · have tw20 : ¬ r_9.toInt = r_16.toInt := fun z9 => w20 ((ti_eq rfl rfl).mpr z9)
          refine pb_aload_n (pc := 23) d_Markup_takeText_23 1 rfl rfl ?_
          refine pb_aload_n (pc := 24) d_Markup_takeText_24 1 rfl rfl ?_
          refine pb_get (pc := 25) d_Markup_takeText_25 0 7 rfl rfl (by decide) in_Markup k_326 rfl ?_
          refine pb_callV (pc := 28) (I := i_Markup_takeText) (qb := 0) (ci := 8) (nA := 1) (rest := []) (wr := [(ur, .inl (G.2.1, 12000, .inl uf))]) d_Markup_takeText_28 (g_Mu_fail hl G h ui ug uv ur ct fa bg a en vs io hi ht a (by first | (with_reducible assumption) | omega (splitDisjunctions := false) | assumption | (clear fh12 hm9; first | omega (splitDisjunctions := false) | omega) | omega | decide) (by first | (with_reducible assumption) | omega (splitDisjunctions := false) | assumption | (clear fh12 hm9; first | omega (splitDisjunctions := false) | omega) | omega | decide) (by first | (with_reducible assumption) | omega (splitDisjunctions := false) | assumption | (clear fh12 hm9; first | omega (splitDisjunctions := false) | omega) | omega | decide)) rfl rfl [0] [1] (by decide) rfl rfl rfl (by decide) (by decide) k_831 rfl k_125 k_828 k_830 k_36 ⟨rfl, hy_Markup_fail⟩ (by decide) rfl rfl (Nat.le_of_ble_eq_true rfl) (by decide) (fun v9 u24 ch23 => ?_)
          obtain ⟨f_25, rfl⟩ : ∃ z9, z9 = u24 := ⟨_, rfl⟩
          obtain ⟨ech23, ch23⟩ := ch23
          have ech23 : v9 = some (.int 0) := ech23
          subst ech23
          have fh26 : 0 ≤ f_25.toInt := ch23
          refine pb_eq (pc' := 31) (lo' := [(2, .int j), (0, .ref h), (1, .ref (G.2.2.2.2.2.1 k))]) (rest' := [.int 0]) (ws' := [(ur, .inl (G.2.1, 12000, .inl uf)), (h, .inr (8, [.ref ui, .ref ug, .ref uv, .ref ur, .int ct, .int f_25, .int bg, .int a, .int en, .int vs, .int io, .int hi, .int ht]))]) ?_
          exact pb_iret (pc := 31) hQ d_Markup_takeText_31 rfl rfl (0, a, f_25) ⟨rfl, (by (try dsimp only); first | done | (with_reducible assumption) | omega (splitDisjunctions := false) | assumption | (clear fh12 hm9; first | omega (splitDisjunctions := false) | omega) | omega | decide), (by (try dsimp only); first | done | (with_reducible assumption) | omega (splitDisjunctions := false) | assumption | (clear fh12 hm9; first | omega (splitDisjunctions := false) | omega) | omega | decide), (by (try dsimp only); first | done | (with_reducible assumption) | omega (splitDisjunctions := false) | assumption | (clear fh12 hm9; first | omega (splitDisjunctions := false) | omega) | omega | decide), (show oy_ (0 : Int32).toInt (a.toInt - bg.toInt) = wk_ (mB_ uf bg.toInt) (en.toInt - bg.toInt) (st_c k) (st_len k).toNat (at_.toInt - bg.toInt) from (by rw [oy_f (by omega)]; exact (wk_no kW (by omega) k2 (by omega)).symm)), (show ft_ (0 : Int32).toInt fa.toInt f_25.toInt from (by unfold ft_; omega))⟩ [1, 0] (by decide) rfl rfl (by decide) (by decide)
  exact hL2_1 _ 0 at_ (by first | (with_reducible assumption) | omega (splitDisjunctions := false) | assumption | omega | decide) (by first | (with_reducible assumption) | omega (splitDisjunctions := false) | assumption | omega | decide) (by first | (with_reducible assumption) | omega (splitDisjunctions := false) | assumption | omega | decide) (by first | (with_reducible assumption) | omega (splitDisjunctions := false) | assumption | omega | decide) (by rw [zl0]; rfl) (Nat.lt_succ_self _)

theorem d_Markup_isText_0 : decode prog_7_method_22_code 0 = .ok (.aload_n 0, 1) := by decide +kernel
theorem d_Markup_isText_1 : decode prog_7_method_22_code 1 = .ok (.getfield 48, 3) := by decide +kernel
theorem d_Markup_isText_4 : decode prog_7_method_22_code 4 = .ok (.iload_n 1, 1) := by decide +kernel
theorem d_Markup_isText_5 : decode prog_7_method_22_code 5 = .ok (.isub, 1) := by decide +kernel
theorem d_Markup_isText_6 : decode prog_7_method_22_code 6 = .ok (.aload_n 2, 1) := by decide +kernel
theorem d_Markup_isText_7 : decode prog_7_method_22_code 7 = .ok (.invokevirtual 175, 3) := by decide +kernel
theorem d_Markup_isText_10 : decode prog_7_method_22_code 10 = .ok (.if_icmp .ne 7, 3) := by decide +kernel
theorem d_Markup_isText_17 : decode prog_7_method_22_code 17 = .ok (.iconst 0, 1) := by decide +kernel
theorem d_Markup_isText_18 : decode prog_7_method_22_code 18 = .ok (.istore_n 3, 1) := by decide +kernel
theorem d_Markup_isText_19 : decode prog_7_method_22_code 19 = .ok (.iconst 0, 1) := by decide +kernel
theorem d_Markup_isText_20 : decode prog_7_method_22_code 20 = .ok (.istore 4, 2) := by decide +kernel
theorem d_Markup_isText_22 : decode prog_7_method_22_code 22 = .ok (.iload 4, 2) := by decide +kernel
theorem d_Markup_isText_24 : decode prog_7_method_22_code 24 = .ok (.aload_n 2, 1) := by decide +kernel
theorem d_Markup_isText_25 : decode prog_7_method_22_code 25 = .ok (.invokevirtual 175, 3) := by decide +kernel
theorem d_Markup_isText_28 : decode prog_7_method_22_code 28 = .ok (.if_icmp .ge 37, 3) := by decide +kernel
theorem d_Markup_isText_65 : decode prog_7_method_22_code 65 = .ok (.iload_n 3, 1) := by decide +kernel
theorem d_Markup_isText_66 : decode prog_7_method_22_code 66 = .ok (.ireturn, 1) := by decide +kernel
theorem d_Markup_isText_31 : decode prog_7_method_22_code 31 = .ok (.iload_n 3, 1) := by decide +kernel
theorem d_Markup_isText_32 : decode prog_7_method_22_code 32 = .ok (.ifCond .eq 33, 3) := by decide +kernel
theorem d_Markup_isText_35 : decode prog_7_method_22_code 35 = .ok (.aload_n 0, 1) := by decide +kernel
theorem d_Markup_isText_36 : decode prog_7_method_22_code 36 = .ok (.getfield 23, 3) := by decide +kernel
theorem d_Markup_isText_39 : decode prog_7_method_22_code 39 = .ok (.iload_n 1, 1) := by decide +kernel
theorem d_Markup_isText_40 : decode prog_7_method_22_code 40 = .ok (.iload 4, 2) := by decide +kernel
theorem d_Markup_isText_42 : decode prog_7_method_22_code 42 = .ok (.iadd, 1) := by decide +kernel
theorem d_Markup_isText_43 : decode prog_7_method_22_code 43 = .ok (.baload, 1) := by decide +kernel
theorem d_Markup_isText_44 : decode prog_7_method_22_code 44 = .ok (.aload_n 2, 1) := by decide +kernel
theorem d_Markup_isText_45 : decode prog_7_method_22_code 45 = .ok (.iload 4, 2) := by decide +kernel
theorem d_Markup_isText_47 : decode prog_7_method_22_code 47 = .ok (.invokevirtual 180, 3) := by decide +kernel
theorem d_Markup_isText_50 : decode prog_7_method_22_code 50 = .ok (.if_icmp .ne 7, 3) := by decide +kernel
theorem d_Markup_isText_57 : decode prog_7_method_22_code 57 = .ok (.iconst 0, 1) := by decide +kernel
theorem d_Markup_isText_58 : decode prog_7_method_22_code 58 = .ok (.istore_n 3, 1) := by decide +kernel
theorem d_Markup_isText_59 : decode prog_7_method_22_code 59 = .ok (.iinc 4 1, 3) := by decide +kernel
theorem d_Markup_isText_62 : decode prog_7_method_22_code 62 = .ok (.goto (-40), 3) := by decide +kernel
theorem d_Markup_isText_53 : decode prog_7_method_22_code 53 = .ok (.iconst 1, 1) := by decide +kernel
theorem d_Markup_isText_54 : decode prog_7_method_22_code 54 = .ok (.goto 4, 3) := by decide +kernel
theorem d_Markup_isText_13 : decode prog_7_method_22_code 13 = .ok (.iconst 1, 1) := by decide +kernel
theorem d_Markup_isText_14 : decode prog_7_method_22_code 14 = .ok (.goto 4, 3) := by decide +kernel
abbrev y_Markup_isText : MethodName := ⟨"PackageBook$Markup", "isText", "(ILjava/lang/String;)Z"⟩
abbrev i_Markup_isText : pb_I := (y_Markup_isText, prog_7_method_22_code, 5, (some Jvm.ClassFile.FieldType.boolean), [], { frames := 4, cells := 0, slots := 0, locals := 85 })
set_option maxRecDepth 100000 in
set_option maxHeartbeats 4000000 in
theorem g_Mu_isText {l : Launch} (hl : l.stackTraces = false) (G : pb_G) (h : Nat) (ui : Nat) (ug : Nat) (uv : Nat) (ur : Nat) (ct : Int32) (fa : Int32) (bg : Int32) (at_ : Int32) (en : Int32) (vs : Int32) (io : Int32) (hi : Int32) (ht : Int32) (uf : Nat → Int32) (x : Int32) (k : Nat) (a0 : 0 ≤ at_.toInt) (a1 : at_.toInt ≤ en.toInt) (a2 : en.toInt ≤ 12000) (a3 : 0 ≤ bg.toInt) (a4 : bg.toInt ≤ at_.toInt) (hk : k < st_n) (b0 : 0 ≤ x.toInt) (b1 : bg.toInt ≤ x.toInt) (F_uf : sb_Fit uf) : Cn l G i_Markup_isText [.ref h, .int x, .ref (G.2.2.2.2.2.1 k)] [(h, .inr (8, [.ref ui, .ref ug, .ref uv, .ref ur, .int ct, .int fa, .int bg, .int at_, .int en, .int vs, .int io, .int hi, .int ht])), (ur, .inl (G.2.1, 12000, .inl uf))] (S := Int32) (fun rv_ u => rv_ = some (.int u) ∧ (u.toInt = 0 ∨ u.toInt = 1) ∧ (hid_ (u.toInt = 1 ↔ tm6_ (mB_ uf bg.toInt) (en.toInt - bg.toInt) (x.toInt - bg.toInt) (at_.toInt - bg.toInt) (st_c k) (st_len k)))) (fun u => [(h, .inr (8, [.ref ui, .ref ug, .ref uv, .ref ur, .int ct, .int fa, .int bg, .int at_, .int en, .int vs, .int io, .int hi, .int ht])), (ur, .inl (G.2.1, 12000, .inl uf))]) := by
  refine Cn.of hl (by decide +kernel) rfl (Nat.le_of_ble_eq_true rfl) (fun M hQ => ?_)
  refine pb_eq (pc' := 0) (lo' := [(0, .ref h), (1, .int x), (2, .ref (G.2.2.2.2.2.1 k))]) (rest' := []) (ws' := [(h, .inr (8, [.ref ui, .ref ug, .ref uv, .ref ur, .int ct, .int fa, .int bg, .int at_, .int en, .int vs, .int io, .int hi, .int ht])), (ur, .inl (G.2.1, 12000, .inl uf))]) ?_
  have zl0 : (0 : Int32).toInt = 0 := by decide
  have zl1 : (1 : Int32).toInt = 1 := by decide
  have sl := st_len_rng k
  have rx := ti_rng x
  refine pb_aload_n (pc := 0) d_Markup_isText_0 0 rfl rfl ?_
  refine pb_get (pc := 1) d_Markup_isText_1 0 7 rfl rfl (by decide) in_Markup k_326 rfl ?_
  refine pb_iload_n (pc := 4) d_Markup_isText_4 1 rfl rfl ?_
  refine pb_isub (pc := 5) d_Markup_isText_5 ?_
  refine pb_topi (fun i1 ei1 => ?_)
  try have ti1 : i1.toInt = at_.toInt - x.toInt := t2_sub ei1 rfl rfl (by omega)
  refine pb_aload_n (pc := 6) d_Markup_isText_6 2 rfl rfl ?_
  refine pb_callVS (pc := 7) (I := i_Markup_isText) (k := k) (nA := 0) (rest := [.int i1]) (wr := [(h, .inr (8, [.ref ui, .ref ug, .ref uv, .ref ur, .int ct, .int fa, .int bg, .int at_, .int en, .int vs, .int io, .int hi, .int ht])), (ur, .inl (G.2.1, 12000, .inl uf))]) d_Markup_isText_7 (g_Str_length hl G k (by first | assumption | decide | omega)) hk rfl [] [0, 1] (by decide) rfl rfl rfl (by decide) (by decide) k_744 rfl k_138 k_826 k_742 k_743 ⟨rfl, hy_JString_length⟩ (by decide) rfl rfl (Nat.le_of_ble_eq_true rfl) (by decide) (fun v9 u3 ch2 => ?_)
  obtain ⟨r_4, rfl⟩ : ∃ z9, z9 = u3 := ⟨_, rfl⟩
  obtain ⟨ech2, ch2⟩ := ch2
  have ech2 : v9 = some (.int r_4) := ech2
  subst ech2
  have fh5 : r_4.toInt = st_len k := ch2
  refine pb_eq (pc' := 10) (lo' := [(0, .ref h), (1, .int x), (2, .ref (G.2.2.2.2.2.1 k))]) (rest' := [.int r_4, .int i1]) (ws' := [(h, .inr (8, [.ref ui, .ref ug, .ref uv, .ref ur, .int ct, .int fa, .int bg, .int at_, .int en, .int vs, .int io, .int hi, .int ht])), (ur, .inl (G.2.1, 12000, .inl uf))]) ?_
  refine pb_icmp_ne (pc := 10) (tgt := 17) d_Markup_isText_10 (by decide) (fun w6 => ?_) (fun w6 => ?_)
  · have tw6 : ¬ i1.toInt = r_4.toInt := fun z9 => w6 ((ti_eq rfl rfl).mpr z9)
    refine pb_iconst (pc := 17) (v := 0) d_Markup_isText_17 (by decide) ?_
    refine pb_istore_n (pc := 18) (lo' := [(3, .int 0), (0, .ref h), (1, .int x), (2, .ref (G.2.2.2.2.2.1 k))]) d_Markup_isText_18 rfl (by decide) rfl ?_
    refine pb_iconst (pc := 19) (v := 0) d_Markup_isText_19 (by decide) ?_
    refine pb_istore (pc := 20) (lo' := [(4, .int 0), (3, .int 0), (0, .ref h), (1, .int x), (2, .ref (G.2.2.2.2.2.1 k))]) d_Markup_isText_20 (by decide) rfl ?_
    have hL22_7 : ∀ (N9 : Nat) (s : Int32) (j : Int32), (s.toInt = 0 ∨ s.toInt = 1) → (s.toInt = 1 → at_.toInt - x.toInt = st_len k) → (0 ≤ j.toInt) → (j.toInt ≤ st_len k) → (tL_ (mB_ uf bg.toInt) (en.toInt - bg.toInt) (x.toInt - bg.toInt) (at_.toInt - bg.toInt) (st_c k) (st_len k) s.toInt j.toInt) → ((st_len k - j.toInt).toNat) < N9 → pb_P l G M i_Markup_isText 22 [(3, .int s), (4, .int j), (0, .ref h), (1, .int x), (2, .ref (G.2.2.2.2.2.1 k))] [] [(h, .inr (8, [.ref ui, .ref ug, .ref uv, .ref ur, .int ct, .int fa, .int bg, .int at_, .int en, .int vs, .int io, .int hi, .int ht])), (ur, .inl (G.2.1, 12000, .inl uf))] 0 0 := by
      intro N9
      induction N9 with
      | zero => intro s j k0 k1 k2 k3 kt hm9; exact absurd hm9 (Nat.not_lt_zero _)
      | succ N9 ih22 =>
        intro s j k0 k1 k2 k3 kt hm9
        refine pb_iload (pc := 22) d_Markup_isText_22 1 rfl ?_
        refine pb_aload_n (pc := 24) d_Markup_isText_24 4 rfl rfl ?_
        refine pb_callVS (pc := 25) (I := i_Markup_isText) (k := k) (nA := 0) (rest := [.int j]) (wr := [(h, .inr (8, [.ref ui, .ref ug, .ref uv, .ref ur, .int ct, .int fa, .int bg, .int at_, .int en, .int vs, .int io, .int hi, .int ht])), (ur, .inl (G.2.1, 12000, .inl uf))]) d_Markup_isText_25 (g_Str_length hl G k (by first | assumption | decide | omega)) hk rfl [] [0, 1] (by decide) rfl rfl rfl (by decide) (by decide) k_744 rfl k_138 k_826 k_742 k_743 ⟨rfl, hy_JString_length⟩ (by decide) rfl rfl (Nat.le_of_ble_eq_true rfl) (by decide) (fun v9 u9 ch8 => ?_)
        obtain ⟨r_10, rfl⟩ : ∃ z9, z9 = u9 := ⟨_, rfl⟩
        obtain ⟨ech8, ch8⟩ := ch8
        have ech8 : v9 = some (.int r_10) := ech8
        subst ech8
        have fh11 : r_10.toInt = st_len k := ch8
        refine pb_eq (pc' := 28) (lo' := [(3, .int s), (4, .int j), (0, .ref h), (1, .int x), (2, .ref (G.2.2.2.2.2.1 k))]) (rest' := [.int r_10, .int j]) (ws' := [(h, .inr (8, [.ref ui, .ref ug, .ref uv, .ref ur, .int ct, .int fa, .int bg, .int at_, .int en, .int vs, .int io, .int hi, .int ht])), (ur, .inl (G.2.1, 12000, .inl uf))]) ?_
        refine pb_icmp_ge (pc := 28) (tgt := 65) d_Markup_isText_28 (by decide) (fun w12 => ?_) (fun w12 => ?_)
        · have tw12 : r_10.toInt ≤ j.toInt := (ti_le rfl rfl).mp w12
          refine pb_iload_n (pc := 65) d_Markup_isText_65 0 rfl rfl ?_
          exact pb_iret (pc := 66) hQ d_Markup_isText_66 rfl (nar_b (by omega)) (s) ⟨rfl, (by (try dsimp only); first | done | (with_reducible assumption) | omega (splitDisjunctions := false) | assumption | (clear k1 hm9; first | omega (splitDisjunctions := false) | omega) | omega | decide), (show hid_ (s.toInt = 1 ↔ tm6_ (mB_ uf bg.toInt) (en.toInt - bg.toInt) (x.toInt - bg.toInt) (at_.toInt - bg.toInt) (st_c k) (st_len k)) from (hid_i (tL_e kt (by omega))))⟩ [0, 1] (by decide) rfl rfl (by decide) (by decide)
        · have tw12 : ¬ r_10.toInt ≤ j.toInt := fun z9 => w12 ((ti_le rfl rfl).mpr z9)
          refine pb_iload_n (pc := 31) d_Markup_isText_31 0 rfl rfl ?_
          refine pb_if_eq (pc := 32) (tgt := 65) d_Markup_isText_32 (by decide) (fun w13 => ?_) (fun w13 => ?_)
          · have tw13 : s.toInt = 0 := (ti_eq rfl (by decide)).mp w13
            refine pb_iload_n (pc := 65) d_Markup_isText_65 0 rfl rfl ?_
            exact pb_iret (pc := 66) hQ d_Markup_isText_66 rfl (nar_b (by omega)) (s) ⟨rfl, (by (try dsimp only); first | done | (with_reducible assumption) | omega (splitDisjunctions := false) | assumption | (clear k1 hm9; first | omega (splitDisjunctions := false) | omega) | omega | decide), (show hid_ (s.toInt = 1 ↔ tm6_ (mB_ uf bg.toInt) (en.toInt - bg.toInt) (x.toInt - bg.toInt) (at_.toInt - bg.toInt) (st_c k) (st_len k)) from (hid_i (tL_e kt (by omega))))⟩ [0, 1] (by decide) rfl rfl (by decide) (by decide)
          · have tw13 : ¬ s.toInt = 0 := fun z9 => w13 ((ti_eq rfl (by decide)).mpr z9)
            refine pb_aload_n (pc := 35) d_Markup_isText_35 2 rfl rfl ?_
            refine pb_get (pc := 36) d_Markup_isText_36 0 3 rfl rfl (by decide) in_Markup k_320 rfl ?_
            refine pb_iload_n (pc := 39) d_Markup_isText_39 3 rfl rfl ?_
            refine pb_iload (pc := 40) d_Markup_isText_40 1 rfl ?_
            refine pb_iadd (pc := 42) d_Markup_isText_42 ?_
            refine pb_topi (fun i14 ei14 => ?_)
            try have ti14 : i14.toInt = x.toInt + j.toInt := t2_add ei14 rfl rfl (by (exact omg_4b6a8e5a1f a1 a2 rx k0 k1 k2 ch8 tw12 tw13))
            refine pb_bald (pc := 43) d_Markup_isText_43 1 rfl (vp_in_iff.mpr (by (exact omg_2502584797 a1 a2 b0 k0 k1 k2 ch8 tw12 tw13 ti14))) ?_
            refine pb_topi (fun i15 ei15 => ?_)
            have xi15 : i15 = gr uf (bg.toInt + (x.toInt - bg.toInt + j.toInt)) := gr_ld ei15 (by omega)
            have yi15 : i15.toInt = gx uf (bg.toInt + (x.toInt - bg.toInt + j.toInt)) := congrArg Int32.toInt xi15
            have ti15 : -128 ≤ i15.toInt ∧ i15.toInt ≤ 127 := ti_fit (F_uf _) ei15
            have sgT := cm_sg (B := (mB_ uf bg.toInt)) (n := (en.toInt - bg.toInt)) (j := x.toInt - bg.toInt + j.toInt) xi15 ti15 (by omega) (by (exact omg_825d369e30 a1 k0 k1 ch8 tw12 tw13))
            refine pb_aload_n (pc := 44) d_Markup_isText_44 4 rfl rfl ?_
            refine pb_iload (pc := 45) d_Markup_isText_45 1 rfl ?_
            refine pb_callVS (pc := 47) (I := i_Markup_isText) (k := k) (nA := 1) (rest := [.int i15]) (wr := [(h, .inr (8, [.ref ui, .ref ug, .ref uv, .ref ur, .int ct, .int fa, .int bg, .int at_, .int en, .int vs, .int io, .int hi, .int ht])), (ur, .inl (G.2.1, 12000, .inl uf))]) d_Markup_isText_47 (g_Str_charAt hl G k j (by first | assumption | decide | omega) (by first | (with_reducible assumption) | omega (splitDisjunctions := false) | assumption | (clear k1 hm9; first | omega (splitDisjunctions := false) | omega) | omega | decide) (by first | (with_reducible assumption) | omega (splitDisjunctions := false) | assumption | (clear k1 hm9; first | omega (splitDisjunctions := false) | omega) | omega | decide)) hk rfl [] [0, 1] (by decide) rfl rfl rfl (by decide) (by decide) k_754 rfl k_138 k_827 k_752 k_753 ⟨rfl, hy_JString_charAt⟩ (by decide) rfl rfl (Nat.le_of_ble_eq_true rfl) (by decide) (fun v9 u17 ch16 => ?_)
            obtain ⟨r_18, rfl⟩ : ∃ z9, z9 = u17 := ⟨_, rfl⟩
            obtain ⟨ech16, ch16⟩ := ch16
            have ech16 : v9 = some (.int r_18) := ech16
            subst ech16
            obtain ⟨fh19, fh20, fh21⟩ : (0 ≤ r_18.toInt) ∧ (r_18.toInt ≤ 255) ∧ (r_18.toInt = st_c k j.toInt) := ch16
            have cF9 := fh21
            have cR9 := sc_rng hk j.toInt
            refine pb_eq (pc' := 50) (lo' := [(3, .int s), (4, .int j), (0, .ref h), (1, .int x), (2, .ref (G.2.2.2.2.2.1 k))]) (rest' := [.int r_18, .int i15]) (ws' := [(h, .inr (8, [.ref ui, .ref ug, .ref uv, .ref ur, .int ct, .int fa, .int bg, .int at_, .int en, .int vs, .int io, .int hi, .int ht])), (ur, .inl (G.2.1, 12000, .inl uf))]) ?_
            refine pb_icmp_ne (pc := 50) (tgt := 57) d_Markup_isText_50 (by decide) (fun w22 => ?_) (fun w22 => ?_)
            · have tw22 : ¬ i15.toInt = r_18.toInt := fun z9 => w22 ((ti_eq rfl rfl).mpr z9)
              refine pb_iconst (pc := 57) (v := 0) d_Markup_isText_57 (by decide) ?_
              refine pb_istore_n (pc := 58) (lo' := [(3, .int 0), (4, .int j), (0, .ref h), (1, .int x), (2, .ref (G.2.2.2.2.2.1 k))]) d_Markup_isText_58 rfl (by decide) rfl ?_
              refine pb_iincN (pc := 59) (c := 1) d_Markup_isText_59 1 rfl (by decide) (by decide) (fun i23 ei23 => ?_)
              have ti23 : i23.toInt = j.toInt + 1 := t2_add ei23 rfl (by decide) (by first | omega | (have r90 := ti_rng i23; have r91 := ti_rng x; omega))
              refine pb_eq (pc' := 62) (lo' := [(4, .int i23), (3, .int 0), (0, .ref h), (1, .int x), (2, .ref (G.2.2.2.2.2.1 k))]) (rest' := []) (ws' := [(h, .inr (8, [.ref ui, .ref ug, .ref uv, .ref ur, .int ct, .int fa, .int bg, .int at_, .int en, .int vs, .int io, .int hi, .int ht])), (ur, .inl (G.2.1, 12000, .inl uf))]) ?_
              refine pb_goto (pc := 62) (tgt := 22) d_Markup_isText_62 (by decide) ?_
              refine pb_re (ws' := [(h, .inr (8, [.ref ui, .ref ug, .ref uv, .ref ur, .int ct, .int fa, .int bg, .int at_, .int en, .int vs, .int io, .int hi, .int ht])), (ur, .inl (G.2.1, 12000, .inl uf))]) (lo' := [(3, .int 0), (4, .int i23), (0, .ref h), (1, .int x), (2, .ref (G.2.2.2.2.2.1 k))]) [0, 1] [1, 0, 2, 3, 4] (by decide) rfl rfl rfl ?_
              exact ih22 0 i23 (by first | (with_reducible assumption) | omega (splitDisjunctions := false) | assumption | (clear k1 hm9; first | omega (splitDisjunctions := false) | omega) | omega | decide) (by first | (with_reducible assumption) | omega (splitDisjunctions := false) | assumption | exact fun q90 => (by clear k1 hm9; first | omega (splitDisjunctions := false) | omega) | omega | decide) (by first | (with_reducible assumption) | omega (splitDisjunctions := false) | assumption | (clear k1 hm9; first | omega (splitDisjunctions := false) | omega) | omega | decide) (by first | (with_reducible assumption) | omega (splitDisjunctions := false) | assumption | (clear k1 hm9; first | omega (splitDisjunctions := false) | omega) | omega | decide) (tL_s kt (by omega) (by omega) k2 (by (exact omg_977dafba84 zl0 sgT fh21 cR9 tw22)) (by omega)) (by first | (clear k1; (exact omg_b30a0bed9f hm9 ch8 tw12 ti23)) | omega)
            · have tw22 : i15.toInt = r_18.toInt := (ti_eq rfl rfl).mp w22
              refine pb_iconst (pc := 53) (v := 1) d_Markup_isText_53 (by decide) ?_
              refine pb_goto (pc := 54) (tgt := 58) d_Markup_isText_54 (by decide) ?_
              refine pb_istore_n (pc := 58) (lo' := [(3, .int 1), (4, .int j), (0, .ref h), (1, .int x), (2, .ref (G.2.2.2.2.2.1 k))]) d_Markup_isText_58 rfl (by decide) rfl ?_
              refine pb_iincN (pc := 59) (c := 1) d_Markup_isText_59 1 rfl (by decide) (by decide) (fun i24 ei24 => ?_)
              have ti24 : i24.toInt = j.toInt + 1 := t2_add ei24 rfl (by decide) (by first | omega | (have r90 := ti_rng i24; have r91 := ti_rng x; omega))
              refine pb_eq (pc' := 62) (lo' := [(4, .int i24), (3, .int 1), (0, .ref h), (1, .int x), (2, .ref (G.2.2.2.2.2.1 k))]) (rest' := []) (ws' := [(h, .inr (8, [.ref ui, .ref ug, .ref uv, .ref ur, .int ct, .int fa, .int bg, .int at_, .int en, .int vs, .int io, .int hi, .int ht])), (ur, .inl (G.2.1, 12000, .inl uf))]) ?_
              refine pb_goto (pc := 62) (tgt := 22) d_Markup_isText_62 (by decide) ?_
              refine pb_re (ws' := [(h, .inr (8, [.ref ui, .ref ug, .ref uv, .ref ur, .int ct, .int fa, .int bg, .int at_, .int en, .int vs, .int io, .int hi, .int ht])), (ur, .inl (G.2.1, 12000, .inl uf))]) (lo' := [(3, .int 1), (4, .int i24), (0, .ref h), (1, .int x), (2, .ref (G.2.2.2.2.2.1 k))]) [0, 1] [1, 0, 2, 3, 4] (by decide) rfl rfl rfl ?_
              exact ih22 1 i24 (by first | (with_reducible assumption) | omega (splitDisjunctions := false) | assumption | (clear k1 hm9; first | omega (splitDisjunctions := false) | omega) | omega | decide) (by first | (with_reducible assumption) | omega (splitDisjunctions := false) | assumption | exact fun q90 => (by clear k1 hm9; first | omega (splitDisjunctions := false) | omega) | (exact omg_0ee089787d k0 k1 tw13) | decide) (by first | (with_reducible assumption) | omega (splitDisjunctions := false) | assumption | (clear k1 hm9; first | omega (splitDisjunctions := false) | omega) | omega | decide) (by first | (with_reducible assumption) | omega (splitDisjunctions := false) | assumption | (clear k1 hm9; first | omega (splitDisjunctions := false) | omega) | omega | decide) (tL_s kt (by omega) (by omega) k2 (by (exact omg_5271d995ac zl1 sgT fh21 cR9 tw22)) (by omega)) (by first | (clear k1; (exact omg_b30a0bed9f hm9 ch8 tw12 ti24)) | omega)
    refine pb_re (ws' := [(h, .inr (8, [.ref ui, .ref ug, .ref uv, .ref ur, .int ct, .int fa, .int bg, .int at_, .int en, .int vs, .int io, .int hi, .int ht])), (ur, .inl (G.2.1, 12000, .inl uf))]) (lo' := [(3, .int 0), (4, .int 0), (0, .ref h), (1, .int x), (2, .ref (G.2.2.2.2.2.1 k))]) [0, 1] [1, 0, 2, 3, 4] (by decide) rfl rfl rfl ?_
    exact hL22_7 _ 0 0 (by first | (with_reducible assumption) | omega (splitDisjunctions := false) | assumption | omega | decide) (by first | (with_reducible assumption) | omega (splitDisjunctions := false) | assumption | omega | decide) (by first | (with_reducible assumption) | omega (splitDisjunctions := false) | assumption | omega | decide) (by first | (with_reducible assumption) | omega (splitDisjunctions := false) | assumption | omega | decide) (tL_0 (by omega) zl0) (Nat.lt_succ_self _)
  · have tw6 : i1.toInt = r_4.toInt := (ti_eq rfl rfl).mp w6
    refine pb_iconst (pc := 13) (v := 1) d_Markup_isText_13 (by decide) ?_
    refine pb_goto (pc := 14) (tgt := 18) d_Markup_isText_14 (by decide) ?_
    refine pb_istore_n (pc := 18) (lo' := [(3, .int 1), (0, .ref h), (1, .int x), (2, .ref (G.2.2.2.2.2.1 k))]) d_Markup_isText_18 rfl (by decide) rfl ?_
    refine pb_iconst (pc := 19) (v := 0) d_Markup_isText_19 (by decide) ?_
    refine pb_istore (pc := 20) (lo' := [(4, .int 0), (3, .int 1), (0, .ref h), (1, .int x), (2, .ref (G.2.2.2.2.2.1 k))]) d_Markup_isText_20 (by decide) rfl ?_
    have hL22_25 : ∀ (N9 : Nat) (s : Int32) (j : Int32), (s.toInt = 0 ∨ s.toInt = 1) → (s.toInt = 1 → at_.toInt - x.toInt = st_len k) → (0 ≤ j.toInt) → (j.toInt ≤ st_len k) → (tL_ (mB_ uf bg.toInt) (en.toInt - bg.toInt) (x.toInt - bg.toInt) (at_.toInt - bg.toInt) (st_c k) (st_len k) s.toInt j.toInt) → ((st_len k - j.toInt).toNat) < N9 → pb_P l G M i_Markup_isText 22 [(3, .int s), (4, .int j), (0, .ref h), (1, .int x), (2, .ref (G.2.2.2.2.2.1 k))] [] [(h, .inr (8, [.ref ui, .ref ug, .ref uv, .ref ur, .int ct, .int fa, .int bg, .int at_, .int en, .int vs, .int io, .int hi, .int ht])), (ur, .inl (G.2.1, 12000, .inl uf))] 0 0 := by
      intro N9
      induction N9 with
      | zero => intro s j k0 k1 k2 k3 kt hm9; exact absurd hm9 (Nat.not_lt_zero _)
      | succ N9 ih22 =>
        intro s j k0 k1 k2 k3 kt hm9
        refine pb_iload (pc := 22) d_Markup_isText_22 1 rfl ?_
        refine pb_aload_n (pc := 24) d_Markup_isText_24 4 rfl rfl ?_
        refine pb_callVS (pc := 25) (I := i_Markup_isText) (k := k) (nA := 0) (rest := [.int j]) (wr := [(h, .inr (8, [.ref ui, .ref ug, .ref uv, .ref ur, .int ct, .int fa, .int bg, .int at_, .int en, .int vs, .int io, .int hi, .int ht])), (ur, .inl (G.2.1, 12000, .inl uf))]) d_Markup_isText_25 (g_Str_length hl G k (by first | assumption | decide | omega)) hk rfl [] [0, 1] (by decide) rfl rfl rfl (by decide) (by decide) k_744 rfl k_138 k_826 k_742 k_743 ⟨rfl, hy_JString_length⟩ (by decide) rfl rfl (Nat.le_of_ble_eq_true rfl) (by decide) (fun v9 u27 ch26 => ?_)
        obtain ⟨r_28, rfl⟩ : ∃ z9, z9 = u27 := ⟨_, rfl⟩
        obtain ⟨ech26, ch26⟩ := ch26
        have ech26 : v9 = some (.int r_28) := ech26
        subst ech26
        have fh29 : r_28.toInt = st_len k := ch26
        refine pb_eq (pc' := 28) (lo' := [(3, .int s), (4, .int j), (0, .ref h), (1, .int x), (2, .ref (G.2.2.2.2.2.1 k))]) (rest' := [.int r_28, .int j]) (ws' := [(h, .inr (8, [.ref ui, .ref ug, .ref uv, .ref ur, .int ct, .int fa, .int bg, .int at_, .int en, .int vs, .int io, .int hi, .int ht])), (ur, .inl (G.2.1, 12000, .inl uf))]) ?_
        refine pb_icmp_ge (pc := 28) (tgt := 65) d_Markup_isText_28 (by decide) (fun w30 => ?_) (fun w30 => ?_)
        · have tw30 : r_28.toInt ≤ j.toInt := (ti_le rfl rfl).mp w30
          refine pb_iload_n (pc := 65) d_Markup_isText_65 0 rfl rfl ?_
          exact pb_iret (pc := 66) hQ d_Markup_isText_66 rfl (nar_b (by omega)) (s) ⟨rfl, (by (try dsimp only); first | done | (with_reducible assumption) | omega (splitDisjunctions := false) | assumption | (clear k1 hm9; first | omega (splitDisjunctions := false) | omega) | omega | decide), (show hid_ (s.toInt = 1 ↔ tm6_ (mB_ uf bg.toInt) (en.toInt - bg.toInt) (x.toInt - bg.toInt) (at_.toInt - bg.toInt) (st_c k) (st_len k)) from (hid_i (tL_e kt (by omega))))⟩ [0, 1] (by decide) rfl rfl (by decide) (by decide)
        · have tw30 : ¬ r_28.toInt ≤ j.toInt := fun z9 => w30 ((ti_le rfl rfl).mpr z9)
          refine pb_iload_n (pc := 31) d_Markup_isText_31 0 rfl rfl ?_
          refine pb_if_eq (pc := 32) (tgt := 65) d_Markup_isText_32 (by decide) (fun w31 => ?_) (fun w31 => ?_)
          · have tw31 : s.toInt = 0 := (ti_eq rfl (by decide)).mp w31
            refine pb_iload_n (pc := 65) d_Markup_isText_65 0 rfl rfl ?_
            exact pb_iret (pc := 66) hQ d_Markup_isText_66 rfl (nar_b (by omega)) (s) ⟨rfl, (by (try dsimp only); first | done | (with_reducible assumption) | omega (splitDisjunctions := false) | assumption | (clear k1 hm9; first | omega (splitDisjunctions := false) | omega) | omega | decide), (show hid_ (s.toInt = 1 ↔ tm6_ (mB_ uf bg.toInt) (en.toInt - bg.toInt) (x.toInt - bg.toInt) (at_.toInt - bg.toInt) (st_c k) (st_len k)) from (hid_i (tL_e kt (by omega))))⟩ [0, 1] (by decide) rfl rfl (by decide) (by decide)
          · have tw31 : ¬ s.toInt = 0 := fun z9 => w31 ((ti_eq rfl (by decide)).mpr z9)
            refine pb_aload_n (pc := 35) d_Markup_isText_35 2 rfl rfl ?_
            refine pb_get (pc := 36) d_Markup_isText_36 0 3 rfl rfl (by decide) in_Markup k_320 rfl ?_
            refine pb_iload_n (pc := 39) d_Markup_isText_39 3 rfl rfl ?_
            refine pb_iload (pc := 40) d_Markup_isText_40 1 rfl ?_
            refine pb_iadd (pc := 42) d_Markup_isText_42 ?_
            refine pb_topi (fun i32 ei32 => ?_)
            try have ti32 : i32.toInt = x.toInt + j.toInt := t2_add ei32 rfl rfl (by omega)
            refine pb_bald (pc := 43) d_Markup_isText_43 1 rfl (vp_in_iff.mpr (by (exact omg_0f7446dc31 a1 a2 b0 ti1 ch2 tw6 k2 ch26 tw30 ti32))) ?_
            refine pb_topi (fun i33 ei33 => ?_)
            have xi33 : i33 = gr uf (bg.toInt + (x.toInt - bg.toInt + j.toInt)) := gr_ld ei33 (by omega)
            have yi33 : i33.toInt = gx uf (bg.toInt + (x.toInt - bg.toInt + j.toInt)) := congrArg Int32.toInt xi33
            have ti33 : -128 ≤ i33.toInt ∧ i33.toInt ≤ 127 := ti_fit (F_uf _) ei33
            have sgT := cm_sg (B := (mB_ uf bg.toInt)) (n := (en.toInt - bg.toInt)) (j := x.toInt - bg.toInt + j.toInt) xi33 ti33 (by omega) (by omega)
            refine pb_aload_n (pc := 44) d_Markup_isText_44 4 rfl rfl ?_
            refine pb_iload (pc := 45) d_Markup_isText_45 1 rfl ?_
            refine pb_callVS (pc := 47) (I := i_Markup_isText) (k := k) (nA := 1) (rest := [.int i33]) (wr := [(h, .inr (8, [.ref ui, .ref ug, .ref uv, .ref ur, .int ct, .int fa, .int bg, .int at_, .int en, .int vs, .int io, .int hi, .int ht])), (ur, .inl (G.2.1, 12000, .inl uf))]) d_Markup_isText_47 (g_Str_charAt hl G k j (by first | assumption | decide | omega) (by first | (with_reducible assumption) | omega (splitDisjunctions := false) | assumption | (clear k1 hm9; first | omega (splitDisjunctions := false) | omega) | omega | decide) (by first | (with_reducible assumption) | omega (splitDisjunctions := false) | assumption | (clear k1 hm9; first | omega (splitDisjunctions := false) | omega) | omega | decide)) hk rfl [] [0, 1] (by decide) rfl rfl rfl (by decide) (by decide) k_754 rfl k_138 k_827 k_752 k_753 ⟨rfl, hy_JString_charAt⟩ (by decide) rfl rfl (Nat.le_of_ble_eq_true rfl) (by decide) (fun v9 u35 ch34 => ?_)
            obtain ⟨r_36, rfl⟩ : ∃ z9, z9 = u35 := ⟨_, rfl⟩
            obtain ⟨ech34, ch34⟩ := ch34
            have ech34 : v9 = some (.int r_36) := ech34
            subst ech34
            obtain ⟨fh37, fh38, fh39⟩ : (0 ≤ r_36.toInt) ∧ (r_36.toInt ≤ 255) ∧ (r_36.toInt = st_c k j.toInt) := ch34
            have cF9 := fh39
            have cR9 := sc_rng hk j.toInt
            refine pb_eq (pc' := 50) (lo' := [(3, .int s), (4, .int j), (0, .ref h), (1, .int x), (2, .ref (G.2.2.2.2.2.1 k))]) (rest' := [.int r_36, .int i33]) (ws' := [(h, .inr (8, [.ref ui, .ref ug, .ref uv, .ref ur, .int ct, .int fa, .int bg, .int at_, .int en, .int vs, .int io, .int hi, .int ht])), (ur, .inl (G.2.1, 12000, .inl uf))]) ?_
            refine pb_icmp_ne (pc := 50) (tgt := 57) d_Markup_isText_50 (by decide) (fun w40 => ?_) (fun w40 => ?_)
            · have tw40 : ¬ i33.toInt = r_36.toInt := fun z9 => w40 ((ti_eq rfl rfl).mpr z9)
              refine pb_iconst (pc := 57) (v := 0) d_Markup_isText_57 (by decide) ?_
              refine pb_istore_n (pc := 58) (lo' := [(3, .int 0), (4, .int j), (0, .ref h), (1, .int x), (2, .ref (G.2.2.2.2.2.1 k))]) d_Markup_isText_58 rfl (by decide) rfl ?_
              refine pb_iincN (pc := 59) (c := 1) d_Markup_isText_59 1 rfl (by decide) (by decide) (fun i41 ei41 => ?_)
              have ti41 : i41.toInt = j.toInt + 1 := t2_add ei41 rfl (by decide) (by first | omega | (have r90 := ti_rng i41; have r91 := ti_rng x; omega))
              refine pb_eq (pc' := 62) (lo' := [(4, .int i41), (3, .int 0), (0, .ref h), (1, .int x), (2, .ref (G.2.2.2.2.2.1 k))]) (rest' := []) (ws' := [(h, .inr (8, [.ref ui, .ref ug, .ref uv, .ref ur, .int ct, .int fa, .int bg, .int at_, .int en, .int vs, .int io, .int hi, .int ht])), (ur, .inl (G.2.1, 12000, .inl uf))]) ?_
              refine pb_goto (pc := 62) (tgt := 22) d_Markup_isText_62 (by decide) ?_
              refine pb_re (ws' := [(h, .inr (8, [.ref ui, .ref ug, .ref uv, .ref ur, .int ct, .int fa, .int bg, .int at_, .int en, .int vs, .int io, .int hi, .int ht])), (ur, .inl (G.2.1, 12000, .inl uf))]) (lo' := [(3, .int 0), (4, .int i41), (0, .ref h), (1, .int x), (2, .ref (G.2.2.2.2.2.1 k))]) [0, 1] [1, 0, 2, 3, 4] (by decide) rfl rfl rfl ?_
              exact ih22 0 i41 (by first | (with_reducible assumption) | omega (splitDisjunctions := false) | assumption | (clear k1 hm9; first | omega (splitDisjunctions := false) | omega) | omega | decide) (by first | (with_reducible assumption) | omega (splitDisjunctions := false) | assumption | exact fun q90 => (by clear k1 hm9; first | omega (splitDisjunctions := false) | omega) | omega | decide) (by first | (with_reducible assumption) | omega (splitDisjunctions := false) | assumption | (clear k1 hm9; first | omega (splitDisjunctions := false) | omega) | omega | decide) (by first | (with_reducible assumption) | omega (splitDisjunctions := false) | assumption | (clear k1 hm9; first | omega (splitDisjunctions := false) | omega) | omega | decide) (tL_s kt (by omega) (by omega) k2 (by omega) (by omega)) (by first | (clear k1; (exact omg_b30a0bed9f hm9 ch26 tw30 ti41)) | omega)
            · have tw40 : i33.toInt = r_36.toInt := (ti_eq rfl rfl).mp w40
              refine pb_iconst (pc := 53) (v := 1) d_Markup_isText_53 (by decide) ?_
              refine pb_goto (pc := 54) (tgt := 58) d_Markup_isText_54 (by decide) ?_
              refine pb_istore_n (pc := 58) (lo' := [(3, .int 1), (4, .int j), (0, .ref h), (1, .int x), (2, .ref (G.2.2.2.2.2.1 k))]) d_Markup_isText_58 rfl (by decide) rfl ?_
              refine pb_iincN (pc := 59) (c := 1) d_Markup_isText_59 1 rfl (by decide) (by decide) (fun i42 ei42 => ?_)
              have ti42 : i42.toInt = j.toInt + 1 := t2_add ei42 rfl (by decide) (by first | omega | (have r90 := ti_rng i42; have r91 := ti_rng x; omega))
              refine pb_eq (pc' := 62) (lo' := [(4, .int i42), (3, .int 1), (0, .ref h), (1, .int x), (2, .ref (G.2.2.2.2.2.1 k))]) (rest' := []) (ws' := [(h, .inr (8, [.ref ui, .ref ug, .ref uv, .ref ur, .int ct, .int fa, .int bg, .int at_, .int en, .int vs, .int io, .int hi, .int ht])), (ur, .inl (G.2.1, 12000, .inl uf))]) ?_
              refine pb_goto (pc := 62) (tgt := 22) d_Markup_isText_62 (by decide) ?_
              refine pb_re (ws' := [(h, .inr (8, [.ref ui, .ref ug, .ref uv, .ref ur, .int ct, .int fa, .int bg, .int at_, .int en, .int vs, .int io, .int hi, .int ht])), (ur, .inl (G.2.1, 12000, .inl uf))]) (lo' := [(3, .int 1), (4, .int i42), (0, .ref h), (1, .int x), (2, .ref (G.2.2.2.2.2.1 k))]) [0, 1] [1, 0, 2, 3, 4] (by decide) rfl rfl rfl ?_
              exact ih22 1 i42 (by first | (with_reducible assumption) | omega (splitDisjunctions := false) | assumption | (clear k1 hm9; first | omega (splitDisjunctions := false) | omega) | omega | decide) (by first | (with_reducible assumption) | omega (splitDisjunctions := false) | assumption | exact fun q90 => (by clear k1 hm9; first | omega (splitDisjunctions := false) | omega) | omega | decide) (by first | (with_reducible assumption) | omega (splitDisjunctions := false) | assumption | (clear k1 hm9; first | omega (splitDisjunctions := false) | omega) | omega | decide) (by first | (with_reducible assumption) | omega (splitDisjunctions := false) | assumption | (clear k1 hm9; first | omega (splitDisjunctions := false) | omega) | omega | decide) (tL_s kt (by omega) (by omega) k2 (by omega) (by omega)) (by first | (clear k1; omega) | omega)
    refine pb_re (ws' := [(h, .inr (8, [.ref ui, .ref ug, .ref uv, .ref ur, .int ct, .int fa, .int bg, .int at_, .int en, .int vs, .int io, .int hi, .int ht])), (ur, .inl (G.2.1, 12000, .inl uf))]) (lo' := [(3, .int 1), (4, .int 0), (0, .ref h), (1, .int x), (2, .ref (G.2.2.2.2.2.1 k))]) [0, 1] [1, 0, 2, 3, 4] (by decide) rfl rfl rfl ?_
    exact hL22_25 _ 1 0 (by first | (with_reducible assumption) | omega (splitDisjunctions := false) | assumption | omega | decide) (by first | (with_reducible assumption) | omega (splitDisjunctions := false) | assumption | omega | decide) (by first | (with_reducible assumption) | omega (splitDisjunctions := false) | assumption | omega | decide) (by first | (with_reducible assumption) | omega (splitDisjunctions := false) | assumption | omega | decide) (tL_0 (by (exact omg_670d9c80e4 zl1 ti1 ch2 tw6)) zl0) (Nat.lt_succ_self _)
/-! ROWS OF NUMBERS -/
theorem omg_a30c78b83b {x0 : Int} {x1 : Int} {x2 : Int} {x3 : Int} {x4 : Int} {x5 : Int} (a0 : (x0 ≤ x1)) (a1 : (x1 ≤ x2)) (a2 : (x2 ≤ x3)) (a3 : (x3 ≤ x4)) (a4 : (x4 ≤ x5)) : (x0 ≤ x5) := by omega
theorem d_Markup_isElementNext_0 : decode prog_7_method_7_code 0 = .ok (.aload_n 0, 1) := by decide +kernel
theorem d_Markup_isElementNext_1 : decode prog_7_method_7_code 1 = .ok (.getfield 83, 3) := by decide +kernel
theorem k_329 : (Jvm.Cond.fieldLink "PackageBook$Markup" (83 : Nat) "PackageBook$Markup" "isOpen" "Z") ∈ uW := uW_c0 212 rfl (by decide +kernel)
theorem d_Markup_isElementNext_4 : decode prog_7_method_7_code 4 = .ok (.ifCond .eq 27, 3) := by decide +kernel
theorem d_Markup_isElementNext_31 : decode prog_7_method_7_code 31 = .ok (.iconst 0, 1) := by decide +kernel
theorem d_Markup_isElementNext_32 : decode prog_7_method_7_code 32 = .ok (.ireturn, 1) := by decide +kernel
theorem d_Markup_isElementNext_7 : decode prog_7_method_7_code 7 = .ok (.aload_n 0, 1) := by decide +kernel
theorem d_Markup_isElementNext_8 : decode prog_7_method_7_code 8 = .ok (.iconst 0, 1) := by decide +kernel
theorem d_Markup_isElementNext_9 : decode prog_7_method_7_code 9 = .ok (.invokevirtual 80, 3) := by decide +kernel
theorem d_Markup_isElementNext_12 : decode prog_7_method_7_code 12 = .ok (.bipush 60, 2) := by decide +kernel
theorem d_Markup_isElementNext_14 : decode prog_7_method_7_code 14 = .ok (.if_icmp .ne 17, 3) := by decide +kernel
theorem d_Markup_isElementNext_17 : decode prog_7_method_7_code 17 = .ok (.aload_n 0, 1) := by decide +kernel
theorem d_Markup_isElementNext_18 : decode prog_7_method_7_code 18 = .ok (.iconst 1, 1) := by decide +kernel
theorem d_Markup_isElementNext_19 : decode prog_7_method_7_code 19 = .ok (.invokevirtual 80, 3) := by decide +kernel
theorem d_Markup_isElementNext_22 : decode prog_7_method_7_code 22 = .ok (.bipush 47, 2) := by decide +kernel
theorem d_Markup_isElementNext_24 : decode prog_7_method_7_code 24 = .ok (.if_icmp .eq 7, 3) := by decide +kernel
theorem d_Markup_isElementNext_27 : decode prog_7_method_7_code 27 = .ok (.iconst 1, 1) := by decide +kernel
theorem d_Markup_isElementNext_28 : decode prog_7_method_7_code 28 = .ok (.goto 4, 3) := by decide +kernel
abbrev y_Markup_isElementNext : MethodName := ⟨"PackageBook$Markup", "isElementNext", "()Z"⟩
abbrev i_Markup_isElementNext : pb_I := (y_Markup_isElementNext, prog_7_method_7_code, 1, (some Jvm.ClassFile.FieldType.boolean), [], { frames := 1, cells := 0, slots := 0, locals := 21 })
set_option maxRecDepth 100000 in
set_option maxHeartbeats 4000000 in
theorem g_Mu_isElementNext {l : Launch} (hl : l.stackTraces = false) (G : pb_G) (h : Nat) (ui : Nat) (ug : Nat) (uv : Nat) (ur : Nat) (ct : Int32) (fa : Int32) (bg : Int32) (at_ : Int32) (en : Int32) (vs : Int32) (io : Int32) (hi : Int32) (ht : Int32) (uf : Nat → Int32) (a0 : 0 ≤ at_.toInt) (a1 : at_.toInt ≤ en.toInt) (a2 : en.toInt ≤ 12000) (a3 : 0 ≤ bg.toInt) (a4 : bg.toInt ≤ at_.toInt) (F_uf : sb_Fit uf) : Cn l G i_Markup_isElementNext [.ref h] [(h, .inr (8, [.ref ui, .ref ug, .ref uv, .ref ur, .int ct, .int fa, .int bg, .int at_, .int en, .int vs, .int io, .int hi, .int ht])), (ur, .inl (G.2.1, 12000, .inl uf))] (S := Int32) (fun rv_ u => rv_ = some (.int u) ∧ (u.toInt = 0 ∨ u.toInt = 1) ∧ (hid_ (u.toInt = 1 ↔ (¬ io.toInt = 0 ∧ cm_ (mB_ uf bg.toInt) (en.toInt - bg.toInt) (at_.toInt - bg.toInt) = 60 ∧ ¬ cm_ (mB_ uf bg.toInt) (en.toInt - bg.toInt) ((at_.toInt - bg.toInt) + 1) = 47)))) (fun u => [(h, .inr (8, [.ref ui, .ref ug, .ref uv, .ref ur, .int ct, .int fa, .int bg, .int at_, .int en, .int vs, .int io, .int hi, .int ht])), (ur, .inl (G.2.1, 12000, .inl uf))]) := by
  refine Cn.of hl (by decide +kernel) rfl (Nat.le_of_ble_eq_true rfl) (fun M hQ => ?_)
  refine pb_eq (pc' := 0) (lo' := [(0, .ref h)]) (rest' := []) (ws' := [(h, .inr (8, [.ref ui, .ref ug, .ref uv, .ref ur, .int ct, .int fa, .int bg, .int at_, .int en, .int vs, .int io, .int hi, .int ht])), (ur, .inl (G.2.1, 12000, .inl uf))]) ?_
  have zl0 : (0 : Int32).toInt = 0 := by decide
  have zl1 : (1 : Int32).toInt = 1 := by decide
  refine pb_aload_n (pc := 0) d_Markup_isElementNext_0 0 rfl rfl ?_
  refine pb_get (pc := 1) d_Markup_isElementNext_1 0 10 rfl rfl (by decide) in_Markup k_329 rfl ?_
  refine pb_if_eq (pc := 4) (tgt := 31) d_Markup_isElementNext_4 (by decide) (fun w1 => ?_) (fun w1 => ?_)
  · have tw1 : io.toInt = 0 := (ti_eq rfl (by decide)).mp w1
    refine pb_iconst (pc := 31) (v := 0) d_Markup_isElementNext_31 (by decide) ?_
    exact pb_iret (pc := 32) hQ d_Markup_isElementNext_32 rfl rfl (0) ⟨rfl, (by (try dsimp only); first | done | (with_reducible assumption) | omega (splitDisjunctions := false) | assumption | omega | decide), (show hid_ ((0 : Int32).toInt = 1 ↔ (¬ io.toInt = 0 ∧ cm_ (mB_ uf bg.toInt) (en.toInt - bg.toInt) (at_.toInt - bg.toInt) = 60 ∧ ¬ cm_ (mB_ uf bg.toInt) (en.toInt - bg.toInt) ((at_.toInt - bg.toInt) + 1) = 47)) from (hid_i (by constructor <;> (intro q9; omega))))⟩ [0, 1] (by decide) rfl rfl (by decide) (by decide)
  · have tw1 : ¬ io.toInt = 0 := fun z9 => w1 ((ti_eq rfl (by decide)).mpr z9)
    refine pb_aload_n (pc := 7) d_Markup_isElementNext_7 0 rfl rfl ?_
    refine pb_iconst (pc := 8) (v := 0) d_Markup_isElementNext_8 (by decide) ?_
    refine pb_callV (pc := 9) (I := i_Markup_isElementNext) (qb := 0) (ci := 8) (nA := 1) (rest := []) (wr := []) d_Markup_isElementNext_9 (g_Mu_next hl G h ui ug uv ur ct fa bg at_ en vs io hi ht uf 0 (by first | (with_reducible assumption) | omega (splitDisjunctions := false) | assumption | omega | decide) (by first | (with_reducible assumption) | omega (splitDisjunctions := false) | assumption | omega | decide) (by first | (with_reducible assumption) | omega (splitDisjunctions := false) | assumption | omega | decide) (by first | (with_reducible assumption) | omega (splitDisjunctions := false) | assumption | omega | decide) (by first | (with_reducible assumption) | omega (splitDisjunctions := false) | assumption | omega | decide) (by first | (with_reducible assumption) | omega (splitDisjunctions := false) | assumption | omega | decide) (by first | (with_reducible assumption) | omega (splitDisjunctions := false) | assumption | omega | decide) F_uf) rfl rfl [0, 1] [] (by decide) rfl rfl rfl (by decide) (by decide) k_813 rfl k_125 k_810 k_812 k_33 ⟨rfl, hy_Markup_next⟩ (by decide) rfl rfl (Nat.le_of_ble_eq_true rfl) (by decide) (fun v9 u3 ch2 => ?_)
    obtain ⟨r_4, rfl⟩ : ∃ z9, z9 = u3 := ⟨_, rfl⟩
    obtain ⟨ech2, ch2⟩ := ch2
    have ech2 : v9 = some (.int r_4) := ech2
    subst ech2
    obtain ⟨fh5, fh6, fh7, fh8⟩ : (-1 ≤ r_4.toInt) ∧ (r_4.toInt ≤ 255) ∧ (0 ≤ r_4.toInt → at_.toInt + (0 : Int32).toInt < en.toInt) ∧ (r_4.toInt = cm_ (mB_ uf bg.toInt) (en.toInt - bg.toInt) ((at_.toInt - bg.toInt) + (0 : Int32).toInt)) := ch2
    have h1F := fh8
    rw [zl0, Int.add_zero] at h1F
    refine pb_eq (pc' := 12) (lo' := [(0, .ref h)]) (rest' := [.int r_4]) (ws' := [(h, .inr (8, [.ref ui, .ref ug, .ref uv, .ref ur, .int ct, .int fa, .int bg, .int at_, .int en, .int vs, .int io, .int hi, .int ht])), (ur, .inl (G.2.1, 12000, .inl uf))]) ?_
    refine pb_bipush (pc := 12) (v := 60) d_Markup_isElementNext_12 (by decide) ?_
    refine pb_icmp_ne (pc := 14) (tgt := 31) d_Markup_isElementNext_14 (by decide) (fun w9 => ?_) (fun w9 => ?_)
    · have tw9 : ¬ r_4.toInt = 60 := fun z9 => w9 ((ti_eq rfl (by decide)).mpr z9)
      refine pb_iconst (pc := 31) (v := 0) d_Markup_isElementNext_31 (by decide) ?_
      exact pb_iret (pc := 32) hQ d_Markup_isElementNext_32 rfl rfl (0) ⟨rfl, (by (try dsimp only); first | done | (with_reducible assumption) | omega (splitDisjunctions := false) | assumption | (clear fh7; first | omega (splitDisjunctions := false) | omega) | omega | decide), (show hid_ ((0 : Int32).toInt = 1 ↔ (¬ io.toInt = 0 ∧ cm_ (mB_ uf bg.toInt) (en.toInt - bg.toInt) (at_.toInt - bg.toInt) = 60 ∧ ¬ cm_ (mB_ uf bg.toInt) (en.toInt - bg.toInt) ((at_.toInt - bg.toInt) + 1) = 47)) from (hid_i (by constructor <;> (intro q9; omega))))⟩ [0, 1] (by decide) rfl rfl (by decide) (by decide)
    · have tw9 : r_4.toInt = 60 := (ti_eq rfl (by decide)).mp w9
      refine pb_aload_n (pc := 17) d_Markup_isElementNext_17 0 rfl rfl ?_
      refine pb_iconst (pc := 18) (v := 1) d_Markup_isElementNext_18 (by decide) ?_
      refine pb_callV (pc := 19) (I := i_Markup_isElementNext) (qb := 0) (ci := 8) (nA := 1) (rest := []) (wr := []) d_Markup_isElementNext_19 (g_Mu_next hl G h ui ug uv ur ct fa bg at_ en vs io hi ht uf 1 (by first | (with_reducible assumption) | omega (splitDisjunctions := false) | assumption | (clear fh7; first | omega (splitDisjunctions := false) | omega) | omega | decide) (by first | (with_reducible assumption) | omega (splitDisjunctions := false) | assumption | (clear fh7; first | omega (splitDisjunctions := false) | omega) | omega | decide) (by first | (with_reducible assumption) | omega (splitDisjunctions := false) | assumption | (clear fh7; first | omega (splitDisjunctions := false) | omega) | omega | decide) (by first | (with_reducible assumption) | omega (splitDisjunctions := false) | assumption | (clear fh7; first | omega (splitDisjunctions := false) | omega) | omega | decide) (by first | (with_reducible assumption) | omega (splitDisjunctions := false) | assumption | (clear fh7; first | omega (splitDisjunctions := false) | omega) | omega | decide) (by first | (with_reducible assumption) | omega (splitDisjunctions := false) | assumption | (clear fh7; first | omega (splitDisjunctions := false) | omega) | omega | decide) (by first | (with_reducible assumption) | omega (splitDisjunctions := false) | assumption | (clear fh7; first | omega (splitDisjunctions := false) | omega) | omega | decide) F_uf) rfl rfl [0, 1] [] (by decide) rfl rfl rfl (by decide) (by decide) k_813 rfl k_125 k_810 k_812 k_33 ⟨rfl, hy_Markup_next⟩ (by decide) rfl rfl (Nat.le_of_ble_eq_true rfl) (by decide) (fun v9 u11 ch10 => ?_)
      obtain ⟨r_12, rfl⟩ : ∃ z9, z9 = u11 := ⟨_, rfl⟩
      obtain ⟨ech10, ch10⟩ := ch10
      have ech10 : v9 = some (.int r_12) := ech10
      subst ech10
      obtain ⟨fh13, fh14, fh15, fh16⟩ : (-1 ≤ r_12.toInt) ∧ (r_12.toInt ≤ 255) ∧ (0 ≤ r_12.toInt → at_.toInt + (1 : Int32).toInt < en.toInt) ∧ (r_12.toInt = cm_ (mB_ uf bg.toInt) (en.toInt - bg.toInt) ((at_.toInt - bg.toInt) + (1 : Int32).toInt)) := ch10
      have h2F := fh16
      rw [zl1] at h2F
      refine pb_eq (pc' := 22) (lo' := [(0, .ref h)]) (rest' := [.int r_12]) (ws' := [(h, .inr (8, [.ref ui, .ref ug, .ref uv, .ref ur, .int ct, .int fa, .int bg, .int at_, .int en, .int vs, .int io, .int hi, .int ht])), (ur, .inl (G.2.1, 12000, .inl uf))]) ?_
      refine pb_bipush (pc := 22) (v := 47) d_Markup_isElementNext_22 (by decide) ?_
      refine pb_icmp_eq (pc := 24) (tgt := 31) d_Markup_isElementNext_24 (by decide) (fun w17 => ?_) (fun w17 => ?_)
      · have tw17 : r_12.toInt = 47 := (ti_eq rfl (by decide)).mp w17
        refine pb_iconst (pc := 31) (v := 0) d_Markup_isElementNext_31 (by decide) ?_
        exact pb_iret (pc := 32) hQ d_Markup_isElementNext_32 rfl rfl (0) ⟨rfl, (by (try dsimp only); first | done | (with_reducible assumption) | omega (splitDisjunctions := false) | assumption | (clear fh7 fh15; first | omega (splitDisjunctions := false) | omega) | omega | decide), (show hid_ ((0 : Int32).toInt = 1 ↔ (¬ io.toInt = 0 ∧ cm_ (mB_ uf bg.toInt) (en.toInt - bg.toInt) (at_.toInt - bg.toInt) = 60 ∧ ¬ cm_ (mB_ uf bg.toInt) (en.toInt - bg.toInt) ((at_.toInt - bg.toInt) + 1) = 47)) from (hid_i (by constructor <;> (intro q9; omega))))⟩ [0, 1] (by decide) rfl rfl (by decide) (by decide)
      · have tw17 : ¬ r_12.toInt = 47 := fun z9 => w17 ((ti_eq rfl (by decide)).mpr z9)
        refine pb_iconst (pc := 27) (v := 1) d_Markup_isElementNext_27 (by decide) ?_
        refine pb_goto (pc := 28) (tgt := 32) d_Markup_isElementNext_28 (by decide) ?_
        exact pb_iret (pc := 32) hQ d_Markup_isElementNext_32 rfl rfl (1) ⟨rfl, (by (try dsimp only); first | done | (with_reducible assumption) | omega (splitDisjunctions := false) | assumption | (clear fh7 fh15; first | omega (splitDisjunctions := false) | omega) | omega | decide), (show hid_ ((1 : Int32).toInt = 1 ↔ (¬ io.toInt = 0 ∧ cm_ (mB_ uf bg.toInt) (en.toInt - bg.toInt) (at_.toInt - bg.toInt) = 60 ∧ ¬ cm_ (mB_ uf bg.toInt) (en.toInt - bg.toInt) ((at_.toInt - bg.toInt) + 1) = 47)) from (hid_i (by constructor <;> (intro q9; omega))))⟩ [0, 1] (by decide) rfl rfl (by decide) (by decide)

theorem d_Markup_skipComment_0 : decode prog_7_method_18_code 0 = .ok (.aload_n 0, 1) := by decide +kernel
theorem d_Markup_skipComment_1 : decode prog_7_method_18_code 1 = .ok (.ldc 168, 2) := by decide +kernel
theorem d_Markup_skipComment_3 : decode prog_7_method_18_code 3 = .ok (.invokevirtual 73, 3) := by decide +kernel
theorem k_822 : (Jvm.Cond.methodLink "PackageBook$Markup" (73 : Nat) ({ cls := "PackageBook$Markup", name := "takeText", desc := "(Ljava/lang/String;)Z" } : Jvm.MethodName)) ∈ uW := uW_c2 225 rfl (by decide +kernel)
theorem k_825 : (Jvm.Cond.code ({ cls := "PackageBook$Markup", name := "takeText", desc := "(Ljava/lang/String;)Z" } : Jvm.MethodName) prog_7_method_21_code (3 : Nat) (Option.some Jvm.ClassFile.FieldType.boolean)) ∈ uW := uW_c2 228 rfl (by decide +kernel)
theorem k_824 : (Jvm.Cond.instanceMethod ({ cls := "PackageBook$Markup", name := "takeText", desc := "(Ljava/lang/String;)Z" } : Jvm.MethodName)) ∈ uW := uW_c2 227 rfl (by decide +kernel)
theorem k_35 : Cond.selects "PackageBook$Markup" ⟨"PackageBook$Markup", "takeText", "(Ljava/lang/String;)Z"⟩ ⟨"PackageBook$Markup", "takeText", "(Ljava/lang/String;)Z"⟩ ∈ uW := uW_of 35 (by decide +kernel) (by decide +kernel)
theorem hy_Markup_takeText : (y_Markup_takeText).cls ≠ "java/lang/invoke/MethodHandle" ∧ (y_Markup_takeText).cls ≠ "java/lang/invoke/VarHandle" ∧ (parseMethodDescriptor (y_Markup_takeText).desc).map (fun d => d.parameters.length) = some 1 := by decide +kernel
theorem d_Markup_skipComment_6 : decode prog_7_method_18_code 6 = .ok (.ifCond .ne 5, 3) := by decide +kernel
theorem d_Markup_skipComment_11 : decode prog_7_method_18_code 11 = .ok (.aload_n 0, 1) := by decide +kernel
theorem d_Markup_skipComment_12 : decode prog_7_method_18_code 12 = .ok (.getfield 48, 3) := by decide +kernel
theorem d_Markup_skipComment_15 : decode prog_7_method_18_code 15 = .ok (.aload_n 0, 1) := by decide +kernel
theorem d_Markup_skipComment_16 : decode prog_7_method_18_code 16 = .ok (.getfield 51, 3) := by decide +kernel
theorem d_Markup_skipComment_19 : decode prog_7_method_18_code 19 = .ok (.if_icmp .ge 36, 3) := by decide +kernel
theorem d_Markup_skipComment_55 : decode prog_7_method_18_code 55 = .ok (.aload_n 0, 1) := by decide +kernel
theorem d_Markup_skipComment_56 : decode prog_7_method_18_code 56 = .ok (.ldc 170, 2) := by decide +kernel
theorem d_Markup_skipComment_58 : decode prog_7_method_18_code 58 = .ok (.invokevirtual 73, 3) := by decide +kernel
theorem d_Markup_skipComment_61 : decode prog_7_method_18_code 61 = .ok (.ireturn, 1) := by decide +kernel
theorem d_Markup_skipComment_22 : decode prog_7_method_18_code 22 = .ok (.aload_n 0, 1) := by decide +kernel
theorem d_Markup_skipComment_23 : decode prog_7_method_18_code 23 = .ok (.iconst 0, 1) := by decide +kernel
theorem d_Markup_skipComment_24 : decode prog_7_method_18_code 24 = .ok (.invokevirtual 80, 3) := by decide +kernel
theorem d_Markup_skipComment_27 : decode prog_7_method_18_code 27 = .ok (.bipush 45, 2) := by decide +kernel
theorem d_Markup_skipComment_29 : decode prog_7_method_18_code 29 = .ok (.if_icmp .ne 13, 3) := by decide +kernel
theorem d_Markup_skipComment_42 : decode prog_7_method_18_code 42 = .ok (.aload_n 0, 1) := by decide +kernel
theorem d_Markup_skipComment_43 : decode prog_7_method_18_code 43 = .ok (.dup, 1) := by decide +kernel
theorem d_Markup_skipComment_44 : decode prog_7_method_18_code 44 = .ok (.getfield 48, 3) := by decide +kernel
theorem d_Markup_skipComment_47 : decode prog_7_method_18_code 47 = .ok (.iconst 1, 1) := by decide +kernel
theorem d_Markup_skipComment_48 : decode prog_7_method_18_code 48 = .ok (.iadd, 1) := by decide +kernel
theorem d_Markup_skipComment_49 : decode prog_7_method_18_code 49 = .ok (.putfield 48, 3) := by decide +kernel
theorem d_Markup_skipComment_52 : decode prog_7_method_18_code 52 = .ok (.goto (-41), 3) := by decide +kernel
theorem d_Markup_skipComment_32 : decode prog_7_method_18_code 32 = .ok (.aload_n 0, 1) := by decide +kernel
theorem d_Markup_skipComment_33 : decode prog_7_method_18_code 33 = .ok (.iconst 1, 1) := by decide +kernel
theorem d_Markup_skipComment_34 : decode prog_7_method_18_code 34 = .ok (.invokevirtual 80, 3) := by decide +kernel
theorem d_Markup_skipComment_37 : decode prog_7_method_18_code 37 = .ok (.bipush 45, 2) := by decide +kernel
theorem d_Markup_skipComment_39 : decode prog_7_method_18_code 39 = .ok (.if_icmp .eq 16, 3) := by decide +kernel
theorem d_Markup_skipComment_9 : decode prog_7_method_18_code 9 = .ok (.iconst 0, 1) := by decide +kernel
theorem d_Markup_skipComment_10 : decode prog_7_method_18_code 10 = .ok (.ireturn, 1) := by decide +kernel
abbrev y_Markup_skipComment : MethodName := ⟨"PackageBook$Markup", "skipComment", "()Z"⟩
abbrev i_Markup_skipComment : pb_I := (y_Markup_skipComment, prog_7_method_18_code, 1, (some Jvm.ClassFile.FieldType.boolean), [], { frames := 5, cells := 0, slots := 0, locals := 107 })
set_option maxRecDepth 100000 in
set_option maxHeartbeats 4000000 in
theorem g_Mu_skipComment {l : Launch} (hl : l.stackTraces = false) (G : pb_G) (h : Nat) (ui : Nat) (ug : Nat) (uv : Nat) (ur : Nat) (ct : Int32) (fa : Int32) (bg : Int32) (at_ : Int32) (en : Int32) (vs : Int32) (io : Int32) (hi : Int32) (ht : Int32) (uf : Nat → Int32) (a0 : 0 ≤ at_.toInt) (a1 : at_.toInt ≤ en.toInt) (a2 : en.toInt ≤ 12000) (a3 : 0 ≤ bg.toInt) (a4 : bg.toInt ≤ at_.toInt) (F_uf : sb_Fit uf) : Cn l G i_Markup_skipComment [.ref h] [(h, .inr (8, [.ref ui, .ref ug, .ref uv, .ref ur, .int ct, .int fa, .int bg, .int at_, .int en, .int vs, .int io, .int hi, .int ht])), (ur, .inl (G.2.1, 12000, .inl uf))] (S := Int32 × Int32 × Int32) (fun rv_ u => rv_ = some (.int u.1) ∧ (u.1.toInt = 0 ∨ u.1.toInt = 1) ∧ (at_.toInt ≤ u.2.1.toInt) ∧ (u.2.1.toInt ≤ en.toInt) ∧ (oy_ u.1.toInt (u.2.1.toInt - bg.toInt) = cF (mB_ uf bg.toInt) (en.toInt - bg.toInt) (at_.toInt - bg.toInt)) ∧ (ft_ u.1.toInt fa.toInt u.2.2.toInt)) (fun u => [(h, .inr (8, [.ref ui, .ref ug, .ref uv, .ref ur, .int ct, .int u.2.2, .int bg, .int u.2.1, .int en, .int vs, .int io, .int hi, .int ht])), (ur, .inl (G.2.1, 12000, .inl uf))]) := by
  refine Cn.of hl (by decide +kernel) rfl (Nat.le_of_ble_eq_true rfl) (fun M hQ => ?_)
  refine pb_eq (pc' := 0) (lo' := [(0, .ref h)]) (rest' := []) (ws' := [(h, .inr (8, [.ref ui, .ref ug, .ref uv, .ref ur, .int ct, .int fa, .int bg, .int at_, .int en, .int vs, .int io, .int hi, .int ht])), (ur, .inl (G.2.1, 12000, .inl uf))]) ?_
  have zl0 : (0 : Int32).toInt = 0 := by decide
  have zl1 : (1 : Int32).toInt = 1 := by decide
  refine pb_aload_n (pc := 0) d_Markup_skipComment_0 0 rfl rfl ?_
  refine pb_ldcS (pc := 1) (k := 1) d_Markup_skipComment_1 rfl (by decide) ?_
  refine pb_callV (pc := 3) (I := i_Markup_skipComment) (qb := 0) (ci := 8) (nA := 1) (rest := []) (wr := []) d_Markup_skipComment_3 (g_Mu_takeText hl G h ui ug uv ur ct fa bg at_ en vs io hi ht uf 1 (by first | (with_reducible assumption) | omega (splitDisjunctions := false) | assumption | omega | decide) (by first | (with_reducible assumption) | omega (splitDisjunctions := false) | assumption | omega | decide) (by first | (with_reducible assumption) | omega (splitDisjunctions := false) | assumption | omega | decide) (by first | (with_reducible assumption) | omega (splitDisjunctions := false) | assumption | omega | decide) (by first | (with_reducible assumption) | omega (splitDisjunctions := false) | assumption | omega | decide) (by first | assumption | decide | omega) F_uf) rfl rfl [0, 1] [] (by decide) rfl rfl rfl (by decide) (by decide) k_825 rfl k_125 k_822 k_824 k_35 ⟨rfl, hy_Markup_takeText⟩ (by decide) rfl rfl (Nat.le_of_ble_eq_true rfl) (by decide) (fun v9 u2 ch1 => ?_)
  obtain ⟨r_3, at_4, f_5⟩ := u2
  obtain ⟨ech1, ch1⟩ := ch1
  have ech1 : v9 = some (.int r_3) := ech1
  subst ech1
  obtain ⟨fh6, fh7, fh8, fh9, fh10⟩ : (r_3.toInt = 0 ∨ r_3.toInt = 1) ∧ (at_.toInt ≤ at_4.toInt) ∧ (at_4.toInt ≤ en.toInt) ∧ (oy_ r_3.toInt (at_4.toInt - bg.toInt) = wk_ (mB_ uf bg.toInt) (en.toInt - bg.toInt) (st_c 1) (st_len 1).toNat (at_.toInt - bg.toInt)) ∧ (ft_ r_3.toInt fa.toInt f_5.toInt) := ch1
  have t1F := fh9
  have t1FQ := fh10
  rw [sw6 [60, 33, 45, 45] (by decide +kernel) (by decide +kernel)] at t1F
  refine pb_eq (pc' := 6) (lo' := [(0, .ref h)]) (rest' := [.int r_3]) (ws' := [(h, .inr (8, [.ref ui, .ref ug, .ref uv, .ref ur, .int ct, .int f_5, .int bg, .int at_4, .int en, .int vs, .int io, .int hi, .int ht])), (ur, .inl (G.2.1, 12000, .inl uf))]) ?_
  refine pb_if_ne (pc := 6) (tgt := 11) d_Markup_skipComment_6 (by decide) (fun w11 => ?_) (fun w11 => ?_)
  · have tw11 : ¬ r_3.toInt = 0 := fun z9 => w11 ((ti_eq rfl (by decide)).mpr z9)
    have hL11_12 : ∀ (N9 : Nat) (a : Int32) (f : Int32), (at_.toInt ≤ a.toInt) → (a.toInt ≤ en.toInt) → (dD_ (mB_ uf bg.toInt) (en.toInt - bg.toInt) (a.toInt - bg.toInt) = cF (mB_ uf bg.toInt) (en.toInt - bg.toInt) (at_.toInt - bg.toInt)) → (f.toInt = fa.toInt) → ((en.toInt - a.toInt).toNat) < N9 → pb_P l G M i_Markup_skipComment 11 [(0, .ref h)] [] [(h, .inr (8, [.ref ui, .ref ug, .ref uv, .ref ur, .int ct, .int f, .int bg, .int a, .int en, .int vs, .int io, .int hi, .int ht])), (ur, .inl (G.2.1, 12000, .inl uf))] 0 0 := by
      intro N9
      induction N9 with
      | zero => intro a f k0 k1 lD lf hm9; exact absurd hm9 (Nat.not_lt_zero _)
      | succ N9 ih11 =>
        intro a f k0 k1 lD lf hm9
        refine pb_aload_n (pc := 11) d_Markup_skipComment_11 0 rfl rfl ?_
        refine pb_get (pc := 12) d_Markup_skipComment_12 0 7 rfl rfl (by decide) in_Markup k_326 rfl ?_
        refine pb_aload_n (pc := 15) d_Markup_skipComment_15 0 rfl rfl ?_
        refine pb_get (pc := 16) d_Markup_skipComment_16 0 8 rfl rfl (by decide) in_Markup k_327 rfl ?_
        refine pb_icmp_ge (pc := 19) (tgt := 55) d_Markup_skipComment_19 (by decide) (fun w13 => ?_) (fun w13 => ?_)
        · have tw13 : en.toInt ≤ a.toInt := (ti_le rfl rfl).mp w13
          refine pb_aload_n (pc := 55) d_Markup_skipComment_55 0 rfl rfl ?_
          refine pb_ldcS (pc := 56) (k := 2) d_Markup_skipComment_56 rfl (by decide) ?_
          refine pb_callV (pc := 58) (I := i_Markup_skipComment) (qb := 0) (ci := 8) (nA := 1) (rest := []) (wr := []) d_Markup_skipComment_58 (g_Mu_takeText hl G h ui ug uv ur ct f bg a en vs io hi ht uf 2 (by first | (with_reducible assumption) | omega (splitDisjunctions := false) | assumption | omega | decide) (by first | (with_reducible assumption) | omega (splitDisjunctions := false) | assumption | omega | decide) (by first | (with_reducible assumption) | omega (splitDisjunctions := false) | assumption | omega | decide) (by first | (with_reducible assumption) | omega (splitDisjunctions := false) | assumption | omega | decide) (by first | (with_reducible assumption) | omega (splitDisjunctions := false) | assumption | omega | decide) (by first | assumption | decide | omega) F_uf) rfl rfl [0, 1] [] (by decide) rfl rfl rfl (by decide) (by decide) k_825 rfl k_125 k_822 k_824 k_35 ⟨rfl, hy_Markup_takeText⟩ (by decide) rfl rfl (Nat.le_of_ble_eq_true rfl) (by decide) (fun v9 u15 ch14 => ?_)
          obtain ⟨r_16, at_17, f_18⟩ := u15
          obtain ⟨ech14, ch14⟩ := ch14
          have ech14 : v9 = some (.int r_16) := ech14
          subst ech14
          obtain ⟨fh19, fh20, fh21, fh22, fh23⟩ : (r_16.toInt = 0 ∨ r_16.toInt = 1) ∧ (a.toInt ≤ at_17.toInt) ∧ (at_17.toInt ≤ en.toInt) ∧ (oy_ r_16.toInt (at_17.toInt - bg.toInt) = wk_ (mB_ uf bg.toInt) (en.toInt - bg.toInt) (st_c 2) (st_len 2).toNat (a.toInt - bg.toInt)) ∧ (ft_ r_16.toInt f.toInt f_18.toInt) := ch14
          have t2F := fh22
          have t2FQ := fh23
          rw [sw6 [45, 45, 62] (by decide +kernel) (by decide +kernel)] at t2F
          refine pb_eq (pc' := 61) (lo' := [(0, .ref h)]) (rest' := [.int r_16]) (ws' := [(h, .inr (8, [.ref ui, .ref ug, .ref uv, .ref ur, .int ct, .int f_18, .int bg, .int at_17, .int en, .int vs, .int io, .int hi, .int ht])), (ur, .inl (G.2.1, 12000, .inl uf))]) ?_
          exact pb_iret (pc := 61) hQ d_Markup_skipComment_61 rfl (nar_b (by omega)) (r_16, at_17, f_18) ⟨rfl, (by (try dsimp only); first | done | (with_reducible assumption) | omega (splitDisjunctions := false) | assumption | omega | decide), (by (try dsimp only); first | done | (with_reducible assumption) | omega (splitDisjunctions := false) | assumption | omega | decide), (by (try dsimp only); first | done | (with_reducible assumption) | omega (splitDisjunctions := false) | assumption | omega | decide), (show oy_ r_16.toInt (at_17.toInt - bg.toInt) = cF (mB_ uf bg.toInt) (en.toInt - bg.toInt) (at_.toInt - bg.toInt) from (c6_x lD (by omega) t2F)), (show ft_ r_16.toInt fa.toInt f_18.toInt from (by rw [← lf]; exact t2FQ))⟩ [0, 1] (by decide) rfl rfl (by decide) (by decide)
        · have tw13 : ¬ en.toInt ≤ a.toInt := fun z9 => w13 ((ti_le rfl rfl).mpr z9)
          refine pb_aload_n (pc := 22) d_Markup_skipComment_22 0 rfl rfl ?_
          refine pb_iconst (pc := 23) (v := 0) d_Markup_skipComment_23 (by decide) ?_
          refine pb_callV (pc := 24) (I := i_Markup_skipComment) (qb := 0) (ci := 8) (nA := 1) (rest := []) (wr := []) d_Markup_skipComment_24 (g_Mu_next hl G h ui ug uv ur ct f bg a en vs io hi ht uf 0 (by first | (with_reducible assumption) | omega (splitDisjunctions := false) | assumption | omega | decide) (by first | (with_reducible assumption) | omega (splitDisjunctions := false) | assumption | omega | decide) (by first | (with_reducible assumption) | omega (splitDisjunctions := false) | assumption | omega | decide) (by first | (with_reducible assumption) | omega (splitDisjunctions := false) | assumption | omega | decide) (by first | (with_reducible assumption) | omega (splitDisjunctions := false) | assumption | omega | decide) (by first | (with_reducible assumption) | omega (splitDisjunctions := false) | assumption | omega | decide) (by first | (with_reducible assumption) | omega (splitDisjunctions := false) | assumption | omega | decide) F_uf) rfl rfl [0, 1] [] (by decide) rfl rfl rfl (by decide) (by decide) k_813 rfl k_125 k_810 k_812 k_33 ⟨rfl, hy_Markup_next⟩ (by decide) rfl rfl (Nat.le_of_ble_eq_true rfl) (by decide) (fun v9 u25 ch24 => ?_)
          obtain ⟨r_26, rfl⟩ : ∃ z9, z9 = u25 := ⟨_, rfl⟩
          obtain ⟨ech24, ch24⟩ := ch24
          have ech24 : v9 = some (.int r_26) := ech24
          subst ech24
          obtain ⟨fh27, fh28, fh29, fh30⟩ : (-1 ≤ r_26.toInt) ∧ (r_26.toInt ≤ 255) ∧ (0 ≤ r_26.toInt → a.toInt + (0 : Int32).toInt < en.toInt) ∧ (r_26.toInt = cm_ (mB_ uf bg.toInt) (en.toInt - bg.toInt) ((a.toInt - bg.toInt) + (0 : Int32).toInt)) := ch24
          have h1F := fh30
          rw [zl0, Int.add_zero] at h1F
          refine pb_eq (pc' := 27) (lo' := [(0, .ref h)]) (rest' := [.int r_26]) (ws' := [(h, .inr (8, [.ref ui, .ref ug, .ref uv, .ref ur, .int ct, .int f, .int bg, .int a, .int en, .int vs, .int io, .int hi, .int ht])), (ur, .inl (G.2.1, 12000, .inl uf))]) ?_
          refine pb_bipush (pc := 27) (v := 45) d_Markup_skipComment_27 (by decide) ?_
          refine pb_icmp_ne (pc := 29) (tgt := 42) d_Markup_skipComment_29 (by decide) (fun w31 => ?_) (fun w31 => ?_)
          · have tw31 : ¬ r_26.toInt = 45 := fun z9 => w31 ((ti_eq rfl (by decide)).mpr z9)
            refine pb_aload_n (pc := 42) d_Markup_skipComment_42 0 rfl rfl ?_
            refine pb_dup (pc := 43) d_Markup_skipComment_43 rfl ?_
            refine pb_get (pc := 44) d_Markup_skipComment_44 0 7 rfl rfl (by decide) in_Markup k_326 rfl ?_
            refine pb_iconst (pc := 47) (v := 1) d_Markup_skipComment_47 (by decide) ?_
            refine pb_iadd (pc := 48) d_Markup_skipComment_48 ?_
            refine pb_topi (fun i32 ei32 => ?_)
            try have ti32 : i32.toInt = a.toInt + 1 := t2_add ei32 rfl (by decide) (by omega)
            refine pb_put (pc := 49) (ty := .int) (ws' := [(h, .inr (8, [.ref ui, .ref ug, .ref uv, .ref ur, .int ct, .int f, .int bg, .int i32, .int en, .int vs, .int io, .int hi, .int ht])), (ur, .inl (G.2.1, 12000, .inl uf))]) d_Markup_skipComment_49 0 7 t_Markup t_Markup_ok n_Markup rfl rfl (by decide) in_Markup k_326 rfl (by decide +kernel) rfl rfl (Nat.le_of_ble_eq_true rfl) rfl ?_
            refine pb_goto (pc := 52) (tgt := 11) d_Markup_skipComment_52 (by decide) ?_
            exact ih11 i32 f (by first | (with_reducible assumption) | omega (splitDisjunctions := false) | assumption | (clear fh29 hm9; first | omega (splitDisjunctions := false) | omega) | omega | decide) (by first | (with_reducible assumption) | omega (splitDisjunctions := false) | assumption | (clear fh29 hm9; first | omega (splitDisjunctions := false) | omega) | omega | decide) (c6_d lD (by omega) (by omega) (by omega)) (by first | (with_reducible assumption) | omega (splitDisjunctions := false) | assumption | (clear fh29 hm9; first | omega (splitDisjunctions := false) | omega) | omega | decide) (by first | (clear fh29; (exact omg_7c8a06b1f5 hm9 tw13 ti32)) | omega)
          · have tw31 : r_26.toInt = 45 := (ti_eq rfl (by decide)).mp w31
            refine pb_aload_n (pc := 32) d_Markup_skipComment_32 0 rfl rfl ?_
            refine pb_iconst (pc := 33) (v := 1) d_Markup_skipComment_33 (by decide) ?_
            refine pb_callV (pc := 34) (I := i_Markup_skipComment) (qb := 0) (ci := 8) (nA := 1) (rest := []) (wr := []) d_Markup_skipComment_34 (g_Mu_next hl G h ui ug uv ur ct f bg a en vs io hi ht uf 1 (by first | (with_reducible assumption) | omega (splitDisjunctions := false) | assumption | (clear fh29 hm9; first | omega (splitDisjunctions := false) | omega) | omega | decide) (by first | (with_reducible assumption) | omega (splitDisjunctions := false) | assumption | (clear fh29 hm9; first | omega (splitDisjunctions := false) | omega) | omega | decide) (by first | (with_reducible assumption) | omega (splitDisjunctions := false) | assumption | (clear fh29 hm9; first | omega (splitDisjunctions := false) | omega) | omega | decide) (by first | (with_reducible assumption) | omega (splitDisjunctions := false) | assumption | (clear fh29 hm9; first | omega (splitDisjunctions := false) | omega) | omega | decide) (by first | (with_reducible assumption) | omega (splitDisjunctions := false) | assumption | (clear fh29 hm9; first | omega (splitDisjunctions := false) | omega) | omega | decide) (by first | (with_reducible assumption) | omega (splitDisjunctions := false) | assumption | (clear fh29 hm9; first | omega (splitDisjunctions := false) | omega) | omega | decide) (by first | (with_reducible assumption) | omega (splitDisjunctions := false) | assumption | (clear fh29 hm9; first | omega (splitDisjunctions := false) | omega) | omega | decide) F_uf) rfl rfl [0, 1] [] (by decide) rfl rfl rfl (by decide) (by decide) k_813 rfl k_125 k_810 k_812 k_33 ⟨rfl, hy_Markup_next⟩ (by decide) rfl rfl (Nat.le_of_ble_eq_true rfl) (by decide) (fun v9 u34 ch33 => ?_)
            obtain ⟨r_35, rfl⟩ : ∃ z9, z9 = u34 := ⟨_, rfl⟩
            obtain ⟨ech33, ch33⟩ := ch33
            have ech33 : v9 = some (.int r_35) := ech33
            subst ech33
            obtain ⟨fh36, fh37, fh38, fh39⟩ : (-1 ≤ r_35.toInt) ∧ (r_35.toInt ≤ 255) ∧ (0 ≤ r_35.toInt → a.toInt + (1 : Int32).toInt < en.toInt) ∧ (r_35.toInt = cm_ (mB_ uf bg.toInt) (en.toInt - bg.toInt) ((a.toInt - bg.toInt) + (1 : Int32).toInt)) := ch33
            have h2F := fh39
            rw [zl1] at h2F
            refine pb_eq (pc' := 37) (lo' := [(0, .ref h)]) (rest' := [.int r_35]) (ws' := [(h, .inr (8, [.ref ui, .ref ug, .ref uv, .ref ur, .int ct, .int f, .int bg, .int a, .int en, .int vs, .int io, .int hi, .int ht])), (ur, .inl (G.2.1, 12000, .inl uf))]) ?_
            refine pb_bipush (pc := 37) (v := 45) d_Markup_skipComment_37 (by decide) ?_
            refine pb_icmp_eq (pc := 39) (tgt := 55) d_Markup_skipComment_39 (by decide) (fun w40 => ?_) (fun w40 => ?_)
            · have tw40 : r_35.toInt = 45 := (ti_eq rfl (by decide)).mp w40
              refine pb_aload_n (pc := 55) d_Markup_skipComment_55 0 rfl rfl ?_
              refine pb_ldcS (pc := 56) (k := 2) d_Markup_skipComment_56 rfl (by decide) ?_
              refine pb_callV (pc := 58) (I := i_Markup_skipComment) (qb := 0) (ci := 8) (nA := 1) (rest := []) (wr := []) d_Markup_skipComment_58 (g_Mu_takeText hl G h ui ug uv ur ct f bg a en vs io hi ht uf 2 (by first | (with_reducible assumption) | omega (splitDisjunctions := false) | assumption | (clear fh29 fh38 hm9; first | omega (splitDisjunctions := false) | omega) | omega | decide) (by first | (with_reducible assumption) | omega (splitDisjunctions := false) | assumption | (clear fh29 fh38 hm9; first | omega (splitDisjunctions := false) | omega) | omega | decide) (by first | (with_reducible assumption) | omega (splitDisjunctions := false) | assumption | (clear fh29 fh38 hm9; first | omega (splitDisjunctions := false) | omega) | omega | decide) (by first | (with_reducible assumption) | omega (splitDisjunctions := false) | assumption | (clear fh29 fh38 hm9; first | omega (splitDisjunctions := false) | omega) | omega | decide) (by first | (with_reducible assumption) | omega (splitDisjunctions := false) | assumption | (clear fh29 fh38 hm9; first | omega (splitDisjunctions := false) | omega) | omega | decide) (by first | assumption | decide | omega) F_uf) rfl rfl [0, 1] [] (by decide) rfl rfl rfl (by decide) (by decide) k_825 rfl k_125 k_822 k_824 k_35 ⟨rfl, hy_Markup_takeText⟩ (by decide) rfl rfl (Nat.le_of_ble_eq_true rfl) (by decide) (fun v9 u42 ch41 => ?_)
              obtain ⟨r_43, at_44, f_45⟩ := u42
              obtain ⟨ech41, ch41⟩ := ch41
              have ech41 : v9 = some (.int r_43) := ech41
              subst ech41
              obtain ⟨fh46, fh47, fh48, fh49, fh50⟩ : (r_43.toInt = 0 ∨ r_43.toInt = 1) ∧ (a.toInt ≤ at_44.toInt) ∧ (at_44.toInt ≤ en.toInt) ∧ (oy_ r_43.toInt (at_44.toInt - bg.toInt) = wk_ (mB_ uf bg.toInt) (en.toInt - bg.toInt) (st_c 2) (st_len 2).toNat (a.toInt - bg.toInt)) ∧ (ft_ r_43.toInt f.toInt f_45.toInt) := ch41
              have t2F := fh49
              have t2FQ := fh50
              rw [sw6 [45, 45, 62] (by decide +kernel) (by decide +kernel)] at t2F
              refine pb_eq (pc' := 61) (lo' := [(0, .ref h)]) (rest' := [.int r_43]) (ws' := [(h, .inr (8, [.ref ui, .ref ug, .ref uv, .ref ur, .int ct, .int f_45, .int bg, .int at_44, .int en, .int vs, .int io, .int hi, .int ht])), (ur, .inl (G.2.1, 12000, .inl uf))]) ?_
              exact pb_iret (pc := 61) hQ d_Markup_skipComment_61 rfl (nar_b (by omega)) (r_43, at_44, f_45) ⟨rfl, (by (try dsimp only); first | done | (with_reducible assumption) | omega (splitDisjunctions := false) | assumption | (clear fh29 fh38 hm9; first | omega (splitDisjunctions := false) | omega) | omega | decide), (by (try dsimp only); first | done | (with_reducible assumption) | omega (splitDisjunctions := false) | assumption | (clear fh29 fh38 hm9; first | omega (splitDisjunctions := false) | omega) | omega | decide), (by (try dsimp only); first | done | (with_reducible assumption) | omega (splitDisjunctions := false) | assumption | (clear fh29 fh38 hm9; first | omega (splitDisjunctions := false) | omega) | omega | decide), (show oy_ r_43.toInt (at_44.toInt - bg.toInt) = cF (mB_ uf bg.toInt) (en.toInt - bg.toInt) (at_.toInt - bg.toInt) from (c6_x lD (by omega) t2F)), (show ft_ r_43.toInt fa.toInt f_45.toInt from (by rw [← lf]; exact t2FQ))⟩ [0, 1] (by decide) rfl rfl (by decide) (by decide)
            · have tw40 : ¬ r_35.toInt = 45 := fun z9 => w40 ((ti_eq rfl (by decide)).mpr z9)
              refine pb_aload_n (pc := 42) d_Markup_skipComment_42 0 rfl rfl ?_
              refine pb_dup (pc := 43) d_Markup_skipComment_43 rfl ?_
              refine pb_get (pc := 44) d_Markup_skipComment_44 0 7 rfl rfl (by decide) in_Markup k_326 rfl ?_
              refine pb_iconst (pc := 47) (v := 1) d_Markup_skipComment_47 (by decide) ?_
              refine pb_iadd (pc := 48) d_Markup_skipComment_48 ?_
              refine pb_topi (fun i51 ei51 => ?_)
              try have ti51 : i51.toInt = a.toInt + 1 := t2_add ei51 rfl (by decide) (by omega)
              refine pb_put (pc := 49) (ty := .int) (ws' := [(h, .inr (8, [.ref ui, .ref ug, .ref uv, .ref ur, .int ct, .int f, .int bg, .int i51, .int en, .int vs, .int io, .int hi, .int ht])), (ur, .inl (G.2.1, 12000, .inl uf))]) d_Markup_skipComment_49 0 7 t_Markup t_Markup_ok n_Markup rfl rfl (by decide) in_Markup k_326 rfl (by decide +kernel) rfl rfl (Nat.le_of_ble_eq_true rfl) rfl ?_
              refine pb_goto (pc := 52) (tgt := 11) d_Markup_skipComment_52 (by decide) ?_
              exact ih11 i51 f (by first | (with_reducible assumption) | omega (splitDisjunctions := false) | assumption | (clear fh29 fh38 hm9; first | omega (splitDisjunctions := false) | omega) | omega | decide) (by first | (with_reducible assumption) | omega (splitDisjunctions := false) | assumption | (clear fh29 fh38 hm9; first | omega (splitDisjunctions := false) | omega) | omega | decide) (c6_d lD (by omega) (by omega) (by omega)) (by first | (with_reducible assumption) | omega (splitDisjunctions := false) | assumption | (clear fh29 fh38 hm9; first | omega (splitDisjunctions := false) | omega) | omega | decide) (by first | (clear fh29 fh38; (exact omg_7c8a06b1f5 hm9 tw13 ti51)) | omega)
    exact hL11_12 _ at_4 f_5 (by first | (with_reducible assumption) | omega (splitDisjunctions := false) | assumption | omega | decide) (by first | (with_reducible assumption) | omega (splitDisjunctions := false) | assumption | omega | decide) (c6_0 t1F (by omega)) (by unfold ft_ at t1FQ; omega) (Nat.lt_succ_self _)
  · have tw11 : r_3.toInt = 0 := (ti_eq rfl (by decide)).mp w11
    refine pb_iconst (pc := 9) (v := 0) d_Markup_skipComment_9 (by decide) ?_
    exact pb_iret (pc := 10) hQ d_Markup_skipComment_10 rfl rfl (0, at_4, f_5) ⟨rfl, (by (try dsimp only); first | done | (with_reducible assumption) | omega (splitDisjunctions := false) | assumption | omega | decide), (by (try dsimp only); first | done | (with_reducible assumption) | omega (splitDisjunctions := false) | assumption | omega | decide), (by (try dsimp only); first | done | (with_reducible assumption) | omega (splitDisjunctions := false) | assumption | omega | decide), (show oy_ (0 : Int32).toInt (at_4.toInt - bg.toInt) = cF (mB_ uf bg.toInt) (en.toInt - bg.toInt) (at_.toInt - bg.toInt) from (c6_n t1F (by omega) zl0)), (show ft_ (0 : Int32).toInt fa.toInt f_5.toInt from (ft_0 t1FQ (by omega) zl0))⟩ [0, 1] (by decide) rfl rfl (by decide) (by decide)

theorem d_Markup_skipGaps_0 : decode prog_7_method_17_code 0 = .ok (.aload_n 0, 1) := by decide +kernel
theorem d_Markup_skipGaps_1 : decode prog_7_method_17_code 1 = .ok (.getfield 51, 3) := by decide +kernel
theorem d_Markup_skipGaps_4 : decode prog_7_method_17_code 4 = .ok (.aload_n 0, 1) := by decide +kernel
theorem d_Markup_skipGaps_5 : decode prog_7_method_17_code 5 = .ok (.getfield 48, 3) := by decide +kernel
theorem d_Markup_skipGaps_8 : decode prog_7_method_17_code 8 = .ok (.isub, 1) := by decide +kernel
theorem d_Markup_skipGaps_9 : decode prog_7_method_17_code 9 = .ok (.istore_n 1, 1) := by decide +kernel
theorem d_Markup_skipGaps_10 : decode prog_7_method_17_code 10 = .ok (.iload_n 1, 1) := by decide +kernel
theorem d_Markup_skipGaps_11 : decode prog_7_method_17_code 11 = .ok (.ifCond .lt 45, 3) := by decide +kernel
theorem d_Markup_skipGaps_56 : decode prog_7_method_17_code 56 = .ok (.iconst 1, 1) := by decide +kernel
theorem d_Markup_skipGaps_57 : decode prog_7_method_17_code 57 = .ok (.ireturn, 1) := by decide +kernel
theorem d_Markup_skipGaps_14 : decode prog_7_method_17_code 14 = .ok (.aload_n 0, 1) := by decide +kernel
theorem d_Markup_skipGaps_15 : decode prog_7_method_17_code 15 = .ok (.invokevirtual 77, 3) := by decide +kernel
theorem k_806 : (Jvm.Cond.methodLink "PackageBook$Markup" (77 : Nat) ({ cls := "PackageBook$Markup", name := "skipSpace", desc := "()Z" } : Jvm.MethodName)) ∈ uW := uW_c2 209 rfl (by decide +kernel)
theorem k_809 : (Jvm.Cond.code ({ cls := "PackageBook$Markup", name := "skipSpace", desc := "()Z" } : Jvm.MethodName) prog_7_method_19_code (2 : Nat) (Option.some Jvm.ClassFile.FieldType.boolean)) ∈ uW := uW_c2 212 rfl (by decide +kernel)
theorem k_808 : (Jvm.Cond.instanceMethod ({ cls := "PackageBook$Markup", name := "skipSpace", desc := "()Z" } : Jvm.MethodName)) ∈ uW := uW_c2 211 rfl (by decide +kernel)
theorem k_32 : Cond.selects "PackageBook$Markup" ⟨"PackageBook$Markup", "skipSpace", "()Z"⟩ ⟨"PackageBook$Markup", "skipSpace", "()Z"⟩ ∈ uW := uW_of 32 (by decide +kernel) (by decide +kernel)
theorem hy_Markup_skipSpace : (y_Markup_skipSpace).cls ≠ "java/lang/invoke/MethodHandle" ∧ (y_Markup_skipSpace).cls ≠ "java/lang/invoke/VarHandle" ∧ (parseMethodDescriptor (y_Markup_skipSpace).desc).map (fun d => d.parameters.length) = some 0 := by decide +kernel
theorem d_Markup_skipGaps_18 : decode prog_7_method_17_code 18 = .ok (.pop, 1) := by decide +kernel
theorem d_Markup_skipGaps_19 : decode prog_7_method_17_code 19 = .ok (.aload_n 0, 1) := by decide +kernel
theorem d_Markup_skipGaps_20 : decode prog_7_method_17_code 20 = .ok (.iconst 0, 1) := by decide +kernel
theorem d_Markup_skipGaps_21 : decode prog_7_method_17_code 21 = .ok (.invokevirtual 80, 3) := by decide +kernel
theorem d_Markup_skipGaps_24 : decode prog_7_method_17_code 24 = .ok (.bipush 60, 2) := by decide +kernel
theorem d_Markup_skipGaps_26 : decode prog_7_method_17_code 26 = .ok (.if_icmp .ne 13, 3) := by decide +kernel
theorem d_Markup_skipGaps_39 : decode prog_7_method_17_code 39 = .ok (.iconst 1, 1) := by decide +kernel
theorem d_Markup_skipGaps_40 : decode prog_7_method_17_code 40 = .ok (.ireturn, 1) := by decide +kernel
theorem d_Markup_skipGaps_29 : decode prog_7_method_17_code 29 = .ok (.aload_n 0, 1) := by decide +kernel
theorem d_Markup_skipGaps_30 : decode prog_7_method_17_code 30 = .ok (.iconst 1, 1) := by decide +kernel
theorem d_Markup_skipGaps_31 : decode prog_7_method_17_code 31 = .ok (.invokevirtual 80, 3) := by decide +kernel
theorem d_Markup_skipGaps_34 : decode prog_7_method_17_code 34 = .ok (.bipush 33, 2) := by decide +kernel
theorem d_Markup_skipGaps_36 : decode prog_7_method_17_code 36 = .ok (.if_icmp .eq 5, 3) := by decide +kernel
theorem d_Markup_skipGaps_41 : decode prog_7_method_17_code 41 = .ok (.aload_n 0, 1) := by decide +kernel
theorem d_Markup_skipGaps_42 : decode prog_7_method_17_code 42 = .ok (.invokevirtual 165, 3) := by decide +kernel
theorem k_817 : (Jvm.Cond.methodLink "PackageBook$Markup" (165 : Nat) ({ cls := "PackageBook$Markup", name := "skipComment", desc := "()Z" } : Jvm.MethodName)) ∈ uW := uW_c2 220 rfl (by decide +kernel)
theorem k_820 : (Jvm.Cond.code ({ cls := "PackageBook$Markup", name := "skipComment", desc := "()Z" } : Jvm.MethodName) prog_7_method_18_code (1 : Nat) (Option.some Jvm.ClassFile.FieldType.boolean)) ∈ uW := uW_c2 223 rfl (by decide +kernel)
theorem k_819 : (Jvm.Cond.instanceMethod ({ cls := "PackageBook$Markup", name := "skipComment", desc := "()Z" } : Jvm.MethodName)) ∈ uW := uW_c2 222 rfl (by decide +kernel)
theorem k_34 : Cond.selects "PackageBook$Markup" ⟨"PackageBook$Markup", "skipComment", "()Z"⟩ ⟨"PackageBook$Markup", "skipComment", "()Z"⟩ ∈ uW := uW_of 34 (by decide +kernel) (by decide +kernel)
theorem hy_Markup_skipComment : (y_Markup_skipComment).cls ≠ "java/lang/invoke/MethodHandle" ∧ (y_Markup_skipComment).cls ≠ "java/lang/invoke/VarHandle" ∧ (parseMethodDescriptor (y_Markup_skipComment).desc).map (fun d => d.parameters.length) = some 0 := by decide +kernel
theorem d_Markup_skipGaps_45 : decode prog_7_method_17_code 45 = .ok (.ifCond .ne 5, 3) := by decide +kernel
theorem d_Markup_skipGaps_50 : decode prog_7_method_17_code 50 = .ok (.iinc 1 (-1), 3) := by decide +kernel
theorem d_Markup_skipGaps_53 : decode prog_7_method_17_code 53 = .ok (.goto (-43), 3) := by decide +kernel
theorem d_Markup_skipGaps_48 : decode prog_7_method_17_code 48 = .ok (.iconst 0, 1) := by decide +kernel
theorem d_Markup_skipGaps_49 : decode prog_7_method_17_code 49 = .ok (.ireturn, 1) := by decide +kernel
abbrev y_Markup_skipGaps : MethodName := ⟨"PackageBook$Markup", "skipGaps", "()Z"⟩
abbrev i_Markup_skipGaps : pb_I := (y_Markup_skipGaps, prog_7_method_17_code, 2, (some Jvm.ClassFile.FieldType.boolean), [], { frames := 6, cells := 0, slots := 0, locals := 127 })
set_option maxRecDepth 100000 in
set_option maxHeartbeats 4000000 in
theorem g_Mu_skipGaps {l : Launch} (hl : l.stackTraces = false) (G : pb_G) (h : Nat) (ui : Nat) (ug : Nat) (uv : Nat) (ur : Nat) (ct : Int32) (fa : Int32) (bg : Int32) (at_ : Int32) (en : Int32) (vs : Int32) (io : Int32) (hi : Int32) (ht : Int32) (uf : Nat → Int32) (a0 : 0 ≤ at_.toInt) (a1 : at_.toInt ≤ en.toInt) (a2 : en.toInt ≤ 12000) (a3 : 0 ≤ bg.toInt) (a4 : bg.toInt ≤ at_.toInt) (F_uf : sb_Fit uf) : Cn l G i_Markup_skipGaps [.ref h] [(h, .inr (8, [.ref ui, .ref ug, .ref uv, .ref ur, .int ct, .int fa, .int bg, .int at_, .int en, .int vs, .int io, .int hi, .int ht])), (ur, .inl (G.2.1, 12000, .inl uf))] (S := Int32 × Int32 × Int32) (fun rv_ u => rv_ = some (.int u.1) ∧ (u.1.toInt = 0 ∨ u.1.toInt = 1) ∧ (at_.toInt ≤ u.2.1.toInt) ∧ (u.2.1.toInt ≤ en.toInt) ∧ (oy_ u.1.toInt (u.2.1.toInt - bg.toInt) = gF (mB_ uf bg.toInt) (en.toInt - bg.toInt) (at_.toInt - bg.toInt)) ∧ (ft_ u.1.toInt fa.toInt u.2.2.toInt)) (fun u => [(h, .inr (8, [.ref ui, .ref ug, .ref uv, .ref ur, .int ct, .int u.2.2, .int bg, .int u.2.1, .int en, .int vs, .int io, .int hi, .int ht])), (ur, .inl (G.2.1, 12000, .inl uf))]) := by
  refine Cn.of hl (by decide +kernel) rfl (Nat.le_of_ble_eq_true rfl) (fun M hQ => ?_)
  refine pb_eq (pc' := 0) (lo' := [(0, .ref h)]) (rest' := []) (ws' := [(h, .inr (8, [.ref ui, .ref ug, .ref uv, .ref ur, .int ct, .int fa, .int bg, .int at_, .int en, .int vs, .int io, .int hi, .int ht])), (ur, .inl (G.2.1, 12000, .inl uf))]) ?_
  have zl0 : (0 : Int32).toInt = 0 := by decide
  have zl1 : (1 : Int32).toInt = 1 := by decide
  refine pb_aload_n (pc := 0) d_Markup_skipGaps_0 0 rfl rfl ?_
  refine pb_get (pc := 1) d_Markup_skipGaps_1 0 8 rfl rfl (by decide) in_Markup k_327 rfl ?_
  refine pb_aload_n (pc := 4) d_Markup_skipGaps_4 0 rfl rfl ?_
  refine pb_get (pc := 5) d_Markup_skipGaps_5 0 7 rfl rfl (by decide) in_Markup k_326 rfl ?_
  refine pb_isub (pc := 8) d_Markup_skipGaps_8 ?_
  refine pb_topi (fun i1 ei1 => ?_)
  try have ti1 : i1.toInt = en.toInt - at_.toInt := t2_sub ei1 rfl rfl (by omega)
  refine pb_istore_n (pc := 9) (lo' := [(1, .int i1), (0, .ref h)]) d_Markup_skipGaps_9 rfl (by decide) rfl ?_
  have hL10_2 : ∀ (N9 : Nat) (l_ : Int32) (a : Int32) (f : Int32), (at_.toInt ≤ a.toInt) → (a.toInt ≤ en.toInt) → (gF (mB_ uf bg.toInt) (en.toInt - bg.toInt) (a.toInt - bg.toInt) = gF (mB_ uf bg.toInt) (en.toInt - bg.toInt) (at_.toInt - bg.toInt)) → (f.toInt = fa.toInt) → (en.toInt - a.toInt ≤ l_.toInt) → ((l_.toInt + 1).toNat) < N9 → pb_P l G M i_Markup_skipGaps 10 [(1, .int l_), (0, .ref h)] [] [(h, .inr (8, [.ref ui, .ref ug, .ref uv, .ref ur, .int ct, .int f, .int bg, .int a, .int en, .int vs, .int io, .int hi, .int ht])), (ur, .inl (G.2.1, 12000, .inl uf))] 0 0 := by
    intro N9
    induction N9 with
    | zero => intro l_ a f k0 k1 kg lf l9 hm9; exact absurd hm9 (Nat.not_lt_zero _)
    | succ N9 ih10 =>
      intro l_ a f k0 k1 kg lf l9 hm9
      have rl_ := ti_rng l_
      refine pb_iload_n (pc := 10) d_Markup_skipGaps_10 0 rfl rfl ?_
      refine pb_if_lt (pc := 11) (tgt := 56) d_Markup_skipGaps_11 (by decide) (fun w3 => ?_) (fun w3 => ?_)
      · have tw3 : l_.toInt < 0 := (ti_lt rfl (by decide)).mp w3
        refine pb_iconst (pc := 56) (v := 1) d_Markup_skipGaps_56 (by decide) ?_
        exact pb_iret (pc := 57) hQ d_Markup_skipGaps_57 rfl rfl (1, a, f) ⟨rfl, (by (try dsimp only); first | done | (with_reducible assumption) | omega (splitDisjunctions := false) | assumption | omega | decide), (by (try dsimp only); first | done | (with_reducible assumption) | omega (splitDisjunctions := false) | assumption | omega | decide), (by (try dsimp only); first | done | (with_reducible assumption) | omega (splitDisjunctions := false) | assumption | omega | decide), (show oy_ (1 : Int32).toInt (a.toInt - bg.toInt) = gF (mB_ uf bg.toInt) (en.toInt - bg.toInt) (at_.toInt - bg.toInt) from (absurd k1 (by omega))), (show ft_ (1 : Int32).toInt fa.toInt f.toInt from (absurd k1 (by omega)))⟩ [0, 1] (by decide) rfl rfl (by decide) (by decide)
      · have tw3 : ¬ l_.toInt < 0 := fun z9 => w3 ((ti_lt rfl (by decide)).mpr z9)
        refine pb_aload_n (pc := 14) d_Markup_skipGaps_14 1 rfl rfl ?_
        refine pb_callV (pc := 15) (I := i_Markup_skipGaps) (qb := 0) (ci := 8) (nA := 0) (rest := []) (wr := []) d_Markup_skipGaps_15 (g_Mu_skipSpace hl G h ui ug uv ur ct f bg a en vs io hi ht uf (by first | (with_reducible assumption) | omega (splitDisjunctions := false) | assumption | omega | decide) (by first | (with_reducible assumption) | omega (splitDisjunctions := false) | assumption | omega | decide) (by first | (with_reducible assumption) | omega (splitDisjunctions := false) | assumption | omega | decide) (by first | (with_reducible assumption) | omega (splitDisjunctions := false) | assumption | omega | decide) (by first | (with_reducible assumption) | omega (splitDisjunctions := false) | assumption | omega | decide) F_uf) rfl rfl [0, 1] [] (by decide) rfl rfl rfl (by decide) (by decide) k_809 rfl k_125 k_806 k_808 k_32 ⟨rfl, hy_Markup_skipSpace⟩ (by decide) rfl rfl (Nat.le_of_ble_eq_true rfl) (by decide) (fun v9 u5 ch4 => ?_)
        obtain ⟨r_6, at_7⟩ := u5
        obtain ⟨ech4, ch4⟩ := ch4
        have ech4 : v9 = some (.int r_6) := ech4
        subst ech4
        obtain ⟨fh8, fh9, fh10, fh11, fh12⟩ : (r_6.toInt = 0 ∨ r_6.toInt = 1) ∧ (a.toInt ≤ at_7.toInt) ∧ (at_7.toInt ≤ en.toInt) ∧ (at_7.toInt - bg.toInt = sF (mB_ uf bg.toInt) (en.toInt - bg.toInt) (a.toInt - bg.toInt)) ∧ (hid_ (r_6.toInt = 1 ∧ a.toInt < at_7.toInt ∨ r_6.toInt = 0 ∧ at_7.toInt = a.toInt)) := ch4
        have s1F := fh11
        refine pb_eq (pc' := 18) (lo' := [(1, .int l_), (0, .ref h)]) (rest' := [.int r_6]) (ws' := [(h, .inr (8, [.ref ui, .ref ug, .ref uv, .ref ur, .int ct, .int f, .int bg, .int at_7, .int en, .int vs, .int io, .int hi, .int ht])), (ur, .inl (G.2.1, 12000, .inl uf))]) ?_
        refine pb_pop (pc := 18) d_Markup_skipGaps_18 rfl ?_
        refine pb_aload_n (pc := 19) d_Markup_skipGaps_19 1 rfl rfl ?_
        refine pb_iconst (pc := 20) (v := 0) d_Markup_skipGaps_20 (by decide) ?_
        refine pb_callV (pc := 21) (I := i_Markup_skipGaps) (qb := 0) (ci := 8) (nA := 1) (rest := []) (wr := []) d_Markup_skipGaps_21 (g_Mu_next hl G h ui ug uv ur ct f bg at_7 en vs io hi ht uf 0 (by first | (with_reducible assumption) | omega (splitDisjunctions := false) | assumption | omega | decide) (by first | (with_reducible assumption) | omega (splitDisjunctions := false) | assumption | omega | decide) (by first | (with_reducible assumption) | omega (splitDisjunctions := false) | assumption | omega | decide) (by first | (with_reducible assumption) | omega (splitDisjunctions := false) | assumption | omega | decide) (by first | (with_reducible assumption) | omega (splitDisjunctions := false) | assumption | omega | decide) (by first | (with_reducible assumption) | omega (splitDisjunctions := false) | assumption | omega | decide) (by first | (with_reducible assumption) | omega (splitDisjunctions := false) | assumption | omega | decide) F_uf) rfl rfl [0, 1] [] (by decide) rfl rfl rfl (by decide) (by decide) k_813 rfl k_125 k_810 k_812 k_33 ⟨rfl, hy_Markup_next⟩ (by decide) rfl rfl (Nat.le_of_ble_eq_true rfl) (by decide) (fun v9 u14 ch13 => ?_)
        obtain ⟨r_15, rfl⟩ : ∃ z9, z9 = u14 := ⟨_, rfl⟩
        obtain ⟨ech13, ch13⟩ := ch13
        have ech13 : v9 = some (.int r_15) := ech13
        subst ech13
        obtain ⟨fh16, fh17, fh18, fh19⟩ : (-1 ≤ r_15.toInt) ∧ (r_15.toInt ≤ 255) ∧ (0 ≤ r_15.toInt → at_7.toInt + (0 : Int32).toInt < en.toInt) ∧ (r_15.toInt = cm_ (mB_ uf bg.toInt) (en.toInt - bg.toInt) ((at_7.toInt - bg.toInt) + (0 : Int32).toInt)) := ch13
        have h1F := fh19
        rw [zl0, Int.add_zero] at h1F
        refine pb_eq (pc' := 24) (lo' := [(1, .int l_), (0, .ref h)]) (rest' := [.int r_15]) (ws' := [(h, .inr (8, [.ref ui, .ref ug, .ref uv, .ref ur, .int ct, .int f, .int bg, .int at_7, .int en, .int vs, .int io, .int hi, .int ht])), (ur, .inl (G.2.1, 12000, .inl uf))]) ?_
        refine pb_bipush (pc := 24) (v := 60) d_Markup_skipGaps_24 (by decide) ?_
        refine pb_icmp_ne (pc := 26) (tgt := 39) d_Markup_skipGaps_26 (by decide) (fun w20 => ?_) (fun w20 => ?_)
        · have tw20 : ¬ r_15.toInt = 60 := fun z9 => w20 ((ti_eq rfl (by decide)).mpr z9)
          refine pb_iconst (pc := 39) (v := 1) d_Markup_skipGaps_39 (by decide) ?_
          exact pb_iret (pc := 40) hQ d_Markup_skipGaps_40 rfl rfl (1, at_7, f) ⟨rfl, (by (try dsimp only); first | done | (with_reducible assumption) | omega (splitDisjunctions := false) | assumption | (clear fh18 hm9; first | omega (splitDisjunctions := false) | omega) | omega | decide), (by (try dsimp only); first | done | (with_reducible assumption) | omega (splitDisjunctions := false) | assumption | (clear fh18 hm9; first | omega (splitDisjunctions := false) | omega) | omega | decide), (by (try dsimp only); first | done | (with_reducible assumption) | omega (splitDisjunctions := false) | assumption | (clear fh18 hm9; first | omega (splitDisjunctions := false) | omega) | omega | decide), (show oy_ (1 : Int32).toInt (at_7.toInt - bg.toInt) = gF (mB_ uf bg.toInt) (en.toInt - bg.toInt) (at_.toInt - bg.toInt) from (g6_y kg s1F (by omega) (by omega) (by omega))), (show ft_ (1 : Int32).toInt fa.toInt f.toInt from (ft_e (by omega) lf))⟩ [0, 1] (by decide) rfl rfl (by decide) (by decide)
        · have tw20 : r_15.toInt = 60 := (ti_eq rfl (by decide)).mp w20
          refine pb_aload_n (pc := 29) d_Markup_skipGaps_29 1 rfl rfl ?_
          refine pb_iconst (pc := 30) (v := 1) d_Markup_skipGaps_30 (by decide) ?_
          refine pb_callV (pc := 31) (I := i_Markup_skipGaps) (qb := 0) (ci := 8) (nA := 1) (rest := []) (wr := []) d_Markup_skipGaps_31 (g_Mu_next hl G h ui ug uv ur ct f bg at_7 en vs io hi ht uf 1 (by first | (with_reducible assumption) | omega (splitDisjunctions := false) | assumption | (clear fh18 hm9; first | omega (splitDisjunctions := false) | omega) | omega | decide) (by first | (with_reducible assumption) | omega (splitDisjunctions := false) | assumption | (clear fh18 hm9; first | omega (splitDisjunctions := false) | omega) | omega | decide) (by first | (with_reducible assumption) | omega (splitDisjunctions := false) | assumption | (clear fh18 hm9; first | omega (splitDisjunctions := false) | omega) | omega | decide) (by first | (with_reducible assumption) | omega (splitDisjunctions := false) | assumption | (clear fh18 hm9; first | omega (splitDisjunctions := false) | omega) | omega | decide) (by first | (with_reducible assumption) | omega (splitDisjunctions := false) | assumption | (clear fh18 hm9; first | omega (splitDisjunctions := false) | omega) | omega | decide) (by first | (with_reducible assumption) | omega (splitDisjunctions := false) | assumption | (clear fh18 hm9; first | omega (splitDisjunctions := false) | omega) | omega | decide) (by first | (with_reducible assumption) | omega (splitDisjunctions := false) | assumption | (clear fh18 hm9; first | omega (splitDisjunctions := false) | omega) | omega | decide) F_uf) rfl rfl [0, 1] [] (by decide) rfl rfl rfl (by decide) (by decide) k_813 rfl k_125 k_810 k_812 k_33 ⟨rfl, hy_Markup_next⟩ (by decide) rfl rfl (Nat.le_of_ble_eq_true rfl) (by decide) (fun v9 u22 ch21 => ?_)
          obtain ⟨r_23, rfl⟩ : ∃ z9, z9 = u22 := ⟨_, rfl⟩
          obtain ⟨ech21, ch21⟩ := ch21
          have ech21 : v9 = some (.int r_23) := ech21
          subst ech21
          obtain ⟨fh24, fh25, fh26, fh27⟩ : (-1 ≤ r_23.toInt) ∧ (r_23.toInt ≤ 255) ∧ (0 ≤ r_23.toInt → at_7.toInt + (1 : Int32).toInt < en.toInt) ∧ (r_23.toInt = cm_ (mB_ uf bg.toInt) (en.toInt - bg.toInt) ((at_7.toInt - bg.toInt) + (1 : Int32).toInt)) := ch21
          have h2F := fh27
          rw [zl1] at h2F
          refine pb_eq (pc' := 34) (lo' := [(1, .int l_), (0, .ref h)]) (rest' := [.int r_23]) (ws' := [(h, .inr (8, [.ref ui, .ref ug, .ref uv, .ref ur, .int ct, .int f, .int bg, .int at_7, .int en, .int vs, .int io, .int hi, .int ht])), (ur, .inl (G.2.1, 12000, .inl uf))]) ?_
          refine pb_bipush (pc := 34) (v := 33) d_Markup_skipGaps_34 (by decide) ?_
          refine pb_icmp_eq (pc := 36) (tgt := 41) d_Markup_skipGaps_36 (by decide) (fun w28 => ?_) (fun w28 => ?_)
          · have tw28 : r_23.toInt = 33 := (ti_eq rfl (by decide)).mp w28
            refine pb_aload_n (pc := 41) d_Markup_skipGaps_41 1 rfl rfl ?_
            refine pb_callV (pc := 42) (I := i_Markup_skipGaps) (qb := 0) (ci := 8) (nA := 0) (rest := []) (wr := []) d_Markup_skipGaps_42 (g_Mu_skipComment hl G h ui ug uv ur ct f bg at_7 en vs io hi ht uf (by first | (with_reducible assumption) | omega (splitDisjunctions := false) | assumption | (clear fh18 fh26 hm9; first | omega (splitDisjunctions := false) | omega) | omega | decide) (by first | (with_reducible assumption) | omega (splitDisjunctions := false) | assumption | (clear fh18 fh26 hm9; first | omega (splitDisjunctions := false) | omega) | omega | decide) (by first | (with_reducible assumption) | omega (splitDisjunctions := false) | assumption | (clear fh18 fh26 hm9; first | omega (splitDisjunctions := false) | omega) | omega | decide) (by first | (with_reducible assumption) | omega (splitDisjunctions := false) | assumption | (clear fh18 fh26 hm9; first | omega (splitDisjunctions := false) | omega) | omega | decide) (by first | (with_reducible assumption) | omega (splitDisjunctions := false) | assumption | (clear fh18 fh26 hm9; first | omega (splitDisjunctions := false) | omega) | omega | decide) F_uf) rfl rfl [0, 1] [] (by decide) rfl rfl rfl (by decide) (by decide) k_820 rfl k_125 k_817 k_819 k_34 ⟨rfl, hy_Markup_skipComment⟩ (by decide) rfl rfl (Nat.le_of_ble_eq_true rfl) (by decide) (fun v9 u30 ch29 => ?_)
            obtain ⟨r_31, at_32, f_33⟩ := u30
            obtain ⟨ech29, ch29⟩ := ch29
            have ech29 : v9 = some (.int r_31) := ech29
            subst ech29
            obtain ⟨fh34, fh35, fh36, fh37, fh38⟩ : (r_31.toInt = 0 ∨ r_31.toInt = 1) ∧ (at_7.toInt ≤ at_32.toInt) ∧ (at_32.toInt ≤ en.toInt) ∧ (oy_ r_31.toInt (at_32.toInt - bg.toInt) = cF (mB_ uf bg.toInt) (en.toInt - bg.toInt) (at_7.toInt - bg.toInt)) ∧ (ft_ r_31.toInt f.toInt f_33.toInt) := ch29
            have cmF := fh37
            have cmQ := fh38
            refine pb_eq (pc' := 45) (lo' := [(1, .int l_), (0, .ref h)]) (rest' := [.int r_31]) (ws' := [(h, .inr (8, [.ref ui, .ref ug, .ref uv, .ref ur, .int ct, .int f_33, .int bg, .int at_32, .int en, .int vs, .int io, .int hi, .int ht])), (ur, .inl (G.2.1, 12000, .inl uf))]) ?_
            refine pb_if_ne (pc := 45) (tgt := 50) d_Markup_skipGaps_45 (by decide) (fun w39 => ?_) (fun w39 => ?_)
            · have tw39 : ¬ r_31.toInt = 0 := fun z9 => w39 ((ti_eq rfl (by decide)).mpr z9)
              refine pb_iincN (pc := 50) (c := (-1)) d_Markup_skipGaps_50 0 rfl (by decide) (by decide) (fun i40 ei40 => ?_)
              have ti40 : i40.toInt = l_.toInt + (-1) := t2_add ei40 rfl (by decide) (by first | omega | (have r90 := ti_rng i40; omega))
              refine pb_eq (pc' := 53) (lo' := [(1, .int i40), (0, .ref h)]) (rest' := []) (ws' := [(h, .inr (8, [.ref ui, .ref ug, .ref uv, .ref ur, .int ct, .int f_33, .int bg, .int at_32, .int en, .int vs, .int io, .int hi, .int ht])), (ur, .inl (G.2.1, 12000, .inl uf))]) ?_
              refine pb_goto (pc := 53) (tgt := 10) d_Markup_skipGaps_53 (by decide) ?_
              exact ih10 i40 at_32 f_33 (by first | (with_reducible assumption) | omega (splitDisjunctions := false) | assumption | (clear fh18 fh26 hm9; first | omega (splitDisjunctions := false) | omega) | omega | decide) (by first | (with_reducible assumption) | omega (splitDisjunctions := false) | assumption | (clear fh18 fh26 hm9; first | omega (splitDisjunctions := false) | omega) | omega | decide) (g6_s kg s1F (by omega) (by omega) (by omega) cmF (by omega)) (by unfold ft_ at cmQ; omega) (by have q9 := cmF; rw [oy_t (by omega)] at q9; have q8 := cF_up q9.symm (by omega); omega) (by first | (clear fh18 fh26; (exact omg_2466cfbdcf hm9 tw3 ti40)) | omega)
            · have tw39 : r_31.toInt = 0 := (ti_eq rfl (by decide)).mp w39
              refine pb_iconst (pc := 48) (v := 0) d_Markup_skipGaps_48 (by decide) ?_
              exact pb_iret (pc := 49) hQ d_Markup_skipGaps_49 rfl rfl (0, at_32, f_33) ⟨rfl, (by (try dsimp only); first | done | (with_reducible assumption) | omega (splitDisjunctions := false) | assumption | (clear fh18 fh26 hm9; first | omega (splitDisjunctions := false) | omega) | omega | decide), (by (try dsimp only); first | done | (with_reducible assumption) | omega (splitDisjunctions := false) | assumption | (clear fh18 fh26 hm9; first | omega (splitDisjunctions := false) | omega) | omega | decide), (by (try dsimp only); first | done | (with_reducible assumption) | omega (splitDisjunctions := false) | assumption | (clear fh18 fh26 hm9; first | omega (splitDisjunctions := false) | omega) | omega | decide), (show oy_ (0 : Int32).toInt (at_32.toInt - bg.toInt) = gF (mB_ uf bg.toInt) (en.toInt - bg.toInt) (at_.toInt - bg.toInt) from (g6_n kg s1F (by omega) (by omega) (by omega) cmF (by omega) zl0)), (show ft_ (0 : Int32).toInt fa.toInt f_33.toInt from (by rw [← lf]; exact ft_0 cmQ (by omega) zl0))⟩ [0, 1] (by decide) rfl rfl (by decide) (by decide)
          · have tw28 : ¬ r_23.toInt = 33 := fun z9 => w28 ((ti_eq rfl (by decide)).mpr z9)
            refine pb_iconst (pc := 39) (v := 1) d_Markup_skipGaps_39 (by decide) ?_
            exact pb_iret (pc := 40) hQ d_Markup_skipGaps_40 rfl rfl (1, at_7, f) ⟨rfl, (by (try dsimp only); first | done | (with_reducible assumption) | omega (splitDisjunctions := false) | assumption | (clear fh18 fh26 hm9; first | omega (splitDisjunctions := false) | omega) | omega | decide), (by (try dsimp only); first | done | (with_reducible assumption) | omega (splitDisjunctions := false) | assumption | (clear fh18 fh26 hm9; first | omega (splitDisjunctions := false) | omega) | omega | decide), (by (try dsimp only); first | done | (with_reducible assumption) | omega (splitDisjunctions := false) | assumption | (clear fh18 fh26 hm9; first | omega (splitDisjunctions := false) | omega) | omega | decide), (show oy_ (1 : Int32).toInt (at_7.toInt - bg.toInt) = gF (mB_ uf bg.toInt) (en.toInt - bg.toInt) (at_.toInt - bg.toInt) from (g6_y kg s1F (by omega) (by omega) (by omega))), (show ft_ (1 : Int32).toInt fa.toInt f.toInt from (ft_e (by omega) lf))⟩ [0, 1] (by decide) rfl rfl (by decide) (by decide)
  exact hL10_2 _ i1 at_ fa (by first | (with_reducible assumption) | omega (splitDisjunctions := false) | assumption | omega | decide) (by first | (with_reducible assumption) | omega (splitDisjunctions := false) | assumption | omega | decide) rfl (by first | (with_reducible assumption) | omega (splitDisjunctions := false) | assumption | omega | decide) (by first | (with_reducible assumption) | omega (splitDisjunctions := false) | assumption | omega | decide) (Nat.lt_succ_self _)

theorem d_Markup_readClose_0 : decode prog_7_method_9_code 0 = .ok (.aload_n 0, 1) := by decide +kernel
theorem d_Markup_readClose_1 : decode prog_7_method_9_code 1 = .ok (.aload_n 1, 1) := by decide +kernel
theorem d_Markup_readClose_2 : decode prog_7_method_9_code 2 = .ok (.invokevirtual 73, 3) := by decide +kernel
theorem d_Markup_readClose_5 : decode prog_7_method_9_code 5 = .ok (.ifCond .ne 5, 3) := by decide +kernel
theorem d_Markup_readClose_10 : decode prog_7_method_9_code 10 = .ok (.aload_n 0, 1) := by decide +kernel
theorem d_Markup_readClose_11 : decode prog_7_method_9_code 11 = .ok (.invokevirtual 77, 3) := by decide +kernel
theorem d_Markup_readClose_14 : decode prog_7_method_9_code 14 = .ok (.pop, 1) := by decide +kernel
theorem d_Markup_readClose_15 : decode prog_7_method_9_code 15 = .ok (.aload_n 0, 1) := by decide +kernel
theorem d_Markup_readClose_16 : decode prog_7_method_9_code 16 = .ok (.ldc 87, 2) := by decide +kernel
theorem d_Markup_readClose_18 : decode prog_7_method_9_code 18 = .ok (.invokevirtual 73, 3) := by decide +kernel
theorem d_Markup_readClose_21 : decode prog_7_method_9_code 21 = .ok (.ireturn, 1) := by decide +kernel
theorem d_Markup_readClose_8 : decode prog_7_method_9_code 8 = .ok (.iconst 0, 1) := by decide +kernel
theorem d_Markup_readClose_9 : decode prog_7_method_9_code 9 = .ok (.ireturn, 1) := by decide +kernel
abbrev y_Markup_readClose : MethodName := ⟨"PackageBook$Markup", "readClose", "(Ljava/lang/String;)Z"⟩
abbrev i_Markup_readClose : pb_I := (y_Markup_readClose, prog_7_method_9_code, 2, (some Jvm.ClassFile.FieldType.boolean), [], { frames := 5, cells := 0, slots := 0, locals := 107 })
set_option maxRecDepth 100000 in
set_option maxHeartbeats 4000000 in
theorem g_Mu_readClose {l : Launch} (hl : l.stackTraces = false) (G : pb_G) (h : Nat) (ui : Nat) (ug : Nat) (uv : Nat) (ur : Nat) (ct : Int32) (fa : Int32) (bg : Int32) (at_ : Int32) (en : Int32) (vs : Int32) (io : Int32) (hi : Int32) (ht : Int32) (uf : Nat → Int32) (k : Nat) (a0 : 0 ≤ at_.toInt) (a1 : at_.toInt ≤ en.toInt) (a2 : en.toInt ≤ 12000) (a3 : 0 ≤ bg.toInt) (a4 : bg.toInt ≤ at_.toInt) (hk : k < st_n) (F_uf : sb_Fit uf) : Cn l G i_Markup_readClose [.ref h, .ref (G.2.2.2.2.2.1 k)] [(h, .inr (8, [.ref ui, .ref ug, .ref uv, .ref ur, .int ct, .int fa, .int bg, .int at_, .int en, .int vs, .int io, .int hi, .int ht])), (ur, .inl (G.2.1, 12000, .inl uf))] (S := Int32 × Int32 × Int32) (fun rv_ u => rv_ = some (.int u.1) ∧ (u.1.toInt = 0 ∨ u.1.toInt = 1) ∧ (at_.toInt ≤ u.2.1.toInt) ∧ (u.2.1.toInt ≤ en.toInt) ∧ (oy_ u.1.toInt (u.2.1.toInt - bg.toInt) = cl_ (mB_ uf bg.toInt) (en.toInt - bg.toInt) (st_c k) (st_len k).toNat (at_.toInt - bg.toInt)) ∧ (ft_ u.1.toInt fa.toInt u.2.2.toInt)) (fun u => [(h, .inr (8, [.ref ui, .ref ug, .ref uv, .ref ur, .int ct, .int u.2.2, .int bg, .int u.2.1, .int en, .int vs, .int io, .int hi, .int ht])), (ur, .inl (G.2.1, 12000, .inl uf))]) := by
  refine Cn.of hl (by decide +kernel) rfl (Nat.le_of_ble_eq_true rfl) (fun M hQ => ?_)
  refine pb_eq (pc' := 0) (lo' := [(0, .ref h), (1, .ref (G.2.2.2.2.2.1 k))]) (rest' := []) (ws' := [(h, .inr (8, [.ref ui, .ref ug, .ref uv, .ref ur, .int ct, .int fa, .int bg, .int at_, .int en, .int vs, .int io, .int hi, .int ht])), (ur, .inl (G.2.1, 12000, .inl uf))]) ?_
  have zl0 : (0 : Int32).toInt = 0 := by decide
  have zl1 : (1 : Int32).toInt = 1 := by decide
  refine pb_aload_n (pc := 0) d_Markup_readClose_0 0 rfl rfl ?_
  refine pb_aload_n (pc := 1) d_Markup_readClose_1 1 rfl rfl ?_
  refine pb_callV (pc := 2) (I := i_Markup_readClose) (qb := 0) (ci := 8) (nA := 1) (rest := []) (wr := []) d_Markup_readClose_2 (g_Mu_takeText hl G h ui ug uv ur ct fa bg at_ en vs io hi ht uf k (by first | (with_reducible assumption) | omega (splitDisjunctions := false) | assumption | omega | decide) (by first | (with_reducible assumption) | omega (splitDisjunctions := false) | assumption | omega | decide) (by first | (with_reducible assumption) | omega (splitDisjunctions := false) | assumption | omega | decide) (by first | (with_reducible assumption) | omega (splitDisjunctions := false) | assumption | omega | decide) (by first | (with_reducible assumption) | omega (splitDisjunctions := false) | assumption | omega | decide) (by first | assumption | decide | omega) F_uf) rfl rfl [0, 1] [] (by decide) rfl rfl rfl (by decide) (by decide) k_825 rfl k_125 k_822 k_824 k_35 ⟨rfl, hy_Markup_takeText⟩ (by decide) rfl rfl (Nat.le_of_ble_eq_true rfl) (by decide) (fun v9 u2 ch1 => ?_)
  obtain ⟨r_3, at_4, f_5⟩ := u2
  obtain ⟨ech1, ch1⟩ := ch1
  have ech1 : v9 = some (.int r_3) := ech1
  subst ech1
  obtain ⟨fh6, fh7, fh8, fh9, fh10⟩ : (r_3.toInt = 0 ∨ r_3.toInt = 1) ∧ (at_.toInt ≤ at_4.toInt) ∧ (at_4.toInt ≤ en.toInt) ∧ (oy_ r_3.toInt (at_4.toInt - bg.toInt) = wk_ (mB_ uf bg.toInt) (en.toInt - bg.toInt) (st_c k) (st_len k).toNat (at_.toInt - bg.toInt)) ∧ (ft_ r_3.toInt fa.toInt f_5.toInt) := ch1
  have t1F := fh9
  have t1FQ := fh10
  refine pb_eq (pc' := 5) (lo' := [(0, .ref h), (1, .ref (G.2.2.2.2.2.1 k))]) (rest' := [.int r_3]) (ws' := [(h, .inr (8, [.ref ui, .ref ug, .ref uv, .ref ur, .int ct, .int f_5, .int bg, .int at_4, .int en, .int vs, .int io, .int hi, .int ht])), (ur, .inl (G.2.1, 12000, .inl uf))]) ?_
  refine pb_if_ne (pc := 5) (tgt := 10) d_Markup_readClose_5 (by decide) (fun w11 => ?_) (fun w11 => ?_)
  · have tw11 : ¬ r_3.toInt = 0 := fun z9 => w11 ((ti_eq rfl (by decide)).mpr z9)
    refine pb_aload_n (pc := 10) d_Markup_readClose_10 0 rfl rfl ?_
    refine pb_callV (pc := 11) (I := i_Markup_readClose) (qb := 0) (ci := 8) (nA := 0) (rest := []) (wr := []) d_Markup_readClose_11 (g_Mu_skipSpace hl G h ui ug uv ur ct f_5 bg at_4 en vs io hi ht uf (by first | (with_reducible assumption) | omega (splitDisjunctions := false) | assumption | omega | decide) (by first | (with_reducible assumption) | omega (splitDisjunctions := false) | assumption | omega | decide) (by first | (with_reducible assumption) | omega (splitDisjunctions := false) | assumption | omega | decide) (by first | (with_reducible assumption) | omega (splitDisjunctions := false) | assumption | omega | decide) (by first | (with_reducible assumption) | omega (splitDisjunctions := false) | assumption | omega | decide) F_uf) rfl rfl [0, 1] [] (by decide) rfl rfl rfl (by decide) (by decide) k_809 rfl k_125 k_806 k_808 k_32 ⟨rfl, hy_Markup_skipSpace⟩ (by decide) rfl rfl (Nat.le_of_ble_eq_true rfl) (by decide) (fun v9 u13 ch12 => ?_)
    obtain ⟨r_14, at_15⟩ := u13
    obtain ⟨ech12, ch12⟩ := ch12
    have ech12 : v9 = some (.int r_14) := ech12
    subst ech12
    obtain ⟨fh16, fh17, fh18, fh19, fh20⟩ : (r_14.toInt = 0 ∨ r_14.toInt = 1) ∧ (at_4.toInt ≤ at_15.toInt) ∧ (at_15.toInt ≤ en.toInt) ∧ (at_15.toInt - bg.toInt = sF (mB_ uf bg.toInt) (en.toInt - bg.toInt) (at_4.toInt - bg.toInt)) ∧ (hid_ (r_14.toInt = 1 ∧ at_4.toInt < at_15.toInt ∨ r_14.toInt = 0 ∧ at_15.toInt = at_4.toInt)) := ch12
    have s1F := fh19
    refine pb_eq (pc' := 14) (lo' := [(0, .ref h), (1, .ref (G.2.2.2.2.2.1 k))]) (rest' := [.int r_14]) (ws' := [(h, .inr (8, [.ref ui, .ref ug, .ref uv, .ref ur, .int ct, .int f_5, .int bg, .int at_15, .int en, .int vs, .int io, .int hi, .int ht])), (ur, .inl (G.2.1, 12000, .inl uf))]) ?_
    refine pb_pop (pc := 14) d_Markup_readClose_14 rfl ?_
    refine pb_aload_n (pc := 15) d_Markup_readClose_15 0 rfl rfl ?_
    refine pb_ldcS (pc := 16) (k := 4) d_Markup_readClose_16 rfl (by decide) ?_
    refine pb_callV (pc := 18) (I := i_Markup_readClose) (qb := 0) (ci := 8) (nA := 1) (rest := []) (wr := []) d_Markup_readClose_18 (g_Mu_takeText hl G h ui ug uv ur ct f_5 bg at_15 en vs io hi ht uf 4 (by first | (with_reducible assumption) | omega (splitDisjunctions := false) | assumption | omega | decide) (by first | (with_reducible assumption) | omega (splitDisjunctions := false) | assumption | omega | decide) (by first | (with_reducible assumption) | omega (splitDisjunctions := false) | assumption | omega | decide) (by first | (with_reducible assumption) | omega (splitDisjunctions := false) | assumption | omega | decide) (by first | (with_reducible assumption) | omega (splitDisjunctions := false) | assumption | omega | decide) (by first | assumption | decide | omega) F_uf) rfl rfl [0, 1] [] (by decide) rfl rfl rfl (by decide) (by decide) k_825 rfl k_125 k_822 k_824 k_35 ⟨rfl, hy_Markup_takeText⟩ (by decide) rfl rfl (Nat.le_of_ble_eq_true rfl) (by decide) (fun v9 u22 ch21 => ?_)
    obtain ⟨r_23, at_24, f_25⟩ := u22
    obtain ⟨ech21, ch21⟩ := ch21
    have ech21 : v9 = some (.int r_23) := ech21
    subst ech21
    obtain ⟨fh26, fh27, fh28, fh29, fh30⟩ : (r_23.toInt = 0 ∨ r_23.toInt = 1) ∧ (at_15.toInt ≤ at_24.toInt) ∧ (at_24.toInt ≤ en.toInt) ∧ (oy_ r_23.toInt (at_24.toInt - bg.toInt) = wk_ (mB_ uf bg.toInt) (en.toInt - bg.toInt) (st_c 4) (st_len 4).toNat (at_15.toInt - bg.toInt)) ∧ (ft_ r_23.toInt f_5.toInt f_25.toInt) := ch21
    have t2F := fh29
    have t2FQ := fh30
    rw [sw6 [62] (by decide +kernel) (by decide +kernel)] at t2F
    refine pb_eq (pc' := 21) (lo' := [(0, .ref h), (1, .ref (G.2.2.2.2.2.1 k))]) (rest' := [.int r_23]) (ws' := [(h, .inr (8, [.ref ui, .ref ug, .ref uv, .ref ur, .int ct, .int f_25, .int bg, .int at_24, .int en, .int vs, .int io, .int hi, .int ht])), (ur, .inl (G.2.1, 12000, .inl uf))]) ?_
    exact pb_iret (pc := 21) hQ d_Markup_readClose_21 rfl (nar_b (by omega)) (r_23, at_24, f_25) ⟨rfl, (by (try dsimp only); first | done | (with_reducible assumption) | omega (splitDisjunctions := false) | assumption | omega | decide), (by (try dsimp only); first | done | (with_reducible assumption) | omega (splitDisjunctions := false) | assumption | omega | decide), (by (try dsimp only); first | done | (with_reducible assumption) | omega (splitDisjunctions := false) | assumption | omega | decide), (show oy_ r_23.toInt (at_24.toInt - bg.toInt) = cl_ (mB_ uf bg.toInt) (en.toInt - bg.toInt) (st_c k) (st_len k).toNat (at_.toInt - bg.toInt) from (cl6_ t1F (by omega) s1F t2F)), (show ft_ r_23.toInt fa.toInt f_25.toInt from (ft_c t1FQ (by omega) t2FQ))⟩ [0, 1] (by decide) rfl rfl (by decide) (by decide)
  · have tw11 : r_3.toInt = 0 := (ti_eq rfl (by decide)).mp w11
    refine pb_iconst (pc := 8) (v := 0) d_Markup_readClose_8 (by decide) ?_
    exact pb_iret (pc := 9) hQ d_Markup_readClose_9 rfl rfl (0, at_4, f_5) ⟨rfl, (by (try dsimp only); first | done | (with_reducible assumption) | omega (splitDisjunctions := false) | assumption | omega | decide), (by (try dsimp only); first | done | (with_reducible assumption) | omega (splitDisjunctions := false) | assumption | omega | decide), (by (try dsimp only); first | done | (with_reducible assumption) | omega (splitDisjunctions := false) | assumption | omega | decide), (show oy_ (0 : Int32).toInt (at_4.toInt - bg.toInt) = cl_ (mB_ uf bg.toInt) (en.toInt - bg.toInt) (st_c k) (st_len k).toNat (at_.toInt - bg.toInt) from (cl6_n t1F (by omega) zl0)), (show ft_ (0 : Int32).toInt fa.toInt f_5.toInt from (ft_0 t1FQ (by omega) zl0))⟩ [0, 1] (by decide) rfl rfl (by decide) (by decide)

theorem d_Markup_readHead_0 : decode prog_7_method_6_code 0 = .ok (.aload_n 0, 1) := by decide +kernel
theorem d_Markup_readHead_1 : decode prog_7_method_6_code 1 = .ok (.invokevirtual 65, 3) := by decide +kernel
theorem k_802 : (Jvm.Cond.methodLink "PackageBook$Markup" (65 : Nat) ({ cls := "PackageBook$Markup", name := "skipGaps", desc := "()Z" } : Jvm.MethodName)) ∈ uW := uW_c2 205 rfl (by decide +kernel)
theorem k_805 : (Jvm.Cond.code ({ cls := "PackageBook$Markup", name := "skipGaps", desc := "()Z" } : Jvm.MethodName) prog_7_method_17_code (2 : Nat) (Option.some Jvm.ClassFile.FieldType.boolean)) ∈ uW := uW_c2 208 rfl (by decide +kernel)
theorem k_804 : (Jvm.Cond.instanceMethod ({ cls := "PackageBook$Markup", name := "skipGaps", desc := "()Z" } : Jvm.MethodName)) ∈ uW := uW_c2 207 rfl (by decide +kernel)
theorem k_31 : Cond.selects "PackageBook$Markup" ⟨"PackageBook$Markup", "skipGaps", "()Z"⟩ ⟨"PackageBook$Markup", "skipGaps", "()Z"⟩ ∈ uW := uW_of 31 (by decide +kernel) (by decide +kernel)
theorem hy_Markup_skipGaps : (y_Markup_skipGaps).cls ≠ "java/lang/invoke/MethodHandle" ∧ (y_Markup_skipGaps).cls ≠ "java/lang/invoke/VarHandle" ∧ (parseMethodDescriptor (y_Markup_skipGaps).desc).map (fun d => d.parameters.length) = some 0 := by decide +kernel
theorem d_Markup_readHead_4 : decode prog_7_method_6_code 4 = .ok (.ifCond .eq 12, 3) := by decide +kernel
theorem d_Markup_readHead_16 : decode prog_7_method_6_code 16 = .ok (.iconst 0, 1) := by decide +kernel
theorem d_Markup_readHead_17 : decode prog_7_method_6_code 17 = .ok (.ireturn, 1) := by decide +kernel
theorem d_Markup_readHead_7 : decode prog_7_method_6_code 7 = .ok (.aload_n 0, 1) := by decide +kernel
theorem d_Markup_readHead_8 : decode prog_7_method_6_code 8 = .ok (.ldc 71, 2) := by decide +kernel
theorem d_Markup_readHead_10 : decode prog_7_method_6_code 10 = .ok (.invokevirtual 73, 3) := by decide +kernel
theorem d_Markup_readHead_13 : decode prog_7_method_6_code 13 = .ok (.ifCond .ne 5, 3) := by decide +kernel
theorem d_Markup_readHead_18 : decode prog_7_method_6_code 18 = .ok (.aload_n 0, 1) := by decide +kernel
theorem d_Markup_readHead_19 : decode prog_7_method_6_code 19 = .ok (.invokevirtual 77, 3) := by decide +kernel
theorem d_Markup_readHead_22 : decode prog_7_method_6_code 22 = .ok (.pop, 1) := by decide +kernel
theorem d_Markup_readHead_23 : decode prog_7_method_6_code 23 = .ok (.aload_n 0, 1) := by decide +kernel
theorem d_Markup_readHead_24 : decode prog_7_method_6_code 24 = .ok (.aload_n 0, 1) := by decide +kernel
theorem d_Markup_readHead_25 : decode prog_7_method_6_code 25 = .ok (.iconst 0, 1) := by decide +kernel
theorem d_Markup_readHead_26 : decode prog_7_method_6_code 26 = .ok (.invokevirtual 80, 3) := by decide +kernel
theorem d_Markup_readHead_29 : decode prog_7_method_6_code 29 = .ok (.bipush 47, 2) := by decide +kernel
theorem d_Markup_readHead_31 : decode prog_7_method_6_code 31 = .ok (.if_icmp .eq 7, 3) := by decide +kernel
theorem d_Markup_readHead_38 : decode prog_7_method_6_code 38 = .ok (.iconst 0, 1) := by decide +kernel
theorem d_Markup_readHead_39 : decode prog_7_method_6_code 39 = .ok (.putfield 83, 3) := by decide +kernel
theorem d_Markup_readHead_42 : decode prog_7_method_6_code 42 = .ok (.aload_n 0, 1) := by decide +kernel
theorem d_Markup_readHead_43 : decode prog_7_method_6_code 43 = .ok (.getfield 83, 3) := by decide +kernel
theorem d_Markup_readHead_46 : decode prog_7_method_6_code 46 = .ok (.ifCond .eq 27, 3) := by decide +kernel
theorem d_Markup_readHead_73 : decode prog_7_method_6_code 73 = .ok (.aload_n 0, 1) := by decide +kernel
theorem d_Markup_readHead_74 : decode prog_7_method_6_code 74 = .ok (.ldc 89, 2) := by decide +kernel
theorem d_Markup_readHead_76 : decode prog_7_method_6_code 76 = .ok (.invokevirtual 73, 3) := by decide +kernel
theorem d_Markup_readHead_79 : decode prog_7_method_6_code 79 = .ok (.ireturn, 1) := by decide +kernel
theorem d_Markup_readHead_34 : decode prog_7_method_6_code 34 = .ok (.iconst 1, 1) := by decide +kernel
theorem d_Markup_readHead_35 : decode prog_7_method_6_code 35 = .ok (.goto 4, 3) := by decide +kernel
theorem d_Markup_readHead_49 : decode prog_7_method_6_code 49 = .ok (.aload_n 0, 1) := by decide +kernel
theorem d_Markup_readHead_50 : decode prog_7_method_6_code 50 = .ok (.ldc 87, 2) := by decide +kernel
theorem d_Markup_readHead_52 : decode prog_7_method_6_code 52 = .ok (.invokevirtual 73, 3) := by decide +kernel
theorem d_Markup_readHead_55 : decode prog_7_method_6_code 55 = .ok (.ifCond .eq 14, 3) := by decide +kernel
theorem d_Markup_readHead_69 : decode prog_7_method_6_code 69 = .ok (.iconst 0, 1) := by decide +kernel
theorem d_Markup_readHead_70 : decode prog_7_method_6_code 70 = .ok (.goto 9, 3) := by decide +kernel
theorem d_Markup_readHead_58 : decode prog_7_method_6_code 58 = .ok (.aload_n 0, 1) := by decide +kernel
theorem d_Markup_readHead_59 : decode prog_7_method_6_code 59 = .ok (.invokevirtual 65, 3) := by decide +kernel
theorem d_Markup_readHead_62 : decode prog_7_method_6_code 62 = .ok (.ifCond .eq 7, 3) := by decide +kernel
theorem d_Markup_readHead_65 : decode prog_7_method_6_code 65 = .ok (.iconst 1, 1) := by decide +kernel
theorem d_Markup_readHead_66 : decode prog_7_method_6_code 66 = .ok (.goto 13, 3) := by decide +kernel
abbrev y_Markup_readHead : MethodName := ⟨"PackageBook$Markup", "readHead", "()Z"⟩
abbrev i_Markup_readHead : pb_I := (y_Markup_readHead, prog_7_method_6_code, 1, (some Jvm.ClassFile.FieldType.boolean), [], { frames := 7, cells := 0, slots := 0, locals := 148 })
set_option maxRecDepth 100000 in
set_option maxHeartbeats 4000000 in
theorem g_Mu_readHead {l : Launch} (hl : l.stackTraces = false) (G : pb_G) (h : Nat) (ui : Nat) (ug : Nat) (uv : Nat) (ur : Nat) (ct : Int32) (fa : Int32) (bg : Int32) (at_ : Int32) (en : Int32) (vs : Int32) (io : Int32) (hi : Int32) (ht : Int32) (uf : Nat → Int32) (a0 : 0 ≤ at_.toInt) (a1 : at_.toInt ≤ en.toInt) (a2 : en.toInt ≤ 12000) (a3 : 0 ≤ bg.toInt) (a4 : bg.toInt ≤ at_.toInt) (p0 : at_.toInt = bg.toInt) (F_uf : sb_Fit uf) : Cn l G i_Markup_readHead [.ref h] [(h, .inr (8, [.ref ui, .ref ug, .ref uv, .ref ur, .int ct, .int fa, .int bg, .int at_, .int en, .int vs, .int io, .int hi, .int ht])), (ur, .inl (G.2.1, 12000, .inl uf))] (S := Int32 × Int32 × Int32 × Int32) (fun rv_ u => rv_ = some (.int u.1) ∧ (u.1.toInt = 0 ∨ u.1.toInt = 1) ∧ (at_.toInt ≤ u.2.1.toInt) ∧ (u.2.1.toInt ≤ en.toInt) ∧ (hd6_ (mB_ uf bg.toInt) (en.toInt - bg.toInt) u.1.toInt u.2.2.2.toInt (u.2.1.toInt - bg.toInt)) ∧ (ft_ u.1.toInt fa.toInt u.2.2.1.toInt)) (fun u => [(h, .inr (8, [.ref ui, .ref ug, .ref uv, .ref ur, .int ct, .int u.2.2.1, .int bg, .int u.2.1, .int en, .int vs, .int u.2.2.2, .int hi, .int ht])), (ur, .inl (G.2.1, 12000, .inl uf))]) := by
  refine Cn.of hl (by decide +kernel) rfl (Nat.le_of_ble_eq_true rfl) (fun M hQ => ?_)
  refine pb_eq (pc' := 0) (lo' := [(0, .ref h)]) (rest' := []) (ws' := [(h, .inr (8, [.ref ui, .ref ug, .ref uv, .ref ur, .int ct, .int fa, .int bg, .int at_, .int en, .int vs, .int io, .int hi, .int ht])), (ur, .inl (G.2.1, 12000, .inl uf))]) ?_
  have zl0 : (0 : Int32).toInt = 0 := by decide
  have zl1 : (1 : Int32).toInt = 1 := by decide
  refine pb_aload_n (pc := 0) d_Markup_readHead_0 0 rfl rfl ?_
  refine pb_callV (pc := 1) (I := i_Markup_readHead) (qb := 0) (ci := 8) (nA := 0) (rest := []) (wr := []) d_Markup_readHead_1 (g_Mu_skipGaps hl G h ui ug uv ur ct fa bg at_ en vs io hi ht uf (by first | (with_reducible assumption) | omega (splitDisjunctions := false) | assumption | omega | decide) (by first | (with_reducible assumption) | omega (splitDisjunctions := false) | assumption | omega | decide) (by first | (with_reducible assumption) | omega (splitDisjunctions := false) | assumption | omega | decide) (by first | (with_reducible assumption) | omega (splitDisjunctions := false) | assumption | omega | decide) (by first | (with_reducible assumption) | omega (splitDisjunctions := false) | assumption | omega | decide) F_uf) rfl rfl [0, 1] [] (by decide) rfl rfl rfl (by decide) (by decide) k_805 rfl k_125 k_802 k_804 k_31 ⟨rfl, hy_Markup_skipGaps⟩ (by decide) rfl rfl (Nat.le_of_ble_eq_true rfl) (by decide) (fun v9 u2 ch1 => ?_)
  obtain ⟨r_3, at_4, f_5⟩ := u2
  obtain ⟨ech1, ch1⟩ := ch1
  have ech1 : v9 = some (.int r_3) := ech1
  subst ech1
  obtain ⟨fh6, fh7, fh8, fh9, fh10⟩ : (r_3.toInt = 0 ∨ r_3.toInt = 1) ∧ (at_.toInt ≤ at_4.toInt) ∧ (at_4.toInt ≤ en.toInt) ∧ (oy_ r_3.toInt (at_4.toInt - bg.toInt) = gF (mB_ uf bg.toInt) (en.toInt - bg.toInt) (at_.toInt - bg.toInt)) ∧ (ft_ r_3.toInt fa.toInt f_5.toInt) := ch1
  have g1F := fh9
  have g1FQ := fh10
  rw [show at_.toInt - bg.toInt = 0 by omega] at g1F
  refine pb_eq (pc' := 4) (lo' := [(0, .ref h)]) (rest' := [.int r_3]) (ws' := [(h, .inr (8, [.ref ui, .ref ug, .ref uv, .ref ur, .int ct, .int f_5, .int bg, .int at_4, .int en, .int vs, .int io, .int hi, .int ht])), (ur, .inl (G.2.1, 12000, .inl uf))]) ?_
  refine pb_if_eq (pc := 4) (tgt := 16) d_Markup_readHead_4 (by decide) (fun w11 => ?_) (fun w11 => ?_)
  · have tw11 : r_3.toInt = 0 := (ti_eq rfl (by decide)).mp w11
    refine pb_iconst (pc := 16) (v := 0) d_Markup_readHead_16 (by decide) ?_
    exact pb_iret (pc := 17) hQ d_Markup_readHead_17 rfl rfl (0, at_4, f_5, io) ⟨rfl, (by (try dsimp only); first | done | (with_reducible assumption) | omega (splitDisjunctions := false) | assumption | omega | decide), (by (try dsimp only); first | done | (with_reducible assumption) | omega (splitDisjunctions := false) | assumption | omega | decide), (by (try dsimp only); first | done | (with_reducible assumption) | omega (splitDisjunctions := false) | assumption | omega | decide), (show hd6_ (mB_ uf bg.toInt) (en.toInt - bg.toInt) (0 : Int32).toInt io.toInt (at_4.toInt - bg.toInt) from (by first | exact hs_n2 g1F (by omega) t1F (by omega) zl0 | exact hs_n1 g1F (by omega) zl0)), (show ft_ (0 : Int32).toInt fa.toInt f_5.toInt from (by first | exact ft_c g1FQ (by omega) (ft_0 t1FQ (by omega) zl0) | exact ft_0 g1FQ (by omega) zl0))⟩ [0, 1] (by decide) rfl rfl (by decide) (by decide)
  · have tw11 : ¬ r_3.toInt = 0 := fun z9 => w11 ((ti_eq rfl (by decide)).mpr z9)
    refine pb_aload_n (pc := 7) d_Markup_readHead_7 0 rfl rfl ?_
    refine pb_ldcS (pc := 8) (k := 3) d_Markup_readHead_8 rfl (by decide) ?_
    refine pb_callV (pc := 10) (I := i_Markup_readHead) (qb := 0) (ci := 8) (nA := 1) (rest := []) (wr := []) d_Markup_readHead_10 (g_Mu_takeText hl G h ui ug uv ur ct f_5 bg at_4 en vs io hi ht uf 3 (by first | (with_reducible assumption) | omega (splitDisjunctions := false) | assumption | omega | decide) (by first | (with_reducible assumption) | omega (splitDisjunctions := false) | assumption | omega | decide) (by first | (with_reducible assumption) | omega (splitDisjunctions := false) | assumption | omega | decide) (by first | (with_reducible assumption) | omega (splitDisjunctions := false) | assumption | omega | decide) (by first | (with_reducible assumption) | omega (splitDisjunctions := false) | assumption | omega | decide) (by first | assumption | decide | omega) F_uf) rfl rfl [0, 1] [] (by decide) rfl rfl rfl (by decide) (by decide) k_825 rfl k_125 k_822 k_824 k_35 ⟨rfl, hy_Markup_takeText⟩ (by decide) rfl rfl (Nat.le_of_ble_eq_true rfl) (by decide) (fun v9 u13 ch12 => ?_)
    obtain ⟨r_14, at_15, f_16⟩ := u13
    obtain ⟨ech12, ch12⟩ := ch12
    have ech12 : v9 = some (.int r_14) := ech12
    subst ech12
    obtain ⟨fh17, fh18, fh19, fh20, fh21⟩ : (r_14.toInt = 0 ∨ r_14.toInt = 1) ∧ (at_4.toInt ≤ at_15.toInt) ∧ (at_15.toInt ≤ en.toInt) ∧ (oy_ r_14.toInt (at_15.toInt - bg.toInt) = wk_ (mB_ uf bg.toInt) (en.toInt - bg.toInt) (st_c 3) (st_len 3).toNat (at_4.toInt - bg.toInt)) ∧ (ft_ r_14.toInt f_5.toInt f_16.toInt) := ch12
    have t1F := fh20
    have t1FQ := fh21
    rw [sw6 [60, 114, 101, 108, 115] (by decide +kernel) (by decide +kernel)] at t1F
    refine pb_eq (pc' := 13) (lo' := [(0, .ref h)]) (rest' := [.int r_14]) (ws' := [(h, .inr (8, [.ref ui, .ref ug, .ref uv, .ref ur, .int ct, .int f_16, .int bg, .int at_15, .int en, .int vs, .int io, .int hi, .int ht])), (ur, .inl (G.2.1, 12000, .inl uf))]) ?_
    refine pb_if_ne (pc := 13) (tgt := 18) d_Markup_readHead_13 (by decide) (fun w22 => ?_) (fun w22 => ?_)
    · have tw22 : ¬ r_14.toInt = 0 := fun z9 => w22 ((ti_eq rfl (by decide)).mpr z9)
      refine pb_aload_n (pc := 18) d_Markup_readHead_18 0 rfl rfl ?_
      refine pb_callV (pc := 19) (I := i_Markup_readHead) (qb := 0) (ci := 8) (nA := 0) (rest := []) (wr := []) d_Markup_readHead_19 (g_Mu_skipSpace hl G h ui ug uv ur ct f_16 bg at_15 en vs io hi ht uf (by first | (with_reducible assumption) | omega (splitDisjunctions := false) | assumption | omega | decide) (by first | (with_reducible assumption) | omega (splitDisjunctions := false) | assumption | omega | decide) (by first | (with_reducible assumption) | omega (splitDisjunctions := false) | assumption | omega | decide) (by first | (with_reducible assumption) | omega (splitDisjunctions := false) | assumption | omega | decide) (by first | (with_reducible assumption) | omega (splitDisjunctions := false) | assumption | omega | decide) F_uf) rfl rfl [0, 1] [] (by decide) rfl rfl rfl (by decide) (by decide) k_809 rfl k_125 k_806 k_808 k_32 ⟨rfl, hy_Markup_skipSpace⟩ (by decide) rfl rfl (Nat.le_of_ble_eq_true rfl) (by decide) (fun v9 u24 ch23 => ?_)
      obtain ⟨r_25, at_26⟩ := u24
      obtain ⟨ech23, ch23⟩ := ch23
      have ech23 : v9 = some (.int r_25) := ech23
      subst ech23
      obtain ⟨fh27, fh28, fh29, fh30, fh31⟩ : (r_25.toInt = 0 ∨ r_25.toInt = 1) ∧ (at_15.toInt ≤ at_26.toInt) ∧ (at_26.toInt ≤ en.toInt) ∧ (at_26.toInt - bg.toInt = sF (mB_ uf bg.toInt) (en.toInt - bg.toInt) (at_15.toInt - bg.toInt)) ∧ (hid_ (r_25.toInt = 1 ∧ at_15.toInt < at_26.toInt ∨ r_25.toInt = 0 ∧ at_26.toInt = at_15.toInt)) := ch23
      have s1F := fh30
      have hsF := hs_y g1F (by omega) t1F (by omega) s1F
      refine pb_eq (pc' := 22) (lo' := [(0, .ref h)]) (rest' := [.int r_25]) (ws' := [(h, .inr (8, [.ref ui, .ref ug, .ref uv, .ref ur, .int ct, .int f_16, .int bg, .int at_26, .int en, .int vs, .int io, .int hi, .int ht])), (ur, .inl (G.2.1, 12000, .inl uf))]) ?_
      refine pb_pop (pc := 22) d_Markup_readHead_22 rfl ?_
      refine pb_aload_n (pc := 23) d_Markup_readHead_23 0 rfl rfl ?_
      refine pb_aload_n (pc := 24) d_Markup_readHead_24 0 rfl rfl ?_
      refine pb_iconst (pc := 25) (v := 0) d_Markup_readHead_25 (by decide) ?_
      refine pb_callV (pc := 26) (I := i_Markup_readHead) (qb := 0) (ci := 8) (nA := 1) (rest := [.ref h]) (wr := []) d_Markup_readHead_26 (g_Mu_next hl G h ui ug uv ur ct f_16 bg at_26 en vs io hi ht uf 0 (by first | (with_reducible assumption) | omega (splitDisjunctions := false) | assumption | omega | decide) (by first | (with_reducible assumption) | omega (splitDisjunctions := false) | assumption | omega | decide) (by first | (with_reducible assumption) | omega (splitDisjunctions := false) | assumption | omega | decide) (by first | (with_reducible assumption) | omega (splitDisjunctions := false) | assumption | omega | decide) (by first | (with_reducible assumption) | omega (splitDisjunctions := false) | assumption | omega | decide) (by first | (with_reducible assumption) | omega (splitDisjunctions := false) | assumption | omega | decide) (by first | (with_reducible assumption) | omega (splitDisjunctions := false) | assumption | omega | decide) F_uf) rfl rfl [0, 1] [] (by decide) rfl rfl rfl (by decide) (by decide) k_813 rfl k_125 k_810 k_812 k_33 ⟨rfl, hy_Markup_next⟩ (by decide) rfl rfl (Nat.le_of_ble_eq_true rfl) (by decide) (fun v9 u33 ch32 => ?_)
      obtain ⟨r_34, rfl⟩ : ∃ z9, z9 = u33 := ⟨_, rfl⟩
      obtain ⟨ech32, ch32⟩ := ch32
      have ech32 : v9 = some (.int r_34) := ech32
      subst ech32
      obtain ⟨fh35, fh36, fh37, fh38⟩ : (-1 ≤ r_34.toInt) ∧ (r_34.toInt ≤ 255) ∧ (0 ≤ r_34.toInt → at_26.toInt + (0 : Int32).toInt < en.toInt) ∧ (r_34.toInt = cm_ (mB_ uf bg.toInt) (en.toInt - bg.toInt) ((at_26.toInt - bg.toInt) + (0 : Int32).toInt)) := ch32
      have n1F := fh38
      rw [zl0, Int.add_zero] at n1F
      refine pb_eq (pc' := 29) (lo' := [(0, .ref h)]) (rest' := [.int r_34, .ref h]) (ws' := [(h, .inr (8, [.ref ui, .ref ug, .ref uv, .ref ur, .int ct, .int f_16, .int bg, .int at_26, .int en, .int vs, .int io, .int hi, .int ht])), (ur, .inl (G.2.1, 12000, .inl uf))]) ?_
      refine pb_bipush (pc := 29) (v := 47) d_Markup_readHead_29 (by decide) ?_
      refine pb_icmp_eq (pc := 31) (tgt := 38) d_Markup_readHead_31 (by decide) (fun w39 => ?_) (fun w39 => ?_)
      · have tw39 : r_34.toInt = 47 := (ti_eq rfl (by decide)).mp w39
        refine pb_iconst (pc := 38) (v := 0) d_Markup_readHead_38 (by decide) ?_
        refine pb_put (pc := 39) (ty := .boolean) (ws' := [(h, .inr (8, [.ref ui, .ref ug, .ref uv, .ref ur, .int ct, .int f_16, .int bg, .int at_26, .int en, .int vs, .int 0, .int hi, .int ht])), (ur, .inl (G.2.1, 12000, .inl uf))]) d_Markup_readHead_39 0 10 t_Markup t_Markup_ok n_Markup rfl rfl (by decide) in_Markup k_329 rfl (by decide +kernel) rfl rfl (Nat.le_of_ble_eq_true rfl) rfl ?_
        refine pb_aload_n (pc := 42) d_Markup_readHead_42 0 rfl rfl ?_
        refine pb_get (pc := 43) d_Markup_readHead_43 0 10 rfl rfl (by decide) in_Markup k_329 rfl ?_
        refine pb_if_eq (pc := 46) (tgt := 73) d_Markup_readHead_46 (by decide) (fun _ => ?_) (fun h9 => absurd h9 (by decide))
        refine pb_aload_n (pc := 73) d_Markup_readHead_73 0 rfl rfl ?_
        refine pb_ldcS (pc := 74) (k := 5) d_Markup_readHead_74 rfl (by decide) ?_
        refine pb_callV (pc := 76) (I := i_Markup_readHead) (qb := 0) (ci := 8) (nA := 1) (rest := []) (wr := []) d_Markup_readHead_76 (g_Mu_takeText hl G h ui ug uv ur ct f_16 bg at_26 en vs 0 hi ht uf 5 (by first | (with_reducible assumption) | omega (splitDisjunctions := false) | assumption | (clear fh37; first | omega (splitDisjunctions := false) | omega) | omega | decide) (by first | (with_reducible assumption) | omega (splitDisjunctions := false) | assumption | (clear fh37; first | omega (splitDisjunctions := false) | omega) | omega | decide) (by first | (with_reducible assumption) | omega (splitDisjunctions := false) | assumption | (clear fh37; first | omega (splitDisjunctions := false) | omega) | omega | decide) (by first | (with_reducible assumption) | omega (splitDisjunctions := false) | assumption | (clear fh37; first | omega (splitDisjunctions := false) | omega) | omega | decide) (by first | (with_reducible assumption) | omega (splitDisjunctions := false) | assumption | (clear fh37; first | omega (splitDisjunctions := false) | omega) | omega | decide) (by first | assumption | decide | omega) F_uf) rfl rfl [0, 1] [] (by decide) rfl rfl rfl (by decide) (by decide) k_825 rfl k_125 k_822 k_824 k_35 ⟨rfl, hy_Markup_takeText⟩ (by decide) rfl rfl (Nat.le_of_ble_eq_true rfl) (by decide) (fun v9 u42 ch41 => ?_)
        obtain ⟨r_43, at_44, f_45⟩ := u42
        obtain ⟨ech41, ch41⟩ := ch41
        have ech41 : v9 = some (.int r_43) := ech41
        subst ech41
        obtain ⟨fh46, fh47, fh48, fh49, fh50⟩ : (r_43.toInt = 0 ∨ r_43.toInt = 1) ∧ (at_26.toInt ≤ at_44.toInt) ∧ (at_44.toInt ≤ en.toInt) ∧ (oy_ r_43.toInt (at_44.toInt - bg.toInt) = wk_ (mB_ uf bg.toInt) (en.toInt - bg.toInt) (st_c 5) (st_len 5).toNat (at_26.toInt - bg.toInt)) ∧ (ft_ r_43.toInt f_16.toInt f_45.toInt) := ch41
        have t3F := fh49
        have t3FQ := fh50
        rw [sw6 [47, 62] (by decide +kernel) (by decide +kernel)] at t3F
        refine pb_eq (pc' := 79) (lo' := [(0, .ref h)]) (rest' := [.int r_43]) (ws' := [(h, .inr (8, [.ref ui, .ref ug, .ref uv, .ref ur, .int ct, .int f_45, .int bg, .int at_44, .int en, .int vs, .int 0, .int hi, .int ht])), (ur, .inl (G.2.1, 12000, .inl uf))]) ?_
        exact pb_iret (pc := 79) hQ d_Markup_readHead_79 rfl (nar_b (by omega)) (r_43, at_44, f_45, 0) ⟨rfl, (by (try dsimp only); first | done | (with_reducible assumption) | omega (splitDisjunctions := false) | assumption | (clear fh37; first | omega (splitDisjunctions := false) | omega) | omega | decide), (by (try dsimp only); first | done | (with_reducible assumption) | omega (splitDisjunctions := false) | assumption | (clear fh37; first | omega (splitDisjunctions := false) | omega) | omega | decide), (by (try dsimp only); first | done | (with_reducible assumption) | omega (splitDisjunctions := false) | assumption | (clear fh37; first | omega (splitDisjunctions := false) | omega) | omega | decide), (show hd6_ (mB_ uf bg.toInt) (en.toInt - bg.toInt) r_43.toInt (0 : Int32).toInt (at_44.toInt - bg.toInt) from (by first | exact hd_c hsF (by omega) t3F zl0 | exact hd_o hsF (by omega) t2F (by omega) (oy_1 g2F (by omega) (by omega)) (by omega) | exact hd_o hsF (by omega) t2F (by omega) (oy_0 g2F (by omega) zl0) (by omega) | exact hd_on hsF (by omega) t2F (by omega) zl0)), (show ft_ r_43.toInt fa.toInt f_45.toInt from (by first | exact ft_c g1FQ (by omega) (ft_c t1FQ (by omega) t3FQ) | exact ft_c g1FQ (by omega) (ft_c t1FQ (by omega) (ft_c t2FQ (by omega) (ft_1 g2FQ (by omega) (by omega)))) | exact ft_c g1FQ (by omega) (ft_c t1FQ (by omega) (ft_c t2FQ (by omega) (ft_0 g2FQ (by omega) zl0))) | exact ft_c g1FQ (by omega) (ft_c t1FQ (by omega) (ft_0 t2FQ (by omega) zl0))))⟩ [0, 1] (by decide) rfl rfl (by decide) (by decide)
      · have tw39 : ¬ r_34.toInt = 47 := fun z9 => w39 ((ti_eq rfl (by decide)).mpr z9)
        refine pb_iconst (pc := 34) (v := 1) d_Markup_readHead_34 (by decide) ?_
        refine pb_goto (pc := 35) (tgt := 39) d_Markup_readHead_35 (by decide) ?_
        refine pb_put (pc := 39) (ty := .boolean) (ws' := [(h, .inr (8, [.ref ui, .ref ug, .ref uv, .ref ur, .int ct, .int f_16, .int bg, .int at_26, .int en, .int vs, .int 1, .int hi, .int ht])), (ur, .inl (G.2.1, 12000, .inl uf))]) d_Markup_readHead_39 0 10 t_Markup t_Markup_ok n_Markup rfl rfl (by decide) in_Markup k_329 rfl (by decide +kernel) rfl rfl (Nat.le_of_ble_eq_true rfl) rfl ?_
        refine pb_aload_n (pc := 42) d_Markup_readHead_42 0 rfl rfl ?_
        refine pb_get (pc := 43) d_Markup_readHead_43 0 10 rfl rfl (by decide) in_Markup k_329 rfl ?_
        refine pb_if_eq (pc := 46) (tgt := 73) d_Markup_readHead_46 (by decide) (fun h9 => absurd h9 (by decide)) (fun _ => ?_)
        refine pb_aload_n (pc := 49) d_Markup_readHead_49 0 rfl rfl ?_
        refine pb_ldcS (pc := 50) (k := 4) d_Markup_readHead_50 rfl (by decide) ?_
        refine pb_callV (pc := 52) (I := i_Markup_readHead) (qb := 0) (ci := 8) (nA := 1) (rest := []) (wr := []) d_Markup_readHead_52 (g_Mu_takeText hl G h ui ug uv ur ct f_16 bg at_26 en vs 1 hi ht uf 4 (by first | (with_reducible assumption) | omega (splitDisjunctions := false) | assumption | (clear fh37; first | omega (splitDisjunctions := false) | omega) | omega | decide) (by first | (with_reducible assumption) | omega (splitDisjunctions := false) | assumption | (clear fh37; first | omega (splitDisjunctions := false) | omega) | omega | decide) (by first | (with_reducible assumption) | omega (splitDisjunctions := false) | assumption | (clear fh37; first | omega (splitDisjunctions := false) | omega) | omega | decide) (by first | (with_reducible assumption) | omega (splitDisjunctions := false) | assumption | (clear fh37; first | omega (splitDisjunctions := false) | omega) | omega | decide) (by first | (with_reducible assumption) | omega (splitDisjunctions := false) | assumption | (clear fh37; first | omega (splitDisjunctions := false) | omega) | omega | decide) (by first | assumption | decide | omega) F_uf) rfl rfl [0, 1] [] (by decide) rfl rfl rfl (by decide) (by decide) k_825 rfl k_125 k_822 k_824 k_35 ⟨rfl, hy_Markup_takeText⟩ (by decide) rfl rfl (Nat.le_of_ble_eq_true rfl) (by decide) (fun v9 u53 ch52 => ?_)
        obtain ⟨r_54, at_55, f_56⟩ := u53
        obtain ⟨ech52, ch52⟩ := ch52
        have ech52 : v9 = some (.int r_54) := ech52
        subst ech52
        obtain ⟨fh57, fh58, fh59, fh60, fh61⟩ : (r_54.toInt = 0 ∨ r_54.toInt = 1) ∧ (at_26.toInt ≤ at_55.toInt) ∧ (at_55.toInt ≤ en.toInt) ∧ (oy_ r_54.toInt (at_55.toInt - bg.toInt) = wk_ (mB_ uf bg.toInt) (en.toInt - bg.toInt) (st_c 4) (st_len 4).toNat (at_26.toInt - bg.toInt)) ∧ (ft_ r_54.toInt f_16.toInt f_56.toInt) := ch52
        have t2F := fh60
        have t2FQ := fh61
        rw [sw6 [62] (by decide +kernel) (by decide +kernel)] at t2F
        refine pb_eq (pc' := 55) (lo' := [(0, .ref h)]) (rest' := [.int r_54]) (ws' := [(h, .inr (8, [.ref ui, .ref ug, .ref uv, .ref ur, .int ct, .int f_56, .int bg, .int at_55, .int en, .int vs, .int 1, .int hi, .int ht])), (ur, .inl (G.2.1, 12000, .inl uf))]) ?_
        refine pb_if_eq (pc := 55) (tgt := 69) d_Markup_readHead_55 (by decide) (fun w62 => ?_) (fun w62 => ?_)
        · have tw62 : r_54.toInt = 0 := (ti_eq rfl (by decide)).mp w62
          refine pb_iconst (pc := 69) (v := 0) d_Markup_readHead_69 (by decide) ?_
          refine pb_goto (pc := 70) (tgt := 79) d_Markup_readHead_70 (by decide) ?_
          exact pb_iret (pc := 79) hQ d_Markup_readHead_79 rfl rfl (0, at_55, f_56, 1) ⟨rfl, (by (try dsimp only); first | done | (with_reducible assumption) | omega (splitDisjunctions := false) | assumption | (clear fh37; first | omega (splitDisjunctions := false) | omega) | omega | decide), (by (try dsimp only); first | done | (with_reducible assumption) | omega (splitDisjunctions := false) | assumption | (clear fh37; first | omega (splitDisjunctions := false) | omega) | omega | decide), (by (try dsimp only); first | done | (with_reducible assumption) | omega (splitDisjunctions := false) | assumption | (clear fh37; first | omega (splitDisjunctions := false) | omega) | omega | decide), (show hd6_ (mB_ uf bg.toInt) (en.toInt - bg.toInt) (0 : Int32).toInt (1 : Int32).toInt (at_55.toInt - bg.toInt) from (by first | exact hd_c hsF (by omega) t3F zl0 | exact hd_o hsF (by omega) t2F (by omega) (oy_1 g2F (by omega) (by omega)) (by omega) | exact hd_o hsF (by omega) t2F (by omega) (oy_0 g2F (by omega) zl0) (by omega) | exact hd_on hsF (by omega) t2F (by omega) zl0)), (show ft_ (0 : Int32).toInt fa.toInt f_56.toInt from (by first | exact ft_c g1FQ (by omega) (ft_c t1FQ (by omega) t3FQ) | exact ft_c g1FQ (by omega) (ft_c t1FQ (by omega) (ft_c t2FQ (by omega) (ft_1 g2FQ (by omega) (by omega)))) | exact ft_c g1FQ (by omega) (ft_c t1FQ (by omega) (ft_c t2FQ (by omega) (ft_0 g2FQ (by omega) zl0))) | exact ft_c g1FQ (by omega) (ft_c t1FQ (by omega) (ft_0 t2FQ (by omega) zl0))))⟩ [0, 1] (by decide) rfl rfl (by decide) (by decide)
        · have tw62 : ¬ r_54.toInt = 0 := fun z9 => w62 ((ti_eq rfl (by decide)).mpr z9)
          refine pb_aload_n (pc := 58) d_Markup_readHead_58 0 rfl rfl ?_
          refine pb_callV (pc := 59) (I := i_Markup_readHead) (qb := 0) (ci := 8) (nA := 0) (rest := []) (wr := []) d_Markup_readHead_59 (g_Mu_skipGaps hl G h ui ug uv ur ct f_56 bg at_55 en vs 1 hi ht uf (by first | (with_reducible assumption) | omega (splitDisjunctions := false) | assumption | (clear fh37; first | omega (splitDisjunctions := false) | omega) | omega | decide) (by first | (with_reducible assumption) | omega (splitDisjunctions := false) | assumption | (clear fh37; first | omega (splitDisjunctions := false) | omega) | omega | decide) (by first | (with_reducible assumption) | omega (splitDisjunctions := false) | assumption | (clear fh37; first | omega (splitDisjunctions := false) | omega) | omega | decide) (by first | (with_reducible assumption) | omega (splitDisjunctions := false) | assumption | (clear fh37; first | omega (splitDisjunctions := false) | omega) | omega | decide) (by first | (with_reducible assumption) | omega (splitDisjunctions := false) | assumption | (clear fh37; first | omega (splitDisjunctions := false) | omega) | omega | decide) F_uf) rfl rfl [0, 1] [] (by decide) rfl rfl rfl (by decide) (by decide) k_805 rfl k_125 k_802 k_804 k_31 ⟨rfl, hy_Markup_skipGaps⟩ (by decide) rfl rfl (Nat.le_of_ble_eq_true rfl) (by decide) (fun v9 u64 ch63 => ?_)
          obtain ⟨r_65, at_66, f_67⟩ := u64
          obtain ⟨ech63, ch63⟩ := ch63
          have ech63 : v9 = some (.int r_65) := ech63
          subst ech63
          obtain ⟨fh68, fh69, fh70, fh71, fh72⟩ : (r_65.toInt = 0 ∨ r_65.toInt = 1) ∧ (at_55.toInt ≤ at_66.toInt) ∧ (at_66.toInt ≤ en.toInt) ∧ (oy_ r_65.toInt (at_66.toInt - bg.toInt) = gF (mB_ uf bg.toInt) (en.toInt - bg.toInt) (at_55.toInt - bg.toInt)) ∧ (ft_ r_65.toInt f_56.toInt f_67.toInt) := ch63
          have g2F := fh71
          have g2FQ := fh72
          refine pb_eq (pc' := 62) (lo' := [(0, .ref h)]) (rest' := [.int r_65]) (ws' := [(h, .inr (8, [.ref ui, .ref ug, .ref uv, .ref ur, .int ct, .int f_67, .int bg, .int at_66, .int en, .int vs, .int 1, .int hi, .int ht])), (ur, .inl (G.2.1, 12000, .inl uf))]) ?_
          refine pb_if_eq (pc := 62) (tgt := 69) d_Markup_readHead_62 (by decide) (fun w73 => ?_) (fun w73 => ?_)
          · have tw73 : r_65.toInt = 0 := (ti_eq rfl (by decide)).mp w73
            refine pb_iconst (pc := 69) (v := 0) d_Markup_readHead_69 (by decide) ?_
            refine pb_goto (pc := 70) (tgt := 79) d_Markup_readHead_70 (by decide) ?_
            exact pb_iret (pc := 79) hQ d_Markup_readHead_79 rfl rfl (0, at_66, f_67, 1) ⟨rfl, (by (try dsimp only); first | done | (with_reducible assumption) | omega (splitDisjunctions := false) | assumption | (clear fh37; first | omega (splitDisjunctions := false) | omega) | omega | decide), (by (try dsimp only); first | done | (with_reducible assumption) | omega (splitDisjunctions := false) | assumption | (clear fh37; first | omega (splitDisjunctions := false) | omega) | omega | decide), (by (try dsimp only); first | done | (with_reducible assumption) | omega (splitDisjunctions := false) | assumption | (clear fh37; first | omega (splitDisjunctions := false) | omega) | omega | decide), (show hd6_ (mB_ uf bg.toInt) (en.toInt - bg.toInt) (0 : Int32).toInt (1 : Int32).toInt (at_66.toInt - bg.toInt) from (by first | exact hd_c hsF (by omega) t3F zl0 | exact hd_o hsF (by omega) t2F (by omega) (oy_1 g2F (by omega) (by omega)) (by omega) | exact hd_o hsF (by omega) t2F (by omega) (oy_0 g2F (by omega) zl0) (by omega) | exact hd_on hsF (by omega) t2F (by omega) zl0)), (show ft_ (0 : Int32).toInt fa.toInt f_67.toInt from (by first | exact ft_c g1FQ (by omega) (ft_c t1FQ (by omega) t3FQ) | exact ft_c g1FQ (by omega) (ft_c t1FQ (by omega) (ft_c t2FQ (by omega) (ft_1 g2FQ (by omega) (by omega)))) | exact ft_c g1FQ (by omega) (ft_c t1FQ (by omega) (ft_c t2FQ (by omega) (ft_0 g2FQ (by omega) zl0))) | exact ft_c g1FQ (by omega) (ft_c t1FQ (by omega) (ft_0 t2FQ (by omega) zl0))))⟩ [0, 1] (by decide) rfl rfl (by decide) (by decide)
          · have tw73 : ¬ r_65.toInt = 0 := fun z9 => w73 ((ti_eq rfl (by decide)).mpr z9)
            refine pb_iconst (pc := 65) (v := 1) d_Markup_readHead_65 (by decide) ?_
            refine pb_goto (pc := 66) (tgt := 79) d_Markup_readHead_66 (by decide) ?_
            exact pb_iret (pc := 79) hQ d_Markup_readHead_79 rfl rfl (1, at_66, f_67, 1) ⟨rfl, (by (try dsimp only); first | done | (with_reducible assumption) | omega (splitDisjunctions := false) | assumption | (clear fh37; first | omega (splitDisjunctions := false) | omega) | omega | decide), (by (try dsimp only); first | done | (with_reducible assumption) | (exact omg_a30c78b83b fh7 fh18 fh28 fh58 fh69) | assumption | (clear fh37; first | omega (splitDisjunctions := false) | omega) | omega | decide), (by (try dsimp only); first | done | (with_reducible assumption) | omega (splitDisjunctions := false) | assumption | (clear fh37; first | omega (splitDisjunctions := false) | omega) | omega | decide), (show hd6_ (mB_ uf bg.toInt) (en.toInt - bg.toInt) (1 : Int32).toInt (1 : Int32).toInt (at_66.toInt - bg.toInt) from (by first | exact hd_c hsF (by omega) t3F zl0 | exact hd_o hsF (by omega) t2F (by omega) (oy_1 g2F (by omega) (by omega)) (by omega) | exact hd_o hsF (by omega) t2F (by omega) (oy_0 g2F (by omega) zl0) (by omega) | exact hd_on hsF (by omega) t2F (by omega) zl0)), (show ft_ (1 : Int32).toInt fa.toInt f_67.toInt from (by first | exact ft_c g1FQ (by omega) (ft_c t1FQ (by omega) t3FQ) | exact ft_c g1FQ (by omega) (ft_c t1FQ (by omega) (ft_c t2FQ (by omega) (ft_1 g2FQ (by omega) (by omega)))) | exact ft_c g1FQ (by omega) (ft_c t1FQ (by omega) (ft_c t2FQ (by omega) (ft_0 g2FQ (by omega) zl0))) | exact ft_c g1FQ (by omega) (ft_c t1FQ (by omega) (ft_0 t2FQ (by omega) zl0))))⟩ [0, 1] (by decide) rfl rfl (by decide) (by decide)
    · have tw22 : r_14.toInt = 0 := (ti_eq rfl (by decide)).mp w22
      refine pb_iconst (pc := 16) (v := 0) d_Markup_readHead_16 (by decide) ?_
      exact pb_iret (pc := 17) hQ d_Markup_readHead_17 rfl rfl (0, at_15, f_16, io) ⟨rfl, (by (try dsimp only); first | done | (with_reducible assumption) | omega (splitDisjunctions := false) | assumption | omega | decide), (by (try dsimp only); first | done | (with_reducible assumption) | omega (splitDisjunctions := false) | assumption | omega | decide), (by (try dsimp only); first | done | (with_reducible assumption) | omega (splitDisjunctions := false) | assumption | omega | decide), (show hd6_ (mB_ uf bg.toInt) (en.toInt - bg.toInt) (0 : Int32).toInt io.toInt (at_15.toInt - bg.toInt) from (by first | exact hs_n2 g1F (by omega) t1F (by omega) zl0 | exact hs_n1 g1F (by omega) zl0)), (show ft_ (0 : Int32).toInt fa.toInt f_16.toInt from (by first | exact ft_c g1FQ (by omega) (ft_0 t1FQ (by omega) zl0) | exact ft_0 g1FQ (by omega) zl0))⟩ [0, 1] (by decide) rfl rfl (by decide) (by decide)
/-! ROWS OF NUMBERS -/
theorem omg_1da51ef73f {x0 : Int} {x1 : Int} {x2 : Int} (a0 : ((x0 = (0 : Int)) ∨ (x0 = (1 : Int)))) (a1 : (¬ (x0 = (0 : Int)))) (a2 : ((x0 = (1 : Int)) ↔ (x1 = (48 : Int)))) : ((x1 = (48 : Int)) ∨ ((x2 < (32 : Int)) ∨ ((126 : Int) < x2))) := by omega
theorem omg_12a522f25f {x0 : Int} {x1 : Int} {x2 : Int} (a0 : ((0 : Int) ≤ x0)) (a1 : ((0 : Int) ≤ x1)) (a2 : (x2 = ((x0 + (1 : Int)) + x1))) : ((0 : Int) ≤ x2) := by omega
theorem omg_82cf4c980f {x0 : Int} {x1 : Int} {x2 : Int} (a0 : (x0 ≤ (12000 : Int))) (a1 : (x1 < x0)) (a2 : (x2 = (x1 + (1 : Int)))) : (x2 ≤ (13000 : Int)) := by omega
theorem omg_af7f03065c {x0 : Int} {x1 : Int} (a0 : (((x0 = (0 : Int)) ∧ (x1 = (0 : Int))) ∨ (((x0 = (1 : Int)) ∧ (((0 : Int) ≤ x1) ∧ (x1 ≤ (9 : Int)))) ∨ (((x0 = (2 : Int)) ∧ (((0 : Int) ≤ x1) ∧ (x1 ≤ (99 : Int)))) ∨ ((x0 = (3 : Int)) ∧ (((0 : Int) ≤ x1) ∧ (x1 ≤ (999 : Int)))))))) : (((10 : Int) * x1) < (2147483648 : Int)) := by omega
theorem omg_5676f585b3 {x0 : Int} {x1 : Int} (a0 : (((x0 = (0 : Int)) ∧ (x1 = (0 : Int))) ∨ (((x0 = (1 : Int)) ∧ (((0 : Int) ≤ x1) ∧ (x1 ≤ (9 : Int)))) ∨ (((x0 = (2 : Int)) ∧ (((0 : Int) ≤ x1) ∧ (x1 ≤ (99 : Int)))) ∨ ((x0 = (3 : Int)) ∧ (((0 : Int) ≤ x1) ∧ (x1 ≤ (999 : Int)))))))) : ((-(2147483648 : Int)) ≤ ((10 : Int) * x1)) := by omega
theorem omg_c6abd74d54 {x0 : Int} {x1 : Int} {x2 : Int} {x3 : Int} {x4 : Int} {x5 : Int} (a0 : (((x0 = (0 : Int)) ∧ (x1 = (0 : Int))) ∨ (((x0 = (1 : Int)) ∧ (((0 : Int) ≤ x1) ∧ (x1 ≤ (9 : Int)))) ∨ (((x0 = (2 : Int)) ∧ (((0 : Int) ≤ x1) ∧ (x1 ≤ (99 : Int)))) ∨ ((x0 = (3 : Int)) ∧ (((0 : Int) ≤ x1) ∧ (x1 ≤ (999 : Int)))))))) (a1 : ((-(1 : Int)) ≤ x2)) (a2 : (x2 ≤ (255 : Int))) (a3 : (x2 = x3)) (a4 : (x4 = ((10 : Int) * x1))) (a5 : (x5 = x3)) : (((-(2147483648 : Int)) ≤ (x4 + x5)) ∧ ((x4 + x5) < (2147483648 : Int))) := by omega
theorem omg_252261a097 {x0 : Int} {x1 : Int} {x2 : Int} {x3 : Int} {x4 : Int} {x5 : Int} {x6 : Int} (a0 : (((x0 = (0 : Int)) ∧ (x1 = (0 : Int))) ∨ (((x0 = (1 : Int)) ∧ (((0 : Int) ≤ x1) ∧ (x1 ≤ (9 : Int)))) ∨ (((x0 = (2 : Int)) ∧ (((0 : Int) ≤ x1) ∧ (x1 ≤ (99 : Int)))) ∨ ((x0 = (3 : Int)) ∧ (((0 : Int) ≤ x1) ∧ (x1 ≤ (999 : Int)))))))) (a1 : ((-(1 : Int)) ≤ x2)) (a2 : (x2 ≤ (255 : Int))) (a3 : (x2 = x3)) (a4 : (x4 = ((10 : Int) * x1))) (a5 : (x5 = x3)) (a6 : (x6 = (x4 + x5))) : (((-(2147483648 : Int)) ≤ (x6 - (48 : Int))) ∧ ((x6 - (48 : Int)) < (2147483648 : Int))) := by omega
theorem omg_2f7a6fd418 {x0 : Int} {x1 : Int} {x2 : Int} {x3 : Int} (a0 : ((0 : Int) ≤ x0)) (a1 : (x1 ≤ (12000 : Int))) (a2 : (x2 ≤ x1)) (a3 : ((0 : Int) ≤ x3)) (a4 : (x2 = ((x0 + (1 : Int)) + x3))) : (((-(2147483648 : Int)) ≤ (x2 + (1 : Int))) ∧ ((x2 + (1 : Int)) < (2147483648 : Int))) := by omega
theorem omg_c4db64490e {x0 : Int} {x1 : Nat} {x2 : Int} (a0 : ((Int.toNat ((3 : Int) - x0)) < (x1 + (1 : Nat)))) (a1 : (¬ ((3 : Int) ≤ x0))) (a2 : (x2 = (x0 + (1 : Int)))) : ((Int.toNat ((3 : Int) - x2)) < x1) := by omega
theorem omg_d17263d16c {x0 : Int} {x1 : Int} {x2 : Int} {x3 : Int} {x4 : Int} {x5 : Int} {x6 : Int} {x7 : Int} {x8 : Int} {x9 : Int} (a0 : (((x0 = (0 : Int)) ∧ (x1 = (0 : Int))) ∨ (((x0 = (1 : Int)) ∧ (((0 : Int) ≤ x1) ∧ (x1 ≤ (9 : Int)))) ∨ (((x0 = (2 : Int)) ∧ (((0 : Int) ≤ x1) ∧ (x1 ≤ (99 : Int)))) ∨ ((x0 = (3 : Int)) ∧ (((0 : Int) ≤ x1) ∧ (x1 ≤ (999 : Int)))))))) (a1 : (¬ ((3 : Int) ≤ x0))) (a2 : (x2 = x3)) (a3 : (¬ (x2 < (48 : Int)))) (a4 : (x4 = x3)) (a5 : (¬ ((57 : Int) < x4))) (a6 : (x5 = ((10 : Int) * x1))) (a7 : (x6 = x3)) (a8 : (x7 = (x5 + x6))) (a9 : (x8 = (x7 - (48 : Int)))) (a10 : (x9 = (x0 + (1 : Int)))) : (((x9 = (0 : Int)) ∧ (x8 = (0 : Int))) ∨ (((x9 = (1 : Int)) ∧ (((0 : Int) ≤ x8) ∧ (x8 ≤ (9 : Int)))) ∨ (((x9 = (2 : Int)) ∧ (((0 : Int) ≤ x8) ∧ (x8 ≤ (99 : Int)))) ∨ ((x9 = (3 : Int)) ∧ (((0 : Int) ≤ x8) ∧ (x8 ≤ (999 : Int))))))) := by omega
theorem omg_06b45a1669 {x0 : Int} {x1 : Int} {x2 : Int} {x3 : Int} {x4 : Int} (a0 : (x0 = ((x1 + (1 : Int)) + x2))) (a1 : (x3 = (x0 + (1 : Int)))) (a2 : (x4 = (x2 + (1 : Int)))) : (x3 = ((x1 + (1 : Int)) + x4)) := by omega
theorem omg_19dd65cb85 {x0 : Int} {x1 : Int} {x2 : Int} {x3 : Int} {x4 : Int} {x5 : Int} {x6 : Int} {x7 : Int} (a0 : (x0 = x1)) (a1 : (x0 = x2)) (a2 : (x3 = ((10 : Int) * x4))) (a3 : (x5 = x1)) (a4 : (x6 = (x3 + x5))) (a5 : (x7 = (x6 - (48 : Int)))) : (x7 = ((((10 : Int) * x4) + x2) - (48 : Int))) := by omega
theorem omg_9857e108b9 {x0 : Int} {x1 : Int} {x2 : Int} {x3 : Int} (a0 : (x0 = x1)) (a1 : (x0 = x2)) (a2 : (x3 = x1)) (a3 : (¬ ((57 : Int) < x3))) : (x2 ≤ (57 : Int)) := by omega
theorem omg_8085304585 {x0 : Int} {x1 : Int} (a0 : (x0 = x1)) (a1 : (¬ (x0 < (48 : Int)))) : ((48 : Int) ≤ x1) := by omega
theorem omg_705260fa5c {x0 : Int} {x1 : Int} {x2 : Int} {x3 : Int} {x4 : Int} {x5 : Int} {x6 : Int} (a0 : (x0 = (0 : Int))) (a1 : (x1 = x2)) (a2 : (¬ (x1 < (48 : Int)))) (a3 : (((0 : Int) ≤ x3) → ((x4 + x0) < x5))) (a4 : (x3 = x2)) (a5 : (x6 = (x4 + (1 : Int)))) : (x6 ≤ x5) := by omega
theorem omg_e1100463b0 {x0 : Int} {x1 : Int} {x2 : Int} {x3 : Int} (a0 : ((0 : Int) ≤ x0)) (a1 : (x1 = ((x2 + (1 : Int)) + x0))) (a2 : (x3 = (x1 + (1 : Int)))) : (x2 ≤ x3) := by omega
theorem omg_4383e1b071 {x0 : Int} {x1 : Int} {x2 : Int} (a0 : (x0 = (x1 + (1 : Int)))) : ((x0 - x2) = ((x1 - x2) + (1 : Int))) := by omega
theorem d_Markup_readTail_0 : decode prog_7_method_8_code 0 = .ok (.aload_n 0, 1) := by decide +kernel
theorem d_Markup_readTail_1 : decode prog_7_method_8_code 1 = .ok (.getfield 83, 3) := by decide +kernel
theorem d_Markup_readTail_4 : decode prog_7_method_8_code 4 = .ok (.ifCond .eq 12, 3) := by decide +kernel
theorem d_Markup_readTail_16 : decode prog_7_method_8_code 16 = .ok (.aload_n 0, 1) := by decide +kernel
theorem d_Markup_readTail_17 : decode prog_7_method_8_code 17 = .ok (.invokevirtual 65, 3) := by decide +kernel
theorem d_Markup_readTail_20 : decode prog_7_method_8_code 20 = .ok (.ifCond .ne 5, 3) := by decide +kernel
theorem d_Markup_readTail_25 : decode prog_7_method_8_code 25 = .ok (.aload_n 0, 1) := by decide +kernel
theorem d_Markup_readTail_26 : decode prog_7_method_8_code 26 = .ok (.getfield 48, 3) := by decide +kernel
theorem d_Markup_readTail_29 : decode prog_7_method_8_code 29 = .ok (.aload_n 0, 1) := by decide +kernel
theorem d_Markup_readTail_30 : decode prog_7_method_8_code 30 = .ok (.getfield 51, 3) := by decide +kernel
theorem d_Markup_readTail_33 : decode prog_7_method_8_code 33 = .ok (.if_icmp .ne 5, 3) := by decide +kernel
theorem d_Markup_readTail_38 : decode prog_7_method_8_code 38 = .ok (.aload_n 0, 1) := by decide +kernel
theorem d_Markup_readTail_39 : decode prog_7_method_8_code 39 = .ok (.aload_n 0, 1) := by decide +kernel
theorem d_Markup_readTail_40 : decode prog_7_method_8_code 40 = .ok (.iconst 0, 1) := by decide +kernel
theorem d_Markup_readTail_41 : decode prog_7_method_8_code 41 = .ok (.invokevirtual 80, 3) := by decide +kernel
theorem d_Markup_readTail_44 : decode prog_7_method_8_code 44 = .ok (.bipush 60, 2) := by decide +kernel
theorem d_Markup_readTail_46 : decode prog_7_method_8_code 46 = .ok (.if_icmp .ne 12, 3) := by decide +kernel
theorem d_Markup_readTail_58 : decode prog_7_method_8_code 58 = .ok (.aload_n 0, 1) := by decide +kernel
theorem d_Markup_readTail_59 : decode prog_7_method_8_code 59 = .ok (.getfield 48, 3) := by decide +kernel
theorem d_Markup_readTail_62 : decode prog_7_method_8_code 62 = .ok (.invokevirtual 96, 3) := by decide +kernel
theorem d_Markup_readTail_65 : decode prog_7_method_8_code 65 = .ok (.ireturn, 1) := by decide +kernel
theorem d_Markup_readTail_49 : decode prog_7_method_8_code 49 = .ok (.aload_n 0, 1) := by decide +kernel
theorem d_Markup_readTail_50 : decode prog_7_method_8_code 50 = .ok (.getfield 48, 3) := by decide +kernel
theorem d_Markup_readTail_53 : decode prog_7_method_8_code 53 = .ok (.iconst 1, 1) := by decide +kernel
theorem d_Markup_readTail_54 : decode prog_7_method_8_code 54 = .ok (.iadd, 1) := by decide +kernel
theorem d_Markup_readTail_55 : decode prog_7_method_8_code 55 = .ok (.goto 7, 3) := by decide +kernel
theorem d_Markup_readTail_36 : decode prog_7_method_8_code 36 = .ok (.iconst 1, 1) := by decide +kernel
theorem d_Markup_readTail_37 : decode prog_7_method_8_code 37 = .ok (.ireturn, 1) := by decide +kernel
theorem d_Markup_readTail_23 : decode prog_7_method_8_code 23 = .ok (.iconst 0, 1) := by decide +kernel
theorem d_Markup_readTail_24 : decode prog_7_method_8_code 24 = .ok (.ireturn, 1) := by decide +kernel
theorem d_Markup_readTail_7 : decode prog_7_method_8_code 7 = .ok (.aload_n 0, 1) := by decide +kernel
theorem d_Markup_readTail_8 : decode prog_7_method_8_code 8 = .ok (.ldc 91, 2) := by decide +kernel
theorem d_Markup_readTail_10 : decode prog_7_method_8_code 10 = .ok (.invokevirtual 93, 3) := by decide +kernel
theorem k_889 : (Jvm.Cond.methodLink "PackageBook$Markup" (93 : Nat) ({ cls := "PackageBook$Markup", name := "readClose", desc := "(Ljava/lang/String;)Z" } : Jvm.MethodName)) ∈ uW := uW_c3 52 rfl (by decide +kernel)
theorem k_892 : (Jvm.Cond.code ({ cls := "PackageBook$Markup", name := "readClose", desc := "(Ljava/lang/String;)Z" } : Jvm.MethodName) prog_7_method_9_code (2 : Nat) (Option.some Jvm.ClassFile.FieldType.boolean)) ∈ uW := uW_c3 55 rfl (by decide +kernel)
theorem k_891 : (Jvm.Cond.instanceMethod ({ cls := "PackageBook$Markup", name := "readClose", desc := "(Ljava/lang/String;)Z" } : Jvm.MethodName)) ∈ uW := uW_c3 54 rfl (by decide +kernel)
theorem k_47 : Cond.selects "PackageBook$Markup" ⟨"PackageBook$Markup", "readClose", "(Ljava/lang/String;)Z"⟩ ⟨"PackageBook$Markup", "readClose", "(Ljava/lang/String;)Z"⟩ ∈ uW := uW_of 47 (by decide +kernel) (by decide +kernel)
theorem hy_Markup_readClose : (y_Markup_readClose).cls ≠ "java/lang/invoke/MethodHandle" ∧ (y_Markup_readClose).cls ≠ "java/lang/invoke/VarHandle" ∧ (parseMethodDescriptor (y_Markup_readClose).desc).map (fun d => d.parameters.length) = some 1 := by decide +kernel
theorem d_Markup_readTail_13 : decode prog_7_method_8_code 13 = .ok (.ifCond .eq 10, 3) := by decide +kernel
abbrev y_Markup_readTail : MethodName := ⟨"PackageBook$Markup", "readTail", "()Z"⟩
abbrev i_Markup_readTail : pb_I := (y_Markup_readTail, prog_7_method_8_code, 1, (some Jvm.ClassFile.FieldType.boolean), [], { frames := 7, cells := 0, slots := 0, locals := 148 })
set_option maxRecDepth 100000 in
set_option maxHeartbeats 4000000 in
theorem g_Mu_readTail {l : Launch} (hl : l.stackTraces = false) (G : pb_G) (h : Nat) (ui : Nat) (ug : Nat) (uv : Nat) (ur : Nat) (ct : Int32) (fa : Int32) (bg : Int32) (at_ : Int32) (en : Int32) (vs : Int32) (io : Int32) (hi : Int32) (ht : Int32) (uf : Nat → Int32) (a0 : 0 ≤ at_.toInt) (a1 : at_.toInt ≤ en.toInt) (a2 : en.toInt ≤ 12000) (a3 : 0 ≤ bg.toInt) (a4 : bg.toInt ≤ at_.toInt) (F_uf : sb_Fit uf) : Cn l G i_Markup_readTail [.ref h] [(h, .inr (8, [.ref ui, .ref ug, .ref uv, .ref ur, .int ct, .int fa, .int bg, .int at_, .int en, .int vs, .int io, .int hi, .int ht])), (ur, .inl (G.2.1, 12000, .inl uf))] (S := Int32 × Int32 × Int32) (fun rv_ u => rv_ = some (.int u.1) ∧ (u.1.toInt = 0 ∨ u.1.toInt = 1) ∧ (at_.toInt ≤ u.2.1.toInt) ∧ (u.2.1.toInt ≤ en.toInt) ∧ (tl6_ (mB_ uf bg.toInt) (en.toInt - bg.toInt) io.toInt u.1.toInt (at_.toInt - bg.toInt)) ∧ (ft_ u.1.toInt fa.toInt u.2.2.toInt)) (fun u => [(h, .inr (8, [.ref ui, .ref ug, .ref uv, .ref ur, .int ct, .int u.2.2, .int bg, .int u.2.1, .int en, .int vs, .int io, .int hi, .int ht])), (ur, .inl (G.2.1, 12000, .inl uf))]) := by
  refine Cn.of hl (by decide +kernel) rfl (Nat.le_of_ble_eq_true rfl) (fun M hQ => ?_)
  refine pb_eq (pc' := 0) (lo' := [(0, .ref h)]) (rest' := []) (ws' := [(h, .inr (8, [.ref ui, .ref ug, .ref uv, .ref ur, .int ct, .int fa, .int bg, .int at_, .int en, .int vs, .int io, .int hi, .int ht])), (ur, .inl (G.2.1, 12000, .inl uf))]) ?_
  have zl0 : (0 : Int32).toInt = 0 := by decide
  have zl1 : (1 : Int32).toInt = 1 := by decide
  refine pb_aload_n (pc := 0) d_Markup_readTail_0 0 rfl rfl ?_
  refine pb_get (pc := 1) d_Markup_readTail_1 0 10 rfl rfl (by decide) in_Markup k_329 rfl ?_
  refine pb_if_eq (pc := 4) (tgt := 16) d_Markup_readTail_4 (by decide) (fun w1 => ?_) (fun w1 => ?_)
  · have tw1 : io.toInt = 0 := (ti_eq rfl (by decide)).mp w1
    refine pb_aload_n (pc := 16) d_Markup_readTail_16 0 rfl rfl ?_
    refine pb_callV (pc := 17) (I := i_Markup_readTail) (qb := 0) (ci := 8) (nA := 0) (rest := []) (wr := []) d_Markup_readTail_17 (g_Mu_skipGaps hl G h ui ug uv ur ct fa bg at_ en vs io hi ht uf (by first | (with_reducible assumption) | omega (splitDisjunctions := false) | assumption | omega | decide) (by first | (with_reducible assumption) | omega (splitDisjunctions := false) | assumption | omega | decide) (by first | (with_reducible assumption) | omega (splitDisjunctions := false) | assumption | omega | decide) (by first | (with_reducible assumption) | omega (splitDisjunctions := false) | assumption | omega | decide) (by first | (with_reducible assumption) | omega (splitDisjunctions := false) | assumption | omega | decide) F_uf) rfl rfl [0, 1] [] (by decide) rfl rfl rfl (by decide) (by decide) k_805 rfl k_125 k_802 k_804 k_31 ⟨rfl, hy_Markup_skipGaps⟩ (by decide) rfl rfl (Nat.le_of_ble_eq_true rfl) (by decide) (fun v9 u3 ch2 => ?_)
    obtain ⟨r_4, at_5, f_6⟩ := u3
    obtain ⟨ech2, ch2⟩ := ch2
    have ech2 : v9 = some (.int r_4) := ech2
    subst ech2
    obtain ⟨fh7, fh8, fh9, fh10, fh11⟩ : (r_4.toInt = 0 ∨ r_4.toInt = 1) ∧ (at_.toInt ≤ at_5.toInt) ∧ (at_5.toInt ≤ en.toInt) ∧ (oy_ r_4.toInt (at_5.toInt - bg.toInt) = gF (mB_ uf bg.toInt) (en.toInt - bg.toInt) (at_.toInt - bg.toInt)) ∧ (ft_ r_4.toInt fa.toInt f_6.toInt) := ch2
    have g1F := fh10
    have g1FQ := fh11
    refine pb_eq (pc' := 20) (lo' := [(0, .ref h)]) (rest' := [.int r_4]) (ws' := [(h, .inr (8, [.ref ui, .ref ug, .ref uv, .ref ur, .int ct, .int f_6, .int bg, .int at_5, .int en, .int vs, .int io, .int hi, .int ht])), (ur, .inl (G.2.1, 12000, .inl uf))]) ?_
    refine pb_if_ne (pc := 20) (tgt := 25) d_Markup_readTail_20 (by decide) (fun w12 => ?_) (fun w12 => ?_)
    · have tw12 : ¬ r_4.toInt = 0 := fun z9 => w12 ((ti_eq rfl (by decide)).mpr z9)
      refine pb_aload_n (pc := 25) d_Markup_readTail_25 0 rfl rfl ?_
      refine pb_get (pc := 26) d_Markup_readTail_26 0 7 rfl rfl (by decide) in_Markup k_326 rfl ?_
      refine pb_aload_n (pc := 29) d_Markup_readTail_29 0 rfl rfl ?_
      refine pb_get (pc := 30) d_Markup_readTail_30 0 8 rfl rfl (by decide) in_Markup k_327 rfl ?_
      refine pb_icmp_ne (pc := 33) (tgt := 38) d_Markup_readTail_33 (by decide) (fun w13 => ?_) (fun w13 => ?_)
      · have tw13 : ¬ at_5.toInt = en.toInt := fun z9 => w13 ((ti_eq rfl rfl).mpr z9)
        refine pb_aload_n (pc := 38) d_Markup_readTail_38 0 rfl rfl ?_
        refine pb_aload_n (pc := 39) d_Markup_readTail_39 0 rfl rfl ?_
        refine pb_iconst (pc := 40) (v := 0) d_Markup_readTail_40 (by decide) ?_
        refine pb_callV (pc := 41) (I := i_Markup_readTail) (qb := 0) (ci := 8) (nA := 1) (rest := [.ref h]) (wr := []) d_Markup_readTail_41 (g_Mu_next hl G h ui ug uv ur ct f_6 bg at_5 en vs io hi ht uf 0 (by first | (with_reducible assumption) | omega (splitDisjunctions := false) | assumption | omega | decide) (by first | (with_reducible assumption) | omega (splitDisjunctions := false) | assumption | omega | decide) (by first | (with_reducible assumption) | omega (splitDisjunctions := false) | assumption | omega | decide) (by first | (with_reducible assumption) | omega (splitDisjunctions := false) | assumption | omega | decide) (by first | (with_reducible assumption) | omega (splitDisjunctions := false) | assumption | omega | decide) (by first | (with_reducible assumption) | omega (splitDisjunctions := false) | assumption | omega | decide) (by first | (with_reducible assumption) | omega (splitDisjunctions := false) | assumption | omega | decide) F_uf) rfl rfl [0, 1] [] (by decide) rfl rfl rfl (by decide) (by decide) k_813 rfl k_125 k_810 k_812 k_33 ⟨rfl, hy_Markup_next⟩ (by decide) rfl rfl (Nat.le_of_ble_eq_true rfl) (by decide) (fun v9 u15 ch14 => ?_)
        obtain ⟨r_16, rfl⟩ : ∃ z9, z9 = u15 := ⟨_, rfl⟩
        obtain ⟨ech14, ch14⟩ := ch14
        have ech14 : v9 = some (.int r_16) := ech14
        subst ech14
        obtain ⟨fh17, fh18, fh19, fh20⟩ : (-1 ≤ r_16.toInt) ∧ (r_16.toInt ≤ 255) ∧ (0 ≤ r_16.toInt → at_5.toInt + (0 : Int32).toInt < en.toInt) ∧ (r_16.toInt = cm_ (mB_ uf bg.toInt) (en.toInt - bg.toInt) ((at_5.toInt - bg.toInt) + (0 : Int32).toInt)) := ch14
        refine pb_eq (pc' := 44) (lo' := [(0, .ref h)]) (rest' := [.int r_16, .ref h]) (ws' := [(h, .inr (8, [.ref ui, .ref ug, .ref uv, .ref ur, .int ct, .int f_6, .int bg, .int at_5, .int en, .int vs, .int io, .int hi, .int ht])), (ur, .inl (G.2.1, 12000, .inl uf))]) ?_
        refine pb_bipush (pc := 44) (v := 60) d_Markup_readTail_44 (by decide) ?_
        refine pb_icmp_ne (pc := 46) (tgt := 58) d_Markup_readTail_46 (by decide) (fun w21 => ?_) (fun w21 => ?_)
        · have tw21 : ¬ r_16.toInt = 60 := fun z9 => w21 ((ti_eq rfl (by decide)).mpr z9)
          refine pb_aload_n (pc := 58) d_Markup_readTail_58 0 rfl rfl ?_
          refine pb_get (pc := 59) d_Markup_readTail_59 0 7 rfl rfl (by decide) in_Markup k_326 rfl ?_
          refine pb_callV (pc := 62) (I := i_Markup_readTail) (qb := 0) (ci := 8) (nA := 1) (rest := []) (wr := [(ur, .inl (G.2.1, 12000, .inl uf))]) d_Markup_readTail_62 (g_Mu_fail hl G h ui ug uv ur ct f_6 bg at_5 en vs io hi ht at_5 (by first | (with_reducible assumption) | omega (splitDisjunctions := false) | assumption | (clear fh19; first | omega (splitDisjunctions := false) | omega) | omega | decide) (by first | (with_reducible assumption) | omega (splitDisjunctions := false) | assumption | (clear fh19; first | omega (splitDisjunctions := false) | omega) | omega | decide) (by first | (with_reducible assumption) | omega (splitDisjunctions := false) | assumption | (clear fh19; first | omega (splitDisjunctions := false) | omega) | omega | decide)) rfl rfl [0] [1] (by decide) rfl rfl rfl (by decide) (by decide) k_831 rfl k_125 k_828 k_830 k_36 ⟨rfl, hy_Markup_fail⟩ (by decide) rfl rfl (Nat.le_of_ble_eq_true rfl) (by decide) (fun v9 u23 ch22 => ?_)
          obtain ⟨f_24, rfl⟩ : ∃ z9, z9 = u23 := ⟨_, rfl⟩
          obtain ⟨ech22, ch22⟩ := ch22
          have ech22 : v9 = some (.int 0) := ech22
          subst ech22
          have fh25 : 0 ≤ f_24.toInt := ch22
          have flF := fh25
          refine pb_eq (pc' := 65) (lo' := [(0, .ref h)]) (rest' := [.int 0]) (ws' := [(ur, .inl (G.2.1, 12000, .inl uf)), (h, .inr (8, [.ref ui, .ref ug, .ref uv, .ref ur, .int ct, .int f_24, .int bg, .int at_5, .int en, .int vs, .int io, .int hi, .int ht]))]) ?_
          exact pb_iret (pc := 65) hQ d_Markup_readTail_65 rfl rfl (0, at_5, f_24) ⟨rfl, (by (try dsimp only); first | done | (with_reducible assumption) | omega (splitDisjunctions := false) | assumption | (clear fh19; first | omega (splitDisjunctions := false) | omega) | omega | decide), (by (try dsimp only); first | done | (with_reducible assumption) | omega (splitDisjunctions := false) | assumption | (clear fh19; first | omega (splitDisjunctions := false) | omega) | omega | decide), (by (try dsimp only); first | done | (with_reducible assumption) | omega (splitDisjunctions := false) | assumption | (clear fh19; first | omega (splitDisjunctions := false) | omega) | omega | decide), (show tl6_ (mB_ uf bg.toInt) (en.toInt - bg.toInt) io.toInt (0 : Int32).toInt (at_.toInt - bg.toInt) from (by first | exact tl_g (tl_X1 (by omega) c1F (by omega)) g1F (Or.inr (Or.inr ⟨by omega, by omega, zl0⟩)) | exact tl_g (tl_X0 (by omega)) g1F (Or.inr (Or.inr ⟨by omega, by omega, zl0⟩)))), (show ft_ (0 : Int32).toInt fa.toInt f_24.toInt from (ft_f zl0 flF))⟩ [1, 0] (by decide) rfl rfl (by decide) (by decide)
        · have tw21 : r_16.toInt = 60 := (ti_eq rfl (by decide)).mp w21
          refine pb_aload_n (pc := 49) d_Markup_readTail_49 0 rfl rfl ?_
          refine pb_get (pc := 50) d_Markup_readTail_50 0 7 rfl rfl (by decide) in_Markup k_326 rfl ?_
          refine pb_iconst (pc := 53) (v := 1) d_Markup_readTail_53 (by decide) ?_
          refine pb_iadd (pc := 54) d_Markup_readTail_54 ?_
          refine pb_topi (fun i26 ei26 => ?_)
          try have ti26 : i26.toInt = at_5.toInt + 1 := t2_add ei26 rfl (by decide) (by omega)
          refine pb_goto (pc := 55) (tgt := 62) d_Markup_readTail_55 (by decide) ?_
          refine pb_callV (pc := 62) (I := i_Markup_readTail) (qb := 0) (ci := 8) (nA := 1) (rest := []) (wr := [(ur, .inl (G.2.1, 12000, .inl uf))]) d_Markup_readTail_62 (g_Mu_fail hl G h ui ug uv ur ct f_6 bg at_5 en vs io hi ht i26 (by first | (with_reducible assumption) | omega (splitDisjunctions := false) | assumption | (clear fh19; first | omega (splitDisjunctions := false) | omega) | omega | decide) (by first | (with_reducible assumption) | omega (splitDisjunctions := false) | assumption | (clear fh19; first | omega (splitDisjunctions := false) | omega) | omega | decide) (by first | (with_reducible assumption) | omega (splitDisjunctions := false) | assumption | (clear fh19; first | omega (splitDisjunctions := false) | omega) | omega | decide)) rfl rfl [0] [1] (by decide) rfl rfl rfl (by decide) (by decide) k_831 rfl k_125 k_828 k_830 k_36 ⟨rfl, hy_Markup_fail⟩ (by decide) rfl rfl (Nat.le_of_ble_eq_true rfl) (by decide) (fun v9 u28 ch27 => ?_)
          obtain ⟨f_29, rfl⟩ : ∃ z9, z9 = u28 := ⟨_, rfl⟩
          obtain ⟨ech27, ch27⟩ := ch27
          have ech27 : v9 = some (.int 0) := ech27
          subst ech27
          have fh30 : 0 ≤ f_29.toInt := ch27
          have flF := fh30
          refine pb_eq (pc' := 65) (lo' := [(0, .ref h)]) (rest' := [.int 0]) (ws' := [(ur, .inl (G.2.1, 12000, .inl uf)), (h, .inr (8, [.ref ui, .ref ug, .ref uv, .ref ur, .int ct, .int f_29, .int bg, .int at_5, .int en, .int vs, .int io, .int hi, .int ht]))]) ?_
          exact pb_iret (pc := 65) hQ d_Markup_readTail_65 rfl rfl (0, at_5, f_29) ⟨rfl, (by (try dsimp only); first | done | (with_reducible assumption) | omega (splitDisjunctions := false) | assumption | (clear fh19; first | omega (splitDisjunctions := false) | omega) | omega | decide), (by (try dsimp only); first | done | (with_reducible assumption) | omega (splitDisjunctions := false) | assumption | (clear fh19; first | omega (splitDisjunctions := false) | omega) | omega | decide), (by (try dsimp only); first | done | (with_reducible assumption) | omega (splitDisjunctions := false) | assumption | (clear fh19; first | omega (splitDisjunctions := false) | omega) | omega | decide), (show tl6_ (mB_ uf bg.toInt) (en.toInt - bg.toInt) io.toInt (0 : Int32).toInt (at_.toInt - bg.toInt) from (by first | exact tl_g (tl_X1 (by omega) c1F (by omega)) g1F (Or.inr (Or.inr ⟨by omega, by omega, zl0⟩)) | exact tl_g (tl_X0 (by omega)) g1F (Or.inr (Or.inr ⟨by omega, by omega, zl0⟩)))), (show ft_ (0 : Int32).toInt fa.toInt f_29.toInt from (ft_f zl0 flF))⟩ [1, 0] (by decide) rfl rfl (by decide) (by decide)
      · have tw13 : at_5.toInt = en.toInt := (ti_eq rfl rfl).mp w13
        refine pb_iconst (pc := 36) (v := 1) d_Markup_readTail_36 (by decide) ?_
        exact pb_iret (pc := 37) hQ d_Markup_readTail_37 rfl rfl (1, at_5, f_6) ⟨rfl, (by (try dsimp only); first | done | (with_reducible assumption) | omega (splitDisjunctions := false) | assumption | omega | decide), (by (try dsimp only); first | done | (with_reducible assumption) | omega (splitDisjunctions := false) | assumption | omega | decide), (by (try dsimp only); first | done | (with_reducible assumption) | omega (splitDisjunctions := false) | assumption | omega | decide), (show tl6_ (mB_ uf bg.toInt) (en.toInt - bg.toInt) io.toInt (1 : Int32).toInt (at_.toInt - bg.toInt) from (by first | exact tl_g (tl_X1 (by omega) c1F (by omega)) g1F (Or.inr (Or.inl ⟨by omega, by omega, by omega⟩)) | exact tl_g (tl_X0 (by omega)) g1F (Or.inr (Or.inl ⟨by omega, by omega, by omega⟩)))), (show ft_ (1 : Int32).toInt fa.toInt f_6.toInt from (by first | exact ft_c c1FQ (by omega) (ft_1 g1FQ (by omega) (by omega)) | exact ft_1 g1FQ (by omega) (by omega)))⟩ [0, 1] (by decide) rfl rfl (by decide) (by decide)
    · have tw12 : r_4.toInt = 0 := (ti_eq rfl (by decide)).mp w12
      refine pb_iconst (pc := 23) (v := 0) d_Markup_readTail_23 (by decide) ?_
      exact pb_iret (pc := 24) hQ d_Markup_readTail_24 rfl rfl (0, at_5, f_6) ⟨rfl, (by (try dsimp only); first | done | (with_reducible assumption) | omega (splitDisjunctions := false) | assumption | omega | decide), (by (try dsimp only); first | done | (with_reducible assumption) | omega (splitDisjunctions := false) | assumption | omega | decide), (by (try dsimp only); first | done | (with_reducible assumption) | omega (splitDisjunctions := false) | assumption | omega | decide), (show tl6_ (mB_ uf bg.toInt) (en.toInt - bg.toInt) io.toInt (0 : Int32).toInt (at_.toInt - bg.toInt) from (by first | exact tl_g (tl_X1 (by omega) c1F (by omega)) g1F (Or.inl ⟨by omega, zl0⟩) | exact tl_c (by omega) c1F (by omega) zl0 | exact tl_g (tl_X0 (by omega)) g1F (Or.inl ⟨by omega, zl0⟩))), (show ft_ (0 : Int32).toInt fa.toInt f_6.toInt from (by first | exact ft_c c1FQ (by omega) (ft_0 g1FQ (by omega) zl0) | exact ft_0 c1FQ (by omega) zl0 | exact ft_0 g1FQ (by omega) zl0))⟩ [0, 1] (by decide) rfl rfl (by decide) (by decide)
  · have tw1 : ¬ io.toInt = 0 := fun z9 => w1 ((ti_eq rfl (by decide)).mpr z9)
    refine pb_aload_n (pc := 7) d_Markup_readTail_7 0 rfl rfl ?_
    refine pb_ldcS (pc := 8) (k := 17) d_Markup_readTail_8 rfl (by decide) ?_
    refine pb_callV (pc := 10) (I := i_Markup_readTail) (qb := 0) (ci := 8) (nA := 1) (rest := []) (wr := []) d_Markup_readTail_10 (g_Mu_readClose hl G h ui ug uv ur ct fa bg at_ en vs io hi ht uf 17 (by first | (with_reducible assumption) | omega (splitDisjunctions := false) | assumption | omega | decide) (by first | (with_reducible assumption) | omega (splitDisjunctions := false) | assumption | omega | decide) (by first | (with_reducible assumption) | omega (splitDisjunctions := false) | assumption | omega | decide) (by first | (with_reducible assumption) | omega (splitDisjunctions := false) | assumption | omega | decide) (by first | (with_reducible assumption) | omega (splitDisjunctions := false) | assumption | omega | decide) (by first | assumption | decide | omega) F_uf) rfl rfl [0, 1] [] (by decide) rfl rfl rfl (by decide) (by decide) k_892 rfl k_125 k_889 k_891 k_47 ⟨rfl, hy_Markup_readClose⟩ (by decide) rfl rfl (Nat.le_of_ble_eq_true rfl) (by decide) (fun v9 u32 ch31 => ?_)
    obtain ⟨r_33, at_34, f_35⟩ := u32
    obtain ⟨ech31, ch31⟩ := ch31
    have ech31 : v9 = some (.int r_33) := ech31
    subst ech31
    obtain ⟨fh36, fh37, fh38, fh39, fh40⟩ : (r_33.toInt = 0 ∨ r_33.toInt = 1) ∧ (at_.toInt ≤ at_34.toInt) ∧ (at_34.toInt ≤ en.toInt) ∧ (oy_ r_33.toInt (at_34.toInt - bg.toInt) = cl_ (mB_ uf bg.toInt) (en.toInt - bg.toInt) (st_c 17) (st_len 17).toNat (at_.toInt - bg.toInt)) ∧ (ft_ r_33.toInt fa.toInt f_35.toInt) := ch31
    have c1F := fh39
    have c1FQ := fh40
    rw [cw6 [60, 47, 114, 101, 108, 115] (by decide +kernel) (by decide +kernel)] at c1F
    refine pb_eq (pc' := 13) (lo' := [(0, .ref h)]) (rest' := [.int r_33]) (ws' := [(h, .inr (8, [.ref ui, .ref ug, .ref uv, .ref ur, .int ct, .int f_35, .int bg, .int at_34, .int en, .int vs, .int io, .int hi, .int ht])), (ur, .inl (G.2.1, 12000, .inl uf))]) ?_
    refine pb_if_eq (pc := 13) (tgt := 23) d_Markup_readTail_13 (by decide) (fun w41 => ?_) (fun w41 => ?_)
    · have tw41 : r_33.toInt = 0 := (ti_eq rfl (by decide)).mp w41
      refine pb_iconst (pc := 23) (v := 0) d_Markup_readTail_23 (by decide) ?_
      exact pb_iret (pc := 24) hQ d_Markup_readTail_24 rfl rfl (0, at_34, f_35) ⟨rfl, (by (try dsimp only); first | done | (with_reducible assumption) | omega (splitDisjunctions := false) | assumption | omega | decide), (by (try dsimp only); first | done | (with_reducible assumption) | omega (splitDisjunctions := false) | assumption | omega | decide), (by (try dsimp only); first | done | (with_reducible assumption) | omega (splitDisjunctions := false) | assumption | omega | decide), (show tl6_ (mB_ uf bg.toInt) (en.toInt - bg.toInt) io.toInt (0 : Int32).toInt (at_.toInt - bg.toInt) from (by first | exact tl_g (tl_X1 (by omega) c1F (by omega)) g1F (Or.inl ⟨by omega, zl0⟩) | exact tl_c (by omega) c1F (by omega) zl0 | exact tl_g (tl_X0 (by omega)) g1F (Or.inl ⟨by omega, zl0⟩))), (show ft_ (0 : Int32).toInt fa.toInt f_35.toInt from (by first | exact ft_c c1FQ (by omega) (ft_0 g1FQ (by omega) zl0) | exact ft_0 c1FQ (by omega) zl0 | exact ft_0 g1FQ (by omega) zl0))⟩ [0, 1] (by decide) rfl rfl (by decide) (by decide)
    · have tw41 : ¬ r_33.toInt = 0 := fun z9 => w41 ((ti_eq rfl (by decide)).mpr z9)
      refine pb_aload_n (pc := 16) d_Markup_readTail_16 0 rfl rfl ?_
      refine pb_callV (pc := 17) (I := i_Markup_readTail) (qb := 0) (ci := 8) (nA := 0) (rest := []) (wr := []) d_Markup_readTail_17 (g_Mu_skipGaps hl G h ui ug uv ur ct f_35 bg at_34 en vs io hi ht uf (by first | (with_reducible assumption) | omega (splitDisjunctions := false) | assumption | omega | decide) (by first | (with_reducible assumption) | omega (splitDisjunctions := false) | assumption | omega | decide) (by first | (with_reducible assumption) | omega (splitDisjunctions := false) | assumption | omega | decide) (by first | (with_reducible assumption) | omega (splitDisjunctions := false) | assumption | omega | decide) (by first | (with_reducible assumption) | omega (splitDisjunctions := false) | assumption | omega | decide) F_uf) rfl rfl [0, 1] [] (by decide) rfl rfl rfl (by decide) (by decide) k_805 rfl k_125 k_802 k_804 k_31 ⟨rfl, hy_Markup_skipGaps⟩ (by decide) rfl rfl (Nat.le_of_ble_eq_true rfl) (by decide) (fun v9 u43 ch42 => ?_)
      obtain ⟨r_44, at_45, f_46⟩ := u43
      obtain ⟨ech42, ch42⟩ := ch42
      have ech42 : v9 = some (.int r_44) := ech42
      subst ech42
      obtain ⟨fh47, fh48, fh49, fh50, fh51⟩ : (r_44.toInt = 0 ∨ r_44.toInt = 1) ∧ (at_34.toInt ≤ at_45.toInt) ∧ (at_45.toInt ≤ en.toInt) ∧ (oy_ r_44.toInt (at_45.toInt - bg.toInt) = gF (mB_ uf bg.toInt) (en.toInt - bg.toInt) (at_34.toInt - bg.toInt)) ∧ (ft_ r_44.toInt f_35.toInt f_46.toInt) := ch42
      have g1F := fh50
      have g1FQ := fh51
      refine pb_eq (pc' := 20) (lo' := [(0, .ref h)]) (rest' := [.int r_44]) (ws' := [(h, .inr (8, [.ref ui, .ref ug, .ref uv, .ref ur, .int ct, .int f_46, .int bg, .int at_45, .int en, .int vs, .int io, .int hi, .int ht])), (ur, .inl (G.2.1, 12000, .inl uf))]) ?_
      refine pb_if_ne (pc := 20) (tgt := 25) d_Markup_readTail_20 (by decide) (fun w52 => ?_) (fun w52 => ?_)
      · have tw52 : ¬ r_44.toInt = 0 := fun z9 => w52 ((ti_eq rfl (by decide)).mpr z9)
        refine pb_aload_n (pc := 25) d_Markup_readTail_25 0 rfl rfl ?_
        refine pb_get (pc := 26) d_Markup_readTail_26 0 7 rfl rfl (by decide) in_Markup k_326 rfl ?_
        refine pb_aload_n (pc := 29) d_Markup_readTail_29 0 rfl rfl ?_
        refine pb_get (pc := 30) d_Markup_readTail_30 0 8 rfl rfl (by decide) in_Markup k_327 rfl ?_
        refine pb_icmp_ne (pc := 33) (tgt := 38) d_Markup_readTail_33 (by decide) (fun w53 => ?_) (fun w53 => ?_)
        · have tw53 : ¬ at_45.toInt = en.toInt := fun z9 => w53 ((ti_eq rfl rfl).mpr z9)
          refine pb_aload_n (pc := 38) d_Markup_readTail_38 0 rfl rfl ?_
          refine pb_aload_n (pc := 39) d_Markup_readTail_39 0 rfl rfl ?_
          refine pb_iconst (pc := 40) (v := 0) d_Markup_readTail_40 (by decide) ?_
          refine pb_callV (pc := 41) (I := i_Markup_readTail) (qb := 0) (ci := 8) (nA := 1) (rest := [.ref h]) (wr := []) d_Markup_readTail_41 (g_Mu_next hl G h ui ug uv ur ct f_46 bg at_45 en vs io hi ht uf 0 (by first | (with_reducible assumption) | omega (splitDisjunctions := false) | assumption | omega | decide) (by first | (with_reducible assumption) | omega (splitDisjunctions := false) | assumption | omega | decide) (by first | (with_reducible assumption) | omega (splitDisjunctions := false) | assumption | omega | decide) (by first | (with_reducible assumption) | omega (splitDisjunctions := false) | assumption | omega | decide) (by first | (with_reducible assumption) | omega (splitDisjunctions := false) | assumption | omega | decide) (by first | (with_reducible assumption) | omega (splitDisjunctions := false) | assumption | omega | decide) (by first | (with_reducible assumption) | omega (splitDisjunctions := false) | assumption | omega | decide) F_uf) rfl rfl [0, 1] [] (by decide) rfl rfl rfl (by decide) (by decide) k_813 rfl k_125 k_810 k_812 k_33 ⟨rfl, hy_Markup_next⟩ (by decide) rfl rfl (Nat.le_of_ble_eq_true rfl) (by decide) (fun v9 u55 ch54 => ?_)
          obtain ⟨r_56, rfl⟩ : ∃ z9, z9 = u55 := ⟨_, rfl⟩
          obtain ⟨ech54, ch54⟩ := ch54
          have ech54 : v9 = some (.int r_56) := ech54
          subst ech54
          obtain ⟨fh57, fh58, fh59, fh60⟩ : (-1 ≤ r_56.toInt) ∧ (r_56.toInt ≤ 255) ∧ (0 ≤ r_56.toInt → at_45.toInt + (0 : Int32).toInt < en.toInt) ∧ (r_56.toInt = cm_ (mB_ uf bg.toInt) (en.toInt - bg.toInt) ((at_45.toInt - bg.toInt) + (0 : Int32).toInt)) := ch54
          refine pb_eq (pc' := 44) (lo' := [(0, .ref h)]) (rest' := [.int r_56, .ref h]) (ws' := [(h, .inr (8, [.ref ui, .ref ug, .ref uv, .ref ur, .int ct, .int f_46, .int bg, .int at_45, .int en, .int vs, .int io, .int hi, .int ht])), (ur, .inl (G.2.1, 12000, .inl uf))]) ?_
          refine pb_bipush (pc := 44) (v := 60) d_Markup_readTail_44 (by decide) ?_
          refine pb_icmp_ne (pc := 46) (tgt := 58) d_Markup_readTail_46 (by decide) (fun w61 => ?_) (fun w61 => ?_)
          · have tw61 : ¬ r_56.toInt = 60 := fun z9 => w61 ((ti_eq rfl (by decide)).mpr z9)
            refine pb_aload_n (pc := 58) d_Markup_readTail_58 0 rfl rfl ?_
            refine pb_get (pc := 59) d_Markup_readTail_59 0 7 rfl rfl (by decide) in_Markup k_326 rfl ?_
            refine pb_callV (pc := 62) (I := i_Markup_readTail) (qb := 0) (ci := 8) (nA := 1) (rest := []) (wr := [(ur, .inl (G.2.1, 12000, .inl uf))]) d_Markup_readTail_62 (g_Mu_fail hl G h ui ug uv ur ct f_46 bg at_45 en vs io hi ht at_45 (by first | (with_reducible assumption) | omega (splitDisjunctions := false) | assumption | (clear fh59; first | omega (splitDisjunctions := false) | omega) | omega | decide) (by first | (with_reducible assumption) | omega (splitDisjunctions := false) | assumption | (clear fh59; first | omega (splitDisjunctions := false) | omega) | omega | decide) (by first | (with_reducible assumption) | omega (splitDisjunctions := false) | assumption | (clear fh59; first | omega (splitDisjunctions := false) | omega) | omega | decide)) rfl rfl [0] [1] (by decide) rfl rfl rfl (by decide) (by decide) k_831 rfl k_125 k_828 k_830 k_36 ⟨rfl, hy_Markup_fail⟩ (by decide) rfl rfl (Nat.le_of_ble_eq_true rfl) (by decide) (fun v9 u63 ch62 => ?_)
            obtain ⟨f_64, rfl⟩ : ∃ z9, z9 = u63 := ⟨_, rfl⟩
            obtain ⟨ech62, ch62⟩ := ch62
            have ech62 : v9 = some (.int 0) := ech62
            subst ech62
            have fh65 : 0 ≤ f_64.toInt := ch62
            have flF := fh65
            refine pb_eq (pc' := 65) (lo' := [(0, .ref h)]) (rest' := [.int 0]) (ws' := [(ur, .inl (G.2.1, 12000, .inl uf)), (h, .inr (8, [.ref ui, .ref ug, .ref uv, .ref ur, .int ct, .int f_64, .int bg, .int at_45, .int en, .int vs, .int io, .int hi, .int ht]))]) ?_
            exact pb_iret (pc := 65) hQ d_Markup_readTail_65 rfl rfl (0, at_45, f_64) ⟨rfl, (by (try dsimp only); first | done | (with_reducible assumption) | omega (splitDisjunctions := false) | assumption | (clear fh59; first | omega (splitDisjunctions := false) | omega) | omega | decide), (by (try dsimp only); first | done | (with_reducible assumption) | omega (splitDisjunctions := false) | assumption | (clear fh59; first | omega (splitDisjunctions := false) | omega) | omega | decide), (by (try dsimp only); first | done | (with_reducible assumption) | omega (splitDisjunctions := false) | assumption | (clear fh59; first | omega (splitDisjunctions := false) | omega) | omega | decide), (show tl6_ (mB_ uf bg.toInt) (en.toInt - bg.toInt) io.toInt (0 : Int32).toInt (at_.toInt - bg.toInt) from (by first | exact tl_g (tl_X1 (by omega) c1F (by omega)) g1F (Or.inr (Or.inr ⟨by omega, by omega, zl0⟩)) | exact tl_g (tl_X0 (by omega)) g1F (Or.inr (Or.inr ⟨by omega, by omega, zl0⟩)))), (show ft_ (0 : Int32).toInt fa.toInt f_64.toInt from (ft_f zl0 flF))⟩ [1, 0] (by decide) rfl rfl (by decide) (by decide)
          · have tw61 : r_56.toInt = 60 := (ti_eq rfl (by decide)).mp w61
            refine pb_aload_n (pc := 49) d_Markup_readTail_49 0 rfl rfl ?_
            refine pb_get (pc := 50) d_Markup_readTail_50 0 7 rfl rfl (by decide) in_Markup k_326 rfl ?_
            refine pb_iconst (pc := 53) (v := 1) d_Markup_readTail_53 (by decide) ?_
            refine pb_iadd (pc := 54) d_Markup_readTail_54 ?_
            refine pb_topi (fun i66 ei66 => ?_)
            try have ti66 : i66.toInt = at_45.toInt + 1 := t2_add ei66 rfl (by decide) (by omega)
            refine pb_goto (pc := 55) (tgt := 62) d_Markup_readTail_55 (by decide) ?_
            refine pb_callV (pc := 62) (I := i_Markup_readTail) (qb := 0) (ci := 8) (nA := 1) (rest := []) (wr := [(ur, .inl (G.2.1, 12000, .inl uf))]) d_Markup_readTail_62 (g_Mu_fail hl G h ui ug uv ur ct f_46 bg at_45 en vs io hi ht i66 (by first | (with_reducible assumption) | omega (splitDisjunctions := false) | assumption | (clear fh59; first | omega (splitDisjunctions := false) | omega) | omega | decide) (by first | (with_reducible assumption) | omega (splitDisjunctions := false) | assumption | (clear fh59; first | omega (splitDisjunctions := false) | omega) | omega | decide) (by first | (with_reducible assumption) | omega (splitDisjunctions := false) | assumption | (clear fh59; first | omega (splitDisjunctions := false) | omega) | omega | decide)) rfl rfl [0] [1] (by decide) rfl rfl rfl (by decide) (by decide) k_831 rfl k_125 k_828 k_830 k_36 ⟨rfl, hy_Markup_fail⟩ (by decide) rfl rfl (Nat.le_of_ble_eq_true rfl) (by decide) (fun v9 u68 ch67 => ?_)
            obtain ⟨f_69, rfl⟩ : ∃ z9, z9 = u68 := ⟨_, rfl⟩
            obtain ⟨ech67, ch67⟩ := ch67
            have ech67 : v9 = some (.int 0) := ech67
            subst ech67
            have fh70 : 0 ≤ f_69.toInt := ch67
            have flF := fh70
            refine pb_eq (pc' := 65) (lo' := [(0, .ref h)]) (rest' := [.int 0]) (ws' := [(ur, .inl (G.2.1, 12000, .inl uf)), (h, .inr (8, [.ref ui, .ref ug, .ref uv, .ref ur, .int ct, .int f_69, .int bg, .int at_45, .int en, .int vs, .int io, .int hi, .int ht]))]) ?_
            exact pb_iret (pc := 65) hQ d_Markup_readTail_65 rfl rfl (0, at_45, f_69) ⟨rfl, (by (try dsimp only); first | done | (with_reducible assumption) | omega (splitDisjunctions := false) | assumption | (clear fh59; first | omega (splitDisjunctions := false) | omega) | omega | decide), (by (try dsimp only); first | done | (with_reducible assumption) | omega (splitDisjunctions := false) | assumption | (clear fh59; first | omega (splitDisjunctions := false) | omega) | omega | decide), (by (try dsimp only); first | done | (with_reducible assumption) | omega (splitDisjunctions := false) | assumption | (clear fh59; first | omega (splitDisjunctions := false) | omega) | omega | decide), (show tl6_ (mB_ uf bg.toInt) (en.toInt - bg.toInt) io.toInt (0 : Int32).toInt (at_.toInt - bg.toInt) from (by first | exact tl_g (tl_X1 (by omega) c1F (by omega)) g1F (Or.inr (Or.inr ⟨by omega, by omega, zl0⟩)) | exact tl_g (tl_X0 (by omega)) g1F (Or.inr (Or.inr ⟨by omega, by omega, zl0⟩)))), (show ft_ (0 : Int32).toInt fa.toInt f_69.toInt from (ft_f zl0 flF))⟩ [1, 0] (by decide) rfl rfl (by decide) (by decide)
        · have tw53 : at_45.toInt = en.toInt := (ti_eq rfl rfl).mp w53
          refine pb_iconst (pc := 36) (v := 1) d_Markup_readTail_36 (by decide) ?_
          exact pb_iret (pc := 37) hQ d_Markup_readTail_37 rfl rfl (1, at_45, f_46) ⟨rfl, (by (try dsimp only); first | done | (with_reducible assumption) | omega (splitDisjunctions := false) | assumption | omega | decide), (by (try dsimp only); first | done | (with_reducible assumption) | omega (splitDisjunctions := false) | assumption | omega | decide), (by (try dsimp only); first | done | (with_reducible assumption) | omega (splitDisjunctions := false) | assumption | omega | decide), (show tl6_ (mB_ uf bg.toInt) (en.toInt - bg.toInt) io.toInt (1 : Int32).toInt (at_.toInt - bg.toInt) from (by first | exact tl_g (tl_X1 (by omega) c1F (by omega)) g1F (Or.inr (Or.inl ⟨by omega, by omega, by omega⟩)) | exact tl_g (tl_X0 (by omega)) g1F (Or.inr (Or.inl ⟨by omega, by omega, by omega⟩)))), (show ft_ (1 : Int32).toInt fa.toInt f_46.toInt from (by first | exact ft_c c1FQ (by omega) (ft_1 g1FQ (by omega) (by omega)) | exact ft_1 g1FQ (by omega) (by omega)))⟩ [0, 1] (by decide) rfl rfl (by decide) (by decide)
      · have tw52 : r_44.toInt = 0 := (ti_eq rfl (by decide)).mp w52
        refine pb_iconst (pc := 23) (v := 0) d_Markup_readTail_23 (by decide) ?_
        exact pb_iret (pc := 24) hQ d_Markup_readTail_24 rfl rfl (0, at_45, f_46) ⟨rfl, (by (try dsimp only); first | done | (with_reducible assumption) | omega (splitDisjunctions := false) | assumption | omega | decide), (by (try dsimp only); first | done | (with_reducible assumption) | omega (splitDisjunctions := false) | assumption | omega | decide), (by (try dsimp only); first | done | (with_reducible assumption) | omega (splitDisjunctions := false) | assumption | omega | decide), (show tl6_ (mB_ uf bg.toInt) (en.toInt - bg.toInt) io.toInt (0 : Int32).toInt (at_.toInt - bg.toInt) from (by first | exact tl_g (tl_X1 (by omega) c1F (by omega)) g1F (Or.inl ⟨by omega, zl0⟩) | exact tl_c (by omega) c1F (by omega) zl0 | exact tl_g (tl_X0 (by omega)) g1F (Or.inl ⟨by omega, zl0⟩))), (show ft_ (0 : Int32).toInt fa.toInt f_46.toInt from (by first | exact ft_c c1FQ (by omega) (ft_0 g1FQ (by omega) zl0) | exact ft_0 c1FQ (by omega) zl0 | exact ft_0 g1FQ (by omega) zl0))⟩ [0, 1] (by decide) rfl rfl (by decide) (by decide)

theorem d_Markup_readNamed_0 : decode prog_7_method_13_code 0 = .ok (.aload_n 0, 1) := by decide +kernel
theorem d_Markup_readNamed_1 : decode prog_7_method_13_code 1 = .ok (.getfield 48, 3) := by decide +kernel
theorem d_Markup_readNamed_4 : decode prog_7_method_13_code 4 = .ok (.istore_n 1, 1) := by decide +kernel
theorem d_Markup_readNamed_5 : decode prog_7_method_13_code 5 = .ok (.aload_n 0, 1) := by decide +kernel
theorem d_Markup_readNamed_6 : decode prog_7_method_13_code 6 = .ok (.invokevirtual 113, 3) := by decide +kernel
theorem k_849 : (Jvm.Cond.methodLink "PackageBook$Markup" (113 : Nat) ({ cls := "PackageBook$Markup", name := "skipLetters", desc := "()V" } : Jvm.MethodName)) ∈ uW := uW_c3 12 rfl (by decide +kernel)
theorem k_852 : (Jvm.Cond.code ({ cls := "PackageBook$Markup", name := "skipLetters", desc := "()V" } : Jvm.MethodName) prog_7_method_20_code (1 : Nat) (Option.none : Option Jvm.ClassFile.FieldType)) ∈ uW := uW_c3 15 rfl (by decide +kernel)
theorem k_851 : (Jvm.Cond.instanceMethod ({ cls := "PackageBook$Markup", name := "skipLetters", desc := "()V" } : Jvm.MethodName)) ∈ uW := uW_c3 14 rfl (by decide +kernel)
theorem k_40 : Cond.selects "PackageBook$Markup" ⟨"PackageBook$Markup", "skipLetters", "()V"⟩ ⟨"PackageBook$Markup", "skipLetters", "()V"⟩ ∈ uW := uW_of 40 (by decide +kernel) (by decide +kernel)
theorem hy_Markup_skipLetters : (y_Markup_skipLetters).cls ≠ "java/lang/invoke/MethodHandle" ∧ (y_Markup_skipLetters).cls ≠ "java/lang/invoke/VarHandle" ∧ (parseMethodDescriptor (y_Markup_skipLetters).desc).map (fun d => d.parameters.length) = some 0 := by decide +kernel
theorem d_Markup_readNamed_9 : decode prog_7_method_13_code 9 = .ok (.aload_n 0, 1) := by decide +kernel
theorem d_Markup_readNamed_10 : decode prog_7_method_13_code 10 = .ok (.iload_n 1, 1) := by decide +kernel
theorem d_Markup_readNamed_11 : decode prog_7_method_13_code 11 = .ok (.ldc 147, 2) := by decide +kernel
theorem d_Markup_readNamed_13 : decode prog_7_method_13_code 13 = .ok (.invokevirtual 118, 3) := by decide +kernel
theorem k_854 : (Jvm.Cond.methodLink "PackageBook$Markup" (118 : Nat) ({ cls := "PackageBook$Markup", name := "isText", desc := "(ILjava/lang/String;)Z" } : Jvm.MethodName)) ∈ uW := uW_c3 17 rfl (by decide +kernel)
theorem k_857 : (Jvm.Cond.code ({ cls := "PackageBook$Markup", name := "isText", desc := "(ILjava/lang/String;)Z" } : Jvm.MethodName) prog_7_method_22_code (5 : Nat) (Option.some Jvm.ClassFile.FieldType.boolean)) ∈ uW := uW_c3 20 rfl (by decide +kernel)
theorem k_856 : (Jvm.Cond.instanceMethod ({ cls := "PackageBook$Markup", name := "isText", desc := "(ILjava/lang/String;)Z" } : Jvm.MethodName)) ∈ uW := uW_c3 19 rfl (by decide +kernel)
theorem k_41 : Cond.selects "PackageBook$Markup" ⟨"PackageBook$Markup", "isText", "(ILjava/lang/String;)Z"⟩ ⟨"PackageBook$Markup", "isText", "(ILjava/lang/String;)Z"⟩ ∈ uW := uW_of 41 (by decide +kernel) (by decide +kernel)
theorem hy_Markup_isText : (y_Markup_isText).cls ≠ "java/lang/invoke/MethodHandle" ∧ (y_Markup_isText).cls ≠ "java/lang/invoke/VarHandle" ∧ (parseMethodDescriptor (y_Markup_isText).desc).map (fun d => d.parameters.length) = some 2 := by decide +kernel
theorem d_Markup_readNamed_16 : decode prog_7_method_13_code 16 = .ok (.ifCond .eq 6, 3) := by decide +kernel
theorem d_Markup_readNamed_22 : decode prog_7_method_13_code 22 = .ok (.aload_n 0, 1) := by decide +kernel
theorem d_Markup_readNamed_23 : decode prog_7_method_13_code 23 = .ok (.iload_n 1, 1) := by decide +kernel
theorem d_Markup_readNamed_24 : decode prog_7_method_13_code 24 = .ok (.ldc 149, 2) := by decide +kernel
theorem d_Markup_readNamed_26 : decode prog_7_method_13_code 26 = .ok (.invokevirtual 118, 3) := by decide +kernel
theorem d_Markup_readNamed_29 : decode prog_7_method_13_code 29 = .ok (.ifCond .eq 6, 3) := by decide +kernel
theorem d_Markup_readNamed_35 : decode prog_7_method_13_code 35 = .ok (.aload_n 0, 1) := by decide +kernel
theorem d_Markup_readNamed_36 : decode prog_7_method_13_code 36 = .ok (.iload_n 1, 1) := by decide +kernel
theorem d_Markup_readNamed_37 : decode prog_7_method_13_code 37 = .ok (.ldc 151, 2) := by decide +kernel
theorem d_Markup_readNamed_39 : decode prog_7_method_13_code 39 = .ok (.invokevirtual 118, 3) := by decide +kernel
theorem d_Markup_readNamed_42 : decode prog_7_method_13_code 42 = .ok (.ifCond .eq 6, 3) := by decide +kernel
theorem d_Markup_readNamed_48 : decode prog_7_method_13_code 48 = .ok (.aload_n 0, 1) := by decide +kernel
theorem d_Markup_readNamed_49 : decode prog_7_method_13_code 49 = .ok (.iload_n 1, 1) := by decide +kernel
theorem d_Markup_readNamed_50 : decode prog_7_method_13_code 50 = .ok (.ldc 153, 2) := by decide +kernel
theorem d_Markup_readNamed_52 : decode prog_7_method_13_code 52 = .ok (.invokevirtual 118, 3) := by decide +kernel
theorem d_Markup_readNamed_55 : decode prog_7_method_13_code 55 = .ok (.ifCond .eq 6, 3) := by decide +kernel
theorem d_Markup_readNamed_61 : decode prog_7_method_13_code 61 = .ok (.aload_n 0, 1) := by decide +kernel
theorem d_Markup_readNamed_62 : decode prog_7_method_13_code 62 = .ok (.iload_n 1, 1) := by decide +kernel
theorem d_Markup_readNamed_63 : decode prog_7_method_13_code 63 = .ok (.ldc 155, 2) := by decide +kernel
theorem d_Markup_readNamed_65 : decode prog_7_method_13_code 65 = .ok (.invokevirtual 118, 3) := by decide +kernel
theorem d_Markup_readNamed_68 : decode prog_7_method_13_code 68 = .ok (.ifCond .eq 6, 3) := by decide +kernel
theorem d_Markup_readNamed_74 : decode prog_7_method_13_code 74 = .ok (.aload_n 0, 1) := by decide +kernel
theorem d_Markup_readNamed_75 : decode prog_7_method_13_code 75 = .ok (.iload_n 1, 1) := by decide +kernel
theorem d_Markup_readNamed_76 : decode prog_7_method_13_code 76 = .ok (.invokevirtual 96, 3) := by decide +kernel
theorem d_Markup_readNamed_79 : decode prog_7_method_13_code 79 = .ok (.pop, 1) := by decide +kernel
theorem d_Markup_readNamed_80 : decode prog_7_method_13_code 80 = .ok (.iconst (-1), 1) := by decide +kernel
theorem d_Markup_readNamed_81 : decode prog_7_method_13_code 81 = .ok (.ireturn, 1) := by decide +kernel
theorem d_Markup_readNamed_71 : decode prog_7_method_13_code 71 = .ok (.bipush 39, 2) := by decide +kernel
theorem d_Markup_readNamed_73 : decode prog_7_method_13_code 73 = .ok (.ireturn, 1) := by decide +kernel
theorem d_Markup_readNamed_58 : decode prog_7_method_13_code 58 = .ok (.bipush 34, 2) := by decide +kernel
theorem d_Markup_readNamed_60 : decode prog_7_method_13_code 60 = .ok (.ireturn, 1) := by decide +kernel
theorem d_Markup_readNamed_45 : decode prog_7_method_13_code 45 = .ok (.bipush 62, 2) := by decide +kernel
theorem d_Markup_readNamed_47 : decode prog_7_method_13_code 47 = .ok (.ireturn, 1) := by decide +kernel
theorem d_Markup_readNamed_32 : decode prog_7_method_13_code 32 = .ok (.bipush 60, 2) := by decide +kernel
theorem d_Markup_readNamed_34 : decode prog_7_method_13_code 34 = .ok (.ireturn, 1) := by decide +kernel
theorem d_Markup_readNamed_19 : decode prog_7_method_13_code 19 = .ok (.bipush 38, 2) := by decide +kernel
theorem d_Markup_readNamed_21 : decode prog_7_method_13_code 21 = .ok (.ireturn, 1) := by decide +kernel
abbrev y_Markup_readNamed : MethodName := ⟨"PackageBook$Markup", "readNamed", "()I"⟩
abbrev i_Markup_readNamed : pb_I := (y_Markup_readNamed, prog_7_method_13_code, 2, (some Jvm.ClassFile.FieldType.int), [], { frames := 5, cells := 0, slots := 0, locals := 109 })
set_option maxRecDepth 100000 in
set_option maxHeartbeats 4000000 in
theorem g_Mu_readNamed {l : Launch} (hl : l.stackTraces = false) (G : pb_G) (h : Nat) (ui : Nat) (ug : Nat) (uv : Nat) (ur : Nat) (ct : Int32) (fa : Int32) (bg : Int32) (at_ : Int32) (en : Int32) (vs : Int32) (io : Int32) (hi : Int32) (ht : Int32) (uf : Nat → Int32) (a0 : 0 ≤ at_.toInt) (a1 : at_.toInt ≤ en.toInt) (a2 : en.toInt ≤ 12000) (a3 : 0 ≤ bg.toInt) (a4 : bg.toInt ≤ at_.toInt) (F_uf : sb_Fit uf) : Cn l G i_Markup_readNamed [.ref h] [(h, .inr (8, [.ref ui, .ref ug, .ref uv, .ref ur, .int ct, .int fa, .int bg, .int at_, .int en, .int vs, .int io, .int hi, .int ht])), (ur, .inl (G.2.1, 12000, .inl uf))] (S := Int32 × Int32 × Int32) (fun rv_ u => rv_ = some (.int u.1) ∧ (at_.toInt ≤ u.2.1.toInt) ∧ (u.2.1.toInt ≤ en.toInt) ∧ (-1 ≤ u.1.toInt) ∧ (u.1.toInt ≤ 126) ∧ (ov_ u.1.toInt (u.2.1.toInt - bg.toInt) = nM6_ (mB_ uf bg.toInt) (en.toInt - bg.toInt) (at_.toInt - bg.toInt)) ∧ (fn_ u.1.toInt fa.toInt u.2.2.toInt)) (fun u => [(h, .inr (8, [.ref ui, .ref ug, .ref uv, .ref ur, .int ct, .int u.2.2, .int bg, .int u.2.1, .int en, .int vs, .int io, .int hi, .int ht])), (ur, .inl (G.2.1, 12000, .inl uf))]) := by
  refine Cn.of hl (by decide +kernel) rfl (Nat.le_of_ble_eq_true rfl) (fun M hQ => ?_)
  refine pb_eq (pc' := 0) (lo' := [(0, .ref h)]) (rest' := []) (ws' := [(h, .inr (8, [.ref ui, .ref ug, .ref uv, .ref ur, .int ct, .int fa, .int bg, .int at_, .int en, .int vs, .int io, .int hi, .int ht])), (ur, .inl (G.2.1, 12000, .inl uf))]) ?_
  have zm1 : ((-1) : Int32).toInt = (-1) := by decide
  have zl0 : (0 : Int32).toInt = 0 := by decide
  have zl1 : (1 : Int32).toInt = 1 := by decide
  have zl34 : (34 : Int32).toInt = 34 := by decide
  have zl38 : (38 : Int32).toInt = 38 := by decide
  have zl39 : (39 : Int32).toInt = 39 := by decide
  have zl60 : (60 : Int32).toInt = 60 := by decide
  have zl62 : (62 : Int32).toInt = 62 := by decide
  refine pb_aload_n (pc := 0) d_Markup_readNamed_0 0 rfl rfl ?_
  refine pb_get (pc := 1) d_Markup_readNamed_1 0 7 rfl rfl (by decide) in_Markup k_326 rfl ?_
  refine pb_istore_n (pc := 4) (lo' := [(1, .int at_), (0, .ref h)]) d_Markup_readNamed_4 rfl (by decide) rfl ?_
  refine pb_aload_n (pc := 5) d_Markup_readNamed_5 1 rfl rfl ?_
  refine pb_callV (pc := 6) (I := i_Markup_readNamed) (qb := 0) (ci := 8) (nA := 0) (rest := []) (wr := []) d_Markup_readNamed_6 (g_Mu_skipLetters hl G h ui ug uv ur ct fa bg at_ en vs io hi ht uf (by first | (with_reducible assumption) | omega (splitDisjunctions := false) | assumption | omega | decide) (by first | (with_reducible assumption) | omega (splitDisjunctions := false) | assumption | omega | decide) (by first | (with_reducible assumption) | omega (splitDisjunctions := false) | assumption | omega | decide) (by first | (with_reducible assumption) | omega (splitDisjunctions := false) | assumption | omega | decide) (by first | (with_reducible assumption) | omega (splitDisjunctions := false) | assumption | omega | decide) F_uf) rfl rfl [0, 1] [] (by decide) rfl rfl rfl (by decide) (by decide) k_852 rfl k_125 k_849 k_851 k_40 ⟨rfl, hy_Markup_skipLetters⟩ (by decide) rfl rfl (Nat.le_of_ble_eq_true rfl) (by decide) (fun v9 u2 ch1 => ?_)
  obtain ⟨at_3, rfl⟩ : ∃ z9, z9 = u2 := ⟨_, rfl⟩
  obtain ⟨ech1, ch1⟩ := ch1
  have ech1 : v9 = none := ech1
  subst ech1
  obtain ⟨fh4, fh5, fh6⟩ : (at_.toInt ≤ at_3.toInt) ∧ (at_3.toInt ≤ en.toInt) ∧ (at_3.toInt - bg.toInt = lF (mB_ uf bg.toInt) (en.toInt - bg.toInt) (at_.toInt - bg.toInt)) := ch1
  have lcF := fh6
  refine pb_eq (pc' := 9) (lo' := [(1, .int at_), (0, .ref h)]) (rest' := []) (ws' := [(h, .inr (8, [.ref ui, .ref ug, .ref uv, .ref ur, .int ct, .int fa, .int bg, .int at_3, .int en, .int vs, .int io, .int hi, .int ht])), (ur, .inl (G.2.1, 12000, .inl uf))]) ?_
  refine pb_aload_n (pc := 9) d_Markup_readNamed_9 1 rfl rfl ?_
  refine pb_iload_n (pc := 10) d_Markup_readNamed_10 0 rfl rfl ?_
  refine pb_ldcS (pc := 11) (k := 10) d_Markup_readNamed_11 rfl (by decide) ?_
  refine pb_callV (pc := 13) (I := i_Markup_readNamed) (qb := 0) (ci := 8) (nA := 2) (rest := []) (wr := []) d_Markup_readNamed_13 (g_Mu_isText hl G h ui ug uv ur ct fa bg at_3 en vs io hi ht uf at_ 10 (by first | (with_reducible assumption) | omega (splitDisjunctions := false) | assumption | omega | decide) (by first | (with_reducible assumption) | omega (splitDisjunctions := false) | assumption | omega | decide) (by first | (with_reducible assumption) | omega (splitDisjunctions := false) | assumption | omega | decide) (by first | (with_reducible assumption) | omega (splitDisjunctions := false) | assumption | omega | decide) (by first | (with_reducible assumption) | omega (splitDisjunctions := false) | assumption | omega | decide) (by first | assumption | decide | omega) (by first | (with_reducible assumption) | omega (splitDisjunctions := false) | assumption | omega | decide) (by first | (with_reducible assumption) | omega (splitDisjunctions := false) | assumption | omega | decide) F_uf) rfl rfl [0, 1] [] (by decide) rfl rfl rfl (by decide) (by decide) k_857 rfl k_125 k_854 k_856 k_41 ⟨rfl, hy_Markup_isText⟩ (by decide) rfl rfl (Nat.le_of_ble_eq_true rfl) (by decide) (fun v9 u8 ch7 => ?_)
  obtain ⟨r_9, rfl⟩ : ∃ z9, z9 = u8 := ⟨_, rfl⟩
  obtain ⟨ech7, ch7⟩ := ch7
  have ech7 : v9 = some (.int r_9) := ech7
  subst ech7
  obtain ⟨fh10, fh11⟩ : (r_9.toInt = 0 ∨ r_9.toInt = 1) ∧ (hid_ (r_9.toInt = 1 ↔ tm6_ (mB_ uf bg.toInt) (en.toInt - bg.toInt) (at_.toInt - bg.toInt) (at_3.toInt - bg.toInt) (st_c 10) (st_len 10))) := ch7
  have i1F := hid_o fh11
  rw [tm_3 (x := 97) (y := 109) (z := 112) (by decide +kernel) (by decide +kernel)] at i1F
  refine pb_eq (pc' := 16) (lo' := [(1, .int at_), (0, .ref h)]) (rest' := [.int r_9]) (ws' := [(h, .inr (8, [.ref ui, .ref ug, .ref uv, .ref ur, .int ct, .int fa, .int bg, .int at_3, .int en, .int vs, .int io, .int hi, .int ht])), (ur, .inl (G.2.1, 12000, .inl uf))]) ?_
  refine pb_if_eq (pc := 16) (tgt := 22) d_Markup_readNamed_16 (by decide) (fun w12 => ?_) (fun w12 => ?_)
  · have tw12 : r_9.toInt = 0 := (ti_eq rfl (by decide)).mp w12
    have i1N := mt i1F.mpr (by omega)
    clear i1F
    refine pb_aload_n (pc := 22) d_Markup_readNamed_22 1 rfl rfl ?_
    refine pb_iload_n (pc := 23) d_Markup_readNamed_23 0 rfl rfl ?_
    refine pb_ldcS (pc := 24) (k := 11) d_Markup_readNamed_24 rfl (by decide) ?_
    refine pb_callV (pc := 26) (I := i_Markup_readNamed) (qb := 0) (ci := 8) (nA := 2) (rest := []) (wr := []) d_Markup_readNamed_26 (g_Mu_isText hl G h ui ug uv ur ct fa bg at_3 en vs io hi ht uf at_ 11 (by first | (with_reducible assumption) | omega (splitDisjunctions := false) | assumption | omega | decide) (by first | (with_reducible assumption) | omega (splitDisjunctions := false) | assumption | omega | decide) (by first | (with_reducible assumption) | omega (splitDisjunctions := false) | assumption | omega | decide) (by first | (with_reducible assumption) | omega (splitDisjunctions := false) | assumption | omega | decide) (by first | (with_reducible assumption) | omega (splitDisjunctions := false) | assumption | omega | decide) (by first | assumption | decide | omega) (by first | (with_reducible assumption) | omega (splitDisjunctions := false) | assumption | omega | decide) (by first | (with_reducible assumption) | omega (splitDisjunctions := false) | assumption | omega | decide) F_uf) rfl rfl [0, 1] [] (by decide) rfl rfl rfl (by decide) (by decide) k_857 rfl k_125 k_854 k_856 k_41 ⟨rfl, hy_Markup_isText⟩ (by decide) rfl rfl (Nat.le_of_ble_eq_true rfl) (by decide) (fun v9 u14 ch13 => ?_)
    obtain ⟨r_15, rfl⟩ : ∃ z9, z9 = u14 := ⟨_, rfl⟩
    obtain ⟨ech13, ch13⟩ := ch13
    have ech13 : v9 = some (.int r_15) := ech13
    subst ech13
    obtain ⟨fh16, fh17⟩ : (r_15.toInt = 0 ∨ r_15.toInt = 1) ∧ (hid_ (r_15.toInt = 1 ↔ tm6_ (mB_ uf bg.toInt) (en.toInt - bg.toInt) (at_.toInt - bg.toInt) (at_3.toInt - bg.toInt) (st_c 11) (st_len 11))) := ch13
    have i2F := hid_o fh17
    rw [tm_2 (x := 108) (y := 116) (by decide +kernel) (by decide +kernel)] at i2F
    refine pb_eq (pc' := 29) (lo' := [(1, .int at_), (0, .ref h)]) (rest' := [.int r_15]) (ws' := [(h, .inr (8, [.ref ui, .ref ug, .ref uv, .ref ur, .int ct, .int fa, .int bg, .int at_3, .int en, .int vs, .int io, .int hi, .int ht])), (ur, .inl (G.2.1, 12000, .inl uf))]) ?_
    refine pb_if_eq (pc := 29) (tgt := 35) d_Markup_readNamed_29 (by decide) (fun w18 => ?_) (fun w18 => ?_)
    · have tw18 : r_15.toInt = 0 := (ti_eq rfl (by decide)).mp w18
      have i2N := mt i2F.mpr (by omega)
      clear i2F
      refine pb_aload_n (pc := 35) d_Markup_readNamed_35 1 rfl rfl ?_
      refine pb_iload_n (pc := 36) d_Markup_readNamed_36 0 rfl rfl ?_
      refine pb_ldcS (pc := 37) (k := 12) d_Markup_readNamed_37 rfl (by decide) ?_
      refine pb_callV (pc := 39) (I := i_Markup_readNamed) (qb := 0) (ci := 8) (nA := 2) (rest := []) (wr := []) d_Markup_readNamed_39 (g_Mu_isText hl G h ui ug uv ur ct fa bg at_3 en vs io hi ht uf at_ 12 (by first | (with_reducible assumption) | omega (splitDisjunctions := false) | assumption | omega | decide) (by first | (with_reducible assumption) | omega (splitDisjunctions := false) | assumption | omega | decide) (by first | (with_reducible assumption) | omega (splitDisjunctions := false) | assumption | omega | decide) (by first | (with_reducible assumption) | omega (splitDisjunctions := false) | assumption | omega | decide) (by first | (with_reducible assumption) | omega (splitDisjunctions := false) | assumption | omega | decide) (by first | assumption | decide | omega) (by first | (with_reducible assumption) | omega (splitDisjunctions := false) | assumption | omega | decide) (by first | (with_reducible assumption) | omega (splitDisjunctions := false) | assumption | omega | decide) F_uf) rfl rfl [0, 1] [] (by decide) rfl rfl rfl (by decide) (by decide) k_857 rfl k_125 k_854 k_856 k_41 ⟨rfl, hy_Markup_isText⟩ (by decide) rfl rfl (Nat.le_of_ble_eq_true rfl) (by decide) (fun v9 u20 ch19 => ?_)
      obtain ⟨r_21, rfl⟩ : ∃ z9, z9 = u20 := ⟨_, rfl⟩
      obtain ⟨ech19, ch19⟩ := ch19
      have ech19 : v9 = some (.int r_21) := ech19
      subst ech19
      obtain ⟨fh22, fh23⟩ : (r_21.toInt = 0 ∨ r_21.toInt = 1) ∧ (hid_ (r_21.toInt = 1 ↔ tm6_ (mB_ uf bg.toInt) (en.toInt - bg.toInt) (at_.toInt - bg.toInt) (at_3.toInt - bg.toInt) (st_c 12) (st_len 12))) := ch19
      have i3F := hid_o fh23
      rw [tm_2 (x := 103) (y := 116) (by decide +kernel) (by decide +kernel)] at i3F
      refine pb_eq (pc' := 42) (lo' := [(1, .int at_), (0, .ref h)]) (rest' := [.int r_21]) (ws' := [(h, .inr (8, [.ref ui, .ref ug, .ref uv, .ref ur, .int ct, .int fa, .int bg, .int at_3, .int en, .int vs, .int io, .int hi, .int ht])), (ur, .inl (G.2.1, 12000, .inl uf))]) ?_
      refine pb_if_eq (pc := 42) (tgt := 48) d_Markup_readNamed_42 (by decide) (fun w24 => ?_) (fun w24 => ?_)
      · have tw24 : r_21.toInt = 0 := (ti_eq rfl (by decide)).mp w24
        have i3N := mt i3F.mpr (by omega)
        clear i3F
        refine pb_aload_n (pc := 48) d_Markup_readNamed_48 1 rfl rfl ?_
        refine pb_iload_n (pc := 49) d_Markup_readNamed_49 0 rfl rfl ?_
        refine pb_ldcS (pc := 50) (k := 13) d_Markup_readNamed_50 rfl (by decide) ?_
        refine pb_callV (pc := 52) (I := i_Markup_readNamed) (qb := 0) (ci := 8) (nA := 2) (rest := []) (wr := []) d_Markup_readNamed_52 (g_Mu_isText hl G h ui ug uv ur ct fa bg at_3 en vs io hi ht uf at_ 13 (by first | (with_reducible assumption) | omega (splitDisjunctions := false) | assumption | omega | decide) (by first | (with_reducible assumption) | omega (splitDisjunctions := false) | assumption | omega | decide) (by first | (with_reducible assumption) | omega (splitDisjunctions := false) | assumption | omega | decide) (by first | (with_reducible assumption) | omega (splitDisjunctions := false) | assumption | omega | decide) (by first | (with_reducible assumption) | omega (splitDisjunctions := false) | assumption | omega | decide) (by first | assumption | decide | omega) (by first | (with_reducible assumption) | omega (splitDisjunctions := false) | assumption | omega | decide) (by first | (with_reducible assumption) | omega (splitDisjunctions := false) | assumption | omega | decide) F_uf) rfl rfl [0, 1] [] (by decide) rfl rfl rfl (by decide) (by decide) k_857 rfl k_125 k_854 k_856 k_41 ⟨rfl, hy_Markup_isText⟩ (by decide) rfl rfl (Nat.le_of_ble_eq_true rfl) (by decide) (fun v9 u26 ch25 => ?_)
        obtain ⟨r_27, rfl⟩ : ∃ z9, z9 = u26 := ⟨_, rfl⟩
        obtain ⟨ech25, ch25⟩ := ch25
        have ech25 : v9 = some (.int r_27) := ech25
        subst ech25
        obtain ⟨fh28, fh29⟩ : (r_27.toInt = 0 ∨ r_27.toInt = 1) ∧ (hid_ (r_27.toInt = 1 ↔ tm6_ (mB_ uf bg.toInt) (en.toInt - bg.toInt) (at_.toInt - bg.toInt) (at_3.toInt - bg.toInt) (st_c 13) (st_len 13))) := ch25
        have i4F := hid_o fh29
        rw [tm_4 (x := 113) (y := 117) (z := 111) (u := 116) (by decide +kernel) (by decide +kernel)] at i4F
        refine pb_eq (pc' := 55) (lo' := [(1, .int at_), (0, .ref h)]) (rest' := [.int r_27]) (ws' := [(h, .inr (8, [.ref ui, .ref ug, .ref uv, .ref ur, .int ct, .int fa, .int bg, .int at_3, .int en, .int vs, .int io, .int hi, .int ht])), (ur, .inl (G.2.1, 12000, .inl uf))]) ?_
        refine pb_if_eq (pc := 55) (tgt := 61) d_Markup_readNamed_55 (by decide) (fun w30 => ?_) (fun w30 => ?_)
        · have tw30 : r_27.toInt = 0 := (ti_eq rfl (by decide)).mp w30
          have i4N := mt i4F.mpr (by omega)
          clear i4F
          refine pb_aload_n (pc := 61) d_Markup_readNamed_61 1 rfl rfl ?_
          refine pb_iload_n (pc := 62) d_Markup_readNamed_62 0 rfl rfl ?_
          refine pb_ldcS (pc := 63) (k := 14) d_Markup_readNamed_63 rfl (by decide) ?_
          refine pb_callV (pc := 65) (I := i_Markup_readNamed) (qb := 0) (ci := 8) (nA := 2) (rest := []) (wr := []) d_Markup_readNamed_65 (g_Mu_isText hl G h ui ug uv ur ct fa bg at_3 en vs io hi ht uf at_ 14 (by first | (with_reducible assumption) | omega (splitDisjunctions := false) | assumption | omega | decide) (by first | (with_reducible assumption) | omega (splitDisjunctions := false) | assumption | omega | decide) (by first | (with_reducible assumption) | omega (splitDisjunctions := false) | assumption | omega | decide) (by first | (with_reducible assumption) | omega (splitDisjunctions := false) | assumption | omega | decide) (by first | (with_reducible assumption) | omega (splitDisjunctions := false) | assumption | omega | decide) (by first | assumption | decide | omega) (by first | (with_reducible assumption) | omega (splitDisjunctions := false) | assumption | omega | decide) (by first | (with_reducible assumption) | omega (splitDisjunctions := false) | assumption | omega | decide) F_uf) rfl rfl [0, 1] [] (by decide) rfl rfl rfl (by decide) (by decide) k_857 rfl k_125 k_854 k_856 k_41 ⟨rfl, hy_Markup_isText⟩ (by decide) rfl rfl (Nat.le_of_ble_eq_true rfl) (by decide) (fun v9 u32 ch31 => ?_)
          obtain ⟨r_33, rfl⟩ : ∃ z9, z9 = u32 := ⟨_, rfl⟩
          obtain ⟨ech31, ch31⟩ := ch31
          have ech31 : v9 = some (.int r_33) := ech31
          subst ech31
          obtain ⟨fh34, fh35⟩ : (r_33.toInt = 0 ∨ r_33.toInt = 1) ∧ (hid_ (r_33.toInt = 1 ↔ tm6_ (mB_ uf bg.toInt) (en.toInt - bg.toInt) (at_.toInt - bg.toInt) (at_3.toInt - bg.toInt) (st_c 14) (st_len 14))) := ch31
          have i5F := hid_o fh35
          rw [tm_4 (x := 97) (y := 112) (z := 111) (u := 115) (by decide +kernel) (by decide +kernel)] at i5F
          refine pb_eq (pc' := 68) (lo' := [(1, .int at_), (0, .ref h)]) (rest' := [.int r_33]) (ws' := [(h, .inr (8, [.ref ui, .ref ug, .ref uv, .ref ur, .int ct, .int fa, .int bg, .int at_3, .int en, .int vs, .int io, .int hi, .int ht])), (ur, .inl (G.2.1, 12000, .inl uf))]) ?_
          refine pb_if_eq (pc := 68) (tgt := 74) d_Markup_readNamed_68 (by decide) (fun w36 => ?_) (fun w36 => ?_)
          · have tw36 : r_33.toInt = 0 := (ti_eq rfl (by decide)).mp w36
            have i5N := mt i5F.mpr (by omega)
            clear i5F
            refine pb_aload_n (pc := 74) d_Markup_readNamed_74 1 rfl rfl ?_
            refine pb_iload_n (pc := 75) d_Markup_readNamed_75 0 rfl rfl ?_
            refine pb_callV (pc := 76) (I := i_Markup_readNamed) (qb := 0) (ci := 8) (nA := 1) (rest := []) (wr := [(ur, .inl (G.2.1, 12000, .inl uf))]) d_Markup_readNamed_76 (g_Mu_fail hl G h ui ug uv ur ct fa bg at_3 en vs io hi ht at_ (by first | (with_reducible assumption) | omega (splitDisjunctions := false) | assumption | omega | decide) (by first | (with_reducible assumption) | omega (splitDisjunctions := false) | assumption | omega | decide) (by first | (with_reducible assumption) | omega (splitDisjunctions := false) | assumption | omega | decide)) rfl rfl [0] [1] (by decide) rfl rfl rfl (by decide) (by decide) k_831 rfl k_125 k_828 k_830 k_36 ⟨rfl, hy_Markup_fail⟩ (by decide) rfl rfl (Nat.le_of_ble_eq_true rfl) (by decide) (fun v9 u38 ch37 => ?_)
            obtain ⟨f_39, rfl⟩ : ∃ z9, z9 = u38 := ⟨_, rfl⟩
            obtain ⟨ech37, ch37⟩ := ch37
            have ech37 : v9 = some (.int 0) := ech37
            subst ech37
            have fh40 : 0 ≤ f_39.toInt := ch37
            have flF := fh40
            refine pb_eq (pc' := 79) (lo' := [(1, .int at_), (0, .ref h)]) (rest' := [.int 0]) (ws' := [(ur, .inl (G.2.1, 12000, .inl uf)), (h, .inr (8, [.ref ui, .ref ug, .ref uv, .ref ur, .int ct, .int f_39, .int bg, .int at_3, .int en, .int vs, .int io, .int hi, .int ht]))]) ?_
            refine pb_pop (pc := 79) d_Markup_readNamed_79 rfl ?_
            refine pb_iconst (pc := 80) (v := (-1)) d_Markup_readNamed_80 (by decide) ?_
            exact pb_iret (pc := 81) hQ d_Markup_readNamed_81 rfl rfl ((-1), at_3, f_39) ⟨rfl, (by (try dsimp only); first | done | (with_reducible assumption) | omega (splitDisjunctions := false) | assumption | omega | decide), (by (try dsimp only); first | done | (with_reducible assumption) | omega (splitDisjunctions := false) | assumption | omega | decide), (by (try dsimp only); first | done | (with_reducible assumption) | omega (splitDisjunctions := false) | assumption | omega | decide), (by (try dsimp only); first | done | (with_reducible assumption) | omega (splitDisjunctions := false) | assumption | omega | decide), (show ov_ ((-1) : Int32).toInt (at_3.toInt - bg.toInt) = nM6_ (mB_ uf bg.toInt) (en.toInt - bg.toInt) (at_.toInt - bg.toInt) from (ov_m lcF (Or.inl ⟨rfl, by decide⟩) (nc_6 i1N i2N i3N i4N i5N))), (show fn_ ((-1) : Int32).toInt fa.toInt f_39.toInt from (by unfold fn_; omega))⟩ [1, 0] (by decide) rfl rfl (by decide) (by decide)
          · have tw36 : ¬ r_33.toInt = 0 := fun z9 => w36 ((ti_eq rfl (by decide)).mpr z9)
            have i5Y := i5F.mp (by (exact omg_d9c3f42b32 fh34 tw36))
            clear i5F
            refine pb_bipush (pc := 71) (v := 39) d_Markup_readNamed_71 (by decide) ?_
            exact pb_iret (pc := 73) hQ d_Markup_readNamed_73 rfl rfl (39, at_3, fa) ⟨rfl, (by (try dsimp only); first | done | (with_reducible assumption) | omega (splitDisjunctions := false) | assumption | omega | decide), (by (try dsimp only); first | done | (with_reducible assumption) | omega (splitDisjunctions := false) | assumption | omega | decide), (by (try dsimp only); first | done | (with_reducible assumption) | omega (splitDisjunctions := false) | assumption | omega | decide), (by (try dsimp only); first | done | (with_reducible assumption) | omega (splitDisjunctions := false) | assumption | omega | decide), (show ov_ (39 : Int32).toInt (at_3.toInt - bg.toInt) = nM6_ (mB_ uf bg.toInt) (en.toInt - bg.toInt) (at_.toInt - bg.toInt) from (ov_m lcF (Or.inr ⟨by decide, by decide, by decide, rfl⟩) (nc_5 i1N i2N i3N i4N i5Y))), (show fn_ (39 : Int32).toInt fa.toInt fa.toInt from (by unfold fn_; omega))⟩ [0, 1] (by decide) rfl rfl (by decide) (by decide)
        · have tw30 : ¬ r_27.toInt = 0 := fun z9 => w30 ((ti_eq rfl (by decide)).mpr z9)
          have i4Y := i4F.mp (by (exact omg_d9c3f42b32 fh28 tw30))
          clear i4F
          refine pb_bipush (pc := 58) (v := 34) d_Markup_readNamed_58 (by decide) ?_
          exact pb_iret (pc := 60) hQ d_Markup_readNamed_60 rfl rfl (34, at_3, fa) ⟨rfl, (by (try dsimp only); first | done | (with_reducible assumption) | omega (splitDisjunctions := false) | assumption | omega | decide), (by (try dsimp only); first | done | (with_reducible assumption) | omega (splitDisjunctions := false) | assumption | omega | decide), (by (try dsimp only); first | done | (with_reducible assumption) | omega (splitDisjunctions := false) | assumption | omega | decide), (by (try dsimp only); first | done | (with_reducible assumption) | omega (splitDisjunctions := false) | assumption | omega | decide), (show ov_ (34 : Int32).toInt (at_3.toInt - bg.toInt) = nM6_ (mB_ uf bg.toInt) (en.toInt - bg.toInt) (at_.toInt - bg.toInt) from (ov_m lcF (Or.inr ⟨by decide, by decide, by decide, rfl⟩) (nc_4 i1N i2N i3N i4Y))), (show fn_ (34 : Int32).toInt fa.toInt fa.toInt from (by unfold fn_; omega))⟩ [0, 1] (by decide) rfl rfl (by decide) (by decide)
      · have tw24 : ¬ r_21.toInt = 0 := fun z9 => w24 ((ti_eq rfl (by decide)).mpr z9)
        have i3Y := i3F.mp (by (exact omg_d9c3f42b32 fh22 tw24))
        clear i3F
        refine pb_bipush (pc := 45) (v := 62) d_Markup_readNamed_45 (by decide) ?_
        exact pb_iret (pc := 47) hQ d_Markup_readNamed_47 rfl rfl (62, at_3, fa) ⟨rfl, (by (try dsimp only); first | done | (with_reducible assumption) | omega (splitDisjunctions := false) | assumption | omega | decide), (by (try dsimp only); first | done | (with_reducible assumption) | omega (splitDisjunctions := false) | assumption | omega | decide), (by (try dsimp only); first | done | (with_reducible assumption) | omega (splitDisjunctions := false) | assumption | omega | decide), (by (try dsimp only); first | done | (with_reducible assumption) | omega (splitDisjunctions := false) | assumption | omega | decide), (show ov_ (62 : Int32).toInt (at_3.toInt - bg.toInt) = nM6_ (mB_ uf bg.toInt) (en.toInt - bg.toInt) (at_.toInt - bg.toInt) from (ov_m lcF (Or.inr ⟨by decide, by decide, by decide, rfl⟩) (nc_3 i1N i2N i3Y))), (show fn_ (62 : Int32).toInt fa.toInt fa.toInt from (by unfold fn_; omega))⟩ [0, 1] (by decide) rfl rfl (by decide) (by decide)
    · have tw18 : ¬ r_15.toInt = 0 := fun z9 => w18 ((ti_eq rfl (by decide)).mpr z9)
      have i2Y := i2F.mp (by (exact omg_d9c3f42b32 fh16 tw18))
      clear i2F
      refine pb_bipush (pc := 32) (v := 60) d_Markup_readNamed_32 (by decide) ?_
      exact pb_iret (pc := 34) hQ d_Markup_readNamed_34 rfl rfl (60, at_3, fa) ⟨rfl, (by (try dsimp only); first | done | (with_reducible assumption) | omega (splitDisjunctions := false) | assumption | omega | decide), (by (try dsimp only); first | done | (with_reducible assumption) | omega (splitDisjunctions := false) | assumption | omega | decide), (by (try dsimp only); first | done | (with_reducible assumption) | omega (splitDisjunctions := false) | assumption | omega | decide), (by (try dsimp only); first | done | (with_reducible assumption) | omega (splitDisjunctions := false) | assumption | omega | decide), (show ov_ (60 : Int32).toInt (at_3.toInt - bg.toInt) = nM6_ (mB_ uf bg.toInt) (en.toInt - bg.toInt) (at_.toInt - bg.toInt) from (ov_m lcF (Or.inr ⟨by decide, by decide, by decide, rfl⟩) (nc_2 i1N i2Y))), (show fn_ (60 : Int32).toInt fa.toInt fa.toInt from (by unfold fn_; omega))⟩ [0, 1] (by decide) rfl rfl (by decide) (by decide)
  · have tw12 : ¬ r_9.toInt = 0 := fun z9 => w12 ((ti_eq rfl (by decide)).mpr z9)
    have i1Y := i1F.mp (by (exact omg_d9c3f42b32 fh10 tw12))
    clear i1F
    refine pb_bipush (pc := 19) (v := 38) d_Markup_readNamed_19 (by decide) ?_
    exact pb_iret (pc := 21) hQ d_Markup_readNamed_21 rfl rfl (38, at_3, fa) ⟨rfl, (by (try dsimp only); first | done | (with_reducible assumption) | omega (splitDisjunctions := false) | assumption | omega | decide), (by (try dsimp only); first | done | (with_reducible assumption) | omega (splitDisjunctions := false) | assumption | omega | decide), (by (try dsimp only); first | done | (with_reducible assumption) | omega (splitDisjunctions := false) | assumption | omega | decide), (by (try dsimp only); first | done | (with_reducible assumption) | omega (splitDisjunctions := false) | assumption | omega | decide), (show ov_ (38 : Int32).toInt (at_3.toInt - bg.toInt) = nM6_ (mB_ uf bg.toInt) (en.toInt - bg.toInt) (at_.toInt - bg.toInt) from (ov_m lcF (Or.inr ⟨by decide, by decide, by decide, rfl⟩) (nc_1 i1Y))), (show fn_ (38 : Int32).toInt fa.toInt fa.toInt from (by unfold fn_; omega))⟩ [0, 1] (by decide) rfl rfl (by decide) (by decide)

theorem d_Markup_readNumber_0 : decode prog_7_method_14_code 0 = .ok (.aload_n 0, 1) := by decide +kernel
theorem d_Markup_readNumber_1 : decode prog_7_method_14_code 1 = .ok (.dup, 1) := by decide +kernel
theorem d_Markup_readNumber_2 : decode prog_7_method_14_code 2 = .ok (.getfield 48, 3) := by decide +kernel
theorem d_Markup_readNumber_5 : decode prog_7_method_14_code 5 = .ok (.iconst 1, 1) := by decide +kernel
theorem d_Markup_readNumber_6 : decode prog_7_method_14_code 6 = .ok (.iadd, 1) := by decide +kernel
theorem d_Markup_readNumber_7 : decode prog_7_method_14_code 7 = .ok (.putfield 48, 3) := by decide +kernel
theorem d_Markup_readNumber_10 : decode prog_7_method_14_code 10 = .ok (.aload_n 0, 1) := by decide +kernel
theorem d_Markup_readNumber_11 : decode prog_7_method_14_code 11 = .ok (.getfield 48, 3) := by decide +kernel
theorem d_Markup_readNumber_14 : decode prog_7_method_14_code 14 = .ok (.istore_n 1, 1) := by decide +kernel
theorem d_Markup_readNumber_31 : decode prog_7_method_14_code 31 = .ok (.iconst 0, 1) := by decide +kernel
theorem d_Markup_readNumber_32 : decode prog_7_method_14_code 32 = .ok (.istore_n 3, 1) := by decide +kernel
theorem d_Markup_readNumber_33 : decode prog_7_method_14_code 33 = .ok (.iconst 0, 1) := by decide +kernel
theorem d_Markup_readNumber_34 : decode prog_7_method_14_code 34 = .ok (.istore 4, 2) := by decide +kernel
theorem d_Markup_readNumber_36 : decode prog_7_method_14_code 36 = .ok (.iload 4, 2) := by decide +kernel
theorem d_Markup_readNumber_38 : decode prog_7_method_14_code 38 = .ok (.iconst 3, 1) := by decide +kernel
theorem d_Markup_readNumber_39 : decode prog_7_method_14_code 39 = .ok (.if_icmp .ge 53, 3) := by decide +kernel
theorem d_Markup_readNumber_92 : decode prog_7_method_14_code 92 = .ok (.iload_n 2, 1) := by decide +kernel
theorem d_Markup_readNumber_93 : decode prog_7_method_14_code 93 = .ok (.ifCond .ne 15, 3) := by decide +kernel
theorem d_Markup_readNumber_108 : decode prog_7_method_14_code 108 = .ok (.aload_n 0, 1) := by decide +kernel
theorem d_Markup_readNumber_109 : decode prog_7_method_14_code 109 = .ok (.iload_n 1, 1) := by decide +kernel
theorem d_Markup_readNumber_110 : decode prog_7_method_14_code 110 = .ok (.invokevirtual 96, 3) := by decide +kernel
theorem d_Markup_readNumber_113 : decode prog_7_method_14_code 113 = .ok (.pop, 1) := by decide +kernel
theorem d_Markup_readNumber_114 : decode prog_7_method_14_code 114 = .ok (.iconst (-1), 1) := by decide +kernel
theorem d_Markup_readNumber_115 : decode prog_7_method_14_code 115 = .ok (.ireturn, 1) := by decide +kernel
theorem d_Markup_readNumber_96 : decode prog_7_method_14_code 96 = .ok (.iload_n 3, 1) := by decide +kernel
theorem d_Markup_readNumber_97 : decode prog_7_method_14_code 97 = .ok (.bipush 32, 2) := by decide +kernel
theorem d_Markup_readNumber_99 : decode prog_7_method_14_code 99 = .ok (.if_icmp .lt 9, 3) := by decide +kernel
theorem d_Markup_readNumber_102 : decode prog_7_method_14_code 102 = .ok (.iload_n 3, 1) := by decide +kernel
theorem d_Markup_readNumber_103 : decode prog_7_method_14_code 103 = .ok (.bipush 126, 2) := by decide +kernel
theorem d_Markup_readNumber_105 : decode prog_7_method_14_code 105 = .ok (.if_icmp .le 11, 3) := by decide +kernel
theorem d_Markup_readNumber_116 : decode prog_7_method_14_code 116 = .ok (.iload_n 3, 1) := by decide +kernel
theorem d_Markup_readNumber_117 : decode prog_7_method_14_code 117 = .ok (.ireturn, 1) := by decide +kernel
theorem d_Markup_readNumber_42 : decode prog_7_method_14_code 42 = .ok (.aload_n 0, 1) := by decide +kernel
theorem d_Markup_readNumber_43 : decode prog_7_method_14_code 43 = .ok (.iconst 0, 1) := by decide +kernel
theorem d_Markup_readNumber_44 : decode prog_7_method_14_code 44 = .ok (.invokevirtual 80, 3) := by decide +kernel
theorem d_Markup_readNumber_47 : decode prog_7_method_14_code 47 = .ok (.bipush 48, 2) := by decide +kernel
theorem d_Markup_readNumber_49 : decode prog_7_method_14_code 49 = .ok (.if_icmp .lt 43, 3) := by decide +kernel
theorem d_Markup_readNumber_52 : decode prog_7_method_14_code 52 = .ok (.aload_n 0, 1) := by decide +kernel
theorem d_Markup_readNumber_53 : decode prog_7_method_14_code 53 = .ok (.iconst 0, 1) := by decide +kernel
theorem d_Markup_readNumber_54 : decode prog_7_method_14_code 54 = .ok (.invokevirtual 80, 3) := by decide +kernel
theorem d_Markup_readNumber_57 : decode prog_7_method_14_code 57 = .ok (.bipush 57, 2) := by decide +kernel
theorem d_Markup_readNumber_59 : decode prog_7_method_14_code 59 = .ok (.if_icmp .gt 33, 3) := by decide +kernel
theorem d_Markup_readNumber_62 : decode prog_7_method_14_code 62 = .ok (.bipush 10, 2) := by decide +kernel
theorem d_Markup_readNumber_64 : decode prog_7_method_14_code 64 = .ok (.iload_n 3, 1) := by decide +kernel
theorem d_Markup_readNumber_65 : decode prog_7_method_14_code 65 = .ok (.imul, 1) := by decide +kernel
theorem d_Markup_readNumber_66 : decode prog_7_method_14_code 66 = .ok (.aload_n 0, 1) := by decide +kernel
theorem d_Markup_readNumber_67 : decode prog_7_method_14_code 67 = .ok (.iconst 0, 1) := by decide +kernel
theorem d_Markup_readNumber_68 : decode prog_7_method_14_code 68 = .ok (.invokevirtual 80, 3) := by decide +kernel
theorem d_Markup_readNumber_71 : decode prog_7_method_14_code 71 = .ok (.iadd, 1) := by decide +kernel
theorem d_Markup_readNumber_72 : decode prog_7_method_14_code 72 = .ok (.bipush 48, 2) := by decide +kernel
theorem d_Markup_readNumber_74 : decode prog_7_method_14_code 74 = .ok (.isub, 1) := by decide +kernel
theorem d_Markup_readNumber_75 : decode prog_7_method_14_code 75 = .ok (.istore_n 3, 1) := by decide +kernel
theorem d_Markup_readNumber_76 : decode prog_7_method_14_code 76 = .ok (.aload_n 0, 1) := by decide +kernel
theorem d_Markup_readNumber_77 : decode prog_7_method_14_code 77 = .ok (.dup, 1) := by decide +kernel
theorem d_Markup_readNumber_78 : decode prog_7_method_14_code 78 = .ok (.getfield 48, 3) := by decide +kernel
theorem d_Markup_readNumber_81 : decode prog_7_method_14_code 81 = .ok (.iconst 1, 1) := by decide +kernel
theorem d_Markup_readNumber_82 : decode prog_7_method_14_code 82 = .ok (.iadd, 1) := by decide +kernel
theorem d_Markup_readNumber_83 : decode prog_7_method_14_code 83 = .ok (.putfield 48, 3) := by decide +kernel
theorem d_Markup_readNumber_86 : decode prog_7_method_14_code 86 = .ok (.iinc 4 1, 3) := by decide +kernel
theorem d_Markup_readNumber_89 : decode prog_7_method_14_code 89 = .ok (.goto (-53), 3) := by decide +kernel
theorem d_Markup_readNumber_15 : decode prog_7_method_14_code 15 = .ok (.aload_n 0, 1) := by decide +kernel
theorem d_Markup_readNumber_16 : decode prog_7_method_14_code 16 = .ok (.iconst 0, 1) := by decide +kernel
theorem d_Markup_readNumber_17 : decode prog_7_method_14_code 17 = .ok (.invokevirtual 80, 3) := by decide +kernel
theorem d_Markup_readNumber_20 : decode prog_7_method_14_code 20 = .ok (.bipush 48, 2) := by decide +kernel
theorem d_Markup_readNumber_22 : decode prog_7_method_14_code 22 = .ok (.if_icmp .ne 7, 3) := by decide +kernel
theorem d_Markup_readNumber_29 : decode prog_7_method_14_code 29 = .ok (.iconst 0, 1) := by decide +kernel
theorem d_Markup_readNumber_30 : decode prog_7_method_14_code 30 = .ok (.istore_n 2, 1) := by decide +kernel
theorem d_Markup_readNumber_25 : decode prog_7_method_14_code 25 = .ok (.iconst 1, 1) := by decide +kernel
theorem d_Markup_readNumber_26 : decode prog_7_method_14_code 26 = .ok (.goto 4, 3) := by decide +kernel
abbrev y_Markup_readNumber : MethodName := ⟨"PackageBook$Markup", "readNumber", "()I"⟩
abbrev i_Markup_readNumber : pb_I := (y_Markup_readNumber, prog_7_method_14_code, 5, (some Jvm.ClassFile.FieldType.int), [], { frames := 1, cells := 0, slots := 0, locals := 21 })
set_option maxRecDepth 100000 in
set_option maxHeartbeats 4000000 in
theorem g_Mu_readNumber {l : Launch} (hl : l.stackTraces = false) (G : pb_G) (h : Nat) (ui : Nat) (ug : Nat) (uv : Nat) (ur : Nat) (ct : Int32) (fa : Int32) (bg : Int32) (at_ : Int32) (en : Int32) (vs : Int32) (io : Int32) (hi : Int32) (ht : Int32) (uf : Nat → Int32) (a0 : 0 ≤ at_.toInt) (a1 : at_.toInt ≤ en.toInt) (a2 : en.toInt ≤ 12000) (a3 : 0 ≤ bg.toInt) (a4 : bg.toInt ≤ at_.toInt) (b0 : at_.toInt < en.toInt) (F_uf : sb_Fit uf) : Cn l G i_Markup_readNumber [.ref h] [(h, .inr (8, [.ref ui, .ref ug, .ref uv, .ref ur, .int ct, .int fa, .int bg, .int at_, .int en, .int vs, .int io, .int hi, .int ht])), (ur, .inl (G.2.1, 12000, .inl uf))] (S := Int32 × Int32 × Int32) (fun rv_ u => rv_ = some (.int u.1) ∧ (at_.toInt ≤ u.2.1.toInt) ∧ (u.2.1.toInt ≤ en.toInt) ∧ (-1 ≤ u.1.toInt) ∧ (u.1.toInt ≤ 126) ∧ (ov_ u.1.toInt (u.2.1.toInt - bg.toInt) = nu_ (mB_ uf bg.toInt) (en.toInt - bg.toInt) (at_.toInt - bg.toInt)) ∧ (fn_ u.1.toInt fa.toInt u.2.2.toInt)) (fun u => [(h, .inr (8, [.ref ui, .ref ug, .ref uv, .ref ur, .int ct, .int u.2.2, .int bg, .int u.2.1, .int en, .int vs, .int io, .int hi, .int ht])), (ur, .inl (G.2.1, 12000, .inl uf))]) := by
  refine Cn.of hl (by decide +kernel) rfl (Nat.le_of_ble_eq_true rfl) (fun M hQ => ?_)
  refine pb_eq (pc' := 0) (lo' := [(0, .ref h)]) (rest' := []) (ws' := [(h, .inr (8, [.ref ui, .ref ug, .ref uv, .ref ur, .int ct, .int fa, .int bg, .int at_, .int en, .int vs, .int io, .int hi, .int ht])), (ur, .inl (G.2.1, 12000, .inl uf))]) ?_
  have zm1 : ((-1) : Int32).toInt = (-1) := by decide
  have zl0 : (0 : Int32).toInt = 0 := by decide
  have zl1 : (1 : Int32).toInt = 1 := by decide
  have zl10 : (10 : Int32).toInt = 10 := by decide
  refine pb_aload_n (pc := 0) d_Markup_readNumber_0 0 rfl rfl ?_
  refine pb_dup (pc := 1) d_Markup_readNumber_1 rfl ?_
  refine pb_get (pc := 2) d_Markup_readNumber_2 0 7 rfl rfl (by decide) in_Markup k_326 rfl ?_
  refine pb_iconst (pc := 5) (v := 1) d_Markup_readNumber_5 (by decide) ?_
  refine pb_iadd (pc := 6) d_Markup_readNumber_6 ?_
  refine pb_topi (fun i1 ei1 => ?_)
  try have ti1 : i1.toInt = at_.toInt + 1 := t2_add ei1 rfl (by decide) (by omega)
  refine pb_put (pc := 7) (ty := .int) (ws' := [(h, .inr (8, [.ref ui, .ref ug, .ref uv, .ref ur, .int ct, .int fa, .int bg, .int i1, .int en, .int vs, .int io, .int hi, .int ht])), (ur, .inl (G.2.1, 12000, .inl uf))]) d_Markup_readNumber_7 0 7 t_Markup t_Markup_ok n_Markup rfl rfl (by decide) in_Markup k_326 rfl (by decide +kernel) rfl rfl (Nat.le_of_ble_eq_true rfl) rfl ?_
  refine pb_aload_n (pc := 10) d_Markup_readNumber_10 0 rfl rfl ?_
  refine pb_get (pc := 11) d_Markup_readNumber_11 0 7 rfl rfl (by decide) in_Markup k_326 rfl ?_
  refine pb_istore_n (pc := 14) (lo' := [(1, .int i1), (0, .ref h)]) d_Markup_readNumber_14 rfl (by decide) rfl ?_
  have hJ31_2 : ∀ (z : Int32) (fr_ : Int32) (a1_ : Int32), (at_.toInt ≤ a1_.toInt) → (a1_.toInt ≤ en.toInt) → (hid_ (z.toInt = 1 ↔ cm_ (mB_ uf bg.toInt) (en.toInt - bg.toInt) ((at_.toInt - bg.toInt) + 1) = 48)) → (z.toInt = 0 ∨ z.toInt = 1) → (a1_.toInt = at_.toInt + 1) → (fr_.toInt = at_.toInt + 1) → pb_P l G M i_Markup_readNumber 31 [(2, .int z), (1, .int fr_), (0, .ref h)] [] [(h, .inr (8, [.ref ui, .ref ug, .ref uv, .ref ur, .int ct, .int fa, .int bg, .int a1_, .int en, .int vs, .int io, .int hi, .int ht])), (ur, .inl (G.2.1, 12000, .inl uf))] 0 0 := by
    intro z fr_ a1_ j0 j1 jz jz2 ja jf
    refine pb_iconst (pc := 31) (v := 0) d_Markup_readNumber_31 (by decide) ?_
    refine pb_istore_n (pc := 32) (lo' := [(3, .int 0), (2, .int z), (1, .int fr_), (0, .ref h)]) d_Markup_readNumber_32 rfl (by decide) rfl ?_
    refine pb_iconst (pc := 33) (v := 0) d_Markup_readNumber_33 (by decide) ?_
    refine pb_istore (pc := 34) (lo' := [(4, .int 0), (3, .int 0), (2, .int z), (1, .int fr_), (0, .ref h)]) d_Markup_readNumber_34 (by decide) rfl ?_
    have hL36_3 : ∀ (N9 : Nat) (n : Int32) (j : Int32) (a : Int32) (f : Int32), (at_.toInt ≤ a.toInt) → (a.toInt ≤ en.toInt) → (0 ≤ j.toInt) → (dg_ (mB_ uf bg.toInt) (en.toInt - bg.toInt) (((at_.toInt - bg.toInt) + 1) + 3 - (a.toInt - bg.toInt)).toNat (a.toInt - bg.toInt) n.toInt = dg_ (mB_ uf bg.toInt) (en.toInt - bg.toInt) 3 ((at_.toInt - bg.toInt) + 1) 0) → (a.toInt = at_.toInt + 1 + j.toInt) → ((j.toInt = 0 ∧ n.toInt = 0) ∨ (j.toInt = 1 ∧ 0 ≤ n.toInt ∧ n.toInt ≤ 9) ∨ (j.toInt = 2 ∧ 0 ≤ n.toInt ∧ n.toInt ≤ 99) ∨ (j.toInt = 3 ∧ 0 ≤ n.toInt ∧ n.toInt ≤ 999)) → (f.toInt = fa.toInt) → ((3 - j.toInt).toNat) < N9 → pb_P l G M i_Markup_readNumber 36 [(3, .int n), (4, .int j), (2, .int z), (1, .int fr_), (0, .ref h)] [] [(h, .inr (8, [.ref ui, .ref ug, .ref uv, .ref ur, .int ct, .int f, .int bg, .int a, .int en, .int vs, .int io, .int hi, .int ht])), (ur, .inl (G.2.1, 12000, .inl uf))] 0 0 := by
      intro N9
      induction N9 with
      | zero => intro n j a f k0 k1 k2 kd ka kb lf hm9; exact absurd hm9 (Nat.not_lt_zero _)
      | succ N9 ih36 =>
        intro n j a f k0 k1 k2 kd ka kb lf hm9
        refine pb_iload (pc := 36) d_Markup_readNumber_36 1 rfl ?_
        refine pb_iconst (pc := 38) (v := 3) d_Markup_readNumber_38 (by decide) ?_
        refine pb_icmp_ge (pc := 39) (tgt := 92) d_Markup_readNumber_39 (by decide) (fun w4 => ?_) (fun w4 => ?_)
        · have tw4 : 3 ≤ j.toInt := (ti_le (by decide) rfl).mp w4
          have dgF := dg_x kd (by omega)
          refine pb_iload_n (pc := 92) d_Markup_readNumber_92 2 rfl rfl ?_
          refine pb_if_ne (pc := 93) (tgt := 108) d_Markup_readNumber_93 (by decide) (fun w5 => ?_) (fun w5 => ?_)
          · have tw5 : ¬ z.toInt = 0 := fun z9 => w5 ((ti_eq rfl (by decide)).mpr z9)
            refine pb_aload_n (pc := 108) d_Markup_readNumber_108 4 rfl rfl ?_
            refine pb_iload_n (pc := 109) d_Markup_readNumber_109 3 rfl rfl ?_
            refine pb_callV (pc := 110) (I := i_Markup_readNumber) (qb := 0) (ci := 8) (nA := 1) (rest := []) (wr := [(ur, .inl (G.2.1, 12000, .inl uf))]) d_Markup_readNumber_110 (g_Mu_fail hl G h ui ug uv ur ct f bg a en vs io hi ht fr_ (by first | (with_reducible assumption) | omega (splitDisjunctions := false) | assumption | omega | decide) (by first | (with_reducible assumption) | omega (splitDisjunctions := false) | assumption | omega | decide) (by first | (with_reducible assumption) | omega (splitDisjunctions := false) | assumption | omega | decide)) rfl rfl [0] [1] (by decide) rfl rfl rfl (by decide) (by decide) k_831 rfl k_125 k_828 k_830 k_36 ⟨rfl, hy_Markup_fail⟩ (by decide) rfl rfl (Nat.le_of_ble_eq_true rfl) (by decide) (fun v9 u7 ch6 => ?_)
            obtain ⟨f_8, rfl⟩ : ∃ z9, z9 = u7 := ⟨_, rfl⟩
            obtain ⟨ech6, ch6⟩ := ch6
            have ech6 : v9 = some (.int 0) := ech6
            subst ech6
            have fh9 : 0 ≤ f_8.toInt := ch6
            have flF := fh9
            refine pb_eq (pc' := 113) (lo' := [(3, .int n), (4, .int j), (2, .int z), (1, .int fr_), (0, .ref h)]) (rest' := [.int 0]) (ws' := [(ur, .inl (G.2.1, 12000, .inl uf)), (h, .inr (8, [.ref ui, .ref ug, .ref uv, .ref ur, .int ct, .int f_8, .int bg, .int a, .int en, .int vs, .int io, .int hi, .int ht]))]) ?_
            refine pb_pop (pc := 113) d_Markup_readNumber_113 rfl ?_
            refine pb_iconst (pc := 114) (v := (-1)) d_Markup_readNumber_114 (by decide) ?_
            exact pb_iret (pc := 115) hQ d_Markup_readNumber_115 rfl rfl ((-1), a, f_8) ⟨rfl, (by (try dsimp only); first | done | (with_reducible assumption) | omega (splitDisjunctions := false) | assumption | omega | decide), (by (try dsimp only); first | done | (with_reducible assumption) | omega (splitDisjunctions := false) | assumption | omega | decide), (by (try dsimp only); first | done | (with_reducible assumption) | omega (splitDisjunctions := false) | assumption | omega | decide), (by (try dsimp only); first | done | (with_reducible assumption) | omega (splitDisjunctions := false) | assumption | omega | decide), (show ov_ ((-1) : Int32).toInt (a.toInt - bg.toInt) = nu_ (mB_ uf bg.toInt) (en.toInt - bg.toInt) (at_.toInt - bg.toInt) from (ov_u dgF (Or.inl ⟨by have q9 := hid_o jz; (exact omg_1da51ef73f jz2 tw5 q9), by decide⟩))), (show fn_ ((-1) : Int32).toInt fa.toInt f_8.toInt from (by unfold fn_; omega))⟩ [1, 0] (by decide) rfl rfl (by decide) (by decide)
          · have tw5 : z.toInt = 0 := (ti_eq rfl (by decide)).mp w5
            refine pb_iload_n (pc := 96) d_Markup_readNumber_96 0 rfl rfl ?_
            refine pb_bipush (pc := 97) (v := 32) d_Markup_readNumber_97 (by decide) ?_
            refine pb_icmp_lt (pc := 99) (tgt := 108) d_Markup_readNumber_99 (by decide) (fun w10 => ?_) (fun w10 => ?_)
            · have tw10 : n.toInt < 32 := (ti_lt rfl (by decide)).mp w10
              refine pb_aload_n (pc := 108) d_Markup_readNumber_108 4 rfl rfl ?_
              refine pb_iload_n (pc := 109) d_Markup_readNumber_109 3 rfl rfl ?_
              refine pb_callV (pc := 110) (I := i_Markup_readNumber) (qb := 0) (ci := 8) (nA := 1) (rest := []) (wr := [(ur, .inl (G.2.1, 12000, .inl uf))]) d_Markup_readNumber_110 (g_Mu_fail hl G h ui ug uv ur ct f bg a en vs io hi ht fr_ (by first | (with_reducible assumption) | omega (splitDisjunctions := false) | assumption | omega | decide) (by first | (with_reducible assumption) | omega (splitDisjunctions := false) | assumption | omega | decide) (by first | (with_reducible assumption) | omega (splitDisjunctions := false) | assumption | omega | decide)) rfl rfl [0] [1] (by decide) rfl rfl rfl (by decide) (by decide) k_831 rfl k_125 k_828 k_830 k_36 ⟨rfl, hy_Markup_fail⟩ (by decide) rfl rfl (Nat.le_of_ble_eq_true rfl) (by decide) (fun v9 u12 ch11 => ?_)
              obtain ⟨f_13, rfl⟩ : ∃ z9, z9 = u12 := ⟨_, rfl⟩
              obtain ⟨ech11, ch11⟩ := ch11
              have ech11 : v9 = some (.int 0) := ech11
              subst ech11
              have fh14 : 0 ≤ f_13.toInt := ch11
              have flF := fh14
              refine pb_eq (pc' := 113) (lo' := [(3, .int n), (4, .int j), (2, .int z), (1, .int fr_), (0, .ref h)]) (rest' := [.int 0]) (ws' := [(ur, .inl (G.2.1, 12000, .inl uf)), (h, .inr (8, [.ref ui, .ref ug, .ref uv, .ref ur, .int ct, .int f_13, .int bg, .int a, .int en, .int vs, .int io, .int hi, .int ht]))]) ?_
              refine pb_pop (pc := 113) d_Markup_readNumber_113 rfl ?_
              refine pb_iconst (pc := 114) (v := (-1)) d_Markup_readNumber_114 (by decide) ?_
              exact pb_iret (pc := 115) hQ d_Markup_readNumber_115 rfl rfl ((-1), a, f_13) ⟨rfl, (by (try dsimp only); first | done | (with_reducible assumption) | omega (splitDisjunctions := false) | assumption | omega | decide), (by (try dsimp only); first | done | (with_reducible assumption) | omega (splitDisjunctions := false) | assumption | omega | decide), (by (try dsimp only); first | done | (with_reducible assumption) | omega (splitDisjunctions := false) | assumption | omega | decide), (by (try dsimp only); first | done | (with_reducible assumption) | omega (splitDisjunctions := false) | assumption | omega | decide), (show ov_ ((-1) : Int32).toInt (a.toInt - bg.toInt) = nu_ (mB_ uf bg.toInt) (en.toInt - bg.toInt) (at_.toInt - bg.toInt) from (ov_u dgF (Or.inl ⟨by have q9 := hid_o jz; omega, by decide⟩))), (show fn_ ((-1) : Int32).toInt fa.toInt f_13.toInt from (by unfold fn_; omega))⟩ [1, 0] (by decide) rfl rfl (by decide) (by decide)
            · have tw10 : ¬ n.toInt < 32 := fun z9 => w10 ((ti_lt rfl (by decide)).mpr z9)
              refine pb_iload_n (pc := 102) d_Markup_readNumber_102 0 rfl rfl ?_
              refine pb_bipush (pc := 103) (v := 126) d_Markup_readNumber_103 (by decide) ?_
              refine pb_icmp_le (pc := 105) (tgt := 116) d_Markup_readNumber_105 (by decide) (fun w15 => ?_) (fun w15 => ?_)
              · have tw15 : n.toInt ≤ 126 := (ti_le rfl (by decide)).mp w15
                refine pb_iload_n (pc := 116) d_Markup_readNumber_116 0 rfl rfl ?_
                exact pb_iret (pc := 117) hQ d_Markup_readNumber_117 rfl rfl (n, a, f) ⟨rfl, (by (try dsimp only); first | done | (with_reducible assumption) | omega (splitDisjunctions := false) | assumption | omega | decide), (by (try dsimp only); first | done | (with_reducible assumption) | omega (splitDisjunctions := false) | assumption | omega | decide), (by (try dsimp only); first | done | (with_reducible assumption) | omega (splitDisjunctions := false) | assumption | omega | decide), (by (try dsimp only); first | done | (with_reducible assumption) | omega (splitDisjunctions := false) | assumption | omega | decide), (show ov_ n.toInt (a.toInt - bg.toInt) = nu_ (mB_ uf bg.toInt) (en.toInt - bg.toInt) (at_.toInt - bg.toInt) from (ov_u dgF (Or.inr ⟨by have q9 := hid_o jz; omega, rfl, rfl⟩))), (show fn_ n.toInt fa.toInt f.toInt from (by unfold fn_; omega))⟩ [0, 1] (by decide) rfl rfl (by decide) (by decide)
              · have tw15 : ¬ n.toInt ≤ 126 := fun z9 => w15 ((ti_le rfl (by decide)).mpr z9)
                refine pb_aload_n (pc := 108) d_Markup_readNumber_108 4 rfl rfl ?_
                refine pb_iload_n (pc := 109) d_Markup_readNumber_109 3 rfl rfl ?_
                refine pb_callV (pc := 110) (I := i_Markup_readNumber) (qb := 0) (ci := 8) (nA := 1) (rest := []) (wr := [(ur, .inl (G.2.1, 12000, .inl uf))]) d_Markup_readNumber_110 (g_Mu_fail hl G h ui ug uv ur ct f bg a en vs io hi ht fr_ (by first | (with_reducible assumption) | omega (splitDisjunctions := false) | assumption | omega | decide) (by first | (with_reducible assumption) | omega (splitDisjunctions := false) | assumption | omega | decide) (by first | (with_reducible assumption) | omega (splitDisjunctions := false) | assumption | omega | decide)) rfl rfl [0] [1] (by decide) rfl rfl rfl (by decide) (by decide) k_831 rfl k_125 k_828 k_830 k_36 ⟨rfl, hy_Markup_fail⟩ (by decide) rfl rfl (Nat.le_of_ble_eq_true rfl) (by decide) (fun v9 u17 ch16 => ?_)
                obtain ⟨f_18, rfl⟩ : ∃ z9, z9 = u17 := ⟨_, rfl⟩
                obtain ⟨ech16, ch16⟩ := ch16
                have ech16 : v9 = some (.int 0) := ech16
                subst ech16
                have fh19 : 0 ≤ f_18.toInt := ch16
                have flF := fh19
                refine pb_eq (pc' := 113) (lo' := [(3, .int n), (4, .int j), (2, .int z), (1, .int fr_), (0, .ref h)]) (rest' := [.int 0]) (ws' := [(ur, .inl (G.2.1, 12000, .inl uf)), (h, .inr (8, [.ref ui, .ref ug, .ref uv, .ref ur, .int ct, .int f_18, .int bg, .int a, .int en, .int vs, .int io, .int hi, .int ht]))]) ?_
                refine pb_pop (pc := 113) d_Markup_readNumber_113 rfl ?_
                refine pb_iconst (pc := 114) (v := (-1)) d_Markup_readNumber_114 (by decide) ?_
                exact pb_iret (pc := 115) hQ d_Markup_readNumber_115 rfl rfl ((-1), a, f_18) ⟨rfl, (by (try dsimp only); first | done | (with_reducible assumption) | omega (splitDisjunctions := false) | assumption | omega | decide), (by (try dsimp only); first | done | (with_reducible assumption) | omega (splitDisjunctions := false) | assumption | omega | decide), (by (try dsimp only); first | done | (with_reducible assumption) | omega (splitDisjunctions := false) | assumption | omega | decide), (by (try dsimp only); first | done | (with_reducible assumption) | omega (splitDisjunctions := false) | assumption | omega | decide), (show ov_ ((-1) : Int32).toInt (a.toInt - bg.toInt) = nu_ (mB_ uf bg.toInt) (en.toInt - bg.toInt) (at_.toInt - bg.toInt) from (ov_u dgF (Or.inl ⟨by have q9 := hid_o jz; omega, by decide⟩))), (show fn_ ((-1) : Int32).toInt fa.toInt f_18.toInt from (by unfold fn_; omega))⟩ [1, 0] (by decide) rfl rfl (by decide) (by decide)
        · have tw4 : ¬ 3 ≤ j.toInt := fun z9 => w4 ((ti_le (by decide) rfl).mpr z9)
          refine pb_aload_n (pc := 42) d_Markup_readNumber_42 4 rfl rfl ?_
          refine pb_iconst (pc := 43) (v := 0) d_Markup_readNumber_43 (by decide) ?_
          refine pb_callV (pc := 44) (I := i_Markup_readNumber) (qb := 0) (ci := 8) (nA := 1) (rest := []) (wr := []) d_Markup_readNumber_44 (g_Mu_next hl G h ui ug uv ur ct f bg a en vs io hi ht uf 0 (by first | (with_reducible assumption) | omega (splitDisjunctions := false) | assumption | omega | decide) (by first | (with_reducible assumption) | omega (splitDisjunctions := false) | assumption | omega | decide) (by first | (with_reducible assumption) | omega (splitDisjunctions := false) | assumption | omega | decide) (by first | (with_reducible assumption) | omega (splitDisjunctions := false) | assumption | omega | decide) (by first | (with_reducible assumption) | omega (splitDisjunctions := false) | assumption | omega | decide) (by first | (with_reducible assumption) | omega (splitDisjunctions := false) | assumption | omega | decide) (by first | (with_reducible assumption) | omega (splitDisjunctions := false) | assumption | omega | decide) (by first | assumption | decide | omega)) rfl rfl [0, 1] [] (by decide) rfl rfl rfl (by decide) (by decide) k_813 rfl k_125 k_810 k_812 k_33 ⟨rfl, hy_Markup_next⟩ (by decide) rfl rfl (Nat.le_of_ble_eq_true rfl) (by decide) (fun v9 u21 ch20 => ?_)
          obtain ⟨r_22, rfl⟩ : ∃ z9, z9 = u21 := ⟨_, rfl⟩
          obtain ⟨ech20, ch20⟩ := ch20
          have ech20 : v9 = some (.int r_22) := ech20
          subst ech20
          obtain ⟨fh23, fh24, fh25, fh26⟩ : (-1 ≤ r_22.toInt) ∧ (r_22.toInt ≤ 255) ∧ (0 ≤ r_22.toInt → a.toInt + (0 : Int32).toInt < en.toInt) ∧ (r_22.toInt = cm_ (mB_ uf bg.toInt) (en.toInt - bg.toInt) ((a.toInt - bg.toInt) + (0 : Int32).toInt)) := ch20
          have g1F := fh26
          rw [zl0, Int.add_zero] at g1F
          refine pb_eq (pc' := 47) (lo' := [(3, .int n), (4, .int j), (2, .int z), (1, .int fr_), (0, .ref h)]) (rest' := [.int r_22]) (ws' := [(h, .inr (8, [.ref ui, .ref ug, .ref uv, .ref ur, .int ct, .int f, .int bg, .int a, .int en, .int vs, .int io, .int hi, .int ht])), (ur, .inl (G.2.1, 12000, .inl uf))]) ?_
          refine pb_bipush (pc := 47) (v := 48) d_Markup_readNumber_47 (by decide) ?_
          refine pb_icmp_lt (pc := 49) (tgt := 92) d_Markup_readNumber_49 (by decide) (fun w27 => ?_) (fun w27 => ?_)
          · have tw27 : r_22.toInt < 48 := (ti_lt rfl (by decide)).mp w27
            have dgF := dg_x kd (by omega)
            refine pb_iload_n (pc := 92) d_Markup_readNumber_92 2 rfl rfl ?_
            refine pb_if_ne (pc := 93) (tgt := 108) d_Markup_readNumber_93 (by decide) (fun w28 => ?_) (fun w28 => ?_)
            · have tw28 : ¬ z.toInt = 0 := fun z9 => w28 ((ti_eq rfl (by decide)).mpr z9)
              refine pb_aload_n (pc := 108) d_Markup_readNumber_108 4 rfl rfl ?_
              refine pb_iload_n (pc := 109) d_Markup_readNumber_109 3 rfl rfl ?_
              refine pb_callV (pc := 110) (I := i_Markup_readNumber) (qb := 0) (ci := 8) (nA := 1) (rest := []) (wr := [(ur, .inl (G.2.1, 12000, .inl uf))]) d_Markup_readNumber_110 (g_Mu_fail hl G h ui ug uv ur ct f bg a en vs io hi ht fr_ (by first | (with_reducible assumption) | omega (splitDisjunctions := false) | assumption | (clear fh25 hm9; first | omega (splitDisjunctions := false) | omega) | omega | decide) (by first | (with_reducible assumption) | omega (splitDisjunctions := false) | assumption | (clear fh25 hm9; first | omega (splitDisjunctions := false) | omega) | omega | decide) (by first | (with_reducible assumption) | omega (splitDisjunctions := false) | assumption | (clear fh25 hm9; first | omega (splitDisjunctions := false) | omega) | omega | decide)) rfl rfl [0] [1] (by decide) rfl rfl rfl (by decide) (by decide) k_831 rfl k_125 k_828 k_830 k_36 ⟨rfl, hy_Markup_fail⟩ (by decide) rfl rfl (Nat.le_of_ble_eq_true rfl) (by decide) (fun v9 u30 ch29 => ?_)
              obtain ⟨f_31, rfl⟩ : ∃ z9, z9 = u30 := ⟨_, rfl⟩
              obtain ⟨ech29, ch29⟩ := ch29
              have ech29 : v9 = some (.int 0) := ech29
              subst ech29
              have fh32 : 0 ≤ f_31.toInt := ch29
              have flF := fh32
              refine pb_eq (pc' := 113) (lo' := [(3, .int n), (4, .int j), (2, .int z), (1, .int fr_), (0, .ref h)]) (rest' := [.int 0]) (ws' := [(ur, .inl (G.2.1, 12000, .inl uf)), (h, .inr (8, [.ref ui, .ref ug, .ref uv, .ref ur, .int ct, .int f_31, .int bg, .int a, .int en, .int vs, .int io, .int hi, .int ht]))]) ?_
              refine pb_pop (pc := 113) d_Markup_readNumber_113 rfl ?_
              refine pb_iconst (pc := 114) (v := (-1)) d_Markup_readNumber_114 (by decide) ?_
              exact pb_iret (pc := 115) hQ d_Markup_readNumber_115 rfl rfl ((-1), a, f_31) ⟨rfl, (by (try dsimp only); first | done | (with_reducible assumption) | omega (splitDisjunctions := false) | assumption | (clear fh25 hm9; first | omega (splitDisjunctions := false) | omega) | omega | decide), (by (try dsimp only); first | done | (with_reducible assumption) | omega (splitDisjunctions := false) | assumption | (clear fh25 hm9; first | omega (splitDisjunctions := false) | omega) | omega | decide), (by (try dsimp only); first | done | (with_reducible assumption) | omega (splitDisjunctions := false) | assumption | (clear fh25 hm9; first | omega (splitDisjunctions := false) | omega) | omega | decide), (by (try dsimp only); first | done | (with_reducible assumption) | omega (splitDisjunctions := false) | assumption | (clear fh25 hm9; first | omega (splitDisjunctions := false) | omega) | omega | decide), (show ov_ ((-1) : Int32).toInt (a.toInt - bg.toInt) = nu_ (mB_ uf bg.toInt) (en.toInt - bg.toInt) (at_.toInt - bg.toInt) from (ov_u dgF (Or.inl ⟨by have q9 := hid_o jz; (exact omg_1da51ef73f jz2 tw28 q9), by decide⟩))), (show fn_ ((-1) : Int32).toInt fa.toInt f_31.toInt from (by unfold fn_; omega))⟩ [1, 0] (by decide) rfl rfl (by decide) (by decide)
            · have tw28 : z.toInt = 0 := (ti_eq rfl (by decide)).mp w28
              refine pb_iload_n (pc := 96) d_Markup_readNumber_96 0 rfl rfl ?_
              refine pb_bipush (pc := 97) (v := 32) d_Markup_readNumber_97 (by decide) ?_
              refine pb_icmp_lt (pc := 99) (tgt := 108) d_Markup_readNumber_99 (by decide) (fun w33 => ?_) (fun w33 => ?_)
              · have tw33 : n.toInt < 32 := (ti_lt rfl (by decide)).mp w33
                refine pb_aload_n (pc := 108) d_Markup_readNumber_108 4 rfl rfl ?_
                refine pb_iload_n (pc := 109) d_Markup_readNumber_109 3 rfl rfl ?_
                refine pb_callV (pc := 110) (I := i_Markup_readNumber) (qb := 0) (ci := 8) (nA := 1) (rest := []) (wr := [(ur, .inl (G.2.1, 12000, .inl uf))]) d_Markup_readNumber_110 (g_Mu_fail hl G h ui ug uv ur ct f bg a en vs io hi ht fr_ (by first | (with_reducible assumption) | omega (splitDisjunctions := false) | assumption | (clear fh25 hm9; first | omega (splitDisjunctions := false) | omega) | omega | decide) (by first | (with_reducible assumption) | omega (splitDisjunctions := false) | assumption | (clear fh25 hm9; first | omega (splitDisjunctions := false) | omega) | omega | decide) (by first | (with_reducible assumption) | omega (splitDisjunctions := false) | assumption | (clear fh25 hm9; first | omega (splitDisjunctions := false) | omega) | omega | decide)) rfl rfl [0] [1] (by decide) rfl rfl rfl (by decide) (by decide) k_831 rfl k_125 k_828 k_830 k_36 ⟨rfl, hy_Markup_fail⟩ (by decide) rfl rfl (Nat.le_of_ble_eq_true rfl) (by decide) (fun v9 u35 ch34 => ?_)
                obtain ⟨f_36, rfl⟩ : ∃ z9, z9 = u35 := ⟨_, rfl⟩
                obtain ⟨ech34, ch34⟩ := ch34
                have ech34 : v9 = some (.int 0) := ech34
                subst ech34
                have fh37 : 0 ≤ f_36.toInt := ch34
                have flF := fh37
                refine pb_eq (pc' := 113) (lo' := [(3, .int n), (4, .int j), (2, .int z), (1, .int fr_), (0, .ref h)]) (rest' := [.int 0]) (ws' := [(ur, .inl (G.2.1, 12000, .inl uf)), (h, .inr (8, [.ref ui, .ref ug, .ref uv, .ref ur, .int ct, .int f_36, .int bg, .int a, .int en, .int vs, .int io, .int hi, .int ht]))]) ?_
                refine pb_pop (pc := 113) d_Markup_readNumber_113 rfl ?_
                refine pb_iconst (pc := 114) (v := (-1)) d_Markup_readNumber_114 (by decide) ?_
                exact pb_iret (pc := 115) hQ d_Markup_readNumber_115 rfl rfl ((-1), a, f_36) ⟨rfl, (by (try dsimp only); first | done | (with_reducible assumption) | omega (splitDisjunctions := false) | assumption | (clear fh25 hm9; first | omega (splitDisjunctions := false) | omega) | omega | decide), (by (try dsimp only); first | done | (with_reducible assumption) | omega (splitDisjunctions := false) | assumption | (clear fh25 hm9; first | omega (splitDisjunctions := false) | omega) | omega | decide), (by (try dsimp only); first | done | (with_reducible assumption) | omega (splitDisjunctions := false) | assumption | (clear fh25 hm9; first | omega (splitDisjunctions := false) | omega) | omega | decide), (by (try dsimp only); first | done | (with_reducible assumption) | omega (splitDisjunctions := false) | assumption | (clear fh25 hm9; first | omega (splitDisjunctions := false) | omega) | omega | decide), (show ov_ ((-1) : Int32).toInt (a.toInt - bg.toInt) = nu_ (mB_ uf bg.toInt) (en.toInt - bg.toInt) (at_.toInt - bg.toInt) from (ov_u dgF (Or.inl ⟨by have q9 := hid_o jz; omega, by decide⟩))), (show fn_ ((-1) : Int32).toInt fa.toInt f_36.toInt from (by unfold fn_; omega))⟩ [1, 0] (by decide) rfl rfl (by decide) (by decide)
              · have tw33 : ¬ n.toInt < 32 := fun z9 => w33 ((ti_lt rfl (by decide)).mpr z9)
                refine pb_iload_n (pc := 102) d_Markup_readNumber_102 0 rfl rfl ?_
                refine pb_bipush (pc := 103) (v := 126) d_Markup_readNumber_103 (by decide) ?_
                refine pb_icmp_le (pc := 105) (tgt := 116) d_Markup_readNumber_105 (by decide) (fun w38 => ?_) (fun w38 => ?_)
                · have tw38 : n.toInt ≤ 126 := (ti_le rfl (by decide)).mp w38
                  refine pb_iload_n (pc := 116) d_Markup_readNumber_116 0 rfl rfl ?_
                  exact pb_iret (pc := 117) hQ d_Markup_readNumber_117 rfl rfl (n, a, f) ⟨rfl, (by (try dsimp only); first | done | (with_reducible assumption) | omega (splitDisjunctions := false) | assumption | (clear fh25 hm9; first | omega (splitDisjunctions := false) | omega) | omega | decide), (by (try dsimp only); first | done | (with_reducible assumption) | omega (splitDisjunctions := false) | assumption | (clear fh25 hm9; first | omega (splitDisjunctions := false) | omega) | omega | decide), (by (try dsimp only); first | done | (with_reducible assumption) | omega (splitDisjunctions := false) | assumption | (clear fh25 hm9; first | omega (splitDisjunctions := false) | omega) | omega | decide), (by (try dsimp only); first | done | (with_reducible assumption) | omega (splitDisjunctions := false) | assumption | (clear fh25 hm9; first | omega (splitDisjunctions := false) | omega) | omega | decide), (show ov_ n.toInt (a.toInt - bg.toInt) = nu_ (mB_ uf bg.toInt) (en.toInt - bg.toInt) (at_.toInt - bg.toInt) from (ov_u dgF (Or.inr ⟨by have q9 := hid_o jz; omega, rfl, rfl⟩))), (show fn_ n.toInt fa.toInt f.toInt from (by unfold fn_; omega))⟩ [0, 1] (by decide) rfl rfl (by decide) (by decide)
                · have tw38 : ¬ n.toInt ≤ 126 := fun z9 => w38 ((ti_le rfl (by decide)).mpr z9)
                  refine pb_aload_n (pc := 108) d_Markup_readNumber_108 4 rfl rfl ?_
                  refine pb_iload_n (pc := 109) d_Markup_readNumber_109 3 rfl rfl ?_
                  refine pb_callV (pc := 110) (I := i_Markup_readNumber) (qb := 0) (ci := 8) (nA := 1) (rest := []) (wr := [(ur, .inl (G.2.1, 12000, .inl uf))]) d_Markup_readNumber_110 (g_Mu_fail hl G h ui ug uv ur ct f bg a en vs io hi ht fr_ (by first | (with_reducible assumption) | omega (splitDisjunctions := false) | assumption | (clear fh25 hm9; first | omega (splitDisjunctions := false) | omega) | omega | decide) (by first | (with_reducible assumption) | omega (splitDisjunctions := false) | assumption | (clear fh25 hm9; first | omega (splitDisjunctions := false) | omega) | omega | decide) (by first | (with_reducible assumption) | omega (splitDisjunctions := false) | assumption | (clear fh25 hm9; first | omega (splitDisjunctions := false) | omega) | omega | decide)) rfl rfl [0] [1] (by decide) rfl rfl rfl (by decide) (by decide) k_831 rfl k_125 k_828 k_830 k_36 ⟨rfl, hy_Markup_fail⟩ (by decide) rfl rfl (Nat.le_of_ble_eq_true rfl) (by decide) (fun v9 u40 ch39 => ?_)
                  obtain ⟨f_41, rfl⟩ : ∃ z9, z9 = u40 := ⟨_, rfl⟩
                  obtain ⟨ech39, ch39⟩ := ch39
                  have ech39 : v9 = some (.int 0) := ech39
                  subst ech39
                  have fh42 : 0 ≤ f_41.toInt := ch39
                  have flF := fh42
                  refine pb_eq (pc' := 113) (lo' := [(3, .int n), (4, .int j), (2, .int z), (1, .int fr_), (0, .ref h)]) (rest' := [.int 0]) (ws' := [(ur, .inl (G.2.1, 12000, .inl uf)), (h, .inr (8, [.ref ui, .ref ug, .ref uv, .ref ur, .int ct, .int f_41, .int bg, .int a, .int en, .int vs, .int io, .int hi, .int ht]))]) ?_
                  refine pb_pop (pc := 113) d_Markup_readNumber_113 rfl ?_
                  refine pb_iconst (pc := 114) (v := (-1)) d_Markup_readNumber_114 (by decide) ?_
                  exact pb_iret (pc := 115) hQ d_Markup_readNumber_115 rfl rfl ((-1), a, f_41) ⟨rfl, (by (try dsimp only); first | done | (with_reducible assumption) | omega (splitDisjunctions := false) | assumption | (clear fh25 hm9; first | omega (splitDisjunctions := false) | omega) | omega | decide), (by (try dsimp only); first | done | (with_reducible assumption) | omega (splitDisjunctions := false) | assumption | (clear fh25 hm9; first | omega (splitDisjunctions := false) | omega) | omega | decide), (by (try dsimp only); first | done | (with_reducible assumption) | omega (splitDisjunctions := false) | assumption | (clear fh25 hm9; first | omega (splitDisjunctions := false) | omega) | omega | decide), (by (try dsimp only); first | done | (with_reducible assumption) | omega (splitDisjunctions := false) | assumption | (clear fh25 hm9; first | omega (splitDisjunctions := false) | omega) | omega | decide), (show ov_ ((-1) : Int32).toInt (a.toInt - bg.toInt) = nu_ (mB_ uf bg.toInt) (en.toInt - bg.toInt) (at_.toInt - bg.toInt) from (ov_u dgF (Or.inl ⟨by have q9 := hid_o jz; omega, by decide⟩))), (show fn_ ((-1) : Int32).toInt fa.toInt f_41.toInt from (by unfold fn_; omega))⟩ [1, 0] (by decide) rfl rfl (by decide) (by decide)
          · have tw27 : ¬ r_22.toInt < 48 := fun z9 => w27 ((ti_lt rfl (by decide)).mpr z9)
            refine pb_aload_n (pc := 52) d_Markup_readNumber_52 4 rfl rfl ?_
            refine pb_iconst (pc := 53) (v := 0) d_Markup_readNumber_53 (by decide) ?_
            refine pb_callV (pc := 54) (I := i_Markup_readNumber) (qb := 0) (ci := 8) (nA := 1) (rest := []) (wr := []) d_Markup_readNumber_54 (g_Mu_next hl G h ui ug uv ur ct f bg a en vs io hi ht uf 0 (by first | (with_reducible assumption) | (exact omg_12a522f25f a0 k2 ka) | assumption | (clear fh25 hm9; first | omega (splitDisjunctions := false) | omega) | omega | decide) (by first | (with_reducible assumption) | omega (splitDisjunctions := false) | assumption | (clear fh25 hm9; first | omega (splitDisjunctions := false) | omega) | omega | decide) (by first | (with_reducible assumption) | omega (splitDisjunctions := false) | assumption | (clear fh25 hm9; first | omega (splitDisjunctions := false) | omega) | omega | decide) (by first | (with_reducible assumption) | omega (splitDisjunctions := false) | assumption | (clear fh25 hm9; first | omega (splitDisjunctions := false) | omega) | omega | decide) (by first | (with_reducible assumption) | omega (splitDisjunctions := false) | assumption | (clear fh25 hm9; first | omega (splitDisjunctions := false) | omega) | omega | decide) (by first | (with_reducible assumption) | omega (splitDisjunctions := false) | assumption | (clear fh25 hm9; first | omega (splitDisjunctions := false) | omega) | omega | decide) (by first | (with_reducible assumption) | omega (splitDisjunctions := false) | assumption | (clear fh25 hm9; first | omega (splitDisjunctions := false) | omega) | omega | decide) (by first | assumption | decide | omega)) rfl rfl [0, 1] [] (by decide) rfl rfl rfl (by decide) (by decide) k_813 rfl k_125 k_810 k_812 k_33 ⟨rfl, hy_Markup_next⟩ (by decide) rfl rfl (Nat.le_of_ble_eq_true rfl) (by decide) (fun v9 u44 ch43 => ?_)
            obtain ⟨r_45, rfl⟩ : ∃ z9, z9 = u44 := ⟨_, rfl⟩
            obtain ⟨ech43, ch43⟩ := ch43
            have ech43 : v9 = some (.int r_45) := ech43
            subst ech43
            obtain ⟨fh46, fh47, fh48, fh49⟩ : (-1 ≤ r_45.toInt) ∧ (r_45.toInt ≤ 255) ∧ (0 ≤ r_45.toInt → a.toInt + (0 : Int32).toInt < en.toInt) ∧ (r_45.toInt = cm_ (mB_ uf bg.toInt) (en.toInt - bg.toInt) ((a.toInt - bg.toInt) + (0 : Int32).toInt)) := ch43
            have g2F := fh49
            rw [zl0, Int.add_zero] at g2F
            refine pb_eq (pc' := 57) (lo' := [(3, .int n), (4, .int j), (2, .int z), (1, .int fr_), (0, .ref h)]) (rest' := [.int r_45]) (ws' := [(h, .inr (8, [.ref ui, .ref ug, .ref uv, .ref ur, .int ct, .int f, .int bg, .int a, .int en, .int vs, .int io, .int hi, .int ht])), (ur, .inl (G.2.1, 12000, .inl uf))]) ?_
            refine pb_bipush (pc := 57) (v := 57) d_Markup_readNumber_57 (by decide) ?_
            refine pb_icmp_gt (pc := 59) (tgt := 92) d_Markup_readNumber_59 (by decide) (fun w50 => ?_) (fun w50 => ?_)
            · have tw50 : 57 < r_45.toInt := (ti_lt (by decide) rfl).mp w50
              have dgF := dg_x kd (by omega)
              refine pb_iload_n (pc := 92) d_Markup_readNumber_92 2 rfl rfl ?_
              refine pb_if_ne (pc := 93) (tgt := 108) d_Markup_readNumber_93 (by decide) (fun w51 => ?_) (fun w51 => ?_)
              · have tw51 : ¬ z.toInt = 0 := fun z9 => w51 ((ti_eq rfl (by decide)).mpr z9)
                refine pb_aload_n (pc := 108) d_Markup_readNumber_108 4 rfl rfl ?_
                refine pb_iload_n (pc := 109) d_Markup_readNumber_109 3 rfl rfl ?_
                refine pb_callV (pc := 110) (I := i_Markup_readNumber) (qb := 0) (ci := 8) (nA := 1) (rest := []) (wr := [(ur, .inl (G.2.1, 12000, .inl uf))]) d_Markup_readNumber_110 (g_Mu_fail hl G h ui ug uv ur ct f bg a en vs io hi ht fr_ (by first | (with_reducible assumption) | omega (splitDisjunctions := false) | assumption | (clear fh25 fh48 hm9; first | omega (splitDisjunctions := false) | omega) | omega | decide) (by first | (with_reducible assumption) | omega (splitDisjunctions := false) | assumption | (clear fh25 fh48 hm9; first | omega (splitDisjunctions := false) | omega) | omega | decide) (by first | (with_reducible assumption) | omega (splitDisjunctions := false) | assumption | (clear fh25 fh48 hm9; first | omega (splitDisjunctions := false) | omega) | omega | decide)) rfl rfl [0] [1] (by decide) rfl rfl rfl (by decide) (by decide) k_831 rfl k_125 k_828 k_830 k_36 ⟨rfl, hy_Markup_fail⟩ (by decide) rfl rfl (Nat.le_of_ble_eq_true rfl) (by decide) (fun v9 u53 ch52 => ?_)
                obtain ⟨f_54, rfl⟩ : ∃ z9, z9 = u53 := ⟨_, rfl⟩
                obtain ⟨ech52, ch52⟩ := ch52
                have ech52 : v9 = some (.int 0) := ech52
                subst ech52
                have fh55 : 0 ≤ f_54.toInt := ch52
                have flF := fh55
                refine pb_eq (pc' := 113) (lo' := [(3, .int n), (4, .int j), (2, .int z), (1, .int fr_), (0, .ref h)]) (rest' := [.int 0]) (ws' := [(ur, .inl (G.2.1, 12000, .inl uf)), (h, .inr (8, [.ref ui, .ref ug, .ref uv, .ref ur, .int ct, .int f_54, .int bg, .int a, .int en, .int vs, .int io, .int hi, .int ht]))]) ?_
                refine pb_pop (pc := 113) d_Markup_readNumber_113 rfl ?_
                refine pb_iconst (pc := 114) (v := (-1)) d_Markup_readNumber_114 (by decide) ?_
                exact pb_iret (pc := 115) hQ d_Markup_readNumber_115 rfl rfl ((-1), a, f_54) ⟨rfl, (by (try dsimp only); first | done | (with_reducible assumption) | omega (splitDisjunctions := false) | assumption | (clear fh25 fh48 hm9; first | omega (splitDisjunctions := false) | omega) | omega | decide), (by (try dsimp only); first | done | (with_reducible assumption) | omega (splitDisjunctions := false) | assumption | (clear fh25 fh48 hm9; first | omega (splitDisjunctions := false) | omega) | omega | decide), (by (try dsimp only); first | done | (with_reducible assumption) | omega (splitDisjunctions := false) | assumption | (clear fh25 fh48 hm9; first | omega (splitDisjunctions := false) | omega) | omega | decide), (by (try dsimp only); first | done | (with_reducible assumption) | omega (splitDisjunctions := false) | assumption | (clear fh25 fh48 hm9; first | omega (splitDisjunctions := false) | omega) | omega | decide), (show ov_ ((-1) : Int32).toInt (a.toInt - bg.toInt) = nu_ (mB_ uf bg.toInt) (en.toInt - bg.toInt) (at_.toInt - bg.toInt) from (ov_u dgF (Or.inl ⟨by have q9 := hid_o jz; (exact omg_1da51ef73f jz2 tw51 q9), by decide⟩))), (show fn_ ((-1) : Int32).toInt fa.toInt f_54.toInt from (by unfold fn_; omega))⟩ [1, 0] (by decide) rfl rfl (by decide) (by decide)
              · have tw51 : z.toInt = 0 := (ti_eq rfl (by decide)).mp w51
                refine pb_iload_n (pc := 96) d_Markup_readNumber_96 0 rfl rfl ?_
                refine pb_bipush (pc := 97) (v := 32) d_Markup_readNumber_97 (by decide) ?_
                refine pb_icmp_lt (pc := 99) (tgt := 108) d_Markup_readNumber_99 (by decide) (fun w56 => ?_) (fun w56 => ?_)
                · have tw56 : n.toInt < 32 := (ti_lt rfl (by decide)).mp w56
                  refine pb_aload_n (pc := 108) d_Markup_readNumber_108 4 rfl rfl ?_
                  refine pb_iload_n (pc := 109) d_Markup_readNumber_109 3 rfl rfl ?_
                  refine pb_callV (pc := 110) (I := i_Markup_readNumber) (qb := 0) (ci := 8) (nA := 1) (rest := []) (wr := [(ur, .inl (G.2.1, 12000, .inl uf))]) d_Markup_readNumber_110 (g_Mu_fail hl G h ui ug uv ur ct f bg a en vs io hi ht fr_ (by first | (with_reducible assumption) | omega (splitDisjunctions := false) | assumption | (clear fh25 fh48 hm9; first | omega (splitDisjunctions := false) | omega) | omega | decide) (by first | (with_reducible assumption) | omega (splitDisjunctions := false) | assumption | (clear fh25 fh48 hm9; first | omega (splitDisjunctions := false) | omega) | omega | decide) (by first | (with_reducible assumption) | (exact omg_82cf4c980f a2 b0 jf) | assumption | (clear fh25 fh48 hm9; first | omega (splitDisjunctions := false) | omega) | omega | decide)) rfl rfl [0] [1] (by decide) rfl rfl rfl (by decide) (by decide) k_831 rfl k_125 k_828 k_830 k_36 ⟨rfl, hy_Markup_fail⟩ (by decide) rfl rfl (Nat.le_of_ble_eq_true rfl) (by decide) (fun v9 u58 ch57 => ?_)
                  obtain ⟨f_59, rfl⟩ : ∃ z9, z9 = u58 := ⟨_, rfl⟩
                  obtain ⟨ech57, ch57⟩ := ch57
                  have ech57 : v9 = some (.int 0) := ech57
                  subst ech57
                  have fh60 : 0 ≤ f_59.toInt := ch57
                  have flF := fh60
                  refine pb_eq (pc' := 113) (lo' := [(3, .int n), (4, .int j), (2, .int z), (1, .int fr_), (0, .ref h)]) (rest' := [.int 0]) (ws' := [(ur, .inl (G.2.1, 12000, .inl uf)), (h, .inr (8, [.ref ui, .ref ug, .ref uv, .ref ur, .int ct, .int f_59, .int bg, .int a, .int en, .int vs, .int io, .int hi, .int ht]))]) ?_
                  refine pb_pop (pc := 113) d_Markup_readNumber_113 rfl ?_
                  refine pb_iconst (pc := 114) (v := (-1)) d_Markup_readNumber_114 (by decide) ?_
                  exact pb_iret (pc := 115) hQ d_Markup_readNumber_115 rfl rfl ((-1), a, f_59) ⟨rfl, (by (try dsimp only); first | done | (with_reducible assumption) | omega (splitDisjunctions := false) | assumption | (clear fh25 fh48 hm9; first | omega (splitDisjunctions := false) | omega) | omega | decide), (by (try dsimp only); first | done | (with_reducible assumption) | omega (splitDisjunctions := false) | assumption | (clear fh25 fh48 hm9; first | omega (splitDisjunctions := false) | omega) | omega | decide), (by (try dsimp only); first | done | (with_reducible assumption) | omega (splitDisjunctions := false) | assumption | (clear fh25 fh48 hm9; first | omega (splitDisjunctions := false) | omega) | omega | decide), (by (try dsimp only); first | done | (with_reducible assumption) | omega (splitDisjunctions := false) | assumption | (clear fh25 fh48 hm9; first | omega (splitDisjunctions := false) | omega) | omega | decide), (show ov_ ((-1) : Int32).toInt (a.toInt - bg.toInt) = nu_ (mB_ uf bg.toInt) (en.toInt - bg.toInt) (at_.toInt - bg.toInt) from (ov_u dgF (Or.inl ⟨by have q9 := hid_o jz; omega, by decide⟩))), (show fn_ ((-1) : Int32).toInt fa.toInt f_59.toInt from (by unfold fn_; omega))⟩ [1, 0] (by decide) rfl rfl (by decide) (by decide)
                · have tw56 : ¬ n.toInt < 32 := fun z9 => w56 ((ti_lt rfl (by decide)).mpr z9)
                  refine pb_iload_n (pc := 102) d_Markup_readNumber_102 0 rfl rfl ?_
                  refine pb_bipush (pc := 103) (v := 126) d_Markup_readNumber_103 (by decide) ?_
                  refine pb_icmp_le (pc := 105) (tgt := 116) d_Markup_readNumber_105 (by decide) (fun w61 => ?_) (fun w61 => ?_)
                  · have tw61 : n.toInt ≤ 126 := (ti_le rfl (by decide)).mp w61
                    refine pb_iload_n (pc := 116) d_Markup_readNumber_116 0 rfl rfl ?_
                    exact pb_iret (pc := 117) hQ d_Markup_readNumber_117 rfl rfl (n, a, f) ⟨rfl, (by (try dsimp only); first | done | (with_reducible assumption) | omega (splitDisjunctions := false) | assumption | (clear fh25 fh48 hm9; first | omega (splitDisjunctions := false) | omega) | omega | decide), (by (try dsimp only); first | done | (with_reducible assumption) | omega (splitDisjunctions := false) | assumption | (clear fh25 fh48 hm9; first | omega (splitDisjunctions := false) | omega) | omega | decide), (by (try dsimp only); first | done | (with_reducible assumption) | omega (splitDisjunctions := false) | assumption | (clear fh25 fh48 hm9; first | omega (splitDisjunctions := false) | omega) | omega | decide), (by (try dsimp only); first | done | (with_reducible assumption) | omega (splitDisjunctions := false) | assumption | (clear fh25 fh48 hm9; first | omega (splitDisjunctions := false) | omega) | omega | decide), (show ov_ n.toInt (a.toInt - bg.toInt) = nu_ (mB_ uf bg.toInt) (en.toInt - bg.toInt) (at_.toInt - bg.toInt) from (ov_u dgF (Or.inr ⟨by have q9 := hid_o jz; omega, rfl, rfl⟩))), (show fn_ n.toInt fa.toInt f.toInt from (by unfold fn_; omega))⟩ [0, 1] (by decide) rfl rfl (by decide) (by decide)
                  · have tw61 : ¬ n.toInt ≤ 126 := fun z9 => w61 ((ti_le rfl (by decide)).mpr z9)
                    refine pb_aload_n (pc := 108) d_Markup_readNumber_108 4 rfl rfl ?_
                    refine pb_iload_n (pc := 109) d_Markup_readNumber_109 3 rfl rfl ?_
                    refine pb_callV (pc := 110) (I := i_Markup_readNumber) (qb := 0) (ci := 8) (nA := 1) (rest := []) (wr := [(ur, .inl (G.2.1, 12000, .inl uf))]) d_Markup_readNumber_110 (g_Mu_fail hl G h ui ug uv ur ct f bg a en vs io hi ht fr_ (by first | (with_reducible assumption) | omega (splitDisjunctions := false) | assumption | (clear fh25 fh48 hm9; first | omega (splitDisjunctions := false) | omega) | omega | decide) (by first | (with_reducible assumption) | omega (splitDisjunctions := false) | assumption | (clear fh25 fh48 hm9; first | omega (splitDisjunctions := false) | omega) | omega | decide) (by first | (with_reducible assumption) | omega (splitDisjunctions := false) | assumption | (clear fh25 fh48 hm9; first | omega (splitDisjunctions := false) | omega) | omega | decide)) rfl rfl [0] [1] (by decide) rfl rfl rfl (by decide) (by decide) k_831 rfl k_125 k_828 k_830 k_36 ⟨rfl, hy_Markup_fail⟩ (by decide) rfl rfl (Nat.le_of_ble_eq_true rfl) (by decide) (fun v9 u63 ch62 => ?_)
                    obtain ⟨f_64, rfl⟩ : ∃ z9, z9 = u63 := ⟨_, rfl⟩
                    obtain ⟨ech62, ch62⟩ := ch62
                    have ech62 : v9 = some (.int 0) := ech62
                    subst ech62
                    have fh65 : 0 ≤ f_64.toInt := ch62
                    have flF := fh65
                    refine pb_eq (pc' := 113) (lo' := [(3, .int n), (4, .int j), (2, .int z), (1, .int fr_), (0, .ref h)]) (rest' := [.int 0]) (ws' := [(ur, .inl (G.2.1, 12000, .inl uf)), (h, .inr (8, [.ref ui, .ref ug, .ref uv, .ref ur, .int ct, .int f_64, .int bg, .int a, .int en, .int vs, .int io, .int hi, .int ht]))]) ?_
                    refine pb_pop (pc := 113) d_Markup_readNumber_113 rfl ?_
                    refine pb_iconst (pc := 114) (v := (-1)) d_Markup_readNumber_114 (by decide) ?_
                    exact pb_iret (pc := 115) hQ d_Markup_readNumber_115 rfl rfl ((-1), a, f_64) ⟨rfl, (by (try dsimp only); first | done | (with_reducible assumption) | omega (splitDisjunctions := false) | assumption | (clear fh25 fh48 hm9; first | omega (splitDisjunctions := false) | omega) | omega | decide), (by (try dsimp only); first | done | (with_reducible assumption) | omega (splitDisjunctions := false) | assumption | (clear fh25 fh48 hm9; first | omega (splitDisjunctions := false) | omega) | omega | decide), (by (try dsimp only); first | done | (with_reducible assumption) | omega (splitDisjunctions := false) | assumption | (clear fh25 fh48 hm9; first | omega (splitDisjunctions := false) | omega) | omega | decide), (by (try dsimp only); first | done | (with_reducible assumption) | omega (splitDisjunctions := false) | assumption | (clear fh25 fh48 hm9; first | omega (splitDisjunctions := false) | omega) | omega | decide), (show ov_ ((-1) : Int32).toInt (a.toInt - bg.toInt) = nu_ (mB_ uf bg.toInt) (en.toInt - bg.toInt) (at_.toInt - bg.toInt) from (ov_u dgF (Or.inl ⟨by have q9 := hid_o jz; omega, by decide⟩))), (show fn_ ((-1) : Int32).toInt fa.toInt f_64.toInt from (by unfold fn_; omega))⟩ [1, 0] (by decide) rfl rfl (by decide) (by decide)
            · have tw50 : ¬ 57 < r_45.toInt := fun z9 => w50 ((ti_lt (by decide) rfl).mpr z9)
              refine pb_bipush (pc := 62) (v := 10) d_Markup_readNumber_62 (by decide) ?_
              refine pb_iload_n (pc := 64) d_Markup_readNumber_64 0 rfl rfl ?_
              refine pb_imul (pc := 65) d_Markup_readNumber_65 ?_
              refine pb_topi (fun i66 ei66 => ?_)
              try have ti66 : i66.toInt = 10 * n.toInt := ti_mul ei66 (by decide) rfl (by (exact omg_5676f585b3 kb)) (by (exact omg_af7f03065c kb))
              refine pb_aload_n (pc := 66) d_Markup_readNumber_66 4 rfl rfl ?_
              refine pb_iconst (pc := 67) (v := 0) d_Markup_readNumber_67 (by decide) ?_
              refine pb_callV (pc := 68) (I := i_Markup_readNumber) (qb := 0) (ci := 8) (nA := 1) (rest := [.int i66]) (wr := []) d_Markup_readNumber_68 (g_Mu_next hl G h ui ug uv ur ct f bg a en vs io hi ht uf 0 (by first | (with_reducible assumption) | omega (splitDisjunctions := false) | assumption | (clear fh25 fh48 hm9; first | omega (splitDisjunctions := false) | omega) | omega | decide) (by first | (with_reducible assumption) | omega (splitDisjunctions := false) | assumption | (clear fh25 fh48 hm9; first | omega (splitDisjunctions := false) | omega) | omega | decide) (by first | (with_reducible assumption) | omega (splitDisjunctions := false) | assumption | (clear fh25 fh48 hm9; first | omega (splitDisjunctions := false) | omega) | omega | decide) (by first | (with_reducible assumption) | omega (splitDisjunctions := false) | assumption | (clear fh25 fh48 hm9; first | omega (splitDisjunctions := false) | omega) | omega | decide) (by first | (with_reducible assumption) | omega (splitDisjunctions := false) | assumption | (clear fh25 fh48 hm9; first | omega (splitDisjunctions := false) | omega) | omega | decide) (by first | (with_reducible assumption) | omega (splitDisjunctions := false) | assumption | (clear fh25 fh48 hm9; first | omega (splitDisjunctions := false) | omega) | omega | decide) (by first | (with_reducible assumption) | omega (splitDisjunctions := false) | assumption | (clear fh25 fh48 hm9; first | omega (splitDisjunctions := false) | omega) | omega | decide) (by first | assumption | decide | omega)) rfl rfl [0, 1] [] (by decide) rfl rfl rfl (by decide) (by decide) k_813 rfl k_125 k_810 k_812 k_33 ⟨rfl, hy_Markup_next⟩ (by decide) rfl rfl (Nat.le_of_ble_eq_true rfl) (by decide) (fun v9 u68 ch67 => ?_)
              obtain ⟨r_69, rfl⟩ : ∃ z9, z9 = u68 := ⟨_, rfl⟩
              obtain ⟨ech67, ch67⟩ := ch67
              have ech67 : v9 = some (.int r_69) := ech67
              subst ech67
              obtain ⟨fh70, fh71, fh72, fh73⟩ : (-1 ≤ r_69.toInt) ∧ (r_69.toInt ≤ 255) ∧ (0 ≤ r_69.toInt → a.toInt + (0 : Int32).toInt < en.toInt) ∧ (r_69.toInt = cm_ (mB_ uf bg.toInt) (en.toInt - bg.toInt) ((a.toInt - bg.toInt) + (0 : Int32).toInt)) := ch67
              have g3F := fh73
              rw [zl0, Int.add_zero] at g3F
              refine pb_eq (pc' := 71) (lo' := [(3, .int n), (4, .int j), (2, .int z), (1, .int fr_), (0, .ref h)]) (rest' := [.int r_69, .int i66]) (ws' := [(h, .inr (8, [.ref ui, .ref ug, .ref uv, .ref ur, .int ct, .int f, .int bg, .int a, .int en, .int vs, .int io, .int hi, .int ht])), (ur, .inl (G.2.1, 12000, .inl uf))]) ?_
              refine pb_iadd (pc := 71) d_Markup_readNumber_71 ?_
              refine pb_topi (fun i74 ei74 => ?_)
              try have ti74 : i74.toInt = i66.toInt + r_69.toInt := t2_add ei74 rfl rfl (by (exact omg_c6abd74d54 kb fh23 fh24 fh26 ti66 fh73))
              refine pb_bipush (pc := 72) (v := 48) d_Markup_readNumber_72 (by decide) ?_
              refine pb_isub (pc := 74) d_Markup_readNumber_74 ?_
              refine pb_topi (fun i75 ei75 => ?_)
              try have ti75 : i75.toInt = i74.toInt - 48 := t2_sub ei75 rfl (by decide) (by (exact omg_252261a097 kb fh23 fh24 fh26 ti66 fh73 ti74))
              refine pb_istore_n (pc := 75) (lo' := [(3, .int i75), (4, .int j), (2, .int z), (1, .int fr_), (0, .ref h)]) d_Markup_readNumber_75 rfl (by decide) rfl ?_
              refine pb_aload_n (pc := 76) d_Markup_readNumber_76 4 rfl rfl ?_
              refine pb_dup (pc := 77) d_Markup_readNumber_77 rfl ?_
              refine pb_get (pc := 78) d_Markup_readNumber_78 0 7 rfl rfl (by decide) in_Markup k_326 rfl ?_
              refine pb_iconst (pc := 81) (v := 1) d_Markup_readNumber_81 (by decide) ?_
              refine pb_iadd (pc := 82) d_Markup_readNumber_82 ?_
              refine pb_topi (fun i76 ei76 => ?_)
              try have ti76 : i76.toInt = a.toInt + 1 := t2_add ei76 rfl (by decide) (by (exact omg_2f7a6fd418 a0 a2 k1 k2 ka))
              refine pb_put (pc := 83) (ty := .int) (ws' := [(h, .inr (8, [.ref ui, .ref ug, .ref uv, .ref ur, .int ct, .int f, .int bg, .int i76, .int en, .int vs, .int io, .int hi, .int ht])), (ur, .inl (G.2.1, 12000, .inl uf))]) d_Markup_readNumber_83 0 7 t_Markup t_Markup_ok n_Markup rfl rfl (by decide) in_Markup k_326 rfl (by decide +kernel) rfl rfl (Nat.le_of_ble_eq_true rfl) rfl ?_
              refine pb_iincN (pc := 86) (c := 1) d_Markup_readNumber_86 1 rfl (by decide) (by decide) (fun i77 ei77 => ?_)
              have ti77 : i77.toInt = j.toInt + 1 := t2_add ei77 rfl (by decide) (by first | omega | (have r90 := ti_rng i77; have r91 := ti_rng i75; have r92 := ti_rng z; have r93 := ti_rng fr_; omega))
              refine pb_eq (pc' := 89) (lo' := [(4, .int i77), (3, .int i75), (2, .int z), (1, .int fr_), (0, .ref h)]) (rest' := []) (ws' := [(h, .inr (8, [.ref ui, .ref ug, .ref uv, .ref ur, .int ct, .int f, .int bg, .int i76, .int en, .int vs, .int io, .int hi, .int ht])), (ur, .inl (G.2.1, 12000, .inl uf))]) ?_
              refine pb_goto (pc := 89) (tgt := 36) d_Markup_readNumber_89 (by decide) ?_
              refine pb_re (ws' := [(h, .inr (8, [.ref ui, .ref ug, .ref uv, .ref ur, .int ct, .int f, .int bg, .int i76, .int en, .int vs, .int io, .int hi, .int ht])), (ur, .inl (G.2.1, 12000, .inl uf))]) (lo' := [(3, .int i75), (4, .int i77), (2, .int z), (1, .int fr_), (0, .ref h)]) [0, 1] [1, 0, 2, 3, 4] (by decide) rfl rfl rfl ?_
              exact ih36 i75 i77 i76 f (by first | (with_reducible assumption) | (exact omg_e1100463b0 k2 ka ti76) | assumption | (clear fh25 fh48 fh72 hm9; first | omega (splitDisjunctions := false) | omega) | omega | decide) (by first | (with_reducible assumption) | omega (splitDisjunctions := false) | assumption | (clear fh25 fh48 fh72 hm9; first | omega (splitDisjunctions := false) | omega) | (exact omg_705260fa5c zl0 fh26 tw27 fh72 fh73 ti76) | decide) (by first | (with_reducible assumption) | (exact omg_c14412231a k2 ti77) | assumption | (clear fh25 fh48 fh72 hm9; first | omega (splitDisjunctions := false) | omega) | omega | decide) (dg_s kd (by omega) (by (exact omg_8085304585 g1F tw27)) (by (exact omg_9857e108b9 fh26 g1F fh49 tw50)) (by omega) (by (exact omg_19dd65cb85 fh26 g1F ti66 fh73 ti74 ti75))) (by first | (with_reducible assumption) | omega (splitDisjunctions := false) | assumption | (clear fh25 fh48 fh72 hm9; first | omega (splitDisjunctions := false) | (exact omg_06b45a1669 ka ti76 ti77)) | omega | decide) (by first | (with_reducible assumption) | omega (splitDisjunctions := false) | assumption | (clear fh25 fh48 fh72 hm9; first | omega (splitDisjunctions := false) | (exact omg_d17263d16c kb tw4 fh26 tw27 fh49 tw50 ti66 fh73 ti74 ti75 ti77)) | omega | decide) (by first | (with_reducible assumption) | omega (splitDisjunctions := false) | assumption | (clear fh25 fh48 fh72 hm9; first | omega (splitDisjunctions := false) | omega) | omega | decide) (by first | (clear fh25 fh48 fh72; (exact omg_c4db64490e hm9 tw4 ti77)) | omega)
    refine pb_re (ws' := [(h, .inr (8, [.ref ui, .ref ug, .ref uv, .ref ur, .int ct, .int fa, .int bg, .int a1_, .int en, .int vs, .int io, .int hi, .int ht])), (ur, .inl (G.2.1, 12000, .inl uf))]) (lo' := [(3, .int 0), (4, .int 0), (2, .int z), (1, .int fr_), (0, .ref h)]) [0, 1] [1, 0, 2, 3, 4] (by decide) rfl rfl rfl ?_
    exact hL36_3 _ 0 0 a1_ fa (by first | (with_reducible assumption) | omega (splitDisjunctions := false) | assumption | omega | decide) (by first | (with_reducible assumption) | omega (splitDisjunctions := false) | assumption | omega | decide) (by first | (with_reducible assumption) | omega (splitDisjunctions := false) | assumption | omega | decide) (by rw [show ((at_.toInt - bg.toInt) + 1) + 3 - (a1_.toInt - bg.toInt) = 3 by omega, show a1_.toInt - bg.toInt = ((at_.toInt - bg.toInt) + 1) by (exact omg_4383e1b071 ja), zl0]; rfl) (by first | (with_reducible assumption) | omega (splitDisjunctions := false) | assumption | omega | decide) (by first | (with_reducible assumption) | omega (splitDisjunctions := false) | assumption | omega | decide) (by first | (with_reducible assumption) | omega (splitDisjunctions := false) | assumption | omega | decide) (Nat.lt_succ_self _)
  refine pb_aload_n (pc := 15) d_Markup_readNumber_15 1 rfl rfl ?_
  refine pb_iconst (pc := 16) (v := 0) d_Markup_readNumber_16 (by decide) ?_
  refine pb_callV (pc := 17) (I := i_Markup_readNumber) (qb := 0) (ci := 8) (nA := 1) (rest := []) (wr := []) d_Markup_readNumber_17 (g_Mu_next hl G h ui ug uv ur ct fa bg i1 en vs io hi ht uf 0 (by first | (with_reducible assumption) | omega (splitDisjunctions := false) | assumption | omega | decide) (by first | (with_reducible assumption) | omega (splitDisjunctions := false) | assumption | omega | decide) (by first | (with_reducible assumption) | omega (splitDisjunctions := false) | assumption | omega | decide) (by first | (with_reducible assumption) | omega (splitDisjunctions := false) | assumption | omega | decide) (by first | (with_reducible assumption) | omega (splitDisjunctions := false) | assumption | omega | decide) (by first | (with_reducible assumption) | omega (splitDisjunctions := false) | assumption | omega | decide) (by first | (with_reducible assumption) | omega (splitDisjunctions := false) | assumption | omega | decide) F_uf) rfl rfl [0, 1] [] (by decide) rfl rfl rfl (by decide) (by decide) k_813 rfl k_125 k_810 k_812 k_33 ⟨rfl, hy_Markup_next⟩ (by decide) rfl rfl (Nat.le_of_ble_eq_true rfl) (by decide) (fun v9 u79 ch78 => ?_)
  obtain ⟨r_80, rfl⟩ : ∃ z9, z9 = u79 := ⟨_, rfl⟩
  obtain ⟨ech78, ch78⟩ := ch78
  have ech78 : v9 = some (.int r_80) := ech78
  subst ech78
  obtain ⟨fh81, fh82, fh83, fh84⟩ : (-1 ≤ r_80.toInt) ∧ (r_80.toInt ≤ 255) ∧ (0 ≤ r_80.toInt → i1.toInt + (0 : Int32).toInt < en.toInt) ∧ (r_80.toInt = cm_ (mB_ uf bg.toInt) (en.toInt - bg.toInt) ((i1.toInt - bg.toInt) + (0 : Int32).toInt)) := ch78
  have h0F := fh84
  have h0G : r_80.toInt = cm_ (mB_ uf bg.toInt) (en.toInt - bg.toInt) ((at_.toInt - bg.toInt) + 1) := by rw [h0F, zl0]; congr 1; omega
  refine pb_eq (pc' := 20) (lo' := [(1, .int i1), (0, .ref h)]) (rest' := [.int r_80]) (ws' := [(h, .inr (8, [.ref ui, .ref ug, .ref uv, .ref ur, .int ct, .int fa, .int bg, .int i1, .int en, .int vs, .int io, .int hi, .int ht])), (ur, .inl (G.2.1, 12000, .inl uf))]) ?_
  refine pb_bipush (pc := 20) (v := 48) d_Markup_readNumber_20 (by decide) ?_
  refine pb_icmp_ne (pc := 22) (tgt := 29) d_Markup_readNumber_22 (by decide) (fun w85 => ?_) (fun w85 => ?_)
  · have tw85 : ¬ r_80.toInt = 48 := fun z9 => w85 ((ti_eq rfl (by decide)).mpr z9)
    refine pb_iconst (pc := 29) (v := 0) d_Markup_readNumber_29 (by decide) ?_
    refine pb_istore_n (pc := 30) (lo' := [(2, .int 0), (1, .int i1), (0, .ref h)]) d_Markup_readNumber_30 rfl (by decide) rfl ?_
    exact hJ31_2 0 i1 i1 (by first | (with_reducible assumption) | omega (splitDisjunctions := false) | assumption | (clear fh83; first | omega (splitDisjunctions := false) | omega) | omega | decide) (by first | (with_reducible assumption) | omega (splitDisjunctions := false) | assumption | (clear fh83; first | omega (splitDisjunctions := false) | omega) | omega | decide) (hid_i (by constructor <;> (intro q9; omega))) (by first | (with_reducible assumption) | omega (splitDisjunctions := false) | assumption | (clear fh83; first | omega (splitDisjunctions := false) | omega) | omega | decide) (by first | (with_reducible assumption) | omega (splitDisjunctions := false) | assumption | (clear fh83; first | omega (splitDisjunctions := false) | omega) | omega | decide) (by first | (with_reducible assumption) | omega (splitDisjunctions := false) | assumption | (clear fh83; first | omega (splitDisjunctions := false) | omega) | omega | decide)
  · have tw85 : r_80.toInt = 48 := (ti_eq rfl (by decide)).mp w85
    refine pb_iconst (pc := 25) (v := 1) d_Markup_readNumber_25 (by decide) ?_
    refine pb_goto (pc := 26) (tgt := 30) d_Markup_readNumber_26 (by decide) ?_
    refine pb_istore_n (pc := 30) (lo' := [(2, .int 1), (1, .int i1), (0, .ref h)]) d_Markup_readNumber_30 rfl (by decide) rfl ?_
    exact hJ31_2 1 i1 i1 (by first | (with_reducible assumption) | omega (splitDisjunctions := false) | assumption | (clear fh83; first | omega (splitDisjunctions := false) | omega) | omega | decide) (by first | (with_reducible assumption) | omega (splitDisjunctions := false) | assumption | (clear fh83; first | omega (splitDisjunctions := false) | omega) | omega | decide) (hid_i (by constructor <;> (intro q9; omega))) (by first | (with_reducible assumption) | omega (splitDisjunctions := false) | assumption | (clear fh83; first | omega (splitDisjunctions := false) | omega) | omega | decide) (by first | (with_reducible assumption) | omega (splitDisjunctions := false) | assumption | (clear fh83; first | omega (splitDisjunctions := false) | omega) | omega | decide) (by first | (with_reducible assumption) | omega (splitDisjunctions := false) | assumption | (clear fh83; first | omega (splitDisjunctions := false) | omega) | omega | decide)
