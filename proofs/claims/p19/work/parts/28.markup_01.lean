/-! ROWS OF NUMBERS -/
theorem omg_8c94102622 {x0 : Int} {x1 : Int} (a0 : (((x0 = (1 : Int)) ∧ ((x1 % (2 : Int)) = (0 : Int))) ∨ ((x0 = (2 : Int)) ∧ (x1 < (2 : Int))))) (a1 : (¬ (x0 = (1 : Int)))) (a2 : (((x1 + x0) % (2 : Int)) = (1 : Int))) : ((x1 % (2 : Int)) = (1 : Int)) := by omega
/-! what the reference keeps of a markup's relations -/
def re6_ (c : Int) (s a s2 a2 : Nat → Int32) (k z : Int) (W : Int → Int) : Prop := (∀ i : Int, 0 ≤ i → i < k → gx s2 i = gx s i) ∧ (∀ j : Int, 0 ≤ j → j < c * k → gx a2 j = gx a j) ∧ gx s2 k = z ∧ ∀ j : Int, 0 ≤ j → j < z → gx a2 (c * k + j) = W j
def aN6_ (B : Int → Int32) (n d p : Int) : Option Int := if wh_ B n d p = 0 then none else some (lF B n p)
def aT6_ (B : Int → Int32) (n d p : Int) : Option (Int × Int × (Int → Int)) := ((aN6_ B n d p).bind (nd_ B n 61)).bind (vq_ B n)
theorem at_T (B : Int → Int32) (n d p : Int) : at_F B n d p = (aT6_ B n d p).bind (va_ (wh_ B n d p)) := by
  unfold at_F aT6_ aN6_
  by_cases c : wh_ B n d p = 0
  · rw [if_pos c, if_pos c]
    rfl
  · rw [if_neg c, if_neg c]
    show (nd_ B n 61 (lF B n p)).bind (fun q => (vq_ B n q).bind (va_ (wh_ B n d p))) = ((nd_ B n 61 (lF B n p)).bind (vq_ B n)).bind (va_ (wh_ B n d p))
    cases nd_ B n 61 (lF B n p) with
    | none => rfl
    | some q => rfl
theorem a6_w {B : Int → Int32} {n d p w z : Int} (hz : p + z = lF B n p) (h : (w = 1 ∧ d % 2 = 0 ∧ z = 2 ∧ cm_ B n p = 105 ∧ cm_ B n (p + 1) = 100) ∨ (w = 2 ∧ d < 2 ∧ z = 2 ∧ cm_ B n p = 116 ∧ cm_ B n (p + 1) = 111) ∨ (w = 0 ∧ ¬ (d % 2 = 0 ∧ z = 2 ∧ cm_ B n p = 105 ∧ cm_ B n (p + 1) = 100) ∧ ¬ (d < 2 ∧ z = 2 ∧ cm_ B n p = 116 ∧ cm_ B n (p + 1) = 111))) : w = wh_ B n d p := by
  unfold wh_
  rcases h with q | q | ⟨q1, q2, q3⟩
  · rw [if_pos (by omega)]
    exact q.1
  · rw [if_neg (by omega), if_pos (by omega)]
    exact q.1
  · rw [if_neg (fun y => q2 ⟨y.2.2.2, by omega, y.2.1, y.2.2.1⟩), if_neg (fun y => q3 ⟨y.2.2.2, by omega, y.2.1, y.2.2.1⟩)]
    exact q1
theorem a6_m {B : Int → Int32} {n d p w b a : Int} (hw : w = wh_ B n d p) (h : (w = 0 ∧ ¬ b = 0) ∨ (¬ w = 0 ∧ b = 0)) (ha : b = 0 → a = lF B n p) : om_ b a = aN6_ B n d p := by
  unfold aN6_
  rcases h with ⟨q1, q2⟩ | ⟨q1, q2⟩
  · rw [if_pos (by omega), om_f q2]
  · rw [if_neg (by omega), om_t q2, ha q2]
theorem a6_v {B : Int → Int32} {n d p x b a b2 a2 z : Int} {g : Nat → Int32} (h : om_ b a = (aN6_ B n d p).bind (nd_ B n 61)) (hb : b = 0) (k : vR_ x (vq_ B n a) b2 a2 z g) : vR_ x (aT6_ B n d p) b2 a2 z g := by
  unfold aT6_
  rw [← h, om_t hb]
  exact k
theorem a6_b {B : Int → Int32} {n d p x b a a2 z : Int} {g : Nat → Int32} (h : om_ b a = (aN6_ B n d p).bind (nd_ B n 61)) (hb : ¬ b = 0) : vR_ x (aT6_ B n d p) b a2 z g := by
  unfold aT6_
  rw [← h, om_f hb]
  exact Or.inr ⟨hb, rfl⟩
/-- an attribute taken, not yet kept -/
def aW6_ (B : Int → Int32) (n d p w b a z : Int) (g : Nat → Int32) : Prop := (b = 0 ∧ ∃ W : Int → Int, at_F B n d p = some (a + 1, w, z, W) ∧ ∀ j : Int, 0 ≤ j → j < z → gx g j = W j) ∨ (¬ b = 0 ∧ at_F B n d p = none)
theorem a6_y {B : Int → Int32} {n d p w b a z : Int} {g : Nat → Int32} (hw : w = wh_ B n d p) (h : vR_ 4000 (aT6_ B n d p) b a z g) (hb : b = 0) (hz : z ≤ 4000) (hk : (w = 1 ∧ 1 ≤ z ∧ z ≤ 8) ∨ (¬ w = 1 ∧ iA_ (gx g) 0 z)) : aW6_ B n d p w b a z g := by
  rcases h with ⟨_, W, k1, k2⟩ | ⟨k, _⟩
  · have e : ∀ j : Int, 0 ≤ j → j < z → gx g j = W j := fun j j0 j1 => k2 j j0 j1 (by omega)
    refine Or.inl ⟨hb, W, ?_, e⟩
    rw [at_T, k1, ← hw]
    show va_ w (a, z, W) = _
    refine va_y ?_
    rcases hk with q | q
    · exact Or.inl q
    · exact Or.inr ⟨q.1, iA_cong (fun k k0 k1 => e k k0 (by omega)) q.2⟩
  · exact absurd hb k
theorem a6_z {B : Int → Int32} {n d p w b a z b2 a2 : Int} {g : Nat → Int32} (hw : w = wh_ B n d p) (h : vR_ 4000 (aT6_ B n d p) b a z g) (hb : b = 0) (hz : z ≤ 4000) (hk : ¬ ((w = 1 ∧ 1 ≤ z ∧ z ≤ 8) ∨ (¬ w = 1 ∧ iA_ (gx g) 0 z))) (hb2 : ¬ b2 = 0) : aW6_ B n d p w b2 a2 z g := by
  rcases h with ⟨_, W, k1, k2⟩ | ⟨k, _⟩
  · have e : ∀ j : Int, 0 ≤ j → j < z → gx g j = W j := fun j j0 j1 => k2 j j0 j1 (by omega)
    refine Or.inr ⟨hb2, ?_⟩
    rw [at_T, k1, ← hw]
    show va_ w (a, z, W) = _
    refine va_n (fun q => hk ?_)
    rcases q with q | q
    · exact Or.inl q
    · exact Or.inr ⟨q.1, iA_cong (fun k k0 k1 => (e k k0 (by omega)).symm) q.2⟩
  · exact absurd hb k
theorem a6_x {B : Int → Int32} {n d p w b a z a2 : Int} {g : Nat → Int32} (h : vR_ 4000 (aT6_ B n d p) b a z g) (hb : ¬ b = 0) : aW6_ B n d p w b a2 z g := by
  rcases h with ⟨k, _⟩ | ⟨_, k⟩
  · exact absurd k hb
  · exact Or.inr ⟨hb, by rw [at_T, k]; rfl⟩
/-- it is kept -/
def cp6_ (c : Prop) (o : Int) (a b v : Nat → Int32) (k : Int) : Prop := (∀ j : Int, 0 ≤ j → j < o → gx b j = gx a j) ∧ (c → ∀ j : Int, 0 ≤ j → j < k → gx b (o + j) = gx v j) ∧ (¬ c → b = a)
theorem cp6_0 {c : Prop} {o k : Int} {a v : Nat → Int32} (hk : k = 0) : cp6_ c o a a v k := ⟨fun _ _ _ => rfl, fun _ j j0 j1 => absurd j1 (by omega), fun _ => rfl⟩
theorem cp6_s {c : Prop} {o k k2 : Int} {a b b2 v : Nat → Int32} (h : cp6_ c o a b v k) (hc : c) (hg : ∀ j : Int, 0 ≤ j → gx b2 j = if j = o + k then gx v k else gx b j) (ho : 0 ≤ o) (h0 : 0 ≤ k) (hk : k2 = k + 1) : cp6_ c o a b2 v k2 := by
  obtain ⟨h1, h2, h3⟩ := h
  refine ⟨fun j j0 j1 => ?_, fun _ j j0 j1 => ?_, fun q => absurd hc q⟩
  · rw [hg j j0, if_neg (by omega), h1 j j0 j1]
  · rw [hg (o + j) (by omega)]
    by_cases w : j = k
    · rw [if_pos (by omega), w]
    · rw [if_neg (by omega)]
      exact h2 hc j j0 (by omega)
theorem cp6_k {c : Prop} {o k k2 : Int} {a b v : Nat → Int32} (h : cp6_ c o a b v k) (hc : ¬ c) : cp6_ c o a b v k2 := ⟨h.1, fun q => absurd q hc, h.2.2⟩
def aR6_ (B : Int → Int32) (n d p b a r k : Int) (s i t g s2 i2 t2 g2 : Nat → Int32) : Prop := (b = 0 ∧ ∃ (z : Int) (W : Int → Int), at_F B n d p = some (a, r, z, W) ∧ ((r = 1 ∧ re6_ 8 s i s2 i2 k z W ∧ t2 = t ∧ g2 = g) ∨ (¬ r = 1 ∧ re6_ 24 t g t2 g2 k z W ∧ s2 = s ∧ i2 = i))) ∨ (¬ b = 0 ∧ at_F B n d p = none)
theorem a6_i {B : Int → Int32} {n d p w b a z k a2 q : Int} {v s i t g s2 i2 g2 : Nat → Int32} (h : aW6_ B n d p w b a z v) (hb : b = 0) (hw : w = 1) (ea : a2 = a + 1) (ci : cp6_ (w = 1) (8 * k) i i2 v q) (cg : cp6_ (¬ w = 1) (24 * k) g g2 v q) (hq : z ≤ q) (hs : ∀ j : Int, 0 ≤ j → gx s2 j = if j = k then z else gx s j) (hk : 0 ≤ k) : aR6_ B n d p b a2 w k s i t g s2 i2 t g2 := by
  rcases h with ⟨_, W, w1, w2⟩ | ⟨q, _⟩
  · refine Or.inl ⟨hb, z, W, by rw [ea]; exact w1, Or.inl ⟨hw, ⟨fun j j0 j1 => ?_, ci.1, ?_, fun j j0 j1 => ?_⟩, rfl, cg.2.2 (fun y => y hw)⟩⟩
    · rw [hs j j0, if_neg (by omega)]
    · rw [hs k hk, if_pos rfl]
    · rw [ci.2.1 hw j j0 (by omega), w2 j j0 j1]
  · exact absurd hb q
theorem a6_g {B : Int → Int32} {n d p w b a z k a2 q : Int} {v s i t g t2 i2 g2 : Nat → Int32} (h : aW6_ B n d p w b a z v) (hb : b = 0) (hw : ¬ w = 1) (ea : a2 = a + 1) (ci : cp6_ (w = 1) (8 * k) i i2 v q) (cg : cp6_ (¬ w = 1) (24 * k) g g2 v q) (hq : z ≤ q) (hs : ∀ j : Int, 0 ≤ j → gx t2 j = if j = k then z else gx t j) (hk : 0 ≤ k) : aR6_ B n d p b a2 w k s i t g s i2 t2 g2 := by
  rcases h with ⟨_, W, w1, w2⟩ | ⟨q, _⟩
  · refine Or.inl ⟨hb, z, W, by rw [ea]; exact w1, Or.inr ⟨hw, ⟨fun j j0 j1 => ?_, cg.1, ?_, fun j j0 j1 => ?_⟩, rfl, ci.2.2 hw⟩⟩
    · rw [hs j j0, if_neg (by omega)]
    · rw [hs k hk, if_pos rfl]
    · rw [cg.2.1 hw j j0 (by omega), w2 j j0 j1]
  · exact absurd hb q
theorem a6_o {B : Int → Int32} {n d p w b a z k a2 : Int} {v s i t g s2 i2 t2 g2 : Nat → Int32} (h : aW6_ B n d p w b a z v) (hb : ¬ b = 0) : aR6_ B n d p b a2 w k s i t g s2 i2 t2 g2 := by
  rcases h with ⟨q, _⟩ | ⟨_, q⟩
  · exact absurd q hb
  · exact Or.inr ⟨hb, q⟩
/-- an element while it is read: what stands at place k of the arrays; below k they are as they were -/
def ar6_ (h k : Int) (s i t g s2 i2 t2 g2 : Nat → Int32) (R : RE_) : Prop := (∀ x : Int, 0 ≤ x → x < k → gx s2 x = gx s x ∧ gx t2 x = gx t x) ∧ (∀ j : Int, 0 ≤ j → j < 8 * k → gx i2 j = gx i j) ∧ (∀ j : Int, 0 ≤ j → j < 24 * k → gx g2 j = gx g j) ∧ (h % 2 = 1 → gx s2 k = R.1 ∧ ∀ j : Int, 0 ≤ j → j < R.1 → gx i2 (8 * k + j) = R.2.1 j) ∧ (2 ≤ h → gx t2 k = R.2.2.1 ∧ ∀ j : Int, 0 ≤ j → j < R.2.2.1 → gx g2 (24 * k + j) = R.2.2.2 j)
def elM_ (B : Int → Int32) (n : Int) (T : Option (Int × Int × RE_)) (b h a k : Int) (s i t g s2 i2 t2 g2 : Nat → Int32) : Prop := (b = 0 ∧ (0 ≤ h ∧ h ≤ 3) ∧ ∃ R : RE_, T = el_ B n (fu_ h) h R (sF B n a) (if a < sF B n a then 1 else 0) ∧ ar6_ h k s i t g s2 i2 t2 g2 R) ∨ (¬ b = 0 ∧ T = none)
def elL_ (B : Int → Int32) (n : Int) (T : Option (Int × Int × RE_)) (b h a sp k : Int) (s i t g s2 i2 t2 g2 : Nat → Int32) : Prop := (b = 0 ∧ (0 ≤ h ∧ h ≤ 3) ∧ ∃ R : RE_, T = el_ B n (fu_ h) h R a sp ∧ ar6_ h k s i t g s2 i2 t2 g2 R) ∨ (¬ b = 0 ∧ T = none)
theorem ar6_0 {k : Int} {s i t g : Nat → Int32} {R : RE_} : ar6_ 0 k s i t g s i t g R := ⟨fun _ _ _ => ⟨rfl, rfl⟩, fun _ _ _ => rfl, fun _ _ _ => rfl, fun q => absurd q (by decide), fun q => absurd q (by decide)⟩
theorem e6_0 {B : Int → Int32} {n p b a k : Int} {t0 : Int → Int} {s i t g : Nat → Int32} {h : Int} (hh : h = 0) (e : om_ b a = (om_ 0 p).bind (wk_ B n t0 4)) (ht : ∀ j : Int, 0 ≤ j → j < 4 → t0 j = tE_ j) : elM_ B n ((wk_ B n tE_ 4 p).bind (eA_ B n)) b h a k s i t g s i t g := by
  have e2 : om_ b a = wk_ B n tE_ 4 p := by rw [e, om_t rfl, ← wk_c 4 ht]; rfl
  by_cases c : b = 0
  · rw [om_t c] at e2
    refine Or.inl ⟨c, by omega, RZ_, ?_, by rw [hh]; exact ar6_0⟩
    rw [← e2, hh]
    rfl
  · rw [om_f c] at e2
    exact Or.inr ⟨c, by rw [← e2]; rfl⟩
theorem e6_s {B : Int → Int32} {n b h a a2 sp k : Int} {T : Option (Int × Int × RE_)} {s i t g s2 i2 t2 g2 : Nat → Int32} (m : elM_ B n T b h a k s i t g s2 i2 t2 g2) (e : om_ b a2 = (om_ b a).map (sF B n)) (hs : (sp = 1 ∧ a < a2) ∨ (sp = 0 ∧ a2 = a)) : elL_ B n T b h a2 sp k s i t g s2 i2 t2 g2 := by
  rcases m with ⟨c, hh, R, r1, r2⟩ | ⟨c, r⟩
  · rw [om_t c, om_t c] at e
    have e2 : a2 = sF B n a := Option.some.inj e
    refine Or.inl ⟨c, hh, R, ?_, r2⟩
    rw [r1, ← e2]
    congr 1
    split <;> omega
  · exact Or.inr ⟨c, r⟩
theorem fu_s {h w : Int} (h0 : 0 ≤ h) (h3 : h ≤ 3) (c : w = 1 ∧ h % 2 = 0 ∨ w = 2 ∧ h < 2) : fu_ h = fu_ (h + w) + 1 := by
  unfold fu_
  (repeat' split) <;> omega
theorem fu_p (h : Int) : ∃ m : Nat, fu_ h = m + 1 := by
  unfold fu_
  (repeat' split)
  · exact ⟨2, rfl⟩
  · exact ⟨0, rfl⟩
  · exact ⟨1, rfl⟩
theorem ar6_s {d w k z : Int} {W : Int → Int} {s i t g s2 i2 t2 g2 s3 i3 t3 g3 : Nat → Int32} {R : RE_} (m : ar6_ d k s i t g s2 i2 t2 g2 R) (h0 : 0 ≤ d) (c : (w = 1 ∧ d % 2 = 0) ∨ (w = 2 ∧ d < 2)) (u : (w = 1 ∧ re6_ 8 s2 i2 s3 i3 k z W ∧ t3 = t2 ∧ g3 = g2) ∨ (¬ w = 1 ∧ re6_ 24 t2 g2 t3 g3 k z W ∧ s3 = s2 ∧ i3 = i2)) : ar6_ (d + w) k s i t g s3 i3 t3 g3 (rp_ R w z W) := by
  obtain ⟨m1, m2, m3, m4, m5⟩ := m
  unfold rp_
  rcases u with ⟨u0, ⟨u1, u2, u3, u4⟩, e1, e2⟩ | ⟨u0, ⟨u1, u2, u3, u4⟩, e1, e2⟩
  · subst e1 e2
    rw [if_pos u0]
    refine ⟨fun x x0 x1 => ⟨(u1 x x0 x1).trans (m1 x x0 x1).1, (m1 x x0 x1).2⟩, fun j j0 j1 => (u2 j j0 j1).trans (m2 j j0 j1), m3, fun _ => ⟨u3, u4⟩, fun q => m5 (by omega)⟩
  · subst e1 e2
    rw [if_neg u0]
    refine ⟨fun x x0 x1 => ⟨(m1 x x0 x1).1, (u1 x x0 x1).trans (m1 x x0 x1).2⟩, m2, fun j j0 j1 => (u2 j j0 j1).trans (m3 j j0 j1), fun q => m4 (by (exact omg_8c94102622 c u0 q)), fun _ => ⟨u3, u4⟩⟩
theorem e6_a {B : Int → Int32} {n b d a sp k b2 a2 w d2 : Int} {T : Option (Int × Int × RE_)} {s i t g s2 i2 t2 g2 s3 i3 t3 g3 : Nat → Int32} (m : elL_ B n T b d a sp k s i t g s2 i2 t2 g2) (hb : b = 0) (hc : ¬ (cm_ B n a = 47 ∨ cm_ B n a = 62)) (hs : ¬ sp = 0) (r : aR6_ B n d a b2 a2 w k s2 i2 t2 g2 s3 i3 t3 g3) (hd : d2 = d + w) : elM_ B n T b2 d2 a2 k s i t g s3 i3 t3 g3 := by
  rcases m with ⟨c, hh, R, r1, r2⟩ | ⟨c, _⟩
  · rcases r with ⟨c2, z, W, w1, w2⟩ | ⟨c2, w1⟩
    · have u := at_up w1
      have v : w = 1 ∧ d % 2 = 0 ∨ w = 2 ∧ d < 2 := by
        rcases u.1 with y | y
        · exact Or.inl ⟨y.1, y.2.1⟩
        · exact Or.inr ⟨y.1, y.2.1⟩
      refine Or.inl ⟨c2, by omega, rp_ R w z W, ?_, by rw [hd]; exact ar6_s r2 hh.1 v w2⟩
      rw [r1, fu_s hh.1 hh.2 v, el_s hc hs w1, hd]
    · obtain ⟨m, hm⟩ := fu_p d
      exact Or.inr ⟨c2, by rw [r1, hm, el_f hc w1]⟩
  · exact absurd hb c
theorem e6_n {B : Int → Int32} {n b d a sp k b2 d2 a2 : Int} {T : Option (Int × Int × RE_)} {s i t g s2 i2 t2 g2 s3 i3 t3 g3 : Nat → Int32} (m : elL_ B n T b d a sp k s i t g s2 i2 t2 g2) (hb : b = 0) (hc : ¬ (cm_ B n a = 47 ∨ cm_ B n a = 62)) (hs : sp = 0) (hb2 : ¬ b2 = 0) : elM_ B n T b2 d2 a2 k s i t g s3 i3 t3 g3 := by
  rcases m with ⟨c, hh, R, r1, r2⟩ | ⟨c, _⟩
  · obtain ⟨m, hm⟩ := fu_p d
    exact Or.inr ⟨hb2, by rw [r1, hm, el_0 hc hs]⟩
  · exact absurd hb c
/-- behind the attributes -/
def eX6_ (B : Int → Int32) (n : Int) (T : Option (Int × Int × RE_)) (b a k : Int) (s i t g s2 i2 t2 g2 : Nat → Int32) : Prop := (b = 0 ∧ (cm_ B n a = 47 ∨ cm_ B n a = 62) ∧ ∃ R : RE_, T = some (a, 3, R) ∧ ar6_ 3 k s i t g s2 i2 t2 g2 R) ∨ (¬ b = 0 ∧ T.bind (ee_ B n) = none)
theorem e6_y {B : Int → Int32} {n b d a sp k : Int} {T : Option (Int × Int × RE_)} {s i t g s2 i2 t2 g2 : Nat → Int32} (m : elL_ B n T b d a sp k s i t g s2 i2 t2 g2) (hc : cm_ B n a = 47 ∨ cm_ B n a = 62) (hb : b = 0) (hd : d = 3) : eX6_ B n T b a k s i t g s2 i2 t2 g2 := by
  rcases m with ⟨c, hh, R, r1, r2⟩ | ⟨c, _⟩
  · refine Or.inl ⟨c, hc, R, ?_, by rw [← hd]; exact r2⟩
    obtain ⟨m, hm⟩ := fu_p d
    rw [r1, hm, el_q hc, hd]
  · exact absurd hb c
theorem e6_z {B : Int → Int32} {n b d a sp k b2 a2 : Int} {T : Option (Int × Int × RE_)} {s i t g s2 i2 t2 g2 : Nat → Int32} (m : elL_ B n T b d a sp k s i t g s2 i2 t2 g2) (hc : cm_ B n a = 47 ∨ cm_ B n a = 62) (hb : b = 0) (hd : ¬ d = 3) (hb2 : ¬ b2 = 0) : eX6_ B n T b2 a2 k s i t g s2 i2 t2 g2 := by
  rcases m with ⟨c, hh, R, r1, r2⟩ | ⟨c, _⟩
  · obtain ⟨m, hm⟩ := fu_p d
    refine Or.inr ⟨hb2, ?_⟩
    rw [r1, hm, el_q hc]
    show ee_ B n (a, d, R) = none
    unfold ee_
    rw [if_pos hd]
  · exact absurd hb c
theorem e6_x {B : Int → Int32} {n b d a sp k a2 : Int} {T : Option (Int × Int × RE_)} {s i t g s2 i2 t2 g2 : Nat → Int32} (m : elL_ B n T b d a sp k s i t g s2 i2 t2 g2) (hb : ¬ b = 0) : eX6_ B n T b a2 k s i t g s2 i2 t2 g2 := by
  rcases m with ⟨c, _⟩ | ⟨c, r⟩
  · exact absurd c hb
  · exact Or.inr ⟨hb, by rw [r]; rfl⟩
def eR6_ (B : Int → Int32) (n p b a k : Int) (s i t g s2 i2 t2 g2 : Nat → Int32) : Prop := (b = 0 ∧ ∃ R : RE_, eF_ B n p = some (a, R) ∧ ar6_ 3 k s i t g s2 i2 t2 g2 R) ∨ (¬ b = 0 ∧ eF_ B n p = none)
theorem eF_T (B : Int → Int32) (n p : Int) : eF_ B n p = ((wk_ B n tE_ 4 p).bind (eA_ B n)).bind (ee_ B n) := by
  unfold eF_
  cases wk_ B n tE_ 4 p with
  | none => rfl
  | some q => rfl
theorem e6_e {B : Int → Int32} {n p b a k b2 a2 : Int} {t0 : Int → Int} {s i t g s2 i2 t2 g2 : Nat → Int32} (m : eX6_ B n ((wk_ B n tE_ 4 p).bind (eA_ B n)) b a k s i t g s2 i2 t2 g2) (hc : ¬ b = 0 ∨ cm_ B n a = 47) (e : om_ b2 a2 = (om_ b a).bind (wk_ B n t0 2)) (ht : ∀ j : Int, 0 ≤ j → j < 2 → t0 j = tG_ j) : eR6_ B n p b2 a2 k s i t g s2 i2 t2 g2 := by
  rcases m with ⟨c, _, R, r1, r2⟩ | ⟨c, r⟩
  · have c4 : cm_ B n a = 47 := by
      rcases hc with q | q
      · exact absurd c q
      · exact q
    rw [om_t c] at e
    have e2 : om_ b2 a2 = wk_ B n tG_ 2 a := by rw [e, ← wk_c 2 ht]; rfl
    have f : eF_ B n p = (wk_ B n tG_ 2 a).map (fun x => (x, R)) := by
      rw [eF_T, r1]
      show ee_ B n (a, 3, R) = _
      unfold ee_
      rw [if_neg (by simp), if_pos c4]
    by_cases w : b2 = 0
    · rw [om_t w] at e2
      exact Or.inl ⟨w, R, by rw [f, ← e2]; rfl, r2⟩
    · rw [om_f w] at e2
      exact Or.inr ⟨w, by rw [f, ← e2]; rfl⟩
  · rw [om_f c] at e
    have w := om_n e
    exact Or.inr ⟨w, by rw [eF_T, r]⟩
theorem e6_c {B : Int → Int32} {n p b a k b1 a1 a0 b2 a2 : Int} {t0 : Int → Int} {s i t g s2 i2 t2 g2 : Nat → Int32} (m : eX6_ B n ((wk_ B n tE_ 4 p).bind (eA_ B n)) b a k s i t g s2 i2 t2 g2) (hb : b = 0) (hc : ¬ cm_ B n a = 47) (h0 : a0 = a + 1) (h1 : om_ b1 a1 = (om_ b a0).bind (gF B n)) (h2 : om_ b2 a2 = (om_ b1 a1).bind (cl_ B n t0 5)) (ht : ∀ j : Int, 0 ≤ j → j < 5 → t0 j = tF_ j) : eR6_ B n p b2 a2 k s i t g s2 i2 t2 g2 := by
  rcases m with ⟨c, c6, R, r1, r2⟩ | ⟨c, r⟩
  · have c5 : cm_ B n a = 62 := by omega
    have ec : cl_ B n t0 5 = cl_ B n tF_ 5 := by
      funext x
      unfold cl_
      rw [wk_c 5 ht]
    have e2 : om_ b2 a2 = ((nd_ B n 62 a).bind (gF B n)).bind (cl_ B n tF_ 5) := by
      rw [h2, h1, om_t hb, ec, nd_y c5, h0]
    have f : eF_ B n p = (om_ b2 a2).map (fun x => (x, R)) := by
      rw [eF_T, r1, e2]
      show ee_ B n (a, 3, R) = _
      unfold ee_
      rw [if_neg (by simp), if_neg hc]
    by_cases w : b2 = 0
    · exact Or.inl ⟨w, R, by rw [f, om_t w]; rfl, r2⟩
    · exact Or.inr ⟨w, by rw [f, om_f w]; rfl⟩
  · exact absurd hb c
/-- all the relations that it has: k of them -/
def rl6_ (s i t g : Nat → Int32) (L : List RE_) : Prop := ∀ (x : Nat) (R : RE_), L[x]? = some R → (gx s x = R.1 ∧ ∀ j : Int, 0 ≤ j → j < R.1 → gx i (8 * x + j) = R.2.1 j) ∧ (gx t x = R.2.2.1 ∧ ∀ j : Int, 0 ≤ j → j < R.2.2.1 → gx g (24 * x + j) = R.2.2.2 j)
theorem rl6_0 {s i t g : Nat → Int32} : rl6_ s i t g [] := fun x R h => absurd h (by simp)
theorem rl6_s {k : Int} {s i t g s2 i2 t2 g2 : Nat → Int32} {L : List RE_} {R : RE_} (h : rl6_ s i t g L) (hk : k = L.length) (hP : ∀ R ∈ L, PQ6_ 3 R) (hR : PQ6_ 3 R) (m : ar6_ 3 k s i t g s2 i2 t2 g2 R) : rl6_ s2 i2 t2 g2 (L ++ [R]) := by
  obtain ⟨m1, m2, m3, m4, m5⟩ := m
  intro x Q hx
  by_cases c : x < L.length
  · rw [List.getElem?_append_left c] at hx
    have w := h x Q hx
    have u := hP Q (List.mem_of_getElem? hx)
    have u1 := u.1 (by decide)
    have u2 := (u.2 (by decide)).2.1
    have f := m1 x (by omega) (by omega)
    refine ⟨⟨f.1.trans w.1.1, fun j j0 j1 => (m2 _ (by omega) (by omega)).trans (w.1.2 j j0 j1)⟩, ⟨f.2.trans w.2.1, fun j j0 j1 => (m3 _ (by omega) (by omega)).trans (w.2.2 j j0 j1)⟩⟩
  · have e : x = L.length := by
      have l := (List.getElem?_eq_some_iff.mp hx).1
      rw [List.length_append, List.length_singleton] at l
      omega
    rw [e, List.getElem?_append_right (Nat.le_refl _), Nat.sub_self] at hx
    have e2 : R = Q := Option.some.inj hx
    have w := m4 (by decide)
    have w2 := m5 (by decide)
    rw [← e2, e, ← hk]
    exact ⟨w, w2⟩
/-- the elements while they are read -/
def es6_ (B : Int → Int32) (n : Int) (T : Option (Int × List RE_)) (b a k : Int) (s i t g : Nat → Int32) : Prop := (b = 0 ∧ ∃ L : List RE_, k = L.length ∧ (∀ R ∈ L, PQ6_ 3 R) ∧ T = eS B n a L ∧ rl6_ s i t g L) ∨ (¬ b = 0 ∧ T = none)
theorem s6_0 {B : Int → Int32} {n b a k : Int} {X : Option Int} {s i t g : Nat → Int32} (h : om_ b a = X) (hk : k = 0) : es6_ B n (X.bind (fun g => eS B n g [])) b a k s i t g := by
  rw [← h]
  by_cases c : b = 0
  · rw [om_t c]
    exact Or.inl ⟨c, [], hk, fun R q => absurd q (by simp), rfl, rl6_0⟩
  · rw [om_f c]
    exact Or.inr ⟨c, rfl⟩
theorem s6_s {B : Int → Int32} {n b a k b1 a1 b2 a2 k2 : Int} {T : Option (Int × List RE_)} {s i t g s2 i2 t2 g2 : Nat → Int32} (m : es6_ B n T b a k s i t g) (hb : b = 0) (ha : a ≤ n) (hc : ¬ (cm_ B n a = 60 ∧ cm_ B n (a + 1) = 47)) (r : eR6_ B n a b1 a1 k s i t g s2 i2 t2 g2) (e : om_ b2 a2 = (om_ b1 a1).bind (gF B n)) (hk : b1 = 0 → k2 = k + 1) : es6_ B n T b2 a2 k2 s2 i2 t2 g2 := by
  rcases m with ⟨_, L, l1, l2, l3, l4⟩ | ⟨c, _⟩
  · rcases r with ⟨c, R, r1, r2⟩ | ⟨c, r1⟩
    · have u := eF_up r1 ha
      rw [om_t c] at e
      have e1 : om_ b2 a2 = gF B n a1 := e
      by_cases w : b2 = 0
      · rw [om_t w] at e1
        refine Or.inl ⟨w, L ++ [R], ?_, ?_, ?_, ?_⟩
        · have y := hk c
          rw [List.length_append, List.length_singleton]
          omega
        · intro Q q
          rcases List.mem_append.mp q with y | y
          · exact l2 Q y
          · rw [List.mem_singleton.mp y]
            exact u.2.2
        · rw [l3, eS_s ha hc r1 e1.symm]
        · exact rl6_s l4 l1 l2 u.2.2 r2
      · rw [om_f w] at e1
        exact Or.inr ⟨w, by rw [l3, eS_g hc r1 e1.symm]⟩
    · rw [om_f c] at e
      have w := om_n e
      exact Or.inr ⟨w, by rw [l3, eS_f hc r1]⟩
  · exact absurd hb c
/-- read: none, or the relations -/
def mR6_ (T : Option (List RE_)) (b k : Int) (s i t g : Nat → Int32) : Prop := (b = 0 ∧ ∃ L : List RE_, T = some L ∧ k = L.length ∧ (∀ R ∈ L, PQ6_ 3 R) ∧ rl6_ s i t g L) ∨ (¬ b = 0 ∧ T = none)
/-- read up to the last gaps -/
def mG6_ (B : Int → Int32) (n : Int) (T : Option (List RE_)) (b a k : Int) (s i t g : Nat → Int32) : Prop := (b = 0 ∧ ∃ L : List RE_, T = tA6_ B n L a ∧ k = L.length ∧ (∀ R ∈ L, PQ6_ 3 R) ∧ rl6_ s i t g L) ∨ (¬ b = 0 ∧ T = none)
theorem m6_e {B : Int → Int32} {n b a k b2 a2 : Int} {X : Option Int} {t0 : Int → Int} {s i t g : Nat → Int32} (hX : hs_ B n = X) (h : om_ b a = X) (hb : b = 0) (hc : cm_ B n a = 47) (e : om_ b2 a2 = (om_ b a).bind (wk_ B n t0 2)) (ht : ∀ j : Int, 0 ≤ j → j < 2 → t0 j = tG_ j) (hk : k = 0) : mG6_ B n (mk_ B n) b2 a2 k s i t g := by
  rw [om_t hb] at h e
  have e2 : om_ b2 a2 = wk_ B n tG_ 2 a := by rw [e, ← wk_c 2 ht]; rfl
  have f : mk_ B n = (om_ b2 a2).bind (tA6_ B n []) := by
    unfold mk_
    rw [hX, ← h, e2]
    show (if cm_ B n a = 47 then (wk_ B n tG_ 2 a).bind (tA6_ B n []) else ((nd_ B n 62 a).bind (gF B n)).bind (fun g => (eS B n g []).bind (mT6_ B n))) = _
    rw [if_pos hc]
  by_cases w : b2 = 0
  · exact Or.inl ⟨w, [], by rw [f, om_t w]; rfl, hk, fun R q => absurd q (by simp), rl6_0⟩
  · exact Or.inr ⟨w, by rw [f, om_f w]; rfl⟩
theorem m6_f {B : Int → Int32} {n b a : Int} {X : Option Int} (hX : hs_ B n = X) (h : om_ b a = X) (hc : ¬ (b = 0 ∧ cm_ B n a = 47)) : mk_ B n = (((om_ b a).bind (nd_ B n 62)).bind (gF B n)).bind (fun g => (eS B n g []).bind (mT6_ B n)) := by
  unfold mk_
  rw [hX, ← h]
  by_cases w : b = 0
  · rw [om_t w]
    show (if cm_ B n a = 47 then (wk_ B n tG_ 2 a).bind (tA6_ B n []) else ((nd_ B n 62 a).bind (gF B n)).bind (fun g => (eS B n g []).bind (mT6_ B n))) = _
    rw [if_neg (fun q => hc ⟨w, q⟩)]
    rfl
  · rw [om_f w]
    rfl
theorem bd6_ {X : Option Int} {B : Int → Int32} {n : Int} : X.bind (fun g => (eS B n g []).bind (mT6_ B n)) = (X.bind (fun g => eS B n g [])).bind (mT6_ B n) := by
  cases X with
  | none => rfl
  | some x => rfl
theorem m6_c {B : Int → Int32} {n b a k b2 a2 : Int} {T : Option (Int × List RE_)} {t0 : Int → Int} {s i t g : Nat → Int32} (hT : mk_ B n = T.bind (mT6_ B n)) (m : es6_ B n T b a k s i t g) (hc : ¬ b = 0 ∨ (cm_ B n a = 60 ∧ cm_ B n (a + 1) = 47)) (e : om_ b2 a2 = (om_ b a).bind (cl_ B n t0 6)) (ht : ∀ j : Int, 0 ≤ j → j < 6 → t0 j = tI_ j) : mG6_ B n (mk_ B n) b2 a2 k s i t g := by
  rw [hT]
  rcases m with ⟨c, L, l1, l2, l3, l4⟩ | ⟨c, l⟩
  · have c2 : cm_ B n a = 60 ∧ cm_ B n (a + 1) = 47 := by
      rcases hc with q | q
      · exact absurd c q
      · exact q
    have ec : cl_ B n t0 6 = cl_ B n tI_ 6 := by
      funext x
      unfold cl_
      rw [wk_c 6 ht]
    rw [om_t c, ec] at e
    have e2 : om_ b2 a2 = cl_ B n tI_ 6 a := e
    rw [l3, eS_q c2]
    show mG6_ B n ((cl_ B n tI_ 6 a).bind (tA6_ B n L)) b2 a2 k s i t g
    rw [← e2]
    by_cases w : b2 = 0
    · rw [om_t w]
      exact Or.inl ⟨w, L, rfl, l1, l2, l4⟩
    · rw [om_f w]
      exact Or.inr ⟨w, rfl⟩
  · rw [om_f c] at e
    have w := om_n e
    rw [l]
    exact Or.inr ⟨w, rfl⟩
theorem m6_t {B : Int → Int32} {n b a k b2 a2 b3 : Int} {T : Option (List RE_)} {s i t g : Nat → Int32} (m : mG6_ B n T b a k s i t g) (e : om_ b2 a2 = (om_ b a).bind (gF B n)) (ha : a2 ≤ n) (h0 : 0 ≤ a2) (h : (cm_ B n a2 < 0 ∧ b3 = b2) ∨ (0 ≤ cm_ B n a2 ∧ ¬ b3 = 0)) : mR6_ T b3 k s i t g := by
  rcases m with ⟨c, L, l1, l2, l3, l4⟩ | ⟨c, l⟩
  · rw [om_t c] at e
    have e2 : om_ b2 a2 = gF B n a := e
    have f : T = (om_ b2 a2).bind (fun g => if g = n then some L else none) := by rw [l1, e2]; rfl
    by_cases w : b2 = 0
    · rw [om_t w] at f
      have f2 : T = if a2 = n then some L else none := f
      rcases h with ⟨q1, q2⟩ | ⟨q1, q2⟩
      · have y : a2 = n := by
          by_cases z : a2 < n
          · have r := ti_and (z := B a2 &&& 255) (m := 255) (b := 255) 8 rfl (by decide) (by decide)
            rw [cm_at h0 z] at q1
            omega
          · omega
        rw [if_pos y] at f2
        exact Or.inl ⟨by omega, L, f2, l2, l3, l4⟩
      · have y := cm_in q1
        rw [if_neg (by omega)] at f2
        exact Or.inr ⟨q2, f2⟩
    · rw [om_f w] at f
      exact Or.inr ⟨by omega, f⟩
  · rw [om_f c] at e
    have w := om_n e
    exact Or.inr ⟨by omega, l⟩
theorem i2b_id {x z : Int32} (e : z = x.toInt8.toInt32) (h : 0 ≤ x.toInt ∧ x.toInt ≤ 126) : z.toInt = x.toInt := by
  have q : x.toInt8.toInt32 = x := nar_byte (v := x) (by omega)
  rw [e, q]
theorem dm_s {f d : Nat → Int32} {k k2 o : Int} {i v : Int32} (h : ∀ j : Int, 0 ≤ j → j < k → gr f j = gr d (o + j)) (hi : i.toInt = k) (hv : -128 ≤ v.toInt ∧ v.toInt ≤ 127) (hx : v = gr d (o + k)) (h0 : 0 ≤ k) (hk : k2 = k + 1) : ∀ j : Int, 0 ≤ j → j < k2 → gr (upd f i.toNatClampNeg (vp_nar .byte v)) j = gr d (o + j) := by
  intro j j0 j1
  have q : v.toInt8.toInt32 = v := nar_byte (v := v) hv
  rw [gr_updb hi j h0 j0, q]
  by_cases c : j = k
  · rw [if_pos c, hx, c]
  · rw [if_neg c, h j j0 (by omega)]
theorem m6_h {B : Int → Int32} {n b0 a0 b1 a1 b2 a2 a3 : Int} {t : Int → Int} (hb : b0 = 0) (ha : a0 = 0) (h1 : om_ b1 a1 = (om_ b0 a0).bind (gF B n)) (h2 : om_ b2 a2 = (om_ b1 a1).bind (wk_ B n t 5)) (h3 : om_ b2 a3 = (om_ b2 a2).map (sF B n)) (ht : ∀ j : Int, 0 ≤ j → j < 5 → t j = tH_ j) : om_ b2 a3 = hs_ B n := by
  have e : wk_ B n t 5 = wk_ B n tH_ 5 := by
    funext p
    exact wk_c 5 ht
  rw [h3, h2, h1, om_t hb, ha, e]
  rfl
theorem m6_g {B : Int → Int32} {n b a b1 a1 b2 a2 : Int} (h : om_ b a = hs_ B n) (hc : ¬ (b = 0 ∧ cm_ B n a = 47)) (h1 : om_ b1 a1 = (om_ b a).bind (nd_ B n 62)) (h2 : om_ b2 a2 = (om_ b1 a1).bind (gF B n)) : mk_ B n = ((om_ b2 a2).bind (fun g => eS B n g [])).bind (mT6_ B n) := by
  rw [m6_f rfl h hc, ← h1, ← h2, bd6_]
