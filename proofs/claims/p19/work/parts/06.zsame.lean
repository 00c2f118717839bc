/-- a byte without its sign; n bytes from y on as a number -/
def bv (f : Nat → Int32) (k : Int) : Int := (gr f k &&& 255).toInt
theorem bv_rng (f : Nat → Int32) (k : Int) : 0 ≤ bv f k ∧ bv f k ≤ 255 := ti_and (z := gr f k &&& 255) (m := 255) (b := 255) 8 rfl (by decide) (by decide)
def av (f : Nat → Int32) (y : Int) : Nat → Int
  | 0 => 0
  | n + 1 => 256 * av f (y + 1) n + bv f y
theorem av_rng (f : Nat → Int32) : ∀ (n : Nat) (y : Int), 0 ≤ av f y n ∧ av f y n < ((256 ^ n : Nat) : Int)
  | 0, y => by rw [av]; exact ⟨Int.le_refl _, by decide⟩
  | n + 1, y => by
    have a := av_rng f n (y + 1)
    have b := bv_rng f y
    rw [av, Nat.pow_succ]
    generalize 256 ^ n = w at *
    omega
theorem av2 (f : Nat → Int32) (y : Int) : 0 ≤ av f y 2 ∧ av f y 2 ≤ 65535 := by
  have a := av_rng f 2 y
  have b : ((256 ^ 2 : Nat) : Int) = 65536 := by decide
  omega
theorem av4 (f : Nat → Int32) (y : Int) : 0 ≤ av f y 4 ∧ av f y 4 < 4294967296 := by
  have a := av_rng f 4 y
  have b : ((256 ^ 4 : Nat) : Int) = 4294967296 := by decide
  omega
theorem av_le (f : Nat → Int32) {n : Nat} (h : n ≤ 4) (y : Int) : 0 ≤ av f y n ∧ av f y n < 4294967296 := by
  have a := av_rng f n y
  have b : 256 ^ n ≤ 256 ^ 4 := Nat.pow_le_pow_right (by decide) h
  have c : 256 ^ 4 = 4294967296 := by decide
  omega
theorem av_s {f : Nat → Int32} {x k n : Int} (h : k < n) (h0 : 0 ≤ k) : av f (x + k) (n - k).toNat = 256 * av f (x + k + 1) (n - k - 1).toNat + bv f (x + k) := by
  rw [show (n - k).toNat = (n - k - 1).toNat + 1 by omega, av]
/-- the places of the entries, as the reference steps -/
def dq (f : Nat → Int32) (a : Int) : Nat → Int
  | 0 => a
  | k + 1 => dq f a k + 46 + av f (dq f a k + 28) 2
theorem dq_up (f : Nat → Int32) (a : Int) : ∀ m k : Nat, dq f a k + 46 * m ≤ dq f a (k + m)
  | 0, k => by rw [Nat.add_zero]; omega
  | m + 1, k => by
    have h := dq_up f a m k
    have t := av2 f (dq f a (k + m) + 28)
    rw [show k + (m + 1) = (k + m) + 1 by omega, dq]
    omega
/-- a directory that can be walked from a to e -/
def dq_ok (f : Nat → Int32) (a e : Int) : Prop := 0 ≤ a ∧ a ≤ e ∧ ∃ n : Nat, dq f a n = e ∧ ∀ j : Nat, j < n → dq f a j + 46 ≤ e
theorem dq_next {f : Nat → Int32} {a e p : Int} (h : dq_ok f a e) (hp : ∃ j : Nat, p = dq f a j ∧ p ≤ e) (hl : p < e) : a ≤ p ∧ p + 46 + av f (p + 28) 2 ≤ e ∧ ∃ j : Nat, p + 46 + av f (p + 28) 2 = dq f a j := by
  obtain ⟨h0, h1, n, hn, hj⟩ := h
  obtain ⟨j, rfl, -⟩ := hp
  have hjn : j < n := by
    rcases Nat.lt_or_ge j n with w | w
    · exact w
    · have u := dq_up f a (j - n) n
      rw [show n + (j - n) = j by omega, hn] at u
      omega
  have u := dq_up f a (n - (j + 1)) (j + 1)
  rw [show j + 1 + (n - (j + 1)) = n by omega, hn, dq] at u
  have v := dq_up f a j 0
  rw [Nat.zero_add, dq] at v
  exact ⟨by omega, by omega, j + 1, by rw [dq]⟩

/-! bytes that are the same, that differ -/
theorem ie_eq {i j A B : Int32} (e1 : i = A) (e2 : j = B) (h : i.toInt = j.toInt) : A = B := by
  rw [← e1, ← e2]
  exact Int32.toInt_inj.mp h
theorem ie_ne {i j A B : Int32} (e1 : i = A) (e2 : j = B) (h : ¬ i.toInt = j.toInt) : ¬ A = B := fun z => h (by rw [e1, e2, z])
theorem ie_lt {i j A B C D : Int32} (e1 : i = A) (e2 : j = B) (ha : A = C) (hb : B = D) (h : i.toInt < j.toInt) : C.toInt < D.toInt := by
  rw [← ha, ← hb, ← e1, ← e2]
  exact h
theorem lp_st {α : Type} {A B : Int → α} {k k2 : Int} (h : ∀ j : Int, 0 ≤ j → j < k → A j = B j) (e : k2 = k + 1) (h3 : A k = B k) : ∀ j : Int, 0 ≤ j → j < k2 → A j = B j := fun j h0 h1 => by
  by_cases c : j = k
  · rw [c]
    exact h3
  · exact h j h0 (by omega)
theorem ll_st {P : Int → Prop} {k k2 : Int} (h : ∀ j : Int, 0 ≤ j → j < k → P j) (e : k2 = k + 1) (h3 : P k) : ∀ j : Int, 0 ≤ j → j < k2 → P j := fun j h0 h1 => by
  by_cases c : j = k
  · rw [c]
    exact h3
  · exact h j h0 (by omega)
/-! NAMES -/
def ch_ (c : Int) : Prop := 97 ≤ c ∧ c ≤ 122 ∨ 48 ≤ c ∧ c ≤ 57 ∨ c = 46 ∨ c = 95
def pe_ (a : Int → Int) (b e : Int) : Prop := b < e ∧ (∀ k : Int, b ≤ k → k < e → ch_ (a k)) ∧ ¬ (e - b ≤ 2 ∧ ∀ k : Int, b ≤ k → k < e → a k = 46)
def iA_ (a : Int → Int) (x n : Int) : Prop := 1 ≤ n ∧ n ≤ 24 ∧ ∀ b e : Int, x ≤ b → b ≤ e → e ≤ x + n → (b = x ∨ a (b - 1) = 47) → (e = x + n ∨ a e = 47) → (∀ k : Int, b ≤ k → k < e → ¬ a k = 47) → pe_ a b e
def iB_ (a : Int → Int) (x n bg : Int) : Prop := ∀ b e : Int, x ≤ b → b ≤ e → e < bg → (b = x ∨ a (b - 1) = 47) → (e = x + n ∨ a e = 47) → (∀ k : Int, b ≤ k → k < e → ¬ a k = 47) → pe_ a b e
theorem iB_0 {a : Int → Int} {x n bg : Int} (h : bg = x) : iB_ a x n bg := fun b e h0 h1 h2 => absurd h2 (by omega)
theorem iB_s {a : Int → Int} {x n bg k bg2 : Int} (h : iB_ a x n bg) (h0 : x ≤ bg) (hb : bg = x ∨ a (bg - 1) = 47) (h1 : bg ≤ k) (h47 : ∀ j : Int, bg ≤ j → j < k → ¬ a j = 47) (hk : k ≤ x + n) (p : pe_ a bg k) (e2 : bg2 = k + 1) : iB_ a x n bg2 := by
  subst e2
  intro b e b0 b1 b2 b3 b4 b5
  by_cases c : e < bg
  · exact h b e b0 b1 c b3 b4 b5
  · by_cases c2 : e = k
    · have hbb : b = bg := by
        rcases Int.lt_trichotomy b bg with q | q | q
        · rcases hb with r | r
          · omega
          · exact absurd r (b5 (bg - 1) (by omega) (by omega))
        · exact q
        · rcases b3 with r | r
          · omega
          · exact absurd r (h47 (b - 1) (by omega) (by omega))
      rw [hbb, c2]
      exact p
    · rcases b4 with r | r
      · omega
      · exact absurd r (h47 e (by omega) (by omega))
theorem iA_of {a : Int → Int} {x n bg : Int} (h : iB_ a x n bg) (hb : bg = x + n + 1) (h0 : 1 ≤ n) (h1 : n ≤ 24) : iA_ a x n := ⟨h0, h1, fun b e b0 b1 b2 b3 b4 b5 => h b e b0 b1 (by omega) b3 b4 b5⟩
theorem iA_no {a : Int → Int} {x n bg k : Int} (h0 : x ≤ bg) (hb : bg = x ∨ a (bg - 1) = 47) (h1 : bg ≤ k) (hk : k ≤ x + n) (h47 : ∀ j : Int, bg ≤ j → j < k → ¬ a j = 47) (he : k = x + n ∨ a k = 47) (p : ¬ pe_ a bg k) : ¬ iA_ a x n := fun q => p (q.2.2 bg k h0 h1 hk hb he h47)
theorem nx_ {a : Int → Int} {x n : Int} : ∀ (d : Nat) (k : Int), k + d = x + n → ∃ e : Int, k ≤ e ∧ e ≤ x + n ∧ (e = x + n ∨ a e = 47) ∧ ∀ j : Int, k ≤ j → j < e → ¬ a j = 47
  | 0, k, h => ⟨k, Int.le_refl _, by omega, Or.inl (by omega), fun j j0 j1 => absurd j1 (by omega)⟩
  | d + 1, k, h => by
    by_cases c : a k = 47
    · exact ⟨k, Int.le_refl _, by omega, Or.inr c, fun j j0 j1 => absurd j1 (by omega)⟩
    · obtain ⟨e, e0, e1, e2, e3⟩ := nx_ (a := a) (x := x) (n := n) d (k + 1) (by omega)
      refine ⟨e, by omega, e1, e2, fun j j0 j1 => ?_⟩
      by_cases q : j = k
      · rw [q]
        exact c
      · exact e3 j (by omega) j1
/-- a byte that no name has -/
theorem iA_ch {a : Int → Int} {x n bg k : Int} (h0 : x ≤ bg) (hb : bg = x ∨ a (bg - 1) = 47) (h1 : bg ≤ k) (hk : k < x + n) (h47 : ∀ j : Int, bg ≤ j → j < k → ¬ a j = 47) (hc : ¬ ch_ (a k)) (hn : ¬ a k = 47) : ¬ iA_ a x n := fun q => by
  obtain ⟨e, e0, e1, e2, e3⟩ := nx_ (a := a) (x := x) (n := n) (x + n - (k + 1)).toNat (k + 1) (by omega)
  have p := q.2.2 bg e h0 (by omega) e1 hb e2 (fun j j0 j1 => by
    by_cases c : j < k
    · exact h47 j j0 c
    · by_cases c2 : j = k
      · rw [c2]
        exact hn
      · exact e3 j (by omega) j1)
  exact hc (p.2.1 k h1 (by omega))
theorem iA_out {a : Int → Int} {x n : Int} (h : ¬ (1 ≤ n ∧ n ≤ 24)) : ¬ iA_ a x n := fun q => h ⟨q.1, q.2.1⟩
theorem iA_cong {a b : Int → Int} {x n : Int} (h : ∀ k : Int, x ≤ k → k < x + n → a k = b k) (q : iA_ a x n) : iA_ b x n := by
  obtain ⟨h0, h1, h2⟩ := q
  refine ⟨h0, h1, fun s e s0 s1 s2 s3 s4 s5 => ?_⟩
  have p := h2 s e s0 s1 s2 (by
    rcases s3 with r | r
    · exact Or.inl r
    · by_cases c : s = x
      · exact Or.inl c
      · exact Or.inr (by rw [h (s - 1) (by omega) (by omega)]; exact r)) (by
    rcases s4 with r | r
    · exact Or.inl r
    · by_cases c : e = x + n
      · exact Or.inl c
      · exact Or.inr (by rw [h e (by omega) (by omega)]; exact r)) (fun k k0 k1 => by rw [h k (by omega) (by omega)]; exact s5 k k0 k1)
  obtain ⟨p0, p1, p2⟩ := p
  refine ⟨p0, fun k k0 k1 => by rw [← h k (by omega) (by omega)]; exact p1 k k0 k1, fun r => p2 ⟨r.1, fun k k0 k1 => by rw [h k (by omega) (by omega)]; exact r.2 k k0 k1⟩⟩
/-- the class's count of dots -/
theorem pe_y {a : Int → Int} {b e d : Int} (h0 : b < e) (h1 : ∀ k : Int, b ≤ k → k < e → ch_ (a k)) (hd : (∀ k : Int, b ≤ k → k < e → a k = 46) → d = e - b) (h : d < e - b ∨ 2 < d) : pe_ a b e := ⟨h0, h1, fun q => by have := hd q.2; omega⟩
theorem pe_n {a : Int → Int} {b e d : Int} (hd : d = e - b → ∀ k : Int, b ≤ k → k < e → a k = 46) (h : ¬ b < e ∨ e - b ≤ d ∧ d ≤ 2) (hle : b < e → d ≤ e - b) : ¬ pe_ a b e := fun q => by
  have hl := hle q.1
  rcases h with r | r
  · exact r q.1
  · exact q.2.2 ⟨by omega, hd (by omega)⟩
theorem pe_c {a : Int → Int} {b e k : Int} (h0 : b ≤ k) (h1 : k < e) (hc : ¬ ch_ (a k)) : ¬ pe_ a b e := fun q => hc (q.2.1 k h0 h1)
theorem lq_st {P : Int → Prop} {b k k2 : Int} (h : ∀ j : Int, b ≤ j → j < k → P j) (e : k2 = k + 1) (h3 : P k) : ∀ j : Int, b ≤ j → j < k2 → P j := fun j h0 h1 => by
  by_cases c : j = k
  · rw [c]
    exact h3
  · exact h j h0 (by omega)
theorem dt_y {a : Int → Int} {b k k2 d d2 : Int} (h : d = k - b → ∀ j : Int, b ≤ j → j < k → a j = 46) (hle : d ≤ k - b) (e : k2 = k + 1) (hs : a k = 46 ∧ d2 = d + 1 ∨ ¬ a k = 46 ∧ d2 = d) : d2 = k2 - b → ∀ j : Int, b ≤ j → j < k2 → a j = 46 := fun q => lq_st (h (by omega)) e (by omega)
theorem dt_n {a : Int → Int} {b k k2 d d2 : Int} (h : (∀ j : Int, b ≤ j → j < k → a j = 46) → d = k - b) (hk : b ≤ k) (e : k2 = k + 1) (hs : a k = 46 ∧ d2 = d + 1 ∨ ¬ a k = 46 ∧ d2 = d) : (∀ j : Int, b ≤ j → j < k2 → a j = 46) → d2 = k2 - b := fun q => by
  have q1 := q k hk (by omega)
  have q2 := h (fun j j0 j1 => q j j0 (by omega))
  omega
/-- the reference's: a piece of bytes that names have -/
theorem pe_r {a : Int → Int} {b e : Int} (h0 : b < e) (h1 : ∀ k : Int, b ≤ k → k < e → ch_ (a k)) (hd : ¬ (e - b = 1 ∧ a b = 46 ∨ e - b = 2 ∧ a b = 46 ∧ a (b + 1) = 46)) : pe_ a b e := ⟨h0, h1, fun q => hd (by
  have q1 := q.2 b (Int.le_refl _) h0
  by_cases c : e - b = 1
  · exact Or.inl ⟨c, q1⟩
  · exact Or.inr ⟨by omega, q1, q.2 (b + 1) (by omega) (by omega)⟩)⟩
theorem pe_q {a : Int → Int} {b e : Int} (h : ¬ b < e ∨ (e - b = 1 ∧ a b = 46 ∨ e - b = 2 ∧ a b = 46 ∧ a (b + 1) = 46)) : ¬ pe_ a b e := fun q => by
  rcases h with r | ⟨r1, r2⟩ | ⟨r1, r2, r3⟩
  · exact r q.1
  · refine q.2.2 ⟨by omega, fun k k0 k1 => ?_⟩
    rw [show k = b by omega]
    exact r2
  · refine q.2.2 ⟨by omega, fun k k0 k1 => ?_⟩
    by_cases c : k = b
    · rw [c]
      exact r2
    · rw [show k = b + 1 by omega]
      exact r3
/-! NUMBERS OF A ROW -/
theorem or_nat (x y k : Nat) (h : x < 2 ^ k) : x ||| y * 2 ^ k = x + y * 2 ^ k := by
  rw [Nat.or_comm, ← Nat.shiftLeft_eq, ← Nat.shiftLeft_add_eq_or_of_lt h, Nat.add_comm]
theorem ti_orv {x y z : Int32} {a b c : Int} (k : Nat) (e : z = x ||| y) (hx : x.toInt = a) (hy : y.toInt = b * c) (hk : ((2 ^ k : Nat) : Int) = c) (a0 : 0 ≤ a) (a1 : a < c) (b0 : 0 ≤ b) : z.toInt = a + b * c := by
  subst e
  have hy0 : 0 ≤ y.toInt := by
    rw [hy]
    exact Int.mul_nonneg b0 (by omega)
  obtain ⟨i, hi, rfl⟩ := ti_nat (x := x) (by omega)
  obtain ⟨j, hj, rfl⟩ := ti_nat hy0
  rw [nI_toInt hi] at hx
  rw [nI_toInt hj] at hy
  obtain ⟨w, rfl⟩ : ∃ w : Nat, b = (w : Int) := ⟨b.toNat, by omega⟩
  subst hk hx
  have ej : j = w * 2 ^ k := by
    rw [← Int.natCast_mul] at hy
    exact Int.ofNat.inj hy
  subst ej
  rw [ti_orN hi hj, or_nat i w k (Int.ofNat_lt.mp a1), Int.natCast_add, Int.natCast_mul]
theorem tl_orv {x y z : Int64} {a b c : Int} (k : Nat) (e : z = x ||| y) (hx : x.toInt = a) (hy : y.toInt = b * c) (hk : ((2 ^ k : Nat) : Int) = c) (a0 : 0 ≤ a) (a1 : a < c) (b0 : 0 ≤ b) : z.toInt = a + b * c := by
  subst e
  have hy0 : 0 ≤ y.toInt := by
    rw [hy]
    exact Int.mul_nonneg b0 (by omega)
  obtain ⟨i, hi, rfl⟩ := tl_nat (x := x) (by omega)
  obtain ⟨j, hj, rfl⟩ := tl_nat hy0
  rw [pk_lT hi] at hx
  rw [pk_lT hj] at hy
  obtain ⟨w, rfl⟩ : ∃ w : Nat, b = (w : Int) := ⟨b.toNat, by omega⟩
  subst hk hx
  have ej : j = w * 2 ^ k := by
    rw [← Int.natCast_mul] at hy
    exact Int.ofNat.inj hy
  subst ej
  rw [tl_orN hi hj, or_nat i w k (Int.ofNat_lt.mp a1), Int.natCast_add, Int.natCast_mul]
theorem av_2 (f : Nat → Int32) (y : Int) : av f y 2 = bv f y + 256 * bv f (y + 1) := by
  rw [av, av, av]
  omega
theorem av4_2 (f : Nat → Int32) (y : Int) : av f y 4 = av f y 2 + 65536 * av f (y + 2) 2 := by
  rw [av_2, av_2, av, av, av, av, av, show y + 1 + 1 = y + 2 by omega, show y + 2 + 1 = y + 3 by omega]
  omega
theorem tw_avE {f : Nat → Int32} {x : Int} {z a b c d e : Int32} (e1 : z = a ||| b) (e2 : b = c <<< ((8 : Int32) &&& 31)) (e3 : c = d &&& 255) (e4 : d = gr f (x + 1)) (e5 : a = e &&& 255) (e6 : e = gr f x) : z.toInt = av f x 2 := by
  have ra := ti_and (m := 255) (b := 255) 8 e5 (by decide) (by decide)
  have rc := ti_and (m := 255) (b := 255) 8 e3 (by decide) (by decide)
  have hb := ti_shl (b := 256) e2 rfl 8 (by decide) (by decide) rc.1 (by omega)
  have h := ti_orv (c := 256) 8 e1 rfl hb (by decide) ra.1 (by omega) rc.1
  have ea : a.toInt = bv f x := by
    rw [e5, e6]
    rfl
  have ec : c.toInt = bv f (x + 1) := by
    rw [e3, e4]
    rfl
  rw [h, av_2, ea, ec]
  omega

/-- the sum of bytes -/
def cw_ (d : Int → Int32) : Nat → Int32
  | 0 => -1
  | m + 1 => cr_i 8 (cw_ d m ^^^ (d m &&& 255))
theorem cr_cw {f : Nat → Int32} {d : Int → Int32} {x : Int} : ∀ m : Nat, (∀ j : Int, 0 ≤ j → j < m → gr f (x + j) = d j) → cr_n f x m = cw_ d m
  | 0, _ => rfl
  | m + 1, h => by
    have ih := cr_cw (f := f) (d := d) (x := x) m (fun j h0 h1 => h j h0 (by omega))
    have e := h (m : Int) (by omega) (by omega)
    show cr_i 8 (cr_n f x m ^^^ (gr f (x + m) &&& 255)) = cr_i 8 (cw_ d m ^^^ (d m &&& 255))
    rw [ih, e]
theorem l2i_E {z : Int64} {w : Int32} {v : Int} (e : w = z.toInt32) (h : z.toInt = v) : w = Int32.ofInt v := by
  subst h
  rw [e]
  rfl
/-! THE FILE: the pure picture -/
def ap_ (f : Nat → Int32) (s : Int) (g : Nat → Int32) (t : Int) (K : List Int32) : Prop := t = s + (K.length : Int) ∧ (∀ j : Int, 0 ≤ j → j < s → gr g j = gr f j) ∧ ∀ k : Nat, k < K.length → K[k]? = some (gr g (s + (k : Int)))
theorem ap_nil {f : Nat → Int32} {s t : Int} (h : t = s) : ap_ f s f t [] := ⟨by
  show t = s + ((0 : Nat) : Int)
  omega, fun _ _ _ => rfl, fun k hk => absurd hk (Nat.not_lt_zero k)⟩
theorem ap_app {f g h : Nat → Int32} {s t u : Int} {K L : List Int32} (s0 : 0 ≤ s) (a : ap_ f s g t K) (b : ap_ g t h u L) : ap_ f s h u (K ++ L) := by
  obtain ⟨a1, a2, a3⟩ := a
  obtain ⟨b1, b2, b3⟩ := b
  refine ⟨by rw [List.length_append, Int.natCast_add]; omega, fun j j0 j1 => ?_, fun k hk => ?_⟩
  · rw [b2 j j0 (by omega), a2 j j0 j1]
  · rw [List.length_append] at hk
    by_cases c : k < K.length
    · rw [List.getElem?_append_left c, a3 k c, b2 _ (by omega) (by omega)]
    · rw [List.getElem?_append_right (by omega), b3 (k - K.length) (by omega)]
      exact congrArg (fun z => some (gr h z)) (by omega)
theorem ap_e {f g : Nat → Int32} {s t : Int} {K L : List Int32} (a : ap_ f s g t K) (e : K = L) : ap_ f s g t L := e ▸ a
theorem ap_1 {f g : Nat → Int32} {s t : Int} {v w : Int32} (ht : t = s + 1) (s0 : 0 ≤ s) (hg : ∀ j : Int, 0 ≤ j → gr g j = if j = s then v else gr f j) (e : v = w) : ap_ f s g t [w] := ⟨by
  show t = s + ((1 : Nat) : Int)
  omega, fun j j0 j1 => by rw [hg j j0, if_neg (by omega)], fun k hk => by
  have k1 : k < 1 := hk
  have k0 : k = 0 := by omega
  subst k0
  rw [hg _ (by omega), if_pos (by omega), e]
  rfl⟩
/-- a run of bytes -/
def bl_ (g : Nat → Int32) (y n : Int) : List Int32 := (List.range n.toNat).map (fun (k : Nat) => gr g (y + (k : Int)))
theorem bl_len (g : Nat → Int32) (y n : Int) : (bl_ g y n).length = n.toNat := by
  unfold bl_
  rw [List.length_map, List.length_range]
theorem bl_get {g : Nat → Int32} {y n : Int} {k : Nat} (h : k < n.toNat) : (bl_ g y n)[k]? = some (gr g (y + (k : Int))) := by
  unfold bl_
  rw [List.getElem?_map, List.getElem?_range h]
  rfl
theorem mp_ext {α β : Type} {f g : Nat → β} : ∀ {n : Nat}, (∀ k : Nat, k < n → f k = g k) → (List.range n).map f = (List.range n).map g := fun {n} h => List.map_congr_left (fun k hk => h k (List.mem_range.mp hk))
theorem bl_cg {f g : Nat → Int32} {x y n m : Int} (e : n = m) (h : ∀ k : Int, 0 ≤ k → k < n → gr f (x + k) = gr g (y + k)) : bl_ f x n = bl_ g y m := by
  subst e
  refine mp_ext (α := Nat) (fun k hk => ?_)
  exact h (k : Int) (by omega) (by omega)
theorem ap_bl {f g r : Nat → Int32} {s t n y : Int} (ht : t = s + n) (n0 : 0 ≤ n) (s0 : 0 ≤ s) (hg : ∀ j : Int, 0 ≤ j → gr g j = if s ≤ j ∧ j < s + n then gr r (y + (j - s)) else gr f j) : ap_ f s g t (bl_ r y n) := ⟨by
  rw [bl_len]
  omega, fun j j0 j1 => by rw [hg j j0, if_neg (by omega)], fun k hk => by
  rw [bl_len] at hk
  rw [bl_get hk, hg _ (by omega), if_pos (by omega)]
  exact congrArg (fun z => some (gr r z)) (by omega)⟩
/-- numbers, their lowest byte first -/
def nk_ (v : Int) : Nat → List Int32
  | 0 => []
  | k + 1 => nk_ v k ++ [by_ (v / ((256 ^ k : Nat) : Int))]
theorem nk_len (v : Int) : ∀ n : Nat, (nk_ v n).length = n
  | 0 => rfl
  | n + 1 => by
    show (nk_ v n ++ [by_ (v / ((256 ^ n : Nat) : Int))]).length = n + 1
    rw [List.length_append, nk_len v n]
    rfl
theorem nk_1 (v : Int) : nk_ v 1 = [by_ v] := by
  show [by_ (v / ((1 : Nat) : Int))] = [by_ v]
  rw [show v / ((1 : Nat) : Int) = v by omega]
theorem nk_2 (v : Int) : nk_ v 2 = [by_ v] ++ [by_ (v / 256)] := by
  show [by_ (v / ((1 : Nat) : Int)), by_ (v / ((256 : Nat) : Int))] = [by_ v, by_ (v / 256)]
  rw [show v / ((1 : Nat) : Int) = v by omega]
  rfl
theorem nk_4 (v : Int) : nk_ v 4 = nk_ v 2 ++ nk_ (v / 65536) 2 := by
  rw [nk_2, nk_2]
  show [by_ (v / ((1 : Nat) : Int)), by_ (v / ((256 : Nat) : Int)), by_ (v / ((65536 : Nat) : Int)), by_ (v / ((16777216 : Nat) : Int))] = [by_ v, by_ (v / 256), by_ (v / 65536), by_ (v / 65536 / 256)]
  rw [show v / ((1 : Nat) : Int) = v by omega, show v / 65536 / 256 = v / ((16777216 : Nat) : Int) by omega]
  rfl
theorem nk_42 {v : Int} (h0 : 0 ≤ v) (h1 : v < 65536) : nk_ v 4 = nk_ v 2 ++ nk_ 0 2 := by
  rw [nk_4, show v / 65536 = 0 by omega]
theorem nk_08 : nk_ 0 8 = nk_ 0 2 ++ nk_ 0 2 ++ nk_ 0 2 ++ nk_ 0 2 := rfl
theorem tb_c (w : Int64) {c : Int64} (n : Nat) (hv : (c.toBitVec.smod 64).toNat = n) : (w >>> c).toInt = w.toInt / ((2 ^ n : Nat) : Int) := by
  show (w.toBitVec.sshiftRight (c.toBitVec.smod 64).toNat).toInt = _
  rw [hv, BitVec.toInt_sshiftRight, Int.shiftRight_eq_div_pow]
  rfl
theorem tp_by {w : Int64} {k : Nat} (h : k ≤ 7) : tp_b w (k : Int) = by_ (w.toInt / ((256 ^ k : Nat) : Int)) := by
  unfold tp_b by_
  refine congrArg (fun z : Int32 => z.toInt8.toInt32) (l2i_E rfl ?_)
  rcases (show k = 0 ∨ k = 1 ∨ k = 2 ∨ k = 3 ∨ k = 4 ∨ k = 5 ∨ k = 6 ∨ k = 7 by omega) with rfl | rfl | rfl | rfl | rfl | rfl | rfl | rfl
  · exact tb_c w 0 (by decide)
  · exact tb_c w 8 (by decide)
  · exact tb_c w 16 (by decide)
  · exact tb_c w 24 (by decide)
  · exact tb_c w 32 (by decide)
  · exact tb_c w 40 (by decide)
  · exact tb_c w 48 (by decide)
  · exact tb_c w 56 (by decide)
theorem ap_nk {f g g2 : Nat → Int32} {s t t2 k k2 : Int} {v : Int32} {w : Int64} (s0 : 0 ≤ s) (h : ap_ f s g t (nk_ w.toInt k.toNat)) (k0 : 0 ≤ k) (k7 : k ≤ 7) (h2 : ∀ j : Int, 0 ≤ j → gr g2 j = if j = t then v.toInt8.toInt32 else gr g j) (hv : v.toInt8.toInt32 = tp_b w k) (ht : t2 = t + 1) (hk : k2 = k + 1) : ap_ f s g2 t2 (nk_ w.toInt k2.toNat) := by
  have tt : 0 ≤ t := by have := h.1; omega
  have e : tp_b w k = by_ (w.toInt / ((256 ^ k.toNat : Nat) : Int)) := by
    have q := tp_by (w := w) (k := k.toNat) (by omega)
    rw [show ((k.toNat : Nat) : Int) = k by omega] at q
    exact q
  rw [show k2.toNat = k.toNat + 1 by omega]
  exact ap_app s0 h (ap_1 ht tt h2 (hv.trans e))
