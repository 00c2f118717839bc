/-- what holds of a shelf: its count, the sizes of the names, the begins -/
def sh_I (c : Int) (z g : Nat → Int32) : Prop := 0 ≤ c ∧ c ≤ 16 ∧ gx g 0 = 0 ∧ gx g c ≤ 12000 ∧ ∀ k : Int, 0 ≤ k → k < c → gx g k ≤ gx g (k + 1) ∧ gx g (k + 1) ≤ gx g k + 4000 ∧ 1 ≤ gx z k ∧ gx z k ≤ 24
theorem sh_nil {z g : Nat → Int32} (h : gx g 0 = 0) : sh_I 0 z g := ⟨by omega, by omega, h, by omega, fun k h1 h2 => absurd h2 (by omega)⟩
theorem sh_mono {c : Int} {z g : Nat → Int32} (h : sh_I c z g) : ∀ (n : Nat) (k : Int), 0 ≤ k → k + n ≤ c → gx g k ≤ gx g (k + n)
  | 0, k, _, _ => by rw [show k + ((0 : Nat) : Int) = k by omega]; exact Int.le_refl _
  | n + 1, k, h0, h1 => by
    have a := sh_mono h n k h0 (by omega)
    have b := h.2.2.2.2 (k + n) (by omega) (by omega)
    rw [show k + ((n + 1 : Nat) : Int) = k + n + 1 by omega]
    omega
theorem sh_le {c : Int} {z g : Nat → Int32} (h : sh_I c z g) {j k : Int} (h0 : 0 ≤ j) (h1 : j ≤ k) (h2 : k ≤ c) : gx g j ≤ gx g k := by
  have a := sh_mono h (k - j).toNat j h0 (by omega)
  rwa [show j + ((k - j).toNat : Int) = k by omega] at a
theorem sh_rng {c : Int} {z g : Nat → Int32} (h : sh_I c z g) {k : Int} (h0 : 0 ≤ k) (h1 : k ≤ c) : 0 ≤ gx g k ∧ gx g k ≤ gx g c ∧ gx g c ≤ 12000 := by
  have a := sh_le h (Int.le_refl 0) h0 h1
  have b := sh_le h h0 h1 (Int.le_refl c)
  have d := h.2.2.1
  exact ⟨by omega, b, h.2.2.2.1⟩
/-- a part is taken out -/
theorem sh_out {c i : Int} {z g z' g' : Nat → Int32} (h : sh_I c z g) (hi : 0 ≤ i) (hc : i < c) (hz : ∀ j, 0 ≤ j → gx z' j = if i ≤ j ∧ j < c - 1 then gx z (j + 1) else gx z j)
    (hg : ∀ j, 0 ≤ j → gx g' j = if i ≤ j ∧ j < c then gx g (j + 1) - (gx g (i + 1) - gx g i) else gx g j) : sh_I (c - 1) z' g' ∧ gx g' (c - 1) = gx g c - (gx g (i + 1) - gx g i) := by
  obtain ⟨h1, h2, h3, h4, h5⟩ := h
  have hi5 := h5 i hi hc
  have e1 : gx g' (c - 1) = gx g c - (gx g (i + 1) - gx g i) := by
    rw [hg (c - 1) (by omega), if_pos (by omega), show c - 1 + 1 = c by omega]
  refine ⟨⟨by omega, by omega, ?_, by omega, ?_⟩, e1⟩
  · rw [hg 0 (by omega)]
    split
    · have : i = 0 := by omega
      subst this
      rw [show (0 : Int) + 1 = 1 by omega] at *
      omega
    · exact h3
  · intro k k0 k1
    have a := hg k k0
    have b := hg (k + 1) (by omega)
    have d := hz k k0
    have f1 := h5 k k0 (by omega)
    have f2 := h5 (k + 1) (by omega) (by omega)
    by_cases g1 : i ≤ k
    · rw [if_pos (by omega)] at a b d
      rw [a, b, d]
      omega
    · rw [if_neg (by omega)] at a d
      by_cases g2 : k + 1 = i
      · rw [if_pos (by omega)] at b
        rw [a, b, d]
        subst g2
        omega
      · rw [if_neg (by omega)] at b
        rw [a, b, d]
        omega
/-- a part is brought in -/
theorem sh_in {c i n s : Int} {z g z' g' : Nat → Int32} (h : sh_I c z g) (hi : 0 ≤ i) (hc : i ≤ c) (h16 : c < 16) (hn : 1 ≤ n ∧ n ≤ 24) (hs : 0 ≤ s ∧ s ≤ 4000) (hr : gx g c + s ≤ 12000)
    (hz : ∀ j, 0 ≤ j → gx z' j = if j = i then n else if i < j ∧ j ≤ c then gx z (j - 1) else gx z j)
    (hg : ∀ j, 0 ≤ j → gx g' j = if i < j ∧ j ≤ c + 1 then gx g (j - 1) + s else gx g j) : sh_I (c + 1) z' g' ∧ gx g' (c + 1) = gx g c + s := by
  obtain ⟨h1, h2, h3, h4, h5⟩ := h
  have e1 : gx g' (c + 1) = gx g c + s := by
    rw [hg (c + 1) (by omega), if_pos (by omega), show c + 1 - 1 = c by omega]
  refine ⟨⟨by omega, by omega, ?_, by omega, ?_⟩, e1⟩
  · rw [hg 0 (by omega), if_neg (by omega)]
    exact h3
  · intro k k0 k1
    have a := hg k k0
    have b := hg (k + 1) (by omega)
    have d := hz k k0
    rw [show k + 1 - 1 = k by omega] at b
    by_cases g1 : k < i
    · have f1 := h5 k k0 (by omega)
      rw [if_neg (by omega)] at a b
      rw [if_neg (by omega), if_neg (by omega)] at d
      rw [a, b, d]
      exact f1
    · by_cases g2 : k = i
      · rw [if_neg (by omega)] at a
        rw [if_pos (by omega)] at b
        rw [if_pos g2] at d
        rw [a, b, d]
        omega
      · have f1 := h5 (k - 1) (by omega) (by omega)
        rw [show k - 1 + 1 = k by omega] at f1
        rw [if_pos (by omega)] at a b
        rw [if_neg g2, if_pos (by omega)] at d
        rw [a, b, d]
        omega
theorem sh_zout {z : Nat → Int32} {sp dp n : Int32} {i c : Int} (h1 : sp.toInt = i + 1) (h2 : dp.toInt = i) (h3 : n.toInt = c - i - 1) (hi : 0 ≤ i) (hc : i < c) : ∀ j, 0 ≤ j → gx (va_cpy z z sp.toNatClampNeg dp.toNatClampNeg n.toNatClampNeg) j = if i ≤ j ∧ j < c - 1 then gx z (j + 1) else gx z j := fun j hj => by
  rw [gx_cpy h1 h2 h3 j (by omega) hi (by omega) hj]
  by_cases w : i ≤ j ∧ j < c - 1
  · rw [if_pos (by omega), if_pos w, show i + 1 + (j - i) = j + 1 by omega]
  · rw [if_neg (by omega), if_neg w]
theorem sh_gstep {i k2 go : Int} {g gg : Nat → Int32} {k v : Int32} (h : ∀ j, 0 ≤ j → gx gg j = if i ≤ j ∧ j < k.toInt then gx g (j + 1) - go else gx g j) (h0 : 0 ≤ k.toInt) (h1 : i ≤ k.toInt) (h2 : k2 = k.toInt + 1) (hv : v.toInt = gx g (k.toInt + 1) - go) : ∀ j, 0 ≤ j → gx (upd gg k.toNatClampNeg v) j = if i ≤ j ∧ j < k2 then gx g (j + 1) - go else gx g j := fun j hj => by
  rw [gx_upd rfl j h0 hj]
  by_cases w : j = k.toInt
  · rw [if_pos w, if_pos (by omega), hv, w]
  · rw [if_neg w, h j hj]
    by_cases w2 : i ≤ j ∧ j < k.toInt
    · rw [if_pos w2, if_pos (by omega)]
    · rw [if_neg w2, if_neg (by omega)]
theorem sh_zin {z : Nat → Int32} {sp dp n : Int32} {i c : Int} (h1 : sp.toInt = i) (h2 : dp.toInt = i + 1) (h3 : n.toInt = c - i) (hi : 0 ≤ i) (hc : i ≤ c) : ∀ j, 0 ≤ j → gx (va_cpy z z sp.toNatClampNeg dp.toNatClampNeg n.toNatClampNeg) j = if i < j ∧ j ≤ c then gx z (j - 1) else gx z j := fun j hj => by
  rw [gx_cpy h1 h2 h3 j hi (by omega) (by omega) hj]
  by_cases w : i < j ∧ j ≤ c
  · rw [if_pos (by omega), if_pos w, show i + (j - (i + 1)) = j - 1 by omega]
  · rw [if_neg (by omega), if_neg w]
theorem sh_istep {c k1 k2 s : Int} {g gg : Nat → Int32} {ix v : Int32} (h : ∀ j, 0 ≤ j → gx gg j = if k1 + 1 < j ∧ j ≤ c + 1 then gx g (j - 1) + s else gx g j) (h0 : 0 ≤ k1) (hx : ix.toInt = k1 + 1) (hc : k1 ≤ c) (h2 : k2 = k1 - 1) (hv : v.toInt = gx g k1 + s) : ∀ j, 0 ≤ j → gx (upd gg ix.toNatClampNeg v) j = if k2 + 1 < j ∧ j ≤ c + 1 then gx g (j - 1) + s else gx g j := fun j hj => by
  rw [gx_upd hx j (by omega) hj]
  by_cases w : j = k1 + 1
  · rw [if_pos w, if_pos (by omega), hv, w, show k1 + 1 - 1 = k1 by omega]
  · rw [if_neg w, h j hj]
    by_cases w2 : k1 + 1 < j ∧ j ≤ c + 1
    · rw [if_pos w2, if_pos (by omega)]
    · rw [if_neg w2, if_neg (by omega)]
theorem sh_zlast {c i n : Int} {z zz : Nat → Int32} {ix v : Int32} (h : ∀ j, 0 ≤ j → gx zz j = if i < j ∧ j ≤ c then gx z (j - 1) else gx z j) (hx : ix.toInt = i) (h0 : 0 ≤ i) (hv : v.toInt = n) : ∀ j, 0 ≤ j → gx (upd zz ix.toNatClampNeg v) j = if j = i then n else if i < j ∧ j ≤ c then gx z (j - 1) else gx z j := fun j hj => by
  rw [gx_upd hx j h0 hj]
  by_cases w : j = i
  · rw [if_pos w, if_pos w, hv]
  · rw [if_neg w, if_neg w, h j hj]

/-! THE PARTS: what is on a shelf, whichever way it is kept: (how many, sizes of names, names, sizes, bytes) -/
abbrev VW_ := Int × (Int → Int) × (Int → Int → Int) × (Int → Int) × (Int → Int → Int32)
def vC (V : VW_) : Int := V.1
def vZ (V : VW_) (i : Int) : Int := V.2.1 i
def vN (V : VW_) (i k : Int) : Int := V.2.2.1 i k
def vS (V : VW_) (i : Int) : Int := V.2.2.2.1 i
def vD (V : VW_) (i k : Int) : Int32 := V.2.2.2.2 i k
/-- part i has this name -/
def nE_ (V : VW_) (i m : Int) (a : Int → Int) : Prop := vZ V i = m ∧ ∀ k : Int, 0 ≤ k → k < m → vN V i k = a k
/-- a name stands before another -/
def lx_ (a : Int → Int) (m : Int) (b : Int → Int) (n : Int) : Prop := ∃ k : Int, 0 ≤ k ∧ (∀ j : Int, 0 ≤ j → j < k → a j = b j) ∧ ((k < m ∧ k < n ∧ a k < b k) ∨ (k = m ∧ m < n))
theorem lx_asym {a b : Int → Int} {m n : Int} (h : lx_ a m b n) (h2 : lx_ b n a m) : False := by
  obtain ⟨k, k0, k1, k2⟩ := h
  obtain ⟨j, j0, j1, j2⟩ := h2
  rcases Int.lt_trichotomy k j with c | c | c
  · have e := j1 k k0 c
    omega
  · subst c
    omega
  · have e := k1 j j0 c
    omega
theorem lx_ne {a b : Int → Int} {m n : Int} (h : lx_ a m b n) (e : m = n) (e2 : ∀ k : Int, 0 ≤ k → k < m → a k = b k) : False := by
  obtain ⟨k, k0, k1, k2⟩ := h
  rcases k2 with ⟨q1, q2, q3⟩ | ⟨q1, q2⟩
  · have e3 := e2 k k0 q1
    omega
  · omega
theorem fd_ (a b : Int → Int) : ∀ t : Nat, (∀ j : Int, 0 ≤ j → j < t → a j = b j) ∨ ∃ k : Int, 0 ≤ k ∧ k < t ∧ (∀ j : Int, 0 ≤ j → j < k → a j = b j) ∧ ¬ a k = b k
  | 0 => Or.inl (fun j h0 h1 => absurd h1 (by omega))
  | t + 1 => by
    rcases fd_ a b t with h | ⟨k, h0, h1, h2, h3⟩
    · by_cases c : a (t : Int) = b (t : Int)
      · refine Or.inl (fun j h0 h1 => ?_)
        by_cases e : j = t
        · rw [e, c]
        · exact h j h0 (by omega)
      · exact Or.inr ⟨(t : Int), by omega, by omega, h, c⟩
    · exact Or.inr ⟨k, h0, by omega, h2, h3⟩
theorem lx_tri (a b : Int → Int) {m n : Int} (hm : 0 ≤ m) (hn : 0 ≤ n) : (m = n ∧ ∀ k : Int, 0 ≤ k → k < m → a k = b k) ∨ lx_ a m b n ∨ lx_ b n a m := by
  rcases fd_ a b (if m < n then m else n).toNat with h | ⟨k, h0, h1, h2, h3⟩
  · rcases Int.lt_trichotomy m n with c | c | c
    · rw [if_pos c] at h
      exact Or.inr (Or.inl ⟨m, hm, fun j j0 j1 => h j j0 (by omega), Or.inr ⟨rfl, c⟩⟩)
    · rw [if_neg (by omega)] at h
      exact Or.inl ⟨c, fun j j0 j1 => h j j0 (by omega)⟩
    · rw [if_neg (by omega)] at h
      exact Or.inr (Or.inr ⟨n, hn, fun j j0 j1 => (h j j0 (by omega)).symm, Or.inr ⟨rfl, c⟩⟩)
  · have h4 : k < m ∧ k < n := by
      split at h1 <;> omega
    rcases Int.lt_trichotomy (a k) (b k) with c | c | c
    · exact Or.inr (Or.inl ⟨k, h0, h2, Or.inl ⟨h4.1, h4.2, c⟩⟩)
    · exact absurd c h3
    · exact Or.inr (Or.inr ⟨k, h0, fun j j0 j1 => (h2 j j0 j1).symm, Or.inl ⟨h4.2, h4.1, c⟩⟩)
theorem lx_trans {a b c : Int → Int} {m n o : Int} (h : lx_ a m b n) (h2 : lx_ b n c o) : lx_ a m c o := by
  obtain ⟨k, k0, k1, k2⟩ := h
  obtain ⟨j, j0, j1, j2⟩ := h2
  rcases Int.lt_trichotomy k j with q | q | q
  · have e := j1 k k0 q
    exact ⟨k, k0, fun i i0 i1 => (k1 i i0 i1).trans (j1 i i0 (by omega)), by omega⟩
  · subst q
    exact ⟨k, k0, fun i i0 i1 => (k1 i i0 i1).trans (j1 i i0 i1), by omega⟩
  · have e := k1 j j0 q
    exact ⟨j, j0, fun i i0 i1 => (k1 i i0 (by omega)).trans (j1 i i0 i1), by omega⟩
/-- names in their order; the place of a name -/
def srt_ (V : VW_) : Prop := ∀ i j : Int, 0 ≤ i → i < j → j < vC V → lx_ (vN V i) (vZ V i) (vN V j) (vZ V j)
def isP_ (V : VW_) (m : Int) (a : Int → Int) (r : Int) : Prop := 0 ≤ r ∧ r ≤ vC V ∧ (∀ i : Int, 0 ≤ i → i < r → lx_ (vN V i) (vZ V i) a m) ∧ ∀ i : Int, r ≤ i → i < vC V → lx_ a m (vN V i) (vZ V i)
theorem isP_u {V : VW_} {m r s : Int} {a : Int → Int} (h : isP_ V m a r) (k : isP_ V m a s) : r = s := by
  obtain ⟨h0, h1, h2, h3⟩ := h
  obtain ⟨k0, k1, k2, k3⟩ := k
  rcases Int.lt_trichotomy r s with c | c | c
  · exact (lx_asym (k2 r h0 c) (h3 r (by omega) (by omega))).elim
  · exact c
  · exact (lx_asym (h2 s k0 c) (k3 s (by omega) (by omega))).elim
theorem isP_C {V : VW_} {m r : Int} {a : Int → Int} (hs : srt_ V) (hz : ∀ i : Int, 0 ≤ i → i < vC V → 0 ≤ vZ V i) (hm : 0 ≤ m) (hn : ∀ i : Int, 0 ≤ i → i < vC V → ¬ nE_ V i m a) (h0 : 0 ≤ r) (h1 : r ≤ vC V) (hl : ∀ i : Int, 0 ≤ i → i < r → lx_ (vN V i) (vZ V i) a m) (hr : r < vC V → ¬ lx_ (vN V r) (vZ V r) a m) : isP_ V m a r := by
  refine ⟨h0, h1, hl, fun i i0 i1 => ?_⟩
  have g : lx_ a m (vN V r) (vZ V r) := by
    rcases lx_tri (vN V r) a (hz r h0 (by omega)) hm with q | q | q
    · exact absurd ⟨q.1, fun k k0 k1 => q.2 k k0 (by omega)⟩ (hn r h0 (by omega))
    · exact absurd q (hr (by omega))
    · exact q
  by_cases c : i = r
  · rw [c]
    exact g
  · exact lx_trans g (hs r i h0 (by omega) i1)
theorem isP_M {V : VW_} {m r : Int} {a : Int → Int} (hs : srt_ V) (hz : ∀ i : Int, 0 ≤ i → i < vC V → 0 ≤ vZ V i) (hm : 0 ≤ m) (hn : ∀ i : Int, 0 ≤ i → i < vC V → ¬ nE_ V i m a) (h0 : 0 ≤ r) (h1 : r ≤ vC V) (hg : ∀ i : Int, r ≤ i → i < vC V → lx_ a m (vN V i) (vZ V i)) (hr : 0 < r → ¬ lx_ a m (vN V (r - 1)) (vZ V (r - 1))) : isP_ V m a r := by
  refine ⟨h0, h1, fun i i0 i1 => ?_, hg⟩
  have g : lx_ (vN V (r - 1)) (vZ V (r - 1)) a m := by
    rcases lx_tri (vN V (r - 1)) a (hz (r - 1) (by omega) (by omega)) hm with q | q | q
    · exact absurd ⟨q.1, fun k k0 k1 => q.2 k k0 (by omega)⟩ (hn (r - 1) (by omega) (by omega))
    · exact q
    · exact absurd q (hr (by omega))
  by_cases c : i = r - 1
  · rw [c]
    exact g
  · exact lx_trans (hs i (r - 1) i0 (by omega) (by omega)) g
/-- which part has a name, or none -/
def isF_ (V : VW_) (m : Int) (a : Int → Int) (r : Int) : Prop := (0 ≤ r ∧ r < vC V ∧ nE_ V r m a) ∨ (r = -1 ∧ ∀ i : Int, 0 ≤ i → i < vC V → ¬ nE_ V i m a)
theorem nE_u {V : VW_} {m i j : Int} {a : Int → Int} (hs : srt_ V) (i0 : 0 ≤ i) (i1 : i < vC V) (j0 : 0 ≤ j) (j1 : j < vC V) (h : nE_ V i m a) (k : nE_ V j m a) : i = j := by
  have same : ∀ x y : Int, nE_ V x m a → nE_ V y m a → lx_ (vN V x) (vZ V x) (vN V y) (vZ V y) → False := fun x y hx hy hl =>
    lx_ne hl (hx.1.trans hy.1.symm) (fun q q0 q1 => by have := hx.1; rw [hx.2 q q0 (by omega), hy.2 q q0 (by omega)])
  rcases Int.lt_trichotomy i j with c | c | c
  · exact (same i j h k (hs i j i0 c j1)).elim
  · exact c
  · exact (same j i k h (hs j i j0 c i1)).elim
theorem isF_u {V : VW_} {m r s : Int} {a : Int → Int} (hs : srt_ V) (h : isF_ V m a r) (k : isF_ V m a s) : r = s := by
  rcases h with ⟨h0, h1, h2⟩ | ⟨h0, h1⟩
  · rcases k with ⟨k0, k1, k2⟩ | ⟨k0, k1⟩
    · exact nE_u hs h0 h1 k0 k1 h2 k2
    · exact absurd h2 (k1 r h0 (by omega))
  · rcases k with ⟨k0, k1, k2⟩ | ⟨k0, k1⟩
    · exact absurd k2 (h1 s k0 (by omega))
    · omega
/-- a part more, a part less, another one in its place -/
def vi_ {α : Type} (i : Int) (x : α) (f : Int → α) : Int → α := fun j => if j < i then f j else if j = i then x else f (j - 1)
def vo_ {α : Type} (i : Int) (f : Int → α) : Int → α := fun j => if j < i then f j else f (j + 1)
def vs_ {α : Type} (i : Int) (x : α) (f : Int → α) : Int → α := fun j => if j = i then x else f j
theorem vi_lo {α : Type} {i j : Int} {x : α} {f : Int → α} (h : j < i) : vi_ i x f j = f j := if_pos h
theorem vi_at {α : Type} {i j : Int} {x : α} {f : Int → α} (h : j = i) : vi_ i x f j = x := by
  unfold vi_
  rw [if_neg (by omega), if_pos h]
theorem vi_hi {α : Type} {i j : Int} {x : α} {f : Int → α} (h : i < j) : vi_ i x f j = f (j - 1) := by
  unfold vi_
  rw [if_neg (by omega), if_neg (by omega)]
theorem vo_lo {α : Type} {i j : Int} {f : Int → α} (h : j < i) : vo_ i f j = f j := if_pos h
theorem vo_hi {α : Type} {i j : Int} {f : Int → α} (h : i ≤ j) : vo_ i f j = f (j + 1) := if_neg (by omega)
theorem vi_vo {α : Type} (i : Int) (x : α) (f : Int → α) : vi_ i x (vo_ i f) = vs_ i x f := by
  funext j
  unfold vs_
  rcases Int.lt_trichotomy j i with c | c | c
  · rw [vi_lo c, vo_lo c, if_neg (by omega)]
  · rw [vi_at c, if_pos c]
  · rw [vi_hi c, vo_hi (by omega), if_neg (by omega), show j - 1 + 1 = j by omega]
def vin_ (V : VW_) (r m : Int) (a : Int → Int) (n : Int) (d : Int → Int32) : VW_ := (V.1 + 1, vi_ r m V.2.1, vi_ r a V.2.2.1, vi_ r n V.2.2.2.1, vi_ r d V.2.2.2.2)
def vou_ (V : VW_) (i : Int) : VW_ := (V.1 - 1, vo_ i V.2.1, vo_ i V.2.2.1, vo_ i V.2.2.2.1, vo_ i V.2.2.2.2)
def vse_ (V : VW_) (i m : Int) (a : Int → Int) (n : Int) (d : Int → Int32) : VW_ := (V.1, vs_ i m V.2.1, vs_ i a V.2.2.1, vs_ i n V.2.2.2.1, vs_ i d V.2.2.2.2)
theorem vin_vou (V : VW_) (i m : Int) (a : Int → Int) (n : Int) (d : Int → Int32) : vin_ (vou_ V i) i m a n d = vse_ V i m a n d := by
  unfold vin_ vou_ vse_
  show (V.1 - 1 + 1, vi_ i m (vo_ i V.2.1), vi_ i a (vo_ i V.2.2.1), vi_ i n (vo_ i V.2.2.2.1), vi_ i d (vo_ i V.2.2.2.2)) = _
  rw [vi_vo, vi_vo, vi_vo, vi_vo, show V.1 - 1 + 1 = V.1 by omega]
theorem srt_in {V : VW_} {r m n : Int} {a : Int → Int} {d : Int → Int32} (hs : srt_ V) (hp : isP_ V m a r) : srt_ (vin_ V r m a n d) := by
  obtain ⟨p0, p1, p2, p3⟩ := hp
  intro i j i0 ij jc
  have jc' : j < V.1 + 1 := jc
  show lx_ (vi_ r a V.2.2.1 i) (vi_ r m V.2.1 i) (vi_ r a V.2.2.1 j) (vi_ r m V.2.1 j)
  rcases Int.lt_trichotomy i r with c | c | c
  · rw [vi_lo c, vi_lo c]
    rcases Int.lt_trichotomy j r with e | e | e
    · rw [vi_lo e, vi_lo e]
      exact hs i j i0 ij (by show j < V.1; have : r ≤ V.1 := p1; omega)
    · rw [vi_at e, vi_at e]
      exact p2 i i0 c
    · rw [vi_hi e, vi_hi e]
      exact hs i (j - 1) i0 (by omega) (by show j - 1 < V.1; omega)
  · rw [vi_at c, vi_at c, vi_hi (show r < j by omega), vi_hi (show r < j by omega)]
    exact p3 (j - 1) (by omega) (by show j - 1 < V.1; omega)
  · rw [vi_hi c, vi_hi c, vi_hi (show r < j by omega), vi_hi (show r < j by omega)]
    exact hs (i - 1) (j - 1) (by omega) (by omega) (by show j - 1 < V.1; omega)
theorem srt_ou {V : VW_} {q : Int} (hs : srt_ V) (q0 : 0 ≤ q) : srt_ (vou_ V q) := by
  intro i j i0 ij jc
  have jc' : j < V.1 - 1 := jc
  show lx_ (vo_ q V.2.2.1 i) (vo_ q V.2.1 i) (vo_ q V.2.2.1 j) (vo_ q V.2.1 j)
  by_cases c : i < q
  · rw [vo_lo c, vo_lo c]
    by_cases e : j < q
    · rw [vo_lo e, vo_lo e]
      exact hs i j i0 ij (by show j < V.1; omega)
    · rw [vo_hi (by omega), vo_hi (by omega)]
      exact hs i (j + 1) i0 (by omega) (by show j + 1 < V.1; omega)
  · rw [vo_hi (show q ≤ i by omega), vo_hi (show q ≤ i by omega), vo_hi (show q ≤ j by omega), vo_hi (show q ≤ j by omega)]
    exact hs (i + 1) (j + 1) (by omega) (by omega) (by show j + 1 < V.1; omega)
/-- a part that goes out and comes again under its name comes to its place -/
theorem isP_re {V : VW_} {m q : Int} {a : Int → Int} (hs : srt_ V) (q0 : 0 ≤ q) (q1 : q < vC V) (h : nE_ V q m a) : isP_ (vou_ V q) m a q := by
  have tr : ∀ {x y : Int → Int} {k l : Int}, lx_ x k y l → ∀ {y2 : Int → Int} {l2 : Int}, l = l2 → (∀ j : Int, 0 ≤ j → j < l → y j = y2 j) → lx_ x k y2 l2 := fun {x y k l} hx {y2 l2} e e2 => by
    subst e
    obtain ⟨t, t0, t1, t2⟩ := hx
    rcases t2 with ⟨u1, u2, u3⟩ | ⟨u1, u2⟩
    · exact ⟨t, t0, fun j j0 j1 => (t1 j j0 j1).trans (e2 j j0 (by omega)), Or.inl ⟨u1, u2, by rw [← e2 t t0 u2]; exact u3⟩⟩
    · exact ⟨t, t0, fun j j0 j1 => (t1 j j0 j1).trans (e2 j j0 (by omega)), Or.inr ⟨u1, u2⟩⟩
  have tl : ∀ {x y : Int → Int} {k l : Int}, lx_ x k y l → ∀ {x2 : Int → Int} {k2 : Int}, k = k2 → (∀ j : Int, 0 ≤ j → j < k → x j = x2 j) → lx_ x2 k2 y l := fun {x y k l} hx {x2 k2} e e2 => by
    subst e
    obtain ⟨t, t0, t1, t2⟩ := hx
    rcases t2 with ⟨u1, u2, u3⟩ | ⟨u1, u2⟩
    · exact ⟨t, t0, fun j j0 j1 => (e2 j j0 (by omega)).symm.trans (t1 j j0 j1), Or.inl ⟨u1, u2, by rw [← e2 t t0 u1]; exact u3⟩⟩
    · exact ⟨t, t0, fun j j0 j1 => (e2 j j0 (by omega)).symm.trans (t1 j j0 j1), Or.inr ⟨u1, u2⟩⟩
  have e0 := h.1
  refine ⟨q0, by show q ≤ V.1 - 1; have : q < V.1 := q1; omega, fun i i0 i1 => ?_, fun i i0 i1 => ?_⟩
  · show lx_ (vo_ q V.2.2.1 i) (vo_ q V.2.1 i) a m
    rw [vo_lo i1, vo_lo i1]
    exact tr (hs i q i0 i1 q1) e0 (fun j j0 j1 => h.2 j j0 (by omega))
  · have i1' : i < V.1 - 1 := i1
    show lx_ a m (vo_ q V.2.2.1 i) (vo_ q V.2.1 i)
    rw [vo_hi i0, vo_hi i0]
    exact tl (hs q (i + 1) q0 (by omega) (by show i + 1 < V.1; omega)) e0 (fun j j0 j1 => h.2 j j0 (by omega))
/-- all bytes -/
def sv_ (f : Int → Int) : Nat → Int
  | 0 => 0
  | n + 1 => sv_ f n + f (n : Int)
def vT (V : VW_) : Int := sv_ V.2.2.2.1 V.1.toNat
theorem sv_s {f : Int → Int} {k m : Int} (h : 0 ≤ k) (hm : m = k + 1) : sv_ f m.toNat = sv_ f k.toNat + f k := by
  subst hm
  rw [show (k + 1).toNat = k.toNat + 1 by omega, sv_, show ((k.toNat : Nat) : Int) = k by omega]
/-- as the class keeps them -/
def rC_ (c : Int) (fn fz fb fg : Nat → Int32) (V : VW_) : Prop := c = vC V ∧ ∀ i : Int, 0 ≤ i → i < c → gx fz i = vZ V i ∧ gx fg (i + 1) - gx fg i = vS V i ∧ (∀ k : Int, 0 ≤ k → k < vZ V i → gx fn (24 * i + k) = vN V i k) ∧ ∀ k : Int, 0 ≤ k → k < vS V i → gr fb (gx fg i + k) = vD V i k
/-- as the reference keeps them, from b on -/
def rM_ (b c : Int) (z n s d : Nat → Int32) (V : VW_) : Prop := c = vC V ∧ ∀ i : Int, 0 ≤ i → i < c → gx z (b + i) = vZ V i ∧ gx s (b + i) = vS V i ∧ (∀ k : Int, 0 ≤ k → k < vZ V i → gx n (24 * (b + i) + k) = vN V i k) ∧ ∀ k : Int, 0 ≤ k → k < vS V i → gr d (4000 * (b + i) + k) = vD V i k
theorem rC_T {c : Int} {fn fz fb fg : Nat → Int32} {V : VW_} (h : rC_ c fn fz fb fg V) (h0 : gx fg 0 = 0) : ∀ n : Nat, (n : Int) ≤ c → gx fg (n : Int) = sv_ V.2.2.2.1 n
  | 0, _ => h0
  | n + 1, hn => by
    have ih := rC_T h h0 n (by omega)
    have e := (h.2 (n : Int) (by omega) (by omega)).2.1
    have e2 : vS V (n : Int) = V.2.2.2.1 (n : Int) := rfl
    rw [sv_, ← ih, ← e2, ← e, show ((n + 1 : Nat) : Int) = (n : Int) + 1 by omega]
    omega
theorem rC_all {c : Int} {fn fz fb fg : Nat → Int32} {V : VW_} (h : rC_ c fn fz fb fg V) (I : sh_I c fz fg) : gx fg c = vT V := by
  have e := rC_T h I.2.2.1 c.toNat (by have := I.1; omega)
  have e1 : c = V.1 := h.1
  unfold vT
  rw [← e1, ← e]
  congr 1
  have := I.1
  omega
theorem rC_nil {fn fz fb fg : Nat → Int32} {V : VW_} (h : vC V = 0) : rC_ 0 fn fz fb fg V := ⟨h.symm, fun i h0 h1 => absurd h1 (by omega)⟩
/-- a part goes out of the class's shelf -/
theorem rC_out {c i : Int} {fn fz fb fg fn' fz' fb' fg' : Nat → Int32} {V : VW_} (h : rC_ c fn fz fb fg V) (I : sh_I c fz fg) (i0 : 0 ≤ i) (i1 : i < c) (hz : ∀ j, 0 ≤ j → gx fz' j = if i ≤ j ∧ j < c - 1 then gx fz (j + 1) else gx fz j) (hg : ∀ j, 0 ≤ j → gx fg' j = if i ≤ j ∧ j < c then gx fg (j + 1) - (gx fg (i + 1) - gx fg i) else gx fg j) (hn : ∀ j : Int, 0 ≤ j → gx fn' j = if 24 * i ≤ j ∧ j < 24 * (c - 1) then gx fn (j + 24) else gx fn j) (hb : ∀ j : Int, 0 ≤ j → gr fb' j = if gx fg i ≤ j ∧ j < gx fg c - (gx fg (i + 1) - gx fg i) then gr fb (j + (gx fg (i + 1) - gx fg i)) else gr fb j) : rC_ (c - 1) fn' fz' fb' fg' (vou_ V i) := by
  obtain ⟨e, h⟩ := h
  have e' : c = V.1 := e
  refine ⟨by show c - 1 = V.1 - 1; omega, fun j j0 j1 => ?_⟩
  have ri := sh_rng I (k := i) i0 (by omega)
  have mi := I.2.2.2.2 i i0 i1
  by_cases w : j < i
  · obtain ⟨a1, a2, a3, a4⟩ := h j j0 (by omega)
    have rj := sh_rng I (k := j) j0 (by omega)
    have lj := sh_le I (j := j + 1) (k := i) (by omega) (by omega) (by omega)
    have gj : gx fg' j = gx fg j := by rw [hg j j0, if_neg (by omega)]
    have gj1 : gx fg' (j + 1) = gx fg (j + 1) := by
      rw [hg (j + 1) (by omega)]
      split
      · rw [show j + 1 = i by omega]
        omega
      · rfl
    have q1 : vZ (vou_ V i) j = vZ V j := by show vo_ i V.2.1 j = V.2.1 j; exact vo_lo w
    have q2 : vS (vou_ V i) j = vS V j := by show vo_ i V.2.2.2.1 j = V.2.2.2.1 j; exact vo_lo w
    have q3 : vN (vou_ V i) j = vN V j := by show vo_ i V.2.2.1 j = V.2.2.1 j; exact vo_lo w
    have q4 : vD (vou_ V i) j = vD V j := by show vo_ i V.2.2.2.2 j = V.2.2.2.2 j; exact vo_lo w
    have mj := I.2.2.2.2 j j0 (by omega)
    rw [q1, q2, q3, q4, gj, gj1]
    refine ⟨by rw [hz j j0, if_neg (by omega)]; exact a1, a2, fun k k0 k1 => ?_, fun k k0 k1 => ?_⟩
    · rw [hn _ (by omega), if_neg (by omega)]
      exact a3 k k0 k1
    · rw [hb _ (by omega), if_neg (by omega)]
      exact a4 k k0 k1
  · obtain ⟨a1, a2, a3, a4⟩ := h (j + 1) (by omega) (by omega)
    have rj := sh_rng I (k := j + 1) (by omega) (by omega)
    have lj := sh_le I (j := i + 1) (k := j + 1) (by omega) (by omega) (by omega)
    have lk := sh_le I (j := j + 1 + 1) (k := c) (by omega) (by omega) (by omega)
    have gj : gx fg' j = gx fg (j + 1) - (gx fg (i + 1) - gx fg i) := by rw [hg j j0, if_pos (by omega)]
    have gj1 : gx fg' (j + 1) = gx fg (j + 1 + 1) - (gx fg (i + 1) - gx fg i) := by rw [hg (j + 1) (by omega), if_pos (by omega)]
    have q1 : vZ (vou_ V i) j = vZ V (j + 1) := by show vo_ i V.2.1 j = V.2.1 (j + 1); exact vo_hi (by omega)
    have q2 : vS (vou_ V i) j = vS V (j + 1) := by show vo_ i V.2.2.2.1 j = V.2.2.2.1 (j + 1); exact vo_hi (by omega)
    have q3 : vN (vou_ V i) j = vN V (j + 1) := by show vo_ i V.2.2.1 j = V.2.2.1 (j + 1); exact vo_hi (by omega)
    have q4 : vD (vou_ V i) j = vD V (j + 1) := by show vo_ i V.2.2.2.2 j = V.2.2.2.2 (j + 1); exact vo_hi (by omega)
    have mj := I.2.2.2.2 (j + 1) (by omega) (by omega)
    rw [q1, q2, q3, q4, gj, gj1]
    refine ⟨by rw [hz j j0, if_pos (by omega)]; exact a1, by omega, fun k k0 k1 => ?_, fun k k0 k1 => ?_⟩
    · rw [hn _ (by omega), if_pos (by omega), show 24 * j + k + 24 = 24 * (j + 1) + k by omega]
      exact a3 k k0 k1
    · rw [hb _ (by omega), if_pos (by omega), show gx fg (j + 1) - (gx fg (i + 1) - gx fg i) + k + (gx fg (i + 1) - gx fg i) = gx fg (j + 1) + k by omega]
      exact a4 k k0 k1
/-- a part comes to the class's shelf -/
theorem rC_in {c i m s : Int} {fn fz fb fg fn' fz' fb' fg' : Nat → Int32} {V : VW_} {a : Int → Int} {d : Int → Int32} (h : rC_ c fn fz fb fg V) (I : sh_I c fz fg) (i0 : 0 ≤ i) (i1 : i ≤ c) (hm : 0 ≤ m ∧ m ≤ 24) (hs : 0 ≤ s) (hz : ∀ j, 0 ≤ j → gx fz' j = if j = i then m else if i < j ∧ j ≤ c then gx fz (j - 1) else gx fz j) (hg : ∀ j, 0 ≤ j → gx fg' j = if i < j ∧ j ≤ c + 1 then gx fg (j - 1) + s else gx fg j) (hn : ∀ j : Int, 0 ≤ j → gx fn' j = if 24 * i ≤ j ∧ j < 24 * i + m then a (j - 24 * i) else if 24 * (i + 1) ≤ j ∧ j < 24 * (c + 1) then gx fn (j - 24) else gx fn j) (hb : ∀ j : Int, 0 ≤ j → gr fb' j = if gx fg i ≤ j ∧ j < gx fg i + s then d (j - gx fg i) else if gx fg i + s ≤ j ∧ j < gx fg c + s then gr fb (j - s) else gr fb j) : rC_ (c + 1) fn' fz' fb' fg' (vin_ V i m a s d) := by
  obtain ⟨e, h⟩ := h
  have e' : c = V.1 := e
  refine ⟨by show c + 1 = V.1 + 1; omega, fun j j0 j1 => ?_⟩
  have ri := sh_rng I (k := i) i0 i1
  rcases Int.lt_trichotomy j i with w | w | w
  · obtain ⟨a1, a2, a3, a4⟩ := h j j0 (by omega)
    have rj := sh_rng I (k := j) j0 (by omega)
    have lj := sh_le I (j := j + 1) (k := i) (by omega) (by omega) (by omega)
    have gj : gx fg' j = gx fg j := by rw [hg j j0, if_neg (by omega)]
    have gj1 : gx fg' (j + 1) = gx fg (j + 1) := by rw [hg (j + 1) (by omega), if_neg (by omega)]
    have q1 : vZ (vin_ V i m a s d) j = vZ V j := by show vi_ i m V.2.1 j = V.2.1 j; exact vi_lo w
    have q2 : vS (vin_ V i m a s d) j = vS V j := by show vi_ i s V.2.2.2.1 j = V.2.2.2.1 j; exact vi_lo w
    have q3 : vN (vin_ V i m a s d) j = vN V j := by show vi_ i a V.2.2.1 j = V.2.2.1 j; exact vi_lo w
    have q4 : vD (vin_ V i m a s d) j = vD V j := by show vi_ i d V.2.2.2.2 j = V.2.2.2.2 j; exact vi_lo w
    have mj := I.2.2.2.2 j j0 (by omega)
    rw [q1, q2, q3, q4, gj, gj1]
    refine ⟨by rw [hz j j0, if_neg (by omega), if_neg (by omega)]; exact a1, a2, fun k k0 k1 => ?_, fun k k0 k1 => ?_⟩
    · rw [hn _ (by omega), if_neg (by omega), if_neg (by omega)]
      exact a3 k k0 k1
    · rw [hb _ (by omega), if_neg (by omega), if_neg (by omega)]
      exact a4 k k0 k1
  · subst w
    have gj : gx fg' j = gx fg j := by rw [hg j j0, if_neg (by omega)]
    have gj1 : gx fg' (j + 1) = gx fg j + s := by rw [hg (j + 1) (by omega), if_pos (by omega), show j + 1 - 1 = j by omega]
    have q1 : vZ (vin_ V j m a s d) j = m := by show vi_ j m V.2.1 j = m; exact vi_at rfl
    have q2 : vS (vin_ V j m a s d) j = s := by show vi_ j s V.2.2.2.1 j = s; exact vi_at rfl
    have q3 : vN (vin_ V j m a s d) j = a := by show vi_ j a V.2.2.1 j = a; exact vi_at rfl
    have q4 : vD (vin_ V j m a s d) j = d := by show vi_ j d V.2.2.2.2 j = d; exact vi_at rfl
    rw [q1, q2, q3, q4, gj, gj1]
    refine ⟨by rw [hz j j0, if_pos rfl], by omega, fun k k0 k1 => ?_, fun k k0 k1 => ?_⟩
    · rw [hn _ (by omega), if_pos (by omega), show 24 * j + k - 24 * j = k by omega]
    · rw [hb _ (by omega), if_pos (by omega), show gx fg j + k - gx fg j = k by omega]
  · obtain ⟨a1, a2, a3, a4⟩ := h (j - 1) (by omega) (by omega)
    have rj := sh_rng I (k := j - 1) (by omega) (by omega)
    have lj := sh_le I (j := i) (k := j - 1) (by omega) (by omega) (by omega)
    have lk := sh_le I (j := j - 1 + 1) (k := c) (by omega) (by omega) (by omega)
    have gj : gx fg' j = gx fg (j - 1) + s := by rw [hg j j0, if_pos (by omega)]
    have gj1 : gx fg' (j + 1) = gx fg (j - 1 + 1) + s := by rw [hg (j + 1) (by omega), if_pos (by omega), show j + 1 - 1 = j - 1 + 1 by omega]
    have q1 : vZ (vin_ V i m a s d) j = vZ V (j - 1) := by show vi_ i m V.2.1 j = V.2.1 (j - 1); exact vi_hi w
    have q2 : vS (vin_ V i m a s d) j = vS V (j - 1) := by show vi_ i s V.2.2.2.1 j = V.2.2.2.1 (j - 1); exact vi_hi w
    have q3 : vN (vin_ V i m a s d) j = vN V (j - 1) := by show vi_ i a V.2.2.1 j = V.2.2.1 (j - 1); exact vi_hi w
    have q4 : vD (vin_ V i m a s d) j = vD V (j - 1) := by show vi_ i d V.2.2.2.2 j = V.2.2.2.2 (j - 1); exact vi_hi w
    have mj := I.2.2.2.2 (j - 1) (by omega) (by omega)
    rw [q1, q2, q3, q4, gj, gj1]
    refine ⟨by rw [hz j j0, if_neg (by omega), if_pos (by omega)]; exact a1, by omega, fun k k0 k1 => ?_, fun k k0 k1 => ?_⟩
    · rw [hn _ (by omega), if_neg (by omega), if_pos (by omega), show 24 * j + k - 24 = 24 * (j - 1) + k by omega]
      exact a3 k k0 k1
    · rw [hb _ (by omega), if_neg (by omega), if_pos (by omega), show gx fg (j - 1) + s + k - s = gx fg (j - 1) + k by omega]
      exact a4 k k0 k1
/-- names alone -/
def rN_ (c : Int) (fn fz : Nat → Int32) (V : VW_) : Prop := c = vC V ∧ ∀ i : Int, 0 ≤ i → i < c → gx fz i = vZ V i ∧ ∀ k : Int, 0 ≤ k → k < vZ V i → gx fn (24 * i + k) = vN V i k
theorem rC_N {c : Int} {fn fz fb fg : Nat → Int32} {V : VW_} (h : rC_ c fn fz fb fg V) : rN_ c fn fz V := ⟨h.1, fun i h0 h1 => ⟨(h.2 i h0 h1).1, (h.2 i h0 h1).2.2.1⟩⟩
theorem nf_z {c i m : Int} {fn fz : Nat → Int32} {V : VW_} {a : Int → Int} (R : rN_ c fn fz V) (i0 : 0 ≤ i) (i1 : i < c) (h : ¬ gx fz i = m) : ¬ nE_ V i m a := fun q => h ((R.2 i i0 i1).1.trans q.1)
theorem nf_d {c i m X : Int} {fn fz : Nat → Int32} {V : VW_} {a : Int → Int} (R : rN_ c fn fz V) (i0 : 0 ≤ i) (i1 : i < c) (h : ¬ ∀ k : Int, 0 ≤ k → k < m → gx fn (X + k) = a k) (hX : X = 24 * i) : ¬ nE_ V i m a := fun q => h (fun k k0 k1 => by
  have z := q.1
  rw [hX, (R.2 i i0 i1).2 k k0 (by omega)]
  exact q.2 k k0 k1)
theorem nf_y {c i m X : Int} {fn fz : Nat → Int32} {V : VW_} {a : Int → Int} (R : rN_ c fn fz V) (i0 : 0 ≤ i) (i1 : i < c) (hz : gx fz i = m) (h : ∀ k : Int, 0 ≤ k → k < m → gx fn (X + k) = a k) (hX : X = 24 * i) : nE_ V i m a := by
  have e := (R.2 i i0 i1).1
  refine ⟨by omega, fun k k0 k1 => ?_⟩
  rw [← (R.2 i i0 i1).2 k k0 (by omega), ← hX]
  exact h k k0 k1
theorem lx_lo {a b : Int → Int} {m n k : Int} (k0 : 0 ≤ k) (hp : ∀ j : Int, 0 ≤ j → j < k → a j = b j) (h1 : k < m) (h2 : k < n) (h : a k < b k) : lx_ a m b n := ⟨k, k0, hp, Or.inl ⟨h1, h2, h⟩⟩
theorem lx_hi {a b : Int → Int} {m n k : Int} (k0 : 0 ≤ k) (hp : ∀ j : Int, 0 ≤ j → j < k → a j = b j) (h1 : k < m) (h2 : k < n) (h : b k < a k) : ¬ lx_ a m b n := fun q => lx_asym q ⟨k, k0, fun j j0 j1 => (hp j j0 j1).symm, Or.inl ⟨h2, h1, h⟩⟩
theorem lx_e1 {a b : Int → Int} {m n k : Int} (k0 : 0 ≤ k) (hp : ∀ j : Int, 0 ≤ j → j < k → a j = b j) (he : k = m ∨ k = n) (h1 : k ≤ m) (h2 : k ≤ n) (h : m < n) : lx_ a m b n := ⟨k, k0, hp, Or.inr ⟨by omega, h⟩⟩
theorem lx_e0 {a b : Int → Int} {m n k : Int} (k0 : 0 ≤ k) (hp : ∀ j : Int, 0 ≤ j → j < k → a j = b j) (he : k = m ∨ k = n) (h1 : k ≤ m) (h2 : k ≤ n) (h : ¬ m < n) : ¬ lx_ a m b n := fun q => by
  by_cases c : m = n
  · exact lx_ne q c (fun j j0 j1 => hp j j0 (by omega))
  · exact lx_asym q ⟨k, k0, fun j j0 j1 => (hp j j0 j1).symm, Or.inr ⟨by omega, by omega⟩⟩
/-- the class's copies -/
theorem rn_out {fn : Nat → Int32} {sp dp n : Int32} {i c : Int} (h1 : sp.toInt = 24 * (i + 1)) (h2 : dp.toInt = 24 * i) (h3 : n.toInt = 24 * (c - i - 1)) (i0 : 0 ≤ i) (i1 : i < c) : ∀ j : Int, 0 ≤ j → gx (va_cpy fn fn sp.toNatClampNeg dp.toNatClampNeg n.toNatClampNeg) j = if 24 * i ≤ j ∧ j < 24 * (c - 1) then gx fn (j + 24) else gx fn j := fun j hj => by
  rw [gx_cpy h1 h2 h3 j (by omega) (by omega) (by omega) hj]
  by_cases w : 24 * i ≤ j ∧ j < 24 * (c - 1)
  · rw [if_pos (by omega), if_pos w, show 24 * (i + 1) + (j - 24 * i) = j + 24 by omega]
  · rw [if_neg (by omega), if_neg w]
theorem rb_out {fb : Nat → Int32} {sp dp n : Int32} {g0 g1 gc : Int} (h1 : sp.toInt = g1) (h2 : dp.toInt = g0) (h3 : n.toInt = gc - g1) (p0 : 0 ≤ g0) (p1 : g0 ≤ g1) (p2 : g1 ≤ gc) : ∀ j : Int, 0 ≤ j → gr (va_cpy fb fb sp.toNatClampNeg dp.toNatClampNeg n.toNatClampNeg) j = if g0 ≤ j ∧ j < gc - (g1 - g0) then gr fb (j + (g1 - g0)) else gr fb j := fun j hj => by
  rw [gr_cpy h1 h2 h3 j (by omega) (by omega) (by omega) hj]
  by_cases w : g0 ≤ j ∧ j < gc - (g1 - g0)
  · rw [if_pos (by omega), if_pos w, show g1 + (j - g0) = j + (g1 - g0) by omega]
  · rw [if_neg (by omega), if_neg w]
theorem rn_in {fn : Nat → Int32} {sp dp n : Int32} {i c : Int} (h1 : sp.toInt = 24 * i) (h2 : dp.toInt = 24 * (i + 1)) (h3 : n.toInt = 24 * (c - i)) (i0 : 0 ≤ i) (i1 : i ≤ c) : ∀ j : Int, 0 ≤ j → gx (va_cpy fn fn sp.toNatClampNeg dp.toNatClampNeg n.toNatClampNeg) j = if 24 * (i + 1) ≤ j ∧ j < 24 * (c + 1) then gx fn (j - 24) else gx fn j := fun j hj => by
  rw [gx_cpy h1 h2 h3 j (by omega) (by omega) (by omega) hj]
  by_cases w : 24 * (i + 1) ≤ j ∧ j < 24 * (c + 1)
  · rw [if_pos (by omega), if_pos w, show 24 * i + (j - 24 * (i + 1)) = j - 24 by omega]
  · rw [if_neg (by omega), if_neg w]
theorem rb_in {fb : Nat → Int32} {sp dp n : Int32} {g0 gc s : Int} (h1 : sp.toInt = g0) (h2 : dp.toInt = g0 + s) (h3 : n.toInt = gc - g0) (p0 : 0 ≤ g0) (p1 : g0 ≤ gc) (p2 : 0 ≤ s) : ∀ j : Int, 0 ≤ j → gr (va_cpy fb fb sp.toNatClampNeg dp.toNatClampNeg n.toNatClampNeg) j = if g0 + s ≤ j ∧ j < gc + s then gr fb (j - s) else gr fb j := fun j hj => by
  rw [gr_cpy h1 h2 h3 j (by omega) (by omega) (by omega) hj]
  by_cases w : g0 + s ≤ j ∧ j < gc + s
  · rw [if_pos (by omega), if_pos w, show g0 + (j - (g0 + s)) = j - s by omega]
  · rw [if_neg (by omega), if_neg w]
theorem rn_put {f fn fn3 : Nat → Int32} {sp dp n : Int32} {x i m c : Int} (h : ∀ j : Int, 0 ≤ j → gx fn3 j = if 24 * (i + 1) ≤ j ∧ j < 24 * (c + 1) then gx fn (j - 24) else gx fn j) (h1 : sp.toInt = x) (h2 : dp.toInt = 24 * i) (h3 : n.toInt = m) (x0 : 0 ≤ x) (i0 : 0 ≤ i) (m0 : 0 ≤ m) : ∀ j : Int, 0 ≤ j → gx (va_cpy f fn3 sp.toNatClampNeg dp.toNatClampNeg n.toNatClampNeg) j = if 24 * i ≤ j ∧ j < 24 * i + m then (fun k => gx f (x + k)) (j - 24 * i) else if 24 * (i + 1) ≤ j ∧ j < 24 * (c + 1) then gx fn (j - 24) else gx fn j := fun j hj => by
  rw [gx_cpy h1 h2 h3 j x0 (by omega) m0 hj, h j hj]
theorem rb_put {f fb fb3 : Nat → Int32} {sp dp n : Int32} {y g0 gc s : Int} (h : ∀ j : Int, 0 ≤ j → gr fb3 j = if g0 + s ≤ j ∧ j < gc + s then gr fb (j - s) else gr fb j) (h1 : sp.toInt = y) (h2 : dp.toInt = g0) (h3 : n.toInt = s) (y0 : 0 ≤ y) (p0 : 0 ≤ g0) (s0 : 0 ≤ s) : ∀ j : Int, 0 ≤ j → gr (va_cpy f fb3 sp.toNatClampNeg dp.toNatClampNeg n.toNatClampNeg) j = if g0 ≤ j ∧ j < g0 + s then (fun k => gr f (y + k)) (j - g0) else if g0 + s ≤ j ∧ j < gc + s then gr fb (j - s) else gr fb j := fun j hj => by
  rw [gr_cpy h1 h2 h3 j y0 p0 s0 hj, h j hj]
theorem lx_r {a b b2 : Int → Int} {m n n2 : Int} (h : lx_ a m b n) (e : n = n2) (e2 : ∀ j : Int, 0 ≤ j → j < n → b j = b2 j) : lx_ a m b2 n2 := by
  subst e
  obtain ⟨t, t0, t1, t2⟩ := h
  rcases t2 with ⟨u1, u2, u3⟩ | ⟨u1, u2⟩
  · exact ⟨t, t0, fun j j0 j1 => (t1 j j0 j1).trans (e2 j j0 (by omega)), Or.inl ⟨u1, u2, by rw [← e2 t t0 u2]; exact u3⟩⟩
  · exact ⟨t, t0, fun j j0 j1 => (t1 j j0 j1).trans (e2 j j0 (by omega)), Or.inr ⟨u1, u2⟩⟩
theorem lx_l {a a2 b : Int → Int} {m m2 n : Int} (h : lx_ a m b n) (e : m = m2) (e2 : ∀ j : Int, 0 ≤ j → j < m → a j = a2 j) : lx_ a2 m2 b n := by
  subst e
  obtain ⟨t, t0, t1, t2⟩ := h
  rcases t2 with ⟨u1, u2, u3⟩ | ⟨u1, u2⟩
  · exact ⟨t, t0, fun j j0 j1 => (e2 j j0 (by omega)).symm.trans (t1 j j0 j1), Or.inl ⟨u1, u2, by rw [← e2 t t0 u1]; exact u3⟩⟩
  · exact ⟨t, t0, fun j j0 j1 => (e2 j j0 (by omega)).symm.trans (t1 j j0 j1), Or.inr ⟨u1, u2⟩⟩
theorem lg5_st {P : Int → Prop} {i i2 c : Int} (h : ∀ j : Int, i ≤ j → j < c → P j) (e : i2 = i - 1) (h3 : P (i - 1)) : ∀ j : Int, i2 ≤ j → j < c → P j := fun j h0 h1 => by
  by_cases q : j = i - 1
  · rw [q]
    exact h3
  · exact h j (by omega) h1
/-- a name is told by its bytes alone -/
theorem nE_cg {V : VW_} {i m : Int} {a b : Int → Int} (h : nE_ V i m a) (e : ∀ k : Int, 0 ≤ k → k < m → a k = b k) : nE_ V i m b := ⟨h.1, fun k k0 k1 => (h.2 k k0 k1).trans (e k k0 k1)⟩
theorem isP_cg {V : VW_} {m r : Int} {a b : Int → Int} (h : isP_ V m a r) (e : ∀ k : Int, 0 ≤ k → k < m → a k = b k) : isP_ V m b r := ⟨h.1, h.2.1, fun i i0 i1 => lx_r (h.2.2.1 i i0 i1) rfl e, fun i i0 i1 => lx_l (h.2.2.2 i i0 i1) rfl e⟩
/-- what adding a part makes of the parts; whether there is room -/
def AD_ (V : VW_) (a : Int → Int) (m s : Int) (d : Int → Int32) (W : VW_) : Prop := (∃ q : Int, 0 ≤ q ∧ q < vC V ∧ nE_ V q m a ∧ W = vse_ V q m a s d) ∨ ((∀ i : Int, 0 ≤ i → i < vC V → ¬ nE_ V i m a) ∧ ∃ r : Int, isP_ V m a r ∧ W = vin_ V r m a s d)
theorem AD_u {V W W2 : VW_} {a : Int → Int} {m s : Int} {d : Int → Int32} (hs : srt_ V) (h : AD_ V a m s d W) (k : AD_ V a m s d W2) : W = W2 := by
  rcases h with ⟨q, q0, q1, q2, q3⟩ | ⟨n, r, r0, r1⟩
  · rcases k with ⟨p, p0, p1, p2, p3⟩ | ⟨n, r, r0, r1⟩
    · have e := nE_u hs q0 q1 p0 p1 q2 p2
      subst e
      exact q3.trans p3.symm
    · exact absurd q2 (n q q0 q1)
  · rcases k with ⟨p, p0, p1, p2, p3⟩ | ⟨n', r', r0', r1'⟩
    · exact absurd p2 (n p p0 p1)
    · have e := isP_u r0 r0'
      subst e
      exact r1.trans r1'.symm
def RM_ (V : VW_) (a : Int → Int) (m s : Int) : Prop := s ≤ 4000 ∧ (∀ q : Int, 0 ≤ q → q < vC V → nE_ V q m a → vT V - vS V q + s ≤ 12000) ∧ ((∀ q : Int, 0 ≤ q → q < vC V → ¬ nE_ V q m a) → vT V + s ≤ 12000 ∧ vC V < 16)
theorem srt_AD {V W : VW_} {a : Int → Int} {m s : Int} {d : Int → Int32} (hs : srt_ V) (h : AD_ V a m s d W) : srt_ W := by
  rcases h with ⟨q, q0, q1, q2, q3⟩ | ⟨n, r, r0, r1⟩
  · rw [q3, ← vin_vou]
    exact srt_in (srt_ou hs q0) (isP_re hs q0 q1 q2)
  · rw [r1]
    exact srt_in hs r0
/-- the class's way: out, and in again -/
theorem AD_C {V : VW_} {a : Int → Int} {m s o r : Int} {d : Int → Int32} (hs : srt_ V) (hz : ∀ i : Int, 0 ≤ i → i < vC V → 0 ≤ vZ V i) (hm : 0 ≤ m) (hF : isF_ V m a o) (W : VW_) (hW : 0 ≤ o ∧ W = vou_ V o ∨ o = -1 ∧ W = V) (h0 : 0 ≤ r) (h1 : r ≤ vC W) (hl : ∀ i : Int, 0 ≤ i → i < r → lx_ (vN W i) (vZ W i) a m) (hr : r < vC W → ¬ lx_ (vN W r) (vZ W r) a m) : AD_ V a m s d (vin_ W r m a s d) := by
  rcases hF with ⟨o0, o1, o2⟩ | ⟨o0, o1⟩
  · have eW : W = vou_ V o := by
      rcases hW with q | q
      · exact q.2
      · omega
    subst eW
    have hno : ∀ i : Int, 0 ≤ i → i < vC (vou_ V o) → ¬ nE_ (vou_ V o) i m a := fun i i0 i1 q => by
      have i1' : i < V.1 - 1 := i1
      have o1' : o < V.1 := o1
      by_cases c : i < o
      · have e1 : vZ (vou_ V o) i = vZ V i := vo_lo (α := Int) c
        have e2 : vN (vou_ V o) i = vN V i := vo_lo (α := Int → Int) c
        have q' : nE_ V i m a := ⟨e1 ▸ q.1, fun k k0 k1 => by rw [← e2]; exact q.2 k k0 k1⟩
        have := nE_u hs i0 (show i < V.1 by omega) o0 o1 q' o2
        omega
      · have e1 : vZ (vou_ V o) i = vZ V (i + 1) := vo_hi (α := Int) (by omega)
        have e2 : vN (vou_ V o) i = vN V (i + 1) := vo_hi (α := Int → Int) (by omega)
        have q' : nE_ V (i + 1) m a := ⟨e1 ▸ q.1, fun k k0 k1 => by rw [← e2]; exact q.2 k k0 k1⟩
        have := nE_u hs (show 0 ≤ i + 1 by omega) (show i + 1 < V.1 by omega) o0 o1 q' o2
        omega
    have hz2 : ∀ i : Int, 0 ≤ i → i < vC (vou_ V o) → 0 ≤ vZ (vou_ V o) i := fun i i0 i1 => by
      have i1' : i < V.1 - 1 := i1
      by_cases c : i < o
      · rw [show vZ (vou_ V o) i = vZ V i from vo_lo (α := Int) c]
        exact hz i i0 (by show i < V.1; omega)
      · rw [show vZ (vou_ V o) i = vZ V (i + 1) from vo_hi (α := Int) (by omega)]
        exact hz (i + 1) (by omega) (by show i + 1 < V.1; omega)
    have p := isP_C (srt_ou hs o0) hz2 hm hno h0 h1 hl hr
    have e := isP_u p (isP_re hs o0 o1 o2)
    subst e
    exact Or.inl ⟨r, o0, o1, o2, vin_vou V r m a s d⟩
  · have eW : W = V := by
      rcases hW with q | q
      · omega
      · exact q.2
    subst eW
    exact Or.inr ⟨o1, r, isP_C hs hz hm o1 h0 h1 hl hr, rfl⟩
theorem vin_cC {c r m s : Int} {fn fz fb fg : Nat → Int32} {V : VW_} {a a' : Int → Int} {dd : Int → Int32} (h : rC_ c fn fz fb fg (vin_ V r m a s dd)) (e : ∀ k : Int, 0 ≤ k → k < m → a k = a' k) : rC_ c fn fz fb fg (vin_ V r m a' s dd) := by
  refine ⟨h.1, fun i i0 i1 => ?_⟩
  obtain ⟨h1, h2, h3, h4⟩ := h.2 i i0 i1
  refine ⟨h1, h2, fun k k0 k1 => ?_, h4⟩
  rw [h3 k k0 k1]
  show vi_ r a V.2.2.1 i k = vi_ r a' V.2.2.1 i k
  have k1' : k < vi_ r m V.2.1 i := k1
  rcases Int.lt_trichotomy i r with w | w | w
  · rw [vi_lo w, vi_lo w]
  · rw [vi_at w] at k1'
    rw [vi_at w, vi_at w]
    exact e k k0 k1'
  · rw [vi_hi w, vi_hi w]
theorem rC_hz {c : Int} {fn fz fb fg : Nat → Int32} {V : VW_} (R : rC_ c fn fz fb fg V) (I : sh_I c fz fg) : ∀ i : Int, 0 ≤ i → i < vC V → 0 ≤ vZ V i := fun i i0 i1 => by
  have e : c = vC V := R.1
  have x := (R.2 i i0 (by omega)).1
  have y := I.2.2.2.2 i i0 (by omega)
  omega
/-- the class's room -/
theorem RM_C {c i m ls : Int} {fn fz fb fg : Nat → Int32} {V : VW_} {a : Int → Int} (R : rC_ c fn fz fb fg V) (I : sh_I c fz fg) (hs : srt_ V) (hF : isF_ V ls a i) : RM_ V a ls m ↔ (m ≤ 4000 ∧ ((0 ≤ i ∧ i < c ∧ gx fg c - (gx fg (i + 1) - gx fg i) + m ≤ 12000) ∨ (¬ (0 ≤ i ∧ i < c) ∧ c < 16 ∧ gx fg c + m ≤ 12000))) := by
  have e : c = vC V := R.1
  have et := rC_all R I
  rcases hF with ⟨f0, f1, f2⟩ | ⟨f0, f1⟩
  · have x := (R.2 i f0 (by omega)).2.1
    constructor
    · intro q
      have y := q.2.1 i f0 f1 f2
      exact ⟨q.1, Or.inl ⟨f0, by omega, by omega⟩⟩
    · rintro ⟨q1, q2⟩
      refine ⟨q1, fun p p0 p1 p2 => ?_, fun hn => absurd f2 (hn i f0 f1)⟩
      have ep := nE_u hs p0 p1 f0 f1 p2 f2
      subst ep
      omega
  · constructor
    · intro q
      have y := q.2.2 f1
      exact ⟨q.1, Or.inr ⟨by omega, by omega, by omega⟩⟩
    · rintro ⟨q1, q2⟩
      exact ⟨q1, fun p p0 p1 p2 => absurd p2 (f1 p p0 p1), fun _ => by omega⟩
theorem isF_cg {V : VW_} {m r : Int} {a b : Int → Int} (h : isF_ V m a r) (e : ∀ k : Int, 0 ≤ k → k < m → a k = b k) : isF_ V m b r := by
  rcases h with ⟨h0, h1, h2⟩ | ⟨h0, h1⟩
  · exact Or.inl ⟨h0, h1, nE_cg h2 e⟩
  · exact Or.inr ⟨h0, fun i i0 i1 q => h1 i i0 i1 (nE_cg q (fun k k0 k1 => (e k k0 k1).symm))⟩
theorem isF_big {V : VW_} {m : Int} {a : Int → Int} (hz : ∀ i : Int, 0 ≤ i → i < vC V → vZ V i ≤ 24) (h : 24 < m) : isF_ V m a (-1) := Or.inr ⟨rfl, fun i i0 i1 q => by have := hz i i0 i1; have := q.1; omega⟩
theorem ti_255 {x z : Int32} (e : z = x &&& 255) : z.toInt = x.toInt % 256 := by
  subst e
  rw [pk_and _ 8 (by decide), nI_toInt (by omega)]
  have h : x.toInt = x.toBitVec.toInt := rfl
  rw [h, BitVec.toInt_eq_toNat_bmod]
  have hx := x.toBitVec.isLt
  generalize x.toBitVec.toNat = n at *
  rw [Int.bmod_def]
  split <;> omega
def bo_ (V : VW_) (i k : Int) : Int := if k < vZ V i then vN V i k % 256 else (vD V i (k - vZ V i)).toInt % 256
theorem bo_n {V : VW_} {i k v r : Int} (h : k < vZ V i) (hv : v = vN V i k) (hr : r = v % 256) : r = bo_ V i k := by
  unfold bo_
  rw [if_pos h, hr, hv]
theorem bo_d {V : VW_} {i k r : Int} {x y : Int32} (h : ¬ k < vZ V i) (e : x = y) (hv : y = vD V i (k - vZ V i)) (hr : r = x.toInt % 256) : r = bo_ V i k := by
  unfold bo_
  rw [if_neg h, hr, e, hv]
/-- names looked at by themselves -/
def cN_ (c : Int) (fn fz : Nat → Int32) : VW_ := (c, gx fz, fun i k => gx fn (24 * i + k), fun _ => 0, fun _ _ => 0)
theorem cN_R {c : Int} {fn fz : Nat → Int32} : rN_ c fn fz (cN_ c fn fz) := ⟨rfl, fun _ _ _ => ⟨rfl, fun _ _ _ => rfl⟩⟩
