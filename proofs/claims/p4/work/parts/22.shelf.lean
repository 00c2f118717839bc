/-- what holds of a shelf: its count, the sizes of the names, the begins -/
def sh_I (c : Int) (z g : Nat → Int32) : Prop := 0 ≤ c ∧ c ≤ 16 ∧ gx g 0 = 0 ∧ gx g c ≤ 12000 ∧ ∀ k : Int, 0 ≤ k → k < c → gx g k ≤ gx g (k + 1) ∧ gx g (k + 1) ≤ gx g k + 4000 ∧ 1 ≤ gx z k ∧ gx z k ≤ 24
theorem sh_nil {z g : Nat → Int32} (h : gx g 0 = 0) : sh_I 0 z g := sorry
theorem sh_mono {c : Int} {z g : Nat → Int32} (h : sh_I c z g) : ∀ (n : Nat) (k : Int), 0 ≤ k → k + n ≤ c → gx g k ≤ gx g (k + n) := sorry
theorem sh_le {c : Int} {z g : Nat → Int32} (h : sh_I c z g) {j k : Int} (h0 : 0 ≤ j) (h1 : j ≤ k) (h2 : k ≤ c) : gx g j ≤ gx g k := sorry
theorem sh_rng {c : Int} {z g : Nat → Int32} (h : sh_I c z g) {k : Int} (h0 : 0 ≤ k) (h1 : k ≤ c) : 0 ≤ gx g k ∧ gx g k ≤ gx g c ∧ gx g c ≤ 12000 := sorry
/-- a part is taken out -/
theorem sh_out {c i : Int} {z g z' g' : Nat → Int32} (h : sh_I c z g) (hi : 0 ≤ i) (hc : i < c) (hz : ∀ j, 0 ≤ j → gx z' j = if i ≤ j ∧ j < c - 1 then gx z (j + 1) else gx z j)
    (hg : ∀ j, 0 ≤ j → gx g' j = if i ≤ j ∧ j < c then gx g (j + 1) - (gx g (i + 1) - gx g i) else gx g j) : sh_I (c - 1) z' g' ∧ gx g' (c - 1) = gx g c - (gx g (i + 1) - gx g i) := sorry
/-- a part is brought in -/
theorem sh_in {c i n s : Int} {z g z' g' : Nat → Int32} (h : sh_I c z g) (hi : 0 ≤ i) (hc : i ≤ c) (h16 : c < 16) (hn : 1 ≤ n ∧ n ≤ 24) (hs : 0 ≤ s ∧ s ≤ 4000) (hr : gx g c + s ≤ 12000)
    (hz : ∀ j, 0 ≤ j → gx z' j = if j = i then n else if i < j ∧ j ≤ c then gx z (j - 1) else gx z j)
    (hg : ∀ j, 0 ≤ j → gx g' j = if i < j ∧ j ≤ c + 1 then gx g (j - 1) + s else gx g j) : sh_I (c + 1) z' g' ∧ gx g' (c + 1) = gx g c + s := sorry
theorem sh_zout {z : Nat → Int32} {sp dp n : Int32} {i c : Int} (h1 : sp.toInt = i + 1) (h2 : dp.toInt = i) (h3 : n.toInt = c - i - 1) (hi : 0 ≤ i) (hc : i < c) : ∀ j, 0 ≤ j → gx (va_cpy z z sp.toNatClampNeg dp.toNatClampNeg n.toNatClampNeg) j = if i ≤ j ∧ j < c - 1 then gx z (j + 1) else gx z j := sorry
theorem sh_gstep {i k2 go : Int} {g gg : Nat → Int32} {k v : Int32} (h : ∀ j, 0 ≤ j → gx gg j = if i ≤ j ∧ j < k.toInt then gx g (j + 1) - go else gx g j) (h0 : 0 ≤ k.toInt) (h1 : i ≤ k.toInt) (h2 : k2 = k.toInt + 1) (hv : v.toInt = gx g (k.toInt + 1) - go) : ∀ j, 0 ≤ j → gx (upd gg k.toNatClampNeg v) j = if i ≤ j ∧ j < k2 then gx g (j + 1) - go else gx g j := sorry
theorem sh_zin {z : Nat → Int32} {sp dp n : Int32} {i c : Int} (h1 : sp.toInt = i) (h2 : dp.toInt = i + 1) (h3 : n.toInt = c - i) (hi : 0 ≤ i) (hc : i ≤ c) : ∀ j, 0 ≤ j → gx (va_cpy z z sp.toNatClampNeg dp.toNatClampNeg n.toNatClampNeg) j = if i < j ∧ j ≤ c then gx z (j - 1) else gx z j := sorry
theorem sh_istep {c k1 k2 s : Int} {g gg : Nat → Int32} {ix v : Int32} (h : ∀ j, 0 ≤ j → gx gg j = if k1 + 1 < j ∧ j ≤ c + 1 then gx g (j - 1) + s else gx g j) (h0 : 0 ≤ k1) (hx : ix.toInt = k1 + 1) (hc : k1 ≤ c) (h2 : k2 = k1 - 1) (hv : v.toInt = gx g k1 + s) : ∀ j, 0 ≤ j → gx (upd gg ix.toNatClampNeg v) j = if k2 + 1 < j ∧ j ≤ c + 1 then gx g (j - 1) + s else gx g j := sorry
theorem sh_zlast {c i n : Int} {z zz : Nat → Int32} {ix v : Int32} (h : ∀ j, 0 ≤ j → gx zz j = if i < j ∧ j ≤ c then gx z (j - 1) else gx z j) (hx : ix.toInt = i) (h0 : 0 ≤ i) (hv : v.toInt = n) : ∀ j, 0 ≤ j → gx (upd zz ix.toNatClampNeg v) j = if j = i then n else if i < j ∧ j ≤ c then gx z (j - 1) else gx z j := sorry
/-! THE PARTS: what is on a shelf, whichever way it is kept: (how many, sizes of names, names, sizes, bytes) -/
abbrev VW_ := Int × (Int → Int) × (Int → Int → Int) × (Int → Int) × (Int → Int → Int32)
def vC (V : VW_) : Int := V.1
def vZ (V : VW_) (i : Int) : Int := V.2.1 i
def vN (V : VW_) (i k : Int) : Int := V.2.2.1 i k
def vS (V : VW_) (i : Int) : Int := V.2.2.2.1 i
def vD (V : VW_) (i k : Int) : Int32 := V.2.2.2.2 i k
/-- part i has this name -/
def nE_ (V : VW_) (i m : Int) (a : Int → Int) : Prop := vZ V i = m ∧ ∀ k : Int, 0 ≤ k → k < m → vN V i k = a k
/-- a name stands before another -/
def lx_ (a : Int → Int) (m : Int) (b : Int → Int) (n : Int) : Prop := ∃ k : Int, 0 ≤ k ∧ (∀ j : Int, 0 ≤ j → j < k → a j = b j) ∧ ((k < m ∧ k < n ∧ a k < b k) ∨ (k = m ∧ m < n))
theorem lx_asym {a b : Int → Int} {m n : Int} (h : lx_ a m b n) (h2 : lx_ b n a m) : False := sorry
theorem lx_ne {a b : Int → Int} {m n : Int} (h : lx_ a m b n) (e : m = n) (e2 : ∀ k : Int, 0 ≤ k → k < m → a k = b k) : False := sorry
theorem fd_ (a b : Int → Int) : ∀ t : Nat, (∀ j : Int, 0 ≤ j → j < t → a j = b j) ∨ ∃ k : Int, 0 ≤ k ∧ k < t ∧ (∀ j : Int, 0 ≤ j → j < k → a j = b j) ∧ ¬ a k = b k := sorry
theorem lx_tri (a b : Int → Int) {m n : Int} (hm : 0 ≤ m) (hn : 0 ≤ n) : (m = n ∧ ∀ k : Int, 0 ≤ k → k < m → a k = b k) ∨ lx_ a m b n ∨ lx_ b n a m := sorry
theorem lx_trans {a b c : Int → Int} {m n o : Int} (h : lx_ a m b n) (h2 : lx_ b n c o) : lx_ a m c o := sorry
/-- names in their order; the place of a name -/
def srt_ (V : VW_) : Prop := ∀ i j : Int, 0 ≤ i → i < j → j < vC V → lx_ (vN V i) (vZ V i) (vN V j) (vZ V j)
def isP_ (V : VW_) (m : Int) (a : Int → Int) (r : Int) : Prop := 0 ≤ r ∧ r ≤ vC V ∧ (∀ i : Int, 0 ≤ i → i < r → lx_ (vN V i) (vZ V i) a m) ∧ ∀ i : Int, r ≤ i → i < vC V → lx_ a m (vN V i) (vZ V i)
theorem isP_u {V : VW_} {m r s : Int} {a : Int → Int} (h : isP_ V m a r) (k : isP_ V m a s) : r = s := sorry
theorem isP_C {V : VW_} {m r : Int} {a : Int → Int} (hs : srt_ V) (hz : ∀ i : Int, 0 ≤ i → i < vC V → 0 ≤ vZ V i) (hm : 0 ≤ m) (hn : ∀ i : Int, 0 ≤ i → i < vC V → ¬ nE_ V i m a) (h0 : 0 ≤ r) (h1 : r ≤ vC V) (hl : ∀ i : Int, 0 ≤ i → i < r → lx_ (vN V i) (vZ V i) a m) (hr : r < vC V → ¬ lx_ (vN V r) (vZ V r) a m) : isP_ V m a r := sorry
theorem isP_M {V : VW_} {m r : Int} {a : Int → Int} (hs : srt_ V) (hz : ∀ i : Int, 0 ≤ i → i < vC V → 0 ≤ vZ V i) (hm : 0 ≤ m) (hn : ∀ i : Int, 0 ≤ i → i < vC V → ¬ nE_ V i m a) (h0 : 0 ≤ r) (h1 : r ≤ vC V) (hg : ∀ i : Int, r ≤ i → i < vC V → lx_ a m (vN V i) (vZ V i)) (hr : 0 < r → ¬ lx_ a m (vN V (r - 1)) (vZ V (r - 1))) : isP_ V m a r := sorry
/-- which part has a name, or none -/
def isF_ (V : VW_) (m : Int) (a : Int → Int) (r : Int) : Prop := (0 ≤ r ∧ r < vC V ∧ nE_ V r m a) ∨ (r = -1 ∧ ∀ i : Int, 0 ≤ i → i < vC V → ¬ nE_ V i m a)
theorem nE_u {V : VW_} {m i j : Int} {a : Int → Int} (hs : srt_ V) (i0 : 0 ≤ i) (i1 : i < vC V) (j0 : 0 ≤ j) (j1 : j < vC V) (h : nE_ V i m a) (k : nE_ V j m a) : i = j := sorry
theorem isF_u {V : VW_} {m r s : Int} {a : Int → Int} (hs : srt_ V) (h : isF_ V m a r) (k : isF_ V m a s) : r = s := sorry
/-- a part more, a part less, another one in its place -/
def vi_ {α : Type} (i : Int) (x : α) (f : Int → α) : Int → α := fun j => if j < i then f j else if j = i then x else f (j - 1)
def vo_ {α : Type} (i : Int) (f : Int → α) : Int → α := fun j => if j < i then f j else f (j + 1)
def vs_ {α : Type} (i : Int) (x : α) (f : Int → α) : Int → α := fun j => if j = i then x else f j
theorem vi_lo {α : Type} {i j : Int} {x : α} {f : Int → α} (h : j < i) : vi_ i x f j = f j := sorry
theorem vi_at {α : Type} {i j : Int} {x : α} {f : Int → α} (h : j = i) : vi_ i x f j = x := sorry
theorem vi_hi {α : Type} {i j : Int} {x : α} {f : Int → α} (h : i < j) : vi_ i x f j = f (j - 1) := sorry
theorem vo_lo {α : Type} {i j : Int} {f : Int → α} (h : j < i) : vo_ i f j = f j := sorry
theorem vo_hi {α : Type} {i j : Int} {f : Int → α} (h : i ≤ j) : vo_ i f j = f (j + 1) := sorry
theorem vi_vo {α : Type} (i : Int) (x : α) (f : Int → α) : vi_ i x (vo_ i f) = vs_ i x f := sorry
def vin_ (V : VW_) (r m : Int) (a : Int → Int) (n : Int) (d : Int → Int32) : VW_ := (V.1 + 1, vi_ r m V.2.1, vi_ r a V.2.2.1, vi_ r n V.2.2.2.1, vi_ r d V.2.2.2.2)
def vou_ (V : VW_) (i : Int) : VW_ := (V.1 - 1, vo_ i V.2.1, vo_ i V.2.2.1, vo_ i V.2.2.2.1, vo_ i V.2.2.2.2)
def vse_ (V : VW_) (i m : Int) (a : Int → Int) (n : Int) (d : Int → Int32) : VW_ := (V.1, vs_ i m V.2.1, vs_ i a V.2.2.1, vs_ i n V.2.2.2.1, vs_ i d V.2.2.2.2)
theorem vin_vou (V : VW_) (i m : Int) (a : Int → Int) (n : Int) (d : Int → Int32) : vin_ (vou_ V i) i m a n d = vse_ V i m a n d := sorry
theorem srt_in {V : VW_} {r m n : Int} {a : Int → Int} {d : Int → Int32} (hs : srt_ V) (hp : isP_ V m a r) : srt_ (vin_ V r m a n d) := sorry
theorem srt_ou {V : VW_} {q : Int} (hs : srt_ V) (q0 : 0 ≤ q) : srt_ (vou_ V q) := sorry
/-- a part that goes out and comes again under its name comes to its place -/
theorem isP_re {V : VW_} {m q : Int} {a : Int → Int} (hs : srt_ V) (q0 : 0 ≤ q) (q1 : q < vC V) (h : nE_ V q m a) : isP_ (vou_ V q) m a q := sorry
/-- all bytes -/
def sv_ (f : Int → Int) : Nat → Int
  | 0 => 0
  | n + 1 => sv_ f n + f (n : Int)
def vT (V : VW_) : Int := sv_ V.2.2.2.1 V.1.toNat
theorem sv_s {f : Int → Int} {k m : Int} (h : 0 ≤ k) (hm : m = k + 1) : sv_ f m.toNat = sv_ f k.toNat + f k := sorry
/-- as the class keeps them -/
def rC_ (c : Int) (fn fz fb fg : Nat → Int32) (V : VW_) : Prop := c = vC V ∧ ∀ i : Int, 0 ≤ i → i < c → gx fz i = vZ V i ∧ gx fg (i + 1) - gx fg i = vS V i ∧ (∀ k : Int, 0 ≤ k → k < vZ V i → gx fn (24 * i + k) = vN V i k) ∧ ∀ k : Int, 0 ≤ k → k < vS V i → gr fb (gx fg i + k) = vD V i k
/-- as the reference keeps them, from b on -/
def rM_ (b c : Int) (z n s d : Nat → Int32) (V : VW_) : Prop := c = vC V ∧ ∀ i : Int, 0 ≤ i → i < c → gx z (b + i) = vZ V i ∧ gx s (b + i) = vS V i ∧ (∀ k : Int, 0 ≤ k → k < vZ V i → gx n (24 * (b + i) + k) = vN V i k) ∧ ∀ k : Int, 0 ≤ k → k < vS V i → gr d (4000 * (b + i) + k) = vD V i k
theorem rC_T {c : Int} {fn fz fb fg : Nat → Int32} {V : VW_} (h : rC_ c fn fz fb fg V) (h0 : gx fg 0 = 0) : ∀ n : Nat, (n : Int) ≤ c → gx fg (n : Int) = sv_ V.2.2.2.1 n := sorry
theorem rC_all {c : Int} {fn fz fb fg : Nat → Int32} {V : VW_} (h : rC_ c fn fz fb fg V) (I : sh_I c fz fg) : gx fg c = vT V := sorry
theorem rC_nil {fn fz fb fg : Nat → Int32} {V : VW_} (h : vC V = 0) : rC_ 0 fn fz fb fg V := sorry
/-- a part goes out of the class's shelf -/
theorem rC_out {c i : Int} {fn fz fb fg fn' fz' fb' fg' : Nat → Int32} {V : VW_} (h : rC_ c fn fz fb fg V) (I : sh_I c fz fg) (i0 : 0 ≤ i) (i1 : i < c) (hz : ∀ j, 0 ≤ j → gx fz' j = if i ≤ j ∧ j < c - 1 then gx fz (j + 1) else gx fz j) (hg : ∀ j, 0 ≤ j → gx fg' j = if i ≤ j ∧ j < c then gx fg (j + 1) - (gx fg (i + 1) - gx fg i) else gx fg j) (hn : ∀ j : Int, 0 ≤ j → gx fn' j = if 24 * i ≤ j ∧ j < 24 * (c - 1) then gx fn (j + 24) else gx fn j) (hb : ∀ j : Int, 0 ≤ j → gr fb' j = if gx fg i ≤ j ∧ j < gx fg c - (gx fg (i + 1) - gx fg i) then gr fb (j + (gx fg (i + 1) - gx fg i)) else gr fb j) : rC_ (c - 1) fn' fz' fb' fg' (vou_ V i) := sorry
/-- a part comes to the class's shelf -/
theorem rC_in {c i m s : Int} {fn fz fb fg fn' fz' fb' fg' : Nat → Int32} {V : VW_} {a : Int → Int} {d : Int → Int32} (h : rC_ c fn fz fb fg V) (I : sh_I c fz fg) (i0 : 0 ≤ i) (i1 : i ≤ c) (hm : 0 ≤ m ∧ m ≤ 24) (hs : 0 ≤ s) (hz : ∀ j, 0 ≤ j → gx fz' j = if j = i then m else if i < j ∧ j ≤ c then gx fz (j - 1) else gx fz j) (hg : ∀ j, 0 ≤ j → gx fg' j = if i < j ∧ j ≤ c + 1 then gx fg (j - 1) + s else gx fg j) (hn : ∀ j : Int, 0 ≤ j → gx fn' j = if 24 * i ≤ j ∧ j < 24 * i + m then a (j - 24 * i) else if 24 * (i + 1) ≤ j ∧ j < 24 * (c + 1) then gx fn (j - 24) else gx fn j) (hb : ∀ j : Int, 0 ≤ j → gr fb' j = if gx fg i ≤ j ∧ j < gx fg i + s then d (j - gx fg i) else if gx fg i + s ≤ j ∧ j < gx fg c + s then gr fb (j - s) else gr fb j) : rC_ (c + 1) fn' fz' fb' fg' (vin_ V i m a s d) := sorry
/-- names alone -/
def rN_ (c : Int) (fn fz : Nat → Int32) (V : VW_) : Prop := c = vC V ∧ ∀ i : Int, 0 ≤ i → i < c → gx fz i = vZ V i ∧ ∀ k : Int, 0 ≤ k → k < vZ V i → gx fn (24 * i + k) = vN V i k
theorem rC_N {c : Int} {fn fz fb fg : Nat → Int32} {V : VW_} (h : rC_ c fn fz fb fg V) : rN_ c fn fz V := sorry
theorem nf_z {c i m : Int} {fn fz : Nat → Int32} {V : VW_} {a : Int → Int} (R : rN_ c fn fz V) (i0 : 0 ≤ i) (i1 : i < c) (h : ¬ gx fz i = m) : ¬ nE_ V i m a := sorry
theorem nf_d {c i m X : Int} {fn fz : Nat → Int32} {V : VW_} {a : Int → Int} (R : rN_ c fn fz V) (i0 : 0 ≤ i) (i1 : i < c) (h : ¬ ∀ k : Int, 0 ≤ k → k < m → gx fn (X + k) = a k) (hX : X = 24 * i) : ¬ nE_ V i m a := sorry
theorem nf_y {c i m X : Int} {fn fz : Nat → Int32} {V : VW_} {a : Int → Int} (R : rN_ c fn fz V) (i0 : 0 ≤ i) (i1 : i < c) (hz : gx fz i = m) (h : ∀ k : Int, 0 ≤ k → k < m → gx fn (X + k) = a k) (hX : X = 24 * i) : nE_ V i m a := sorry
theorem lx_lo {a b : Int → Int} {m n k : Int} (k0 : 0 ≤ k) (hp : ∀ j : Int, 0 ≤ j → j < k → a j = b j) (h1 : k < m) (h2 : k < n) (h : a k < b k) : lx_ a m b n := sorry
theorem lx_hi {a b : Int → Int} {m n k : Int} (k0 : 0 ≤ k) (hp : ∀ j : Int, 0 ≤ j → j < k → a j = b j) (h1 : k < m) (h2 : k < n) (h : b k < a k) : ¬ lx_ a m b n := sorry
theorem lx_e1 {a b : Int → Int} {m n k : Int} (k0 : 0 ≤ k) (hp : ∀ j : Int, 0 ≤ j → j < k → a j = b j) (he : k = m ∨ k = n) (h1 : k ≤ m) (h2 : k ≤ n) (h : m < n) : lx_ a m b n := sorry
theorem lx_e0 {a b : Int → Int} {m n k : Int} (k0 : 0 ≤ k) (hp : ∀ j : Int, 0 ≤ j → j < k → a j = b j) (he : k = m ∨ k = n) (h1 : k ≤ m) (h2 : k ≤ n) (h : ¬ m < n) : ¬ lx_ a m b n := sorry
/-- the class's copies -/
theorem rn_out {fn : Nat → Int32} {sp dp n : Int32} {i c : Int} (h1 : sp.toInt = 24 * (i + 1)) (h2 : dp.toInt = 24 * i) (h3 : n.toInt = 24 * (c - i - 1)) (i0 : 0 ≤ i) (i1 : i < c) : ∀ j : Int, 0 ≤ j → gx (va_cpy fn fn sp.toNatClampNeg dp.toNatClampNeg n.toNatClampNeg) j = if 24 * i ≤ j ∧ j < 24 * (c - 1) then gx fn (j + 24) else gx fn j := sorry
theorem rb_out {fb : Nat → Int32} {sp dp n : Int32} {g0 g1 gc : Int} (h1 : sp.toInt = g1) (h2 : dp.toInt = g0) (h3 : n.toInt = gc - g1) (p0 : 0 ≤ g0) (p1 : g0 ≤ g1) (p2 : g1 ≤ gc) : ∀ j : Int, 0 ≤ j → gr (va_cpy fb fb sp.toNatClampNeg dp.toNatClampNeg n.toNatClampNeg) j = if g0 ≤ j ∧ j < gc - (g1 - g0) then gr fb (j + (g1 - g0)) else gr fb j := sorry
theorem rn_in {fn : Nat → Int32} {sp dp n : Int32} {i c : Int} (h1 : sp.toInt = 24 * i) (h2 : dp.toInt = 24 * (i + 1)) (h3 : n.toInt = 24 * (c - i)) (i0 : 0 ≤ i) (i1 : i ≤ c) : ∀ j : Int, 0 ≤ j → gx (va_cpy fn fn sp.toNatClampNeg dp.toNatClampNeg n.toNatClampNeg) j = if 24 * (i + 1) ≤ j ∧ j < 24 * (c + 1) then gx fn (j - 24) else gx fn j := sorry
theorem rb_in {fb : Nat → Int32} {sp dp n : Int32} {g0 gc s : Int} (h1 : sp.toInt = g0) (h2 : dp.toInt = g0 + s) (h3 : n.toInt = gc - g0) (p0 : 0 ≤ g0) (p1 : g0 ≤ gc) (p2 : 0 ≤ s) : ∀ j : Int, 0 ≤ j → gr (va_cpy fb fb sp.toNatClampNeg dp.toNatClampNeg n.toNatClampNeg) j = if g0 + s ≤ j ∧ j < gc + s then gr fb (j - s) else gr fb j := sorry
theorem rn_put {f fn fn3 : Nat → Int32} {sp dp n : Int32} {x i m c : Int} (h : ∀ j : Int, 0 ≤ j → gx fn3 j = if 24 * (i + 1) ≤ j ∧ j < 24 * (c + 1) then gx fn (j - 24) else gx fn j) (h1 : sp.toInt = x) (h2 : dp.toInt = 24 * i) (h3 : n.toInt = m) (x0 : 0 ≤ x) (i0 : 0 ≤ i) (m0 : 0 ≤ m) : ∀ j : Int, 0 ≤ j → gx (va_cpy f fn3 sp.toNatClampNeg dp.toNatClampNeg n.toNatClampNeg) j = if 24 * i ≤ j ∧ j < 24 * i + m then (fun k => gx f (x + k)) (j - 24 * i) else if 24 * (i + 1) ≤ j ∧ j < 24 * (c + 1) then gx fn (j - 24) else gx fn j := sorry
theorem rb_put {f fb fb3 : Nat → Int32} {sp dp n : Int32} {y g0 gc s : Int} (h : ∀ j : Int, 0 ≤ j → gr fb3 j = if g0 + s ≤ j ∧ j < gc + s then gr fb (j - s) else gr fb j) (h1 : sp.toInt = y) (h2 : dp.toInt = g0) (h3 : n.toInt = s) (y0 : 0 ≤ y) (p0 : 0 ≤ g0) (s0 : 0 ≤ s) : ∀ j : Int, 0 ≤ j → gr (va_cpy f fb3 sp.toNatClampNeg dp.toNatClampNeg n.toNatClampNeg) j = if g0 ≤ j ∧ j < g0 + s then (fun k => gr f (y + k)) (j - g0) else if g0 + s ≤ j ∧ j < gc + s then gr fb (j - s) else gr fb j := sorry
theorem lx_r {a b b2 : Int → Int} {m n n2 : Int} (h : lx_ a m b n) (e : n = n2) (e2 : ∀ j : Int, 0 ≤ j → j < n → b j = b2 j) : lx_ a m b2 n2 := sorry
theorem lx_l {a a2 b : Int → Int} {m m2 n : Int} (h : lx_ a m b n) (e : m = m2) (e2 : ∀ j : Int, 0 ≤ j → j < m → a j = a2 j) : lx_ a2 m2 b n := sorry
theorem lg5_st {P : Int → Prop} {i i2 c : Int} (h : ∀ j : Int, i ≤ j → j < c → P j) (e : i2 = i - 1) (h3 : P (i - 1)) : ∀ j : Int, i2 ≤ j → j < c → P j := sorry
/-- a name is told by its bytes alone -/
theorem nE_cg {V : VW_} {i m : Int} {a b : Int → Int} (h : nE_ V i m a) (e : ∀ k : Int, 0 ≤ k → k < m → a k = b k) : nE_ V i m b := sorry
theorem isP_cg {V : VW_} {m r : Int} {a b : Int → Int} (h : isP_ V m a r) (e : ∀ k : Int, 0 ≤ k → k < m → a k = b k) : isP_ V m b r := sorry
/-- what adding a part makes of the parts; whether there is room -/
def AD_ (V : VW_) (a : Int → Int) (m s : Int) (d : Int → Int32) (W : VW_) : Prop := (∃ q : Int, 0 ≤ q ∧ q < vC V ∧ nE_ V q m a ∧ W = vse_ V q m a s d) ∨ ((∀ i : Int, 0 ≤ i → i < vC V → ¬ nE_ V i m a) ∧ ∃ r : Int, isP_ V m a r ∧ W = vin_ V r m a s d)
theorem AD_u {V W W2 : VW_} {a : Int → Int} {m s : Int} {d : Int → Int32} (hs : srt_ V) (h : AD_ V a m s d W) (k : AD_ V a m s d W2) : W = W2 := sorry
def RM_ (V : VW_) (a : Int → Int) (m s : Int) : Prop := s ≤ 4000 ∧ (∀ q : Int, 0 ≤ q → q < vC V → nE_ V q m a → vT V - vS V q + s ≤ 12000) ∧ ((∀ q : Int, 0 ≤ q → q < vC V → ¬ nE_ V q m a) → vT V + s ≤ 12000 ∧ vC V < 16)
theorem srt_AD {V W : VW_} {a : Int → Int} {m s : Int} {d : Int → Int32} (hs : srt_ V) (h : AD_ V a m s d W) : srt_ W := sorry
/-- the class's way: out, and in again -/
theorem AD_C {V : VW_} {a : Int → Int} {m s o r : Int} {d : Int → Int32} (hs : srt_ V) (hz : ∀ i : Int, 0 ≤ i → i < vC V → 0 ≤ vZ V i) (hm : 0 ≤ m) (hF : isF_ V m a o) (W : VW_) (hW : 0 ≤ o ∧ W = vou_ V o ∨ o = -1 ∧ W = V) (h0 : 0 ≤ r) (h1 : r ≤ vC W) (hl : ∀ i : Int, 0 ≤ i → i < r → lx_ (vN W i) (vZ W i) a m) (hr : r < vC W → ¬ lx_ (vN W r) (vZ W r) a m) : AD_ V a m s d (vin_ W r m a s d) := sorry
theorem vin_cC {c r m s : Int} {fn fz fb fg : Nat → Int32} {V : VW_} {a a' : Int → Int} {dd : Int → Int32} (h : rC_ c fn fz fb fg (vin_ V r m a s dd)) (e : ∀ k : Int, 0 ≤ k → k < m → a k = a' k) : rC_ c fn fz fb fg (vin_ V r m a' s dd) := sorry
theorem rC_hz {c : Int} {fn fz fb fg : Nat → Int32} {V : VW_} (R : rC_ c fn fz fb fg V) (I : sh_I c fz fg) : ∀ i : Int, 0 ≤ i → i < vC V → 0 ≤ vZ V i := sorry
/-- the class's room -/
theorem RM_C {c i m ls : Int} {fn fz fb fg : Nat → Int32} {V : VW_} {a : Int → Int} (R : rC_ c fn fz fb fg V) (I : sh_I c fz fg) (hs : srt_ V) (hF : isF_ V ls a i) : RM_ V a ls m ↔ (m ≤ 4000 ∧ ((0 ≤ i ∧ i < c ∧ gx fg c - (gx fg (i + 1) - gx fg i) + m ≤ 12000) ∨ (¬ (0 ≤ i ∧ i < c) ∧ c < 16 ∧ gx fg c + m ≤ 12000))) := sorry
theorem isF_cg {V : VW_} {m r : Int} {a b : Int → Int} (h : isF_ V m a r) (e : ∀ k : Int, 0 ≤ k → k < m → a k = b k) : isF_ V m b r := sorry
theorem isF_big {V : VW_} {m : Int} {a : Int → Int} (hz : ∀ i : Int, 0 ≤ i → i < vC V → vZ V i ≤ 24) (h : 24 < m) : isF_ V m a (-1) := sorry
theorem ti_255 {x z : Int32} (e : z = x &&& 255) : z.toInt = x.toInt % 256 := sorry
def bo_ (V : VW_) (i k : Int) : Int := if k < vZ V i then vN V i k % 256 else (vD V i (k - vZ V i)).toInt % 256
theorem bo_n {V : VW_} {i k v r : Int} (h : k < vZ V i) (hv : v = vN V i k) (hr : r = v % 256) : r = bo_ V i k := sorry
theorem bo_d {V : VW_} {i k r : Int} {x y : Int32} (h : ¬ k < vZ V i) (e : x = y) (hv : y = vD V i (k - vZ V i)) (hr : r = x.toInt % 256) : r = bo_ V i k := sorry
/-- names looked at by themselves -/
def cN_ (c : Int) (fn fz : Nat → Int32) : VW_ := (c, gx fz, fun i k => gx fn (24 * i + k), fun _ => 0, fun _ _ => 0)
theorem cN_R {c : Int} {fn fz : Nat → Int32} : rN_ c fn fz (cN_ c fn fz) := sorry
theorem d_Shelf_clear_0 : decode prog_10_method_2_code 0 = .ok (.aload_n 0, 1) := sorry
theorem d_Shelf_clear_1 : decode prog_10_method_2_code 1 = .ok (.iconst 0, 1) := sorry
theorem d_Shelf_clear_2 : decode prog_10_method_2_code 2 = .ok (.putfield 25, 3) := sorry
theorem k_403 : (Jvm.Cond.fieldLink "PackageBook$Shelf" (25 : Nat) "PackageBook$Shelf" "count" "I") ∈ uW := sorry
theorem d_Shelf_clear_5 : decode prog_10_method_2_code 5 = .ok (.aload_n 0, 1) := sorry
theorem d_Shelf_clear_6 : decode prog_10_method_2_code 6 = .ok (.getfield 22, 3) := sorry
theorem d_Shelf_clear_9 : decode prog_10_method_2_code 9 = .ok (.iconst 0, 1) := sorry
theorem d_Shelf_clear_10 : decode prog_10_method_2_code 10 = .ok (.iconst 0, 1) := sorry
theorem d_Shelf_clear_11 : decode prog_10_method_2_code 11 = .ok (.iastore, 1) := sorry
theorem d_Shelf_clear_12 : decode prog_10_method_2_code 12 = .ok (.return_, 1) := sorry
abbrev y_Shelf_clear : MethodName := ⟨"PackageBook$Shelf", "clear", "()V"⟩
abbrev i_Shelf_clear : pb_I := (y_Shelf_clear, prog_10_method_2_code, 1, (Option.none : Option Jvm.ClassFile.FieldType), [], { frames := 0, cells := 0, slots := 0, locals := 0 })
theorem g_Shelf_clear {l : Launch} (hl : l.stackTraces = false) (G : pb_G) (h : Nat) (sn : Nat) (sz : Nat) (sb : Nat) (sg : Nat) (c : Int32) (sfg : Nat → Int32) : Cn l G i_Shelf_clear [.ref h] [(h, .inr (3, [.ref sn, .ref sz, .ref sb, .ref sg, .int c])), (sg, .inl (G.2.2.1, 17, .inl sfg))] (S := (Nat → Int32)) (fun rv_ u => rv_ = none ∧ (∀ z : Nat → Int32, sh_I 0 z u)) (fun u => [(h, .inr (3, [.ref sn, .ref sz, .ref sb, .ref sg, .int 0])), (sg, .inl (G.2.2.1, 17, .inl u))]) := sorry
theorem d_Shelf_has_0 : decode prog_10_method_3_code 0 = .ok (.iload_n 1, 1) := sorry
theorem d_Shelf_has_1 : decode prog_10_method_3_code 1 = .ok (.ifCond .lt 15, 3) := sorry
theorem d_Shelf_has_16 : decode prog_10_method_3_code 16 = .ok (.iconst 0, 1) := sorry
theorem d_Shelf_has_17 : decode prog_10_method_3_code 17 = .ok (.ireturn, 1) := sorry
theorem d_Shelf_has_4 : decode prog_10_method_3_code 4 = .ok (.iload_n 1, 1) := sorry
theorem d_Shelf_has_5 : decode prog_10_method_3_code 5 = .ok (.aload_n 0, 1) := sorry
theorem d_Shelf_has_6 : decode prog_10_method_3_code 6 = .ok (.getfield 25, 3) := sorry
theorem d_Shelf_has_9 : decode prog_10_method_3_code 9 = .ok (.if_icmp .ge 7, 3) := sorry
theorem d_Shelf_has_12 : decode prog_10_method_3_code 12 = .ok (.iconst 1, 1) := sorry
theorem d_Shelf_has_13 : decode prog_10_method_3_code 13 = .ok (.goto 4, 3) := sorry
abbrev y_Shelf_has : MethodName := ⟨"PackageBook$Shelf", "has", "(I)Z"⟩
abbrev i_Shelf_has : pb_I := (y_Shelf_has, prog_10_method_3_code, 2, (some Jvm.ClassFile.FieldType.boolean), [], { frames := 0, cells := 0, slots := 0, locals := 0 })
theorem g_Shelf_has {l : Launch} (hl : l.stackTraces = false) (G : pb_G) (h : Nat) (sn : Nat) (sz : Nat) (sb : Nat) (sg : Nat) (c : Int32) (i : Int32) : Cn l G i_Shelf_has [.ref h, .int i] [(h, .inr (3, [.ref sn, .ref sz, .ref sb, .ref sg, .int c]))] (S := Int32) (fun rv_ u => rv_ = some (.int u) ∧ (u.toInt = 0 ∨ u.toInt = 1) ∧ (u.toInt = 1 ↔ 0 ≤ i.toInt ∧ i.toInt < c.toInt)) (fun u => [(h, .inr (3, [.ref sn, .ref sz, .ref sb, .ref sg, .int c]))]) := sorry
theorem d_Shelf_sizeOf_0 : decode prog_10_method_4_code 0 = .ok (.aload_n 0, 1) := sorry
theorem d_Shelf_sizeOf_1 : decode prog_10_method_4_code 1 = .ok (.getfield 22, 3) := sorry
theorem d_Shelf_sizeOf_4 : decode prog_10_method_4_code 4 = .ok (.iload_n 1, 1) := sorry
theorem d_Shelf_sizeOf_5 : decode prog_10_method_4_code 5 = .ok (.iconst 1, 1) := sorry
theorem d_Shelf_sizeOf_6 : decode prog_10_method_4_code 6 = .ok (.iadd, 1) := sorry
theorem d_Shelf_sizeOf_7 : decode prog_10_method_4_code 7 = .ok (.iaload, 1) := sorry
theorem d_Shelf_sizeOf_8 : decode prog_10_method_4_code 8 = .ok (.aload_n 0, 1) := sorry
theorem d_Shelf_sizeOf_9 : decode prog_10_method_4_code 9 = .ok (.getfield 22, 3) := sorry
theorem d_Shelf_sizeOf_12 : decode prog_10_method_4_code 12 = .ok (.iload_n 1, 1) := sorry
theorem d_Shelf_sizeOf_13 : decode prog_10_method_4_code 13 = .ok (.iaload, 1) := sorry
theorem d_Shelf_sizeOf_14 : decode prog_10_method_4_code 14 = .ok (.isub, 1) := sorry
theorem d_Shelf_sizeOf_15 : decode prog_10_method_4_code 15 = .ok (.ireturn, 1) := sorry
abbrev y_Shelf_sizeOf : MethodName := ⟨"PackageBook$Shelf", "sizeOf", "(I)I"⟩
abbrev i_Shelf_sizeOf : pb_I := (y_Shelf_sizeOf, prog_10_method_4_code, 2, (some Jvm.ClassFile.FieldType.int), [], { frames := 0, cells := 0, slots := 0, locals := 0 })
theorem g_Shelf_sizeOf {l : Launch} (hl : l.stackTraces = false) (G : pb_G) (h : Nat) (sn : Nat) (sz : Nat) (sb : Nat) (sg : Nat) (c : Int32) (sfz : Nat → Int32) (sfg : Nat → Int32) (i : Int32) (I : sh_I c.toInt sfz sfg) (h0 : 0 ≤ i.toInt) (h1 : i.toInt < c.toInt) : Cn l G i_Shelf_sizeOf [.ref h, .int i] [(h, .inr (3, [.ref sn, .ref sz, .ref sb, .ref sg, .int c])), (sg, .inl (G.2.2.1, 17, .inl sfg))] (S := Int32) (fun rv_ u => rv_ = some (.int u) ∧ (u.toInt = gx sfg (i.toInt + 1) - gx sfg i.toInt) ∧ (0 ≤ u.toInt) ∧ (u.toInt ≤ 4000)) (fun u => [(h, .inr (3, [.ref sn, .ref sz, .ref sb, .ref sg, .int c])), (sg, .inl (G.2.2.1, 17, .inl sfg))]) := sorry
theorem d_Shelf_inAll_0 : decode prog_10_method_5_code 0 = .ok (.aload_n 0, 1) := sorry
theorem d_Shelf_inAll_1 : decode prog_10_method_5_code 1 = .ok (.getfield 22, 3) := sorry
theorem d_Shelf_inAll_4 : decode prog_10_method_5_code 4 = .ok (.aload_n 0, 1) := sorry
theorem d_Shelf_inAll_5 : decode prog_10_method_5_code 5 = .ok (.getfield 25, 3) := sorry
theorem d_Shelf_inAll_8 : decode prog_10_method_5_code 8 = .ok (.iaload, 1) := sorry
theorem d_Shelf_inAll_9 : decode prog_10_method_5_code 9 = .ok (.ireturn, 1) := sorry
abbrev y_Shelf_inAll : MethodName := ⟨"PackageBook$Shelf", "inAll", "()I"⟩
abbrev i_Shelf_inAll : pb_I := (y_Shelf_inAll, prog_10_method_5_code, 1, (some Jvm.ClassFile.FieldType.int), [], { frames := 0, cells := 0, slots := 0, locals := 0 })
theorem g_Shelf_inAll {l : Launch} (hl : l.stackTraces = false) (G : pb_G) (h : Nat) (sn : Nat) (sz : Nat) (sb : Nat) (sg : Nat) (c : Int32) (sfz : Nat → Int32) (sfg : Nat → Int32) (I : sh_I c.toInt sfz sfg) : Cn l G i_Shelf_inAll [.ref h] [(h, .inr (3, [.ref sn, .ref sz, .ref sb, .ref sg, .int c])), (sg, .inl (G.2.2.1, 17, .inl sfg))] (S := Int32) (fun rv_ u => rv_ = some (.int u) ∧ (u.toInt = gx sfg c.toInt) ∧ (0 ≤ u.toInt) ∧ (u.toInt ≤ 12000)) (fun u => [(h, .inr (3, [.ref sn, .ref sz, .ref sb, .ref sg, .int c])), (sg, .inl (G.2.2.1, 17, .inl sfg))]) := sorry
theorem d_Shelf_find_0 : decode prog_10_method_6_code 0 = .ok (.iconst 0, 1) := sorry
theorem d_Shelf_find_1 : decode prog_10_method_6_code 1 = .ok (.istore 4, 2) := sorry
theorem d_Shelf_find_3 : decode prog_10_method_6_code 3 = .ok (.iload 4, 2) := sorry
theorem d_Shelf_find_5 : decode prog_10_method_6_code 5 = .ok (.aload_n 0, 1) := sorry
theorem d_Shelf_find_6 : decode prog_10_method_6_code 6 = .ok (.getfield 25, 3) := sorry
theorem d_Shelf_find_9 : decode prog_10_method_6_code 9 = .ok (.if_icmp .ge 41, 3) := sorry
theorem d_Shelf_find_50 : decode prog_10_method_6_code 50 = .ok (.iconst (-1), 1) := sorry
theorem d_Shelf_find_51 : decode prog_10_method_6_code 51 = .ok (.ireturn, 1) := sorry
theorem d_Shelf_find_12 : decode prog_10_method_6_code 12 = .ok (.aload_n 0, 1) := sorry
theorem d_Shelf_find_13 : decode prog_10_method_6_code 13 = .ok (.getfield 15, 3) := sorry
theorem d_Shelf_find_16 : decode prog_10_method_6_code 16 = .ok (.iload 4, 2) := sorry
theorem d_Shelf_find_18 : decode prog_10_method_6_code 18 = .ok (.iaload, 1) := sorry
theorem d_Shelf_find_19 : decode prog_10_method_6_code 19 = .ok (.iload_n 3, 1) := sorry
theorem d_Shelf_find_20 : decode prog_10_method_6_code 20 = .ok (.if_icmp .ne 24, 3) := sorry
theorem d_Shelf_find_44 : decode prog_10_method_6_code 44 = .ok (.iinc 4 1, 3) := sorry
theorem d_Shelf_find_47 : decode prog_10_method_6_code 47 = .ok (.goto (-44), 3) := sorry
theorem d_Shelf_find_23 : decode prog_10_method_6_code 23 = .ok (.aload_n 0, 1) := sorry
theorem d_Shelf_find_24 : decode prog_10_method_6_code 24 = .ok (.getfield 9, 3) := sorry
theorem d_Shelf_find_27 : decode prog_10_method_6_code 27 = .ok (.bipush 24, 2) := sorry
theorem d_Shelf_find_29 : decode prog_10_method_6_code 29 = .ok (.iload 4, 2) := sorry
theorem d_Shelf_find_31 : decode prog_10_method_6_code 31 = .ok (.imul, 1) := sorry
theorem d_Shelf_find_32 : decode prog_10_method_6_code 32 = .ok (.aload_n 1, 1) := sorry
theorem d_Shelf_find_33 : decode prog_10_method_6_code 33 = .ok (.iload_n 2, 1) := sorry
theorem d_Shelf_find_34 : decode prog_10_method_6_code 34 = .ok (.iload_n 3, 1) := sorry
theorem d_Shelf_find_35 : decode prog_10_method_6_code 35 = .ok (.invokestatic 29, 3) := sorry
theorem k_463 : (Jvm.Cond.methodLinkNest "PackageBook$Shelf" (29 : Nat) ({ cls := "PackageBook", name := "isSame", desc := "([BI[BII)Z" } : Jvm.MethodName) "PackageBook") ∈ uN := sorry
theorem k_465 : (Jvm.Cond.code ({ cls := "PackageBook", name := "isSame", desc := "([BI[BII)Z" } : Jvm.MethodName) prog_1_method_28_code (6 : Nat) (Option.some Jvm.ClassFile.FieldType.boolean)) ∈ uW := sorry
theorem k_464 : (Jvm.Cond.static ({ cls := "PackageBook", name := "isSame", desc := "([BI[BII)Z" } : Jvm.MethodName)) ∈ uW := sorry
theorem hy_Book_isSame : (y_Book_isSame).cls ≠ "java/lang/invoke/MethodHandle" ∧ (y_Book_isSame).cls ≠ "java/lang/invoke/VarHandle" ∧ (parseMethodDescriptor (y_Book_isSame).desc).map (fun d => d.parameters.length) = some 5 := sorry
theorem d_Shelf_find_38 : decode prog_10_method_6_code 38 = .ok (.ifCond .eq 6, 3) := sorry
theorem d_Shelf_find_41 : decode prog_10_method_6_code 41 = .ok (.iload 4, 2) := sorry
theorem d_Shelf_find_43 : decode prog_10_method_6_code 43 = .ok (.ireturn, 1) := sorry
abbrev y_Shelf_find : MethodName := ⟨"PackageBook$Shelf", "find", "([BII)I"⟩
abbrev i_Shelf_find : pb_I := (y_Shelf_find, prog_10_method_6_code, 5, (some Jvm.ClassFile.FieldType.int), [], { frames := 1, cells := 0, slots := 0, locals := 25 })
theorem g_Shelf_find {l : Launch} (hl : l.stackTraces = false) (G : pb_G) (h : Nat) (sn : Nat) (sz : Nat) (sb : Nat) (sg : Nat) (c : Int32) (sfn : Nat → Int32) (sfz : Nat → Int32) (b : Nat) (N : Nat) (f : Nat → Int32) (sfg : Nat → Int32) (x : Int32) (n : Int32) (V : VW_) (R : rN_ c.toInt sfn sfz V) (I : sh_I c.toInt sfz sfg) (h0 : 0 ≤ x.toInt) (h1 : x.toInt + n.toInt ≤ N) (h2 : N ≤ 1000000) (F_sfn : sb_Fit sfn) (F_f : sb_Fit f) : Cn l G i_Shelf_find [.ref h, .ref b, .int x, .int n] [(h, .inr (3, [.ref sn, .ref sz, .ref sb, .ref sg, .int c])), (sn, .inl (G.2.1, 384, .inl sfn)), (sz, .inl (G.2.2.1, 16, .inl sfz)), (b, .inl (G.2.1, N, .inl f))] (S := Int32) (fun rv_ u => rv_ = some (.int u) ∧ (-1 ≤ u.toInt) ∧ (u.toInt < c.toInt) ∧ (isF_ V n.toInt (fun k => gx f (x.toInt + k)) u.toInt)) (fun u => [(h, .inr (3, [.ref sn, .ref sz, .ref sb, .ref sg, .int c])), (sn, .inl (G.2.1, 384, .inl sfn)), (sz, .inl (G.2.2.1, 16, .inl sfz)), (b, .inl (G.2.1, N, .inl f))]) := sorry
theorem g_Shelf_find1 {l : Launch} (hl : l.stackTraces = false) (G : pb_G) (h : Nat) (sn : Nat) (sz : Nat) (sb : Nat) (sg : Nat) (c : Int32) (sfn : Nat → Int32) (sfz : Nat → Int32) (sfg : Nat → Int32) (x : Int32) (n : Int32) (V : VW_) (R : rN_ c.toInt sfn sfz V) (I : sh_I c.toInt sfz sfg) (h0 : 0 ≤ x.toInt) (h1 : x.toInt + n.toInt ≤ 384) (F_sfn : sb_Fit sfn) : Cn l G i_Shelf_find [.ref h, .ref sn, .int x, .int n] [(h, .inr (3, [.ref sn, .ref sz, .ref sb, .ref sg, .int c])), (sn, .inl (G.2.1, 384, .inl sfn)), (sz, .inl (G.2.2.1, 16, .inl sfz))] (S := Int32) (fun rv_ u => rv_ = some (.int u) ∧ (-1 ≤ u.toInt) ∧ (u.toInt < c.toInt) ∧ (isF_ V n.toInt (fun k => gx sfn (x.toInt + k)) u.toInt)) (fun u => [(h, .inr (3, [.ref sn, .ref sz, .ref sb, .ref sg, .int c])), (sn, .inl (G.2.1, 384, .inl sfn)), (sz, .inl (G.2.2.1, 16, .inl sfz))]) := sorry
theorem d_Shelf_hasRoom_35 : decode prog_10_method_7_code 35 = .ok (.iload_n 2, 1) := sorry
theorem d_Shelf_hasRoom_36 : decode prog_10_method_7_code 36 = .ok (.sipush 4000, 3) := sorry
theorem d_Shelf_hasRoom_39 : decode prog_10_method_7_code 39 = .ok (.if_icmp .gt 21, 3) := sorry
theorem d_Shelf_hasRoom_60 : decode prog_10_method_7_code 60 = .ok (.iconst 0, 1) := sorry
theorem d_Shelf_hasRoom_61 : decode prog_10_method_7_code 61 = .ok (.ireturn, 1) := sorry
theorem d_Shelf_hasRoom_42 : decode prog_10_method_7_code 42 = .ok (.aload_n 0, 1) := sorry
theorem d_Shelf_hasRoom_43 : decode prog_10_method_7_code 43 = .ok (.invokevirtual 41, 3) := sorry
theorem k_478 : (Jvm.Cond.methodLink "PackageBook$Shelf" (41 : Nat) ({ cls := "PackageBook$Shelf", name := "inAll", desc := "()I" } : Jvm.MethodName)) ∈ uW := sorry
theorem k_127 : (Jvm.Cond.initialized "PackageBook$Shelf") ∈ uW := sorry
theorem k_481 : (Jvm.Cond.code ({ cls := "PackageBook$Shelf", name := "inAll", desc := "()I" } : Jvm.MethodName) prog_10_method_5_code (1 : Nat) (Option.some Jvm.ClassFile.FieldType.int)) ∈ uW := sorry
theorem k_479 : (Jvm.Cond.instanceMethod ({ cls := "PackageBook$Shelf", name := "inAll", desc := "()I" } : Jvm.MethodName)) ∈ uW := sorry
theorem k_480 : (Jvm.Cond.selects "PackageBook$Shelf" ({ cls := "PackageBook$Shelf", name := "inAll", desc := "()I" } : Jvm.MethodName) ({ cls := "PackageBook$Shelf", name := "inAll", desc := "()I" } : Jvm.MethodName)) ∈ uW := sorry
theorem hy_Shelf_inAll : (y_Shelf_inAll).cls ≠ "java/lang/invoke/MethodHandle" ∧ (y_Shelf_inAll).cls ≠ "java/lang/invoke/VarHandle" ∧ (parseMethodDescriptor (y_Shelf_inAll).desc).map (fun d => d.parameters.length) = some 0 := sorry
theorem d_Shelf_hasRoom_46 : decode prog_10_method_7_code 46 = .ok (.iload_n 3, 1) := sorry
theorem d_Shelf_hasRoom_47 : decode prog_10_method_7_code 47 = .ok (.isub, 1) := sorry
theorem d_Shelf_hasRoom_48 : decode prog_10_method_7_code 48 = .ok (.iload_n 2, 1) := sorry
theorem d_Shelf_hasRoom_49 : decode prog_10_method_7_code 49 = .ok (.iadd, 1) := sorry
theorem d_Shelf_hasRoom_50 : decode prog_10_method_7_code 50 = .ok (.sipush 12000, 3) := sorry
theorem d_Shelf_hasRoom_53 : decode prog_10_method_7_code 53 = .ok (.if_icmp .gt 7, 3) := sorry
theorem d_Shelf_hasRoom_56 : decode prog_10_method_7_code 56 = .ok (.iconst 1, 1) := sorry
theorem d_Shelf_hasRoom_57 : decode prog_10_method_7_code 57 = .ok (.goto 4, 3) := sorry
theorem d_Shelf_hasRoom_18 : decode prog_10_method_7_code 18 = .ok (.aload_n 0, 1) := sorry
theorem d_Shelf_hasRoom_19 : decode prog_10_method_7_code 19 = .ok (.iload_n 1, 1) := sorry
theorem d_Shelf_hasRoom_20 : decode prog_10_method_7_code 20 = .ok (.invokevirtual 33, 3) := sorry
theorem k_470 : (Jvm.Cond.methodLink "PackageBook$Shelf" (33 : Nat) ({ cls := "PackageBook$Shelf", name := "has", desc := "(I)Z" } : Jvm.MethodName)) ∈ uW := sorry
theorem k_473 : (Jvm.Cond.code ({ cls := "PackageBook$Shelf", name := "has", desc := "(I)Z" } : Jvm.MethodName) prog_10_method_3_code (2 : Nat) (Option.some Jvm.ClassFile.FieldType.boolean)) ∈ uW := sorry
theorem k_471 : (Jvm.Cond.instanceMethod ({ cls := "PackageBook$Shelf", name := "has", desc := "(I)Z" } : Jvm.MethodName)) ∈ uW := sorry
theorem k_472 : (Jvm.Cond.selects "PackageBook$Shelf" ({ cls := "PackageBook$Shelf", name := "has", desc := "(I)Z" } : Jvm.MethodName) ({ cls := "PackageBook$Shelf", name := "has", desc := "(I)Z" } : Jvm.MethodName)) ∈ uW := sorry
theorem hy_Shelf_has : (y_Shelf_has).cls ≠ "java/lang/invoke/MethodHandle" ∧ (y_Shelf_has).cls ≠ "java/lang/invoke/VarHandle" ∧ (parseMethodDescriptor (y_Shelf_has).desc).map (fun d => d.parameters.length) = some 1 := sorry
theorem d_Shelf_hasRoom_23 : decode prog_10_method_7_code 23 = .ok (.ifCond .ne 12, 3) := sorry
theorem d_Shelf_hasRoom_26 : decode prog_10_method_7_code 26 = .ok (.aload_n 0, 1) := sorry
theorem d_Shelf_hasRoom_27 : decode prog_10_method_7_code 27 = .ok (.getfield 25, 3) := sorry
theorem d_Shelf_hasRoom_30 : decode prog_10_method_7_code 30 = .ok (.bipush 16, 2) := sorry
theorem d_Shelf_hasRoom_32 : decode prog_10_method_7_code 32 = .ok (.if_icmp .ge 28, 3) := sorry
theorem d_Shelf_hasRoom_0 : decode prog_10_method_7_code 0 = .ok (.aload_n 0, 1) := sorry
theorem d_Shelf_hasRoom_1 : decode prog_10_method_7_code 1 = .ok (.iload_n 1, 1) := sorry
theorem d_Shelf_hasRoom_2 : decode prog_10_method_7_code 2 = .ok (.invokevirtual 33, 3) := sorry
theorem d_Shelf_hasRoom_5 : decode prog_10_method_7_code 5 = .ok (.ifCond .eq 11, 3) := sorry
theorem d_Shelf_hasRoom_16 : decode prog_10_method_7_code 16 = .ok (.iconst 0, 1) := sorry
theorem d_Shelf_hasRoom_17 : decode prog_10_method_7_code 17 = .ok (.istore_n 3, 1) := sorry
theorem d_Shelf_hasRoom_8 : decode prog_10_method_7_code 8 = .ok (.aload_n 0, 1) := sorry
theorem d_Shelf_hasRoom_9 : decode prog_10_method_7_code 9 = .ok (.iload_n 1, 1) := sorry
theorem d_Shelf_hasRoom_10 : decode prog_10_method_7_code 10 = .ok (.invokevirtual 37, 3) := sorry
theorem k_474 : (Jvm.Cond.methodLink "PackageBook$Shelf" (37 : Nat) ({ cls := "PackageBook$Shelf", name := "sizeOf", desc := "(I)I" } : Jvm.MethodName)) ∈ uW := sorry
theorem k_477 : (Jvm.Cond.code ({ cls := "PackageBook$Shelf", name := "sizeOf", desc := "(I)I" } : Jvm.MethodName) prog_10_method_4_code (2 : Nat) (Option.some Jvm.ClassFile.FieldType.int)) ∈ uW := sorry
theorem k_475 : (Jvm.Cond.instanceMethod ({ cls := "PackageBook$Shelf", name := "sizeOf", desc := "(I)I" } : Jvm.MethodName)) ∈ uW := sorry
theorem k_476 : (Jvm.Cond.selects "PackageBook$Shelf" ({ cls := "PackageBook$Shelf", name := "sizeOf", desc := "(I)I" } : Jvm.MethodName) ({ cls := "PackageBook$Shelf", name := "sizeOf", desc := "(I)I" } : Jvm.MethodName)) ∈ uW := sorry
theorem hy_Shelf_sizeOf : (y_Shelf_sizeOf).cls ≠ "java/lang/invoke/MethodHandle" ∧ (y_Shelf_sizeOf).cls ≠ "java/lang/invoke/VarHandle" ∧ (parseMethodDescriptor (y_Shelf_sizeOf).desc).map (fun d => d.parameters.length) = some 1 := sorry
theorem d_Shelf_hasRoom_13 : decode prog_10_method_7_code 13 = .ok (.goto 4, 3) := sorry
abbrev y_Shelf_hasRoom : MethodName := ⟨"PackageBook$Shelf", "hasRoom", "(II)Z"⟩
abbrev i_Shelf_hasRoom : pb_I := (y_Shelf_hasRoom, prog_10_method_7_code, 4, (some Jvm.ClassFile.FieldType.boolean), [], { frames := 1, cells := 0, slots := 0, locals := 21 })
theorem g_Shelf_hasRoom {l : Launch} (hl : l.stackTraces = false) (G : pb_G) (h : Nat) (sn : Nat) (sz : Nat) (sb : Nat) (sg : Nat) (c : Int32) (sfz : Nat → Int32) (sfg : Nat → Int32) (i : Int32) (n : Int32) (I : sh_I c.toInt sfz sfg) (h0 : 0 ≤ n.toInt) : Cn l G i_Shelf_hasRoom [.ref h, .int i, .int n] [(h, .inr (3, [.ref sn, .ref sz, .ref sb, .ref sg, .int c])), (sg, .inl (G.2.2.1, 17, .inl sfg))] (S := Int32) (fun rv_ u => rv_ = some (.int u) ∧ (u.toInt = 0 ∨ u.toInt = 1) ∧ (u.toInt = 1 → n.toInt ≤ 4000 ∧ ((0 ≤ i.toInt ∧ i.toInt < c.toInt ∧ gx sfg c.toInt - (gx sfg (i.toInt + 1) - gx sfg i.toInt) + n.toInt ≤ 12000) ∨ (¬ (0 ≤ i.toInt ∧ i.toInt < c.toInt) ∧ c.toInt < 16 ∧ gx sfg c.toInt + n.toInt ≤ 12000))) ∧ (u.toInt = 0 → ¬ (n.toInt ≤ 4000 ∧ ((0 ≤ i.toInt ∧ i.toInt < c.toInt ∧ gx sfg c.toInt - (gx sfg (i.toInt + 1) - gx sfg i.toInt) + n.toInt ≤ 12000) ∨ (¬ (0 ≤ i.toInt ∧ i.toInt < c.toInt) ∧ c.toInt < 16 ∧ gx sfg c.toInt + n.toInt ≤ 12000))))) (fun u => [(h, .inr (3, [.ref sn, .ref sz, .ref sb, .ref sg, .int c])), (sg, .inl (G.2.2.1, 17, .inl sfg))]) := sorry
theorem d_Shelf_takeOut_0 : decode prog_10_method_8_code 0 = .ok (.aload_n 0, 1) := sorry
theorem d_Shelf_takeOut_1 : decode prog_10_method_8_code 1 = .ok (.iload_n 1, 1) := sorry
theorem d_Shelf_takeOut_2 : decode prog_10_method_8_code 2 = .ok (.invokevirtual 33, 3) := sorry
theorem d_Shelf_takeOut_5 : decode prog_10_method_8_code 5 = .ok (.ifCond .ne 4, 3) := sorry
theorem d_Shelf_takeOut_9 : decode prog_10_method_8_code 9 = .ok (.aload_n 0, 1) := sorry
theorem d_Shelf_takeOut_10 : decode prog_10_method_8_code 10 = .ok (.iload_n 1, 1) := sorry
theorem d_Shelf_takeOut_11 : decode prog_10_method_8_code 11 = .ok (.invokevirtual 37, 3) := sorry
theorem d_Shelf_takeOut_14 : decode prog_10_method_8_code 14 = .ok (.istore_n 2, 1) := sorry
theorem d_Shelf_takeOut_15 : decode prog_10_method_8_code 15 = .ok (.aload_n 0, 1) := sorry
theorem d_Shelf_takeOut_16 : decode prog_10_method_8_code 16 = .ok (.getfield 25, 3) := sorry
theorem d_Shelf_takeOut_19 : decode prog_10_method_8_code 19 = .ok (.iload_n 1, 1) := sorry
theorem d_Shelf_takeOut_20 : decode prog_10_method_8_code 20 = .ok (.isub, 1) := sorry
theorem d_Shelf_takeOut_21 : decode prog_10_method_8_code 21 = .ok (.iconst 1, 1) := sorry
theorem d_Shelf_takeOut_22 : decode prog_10_method_8_code 22 = .ok (.isub, 1) := sorry
theorem d_Shelf_takeOut_23 : decode prog_10_method_8_code 23 = .ok (.istore_n 3, 1) := sorry
theorem d_Shelf_takeOut_24 : decode prog_10_method_8_code 24 = .ok (.aload_n 0, 1) := sorry
theorem d_Shelf_takeOut_25 : decode prog_10_method_8_code 25 = .ok (.getfield 19, 3) := sorry
theorem d_Shelf_takeOut_28 : decode prog_10_method_8_code 28 = .ok (.aload_n 0, 1) := sorry
theorem d_Shelf_takeOut_29 : decode prog_10_method_8_code 29 = .ok (.getfield 22, 3) := sorry
theorem d_Shelf_takeOut_32 : decode prog_10_method_8_code 32 = .ok (.iload_n 1, 1) := sorry
theorem d_Shelf_takeOut_33 : decode prog_10_method_8_code 33 = .ok (.iconst 1, 1) := sorry
theorem d_Shelf_takeOut_34 : decode prog_10_method_8_code 34 = .ok (.iadd, 1) := sorry
theorem d_Shelf_takeOut_35 : decode prog_10_method_8_code 35 = .ok (.iaload, 1) := sorry
theorem d_Shelf_takeOut_36 : decode prog_10_method_8_code 36 = .ok (.aload_n 0, 1) := sorry
theorem d_Shelf_takeOut_37 : decode prog_10_method_8_code 37 = .ok (.getfield 19, 3) := sorry
theorem d_Shelf_takeOut_40 : decode prog_10_method_8_code 40 = .ok (.aload_n 0, 1) := sorry
theorem d_Shelf_takeOut_41 : decode prog_10_method_8_code 41 = .ok (.getfield 22, 3) := sorry
theorem d_Shelf_takeOut_44 : decode prog_10_method_8_code 44 = .ok (.iload_n 1, 1) := sorry
theorem d_Shelf_takeOut_45 : decode prog_10_method_8_code 45 = .ok (.iaload, 1) := sorry
theorem d_Shelf_takeOut_46 : decode prog_10_method_8_code 46 = .ok (.aload_n 0, 1) := sorry
theorem d_Shelf_takeOut_47 : decode prog_10_method_8_code 47 = .ok (.invokevirtual 41, 3) := sorry
theorem d_Shelf_takeOut_50 : decode prog_10_method_8_code 50 = .ok (.aload_n 0, 1) := sorry
theorem d_Shelf_takeOut_51 : decode prog_10_method_8_code 51 = .ok (.getfield 22, 3) := sorry
theorem d_Shelf_takeOut_54 : decode prog_10_method_8_code 54 = .ok (.iload_n 1, 1) := sorry
theorem d_Shelf_takeOut_55 : decode prog_10_method_8_code 55 = .ok (.iconst 1, 1) := sorry
theorem d_Shelf_takeOut_56 : decode prog_10_method_8_code 56 = .ok (.iadd, 1) := sorry
theorem d_Shelf_takeOut_57 : decode prog_10_method_8_code 57 = .ok (.iaload, 1) := sorry
theorem d_Shelf_takeOut_58 : decode prog_10_method_8_code 58 = .ok (.isub, 1) := sorry
theorem d_Shelf_takeOut_59 : decode prog_10_method_8_code 59 = .ok (.invokestatic 45, 3) := sorry
theorem k_482 : (Jvm.Cond.methodLink "PackageBook$Shelf" (45 : Nat) ({ cls := "java/lang/System", name := "arraycopy", desc := "(Ljava/lang/Object;ILjava/lang/Object;II)V" } : Jvm.MethodName)) ∈ uW := sorry
theorem d_Shelf_takeOut_62 : decode prog_10_method_8_code 62 = .ok (.aload_n 0, 1) := sorry
theorem d_Shelf_takeOut_63 : decode prog_10_method_8_code 63 = .ok (.getfield 9, 3) := sorry
theorem d_Shelf_takeOut_66 : decode prog_10_method_8_code 66 = .ok (.bipush 24, 2) := sorry
theorem d_Shelf_takeOut_68 : decode prog_10_method_8_code 68 = .ok (.iload_n 1, 1) := sorry
theorem d_Shelf_takeOut_69 : decode prog_10_method_8_code 69 = .ok (.iconst 1, 1) := sorry
theorem d_Shelf_takeOut_70 : decode prog_10_method_8_code 70 = .ok (.iadd, 1) := sorry
theorem d_Shelf_takeOut_71 : decode prog_10_method_8_code 71 = .ok (.imul, 1) := sorry
theorem d_Shelf_takeOut_72 : decode prog_10_method_8_code 72 = .ok (.aload_n 0, 1) := sorry
theorem d_Shelf_takeOut_73 : decode prog_10_method_8_code 73 = .ok (.getfield 9, 3) := sorry
theorem d_Shelf_takeOut_76 : decode prog_10_method_8_code 76 = .ok (.bipush 24, 2) := sorry
theorem d_Shelf_takeOut_78 : decode prog_10_method_8_code 78 = .ok (.iload_n 1, 1) := sorry
theorem d_Shelf_takeOut_79 : decode prog_10_method_8_code 79 = .ok (.imul, 1) := sorry
theorem d_Shelf_takeOut_80 : decode prog_10_method_8_code 80 = .ok (.bipush 24, 2) := sorry
theorem d_Shelf_takeOut_82 : decode prog_10_method_8_code 82 = .ok (.iload_n 3, 1) := sorry
theorem d_Shelf_takeOut_83 : decode prog_10_method_8_code 83 = .ok (.imul, 1) := sorry
theorem d_Shelf_takeOut_84 : decode prog_10_method_8_code 84 = .ok (.invokestatic 45, 3) := sorry
theorem d_Shelf_takeOut_87 : decode prog_10_method_8_code 87 = .ok (.aload_n 0, 1) := sorry
theorem d_Shelf_takeOut_88 : decode prog_10_method_8_code 88 = .ok (.getfield 15, 3) := sorry
theorem d_Shelf_takeOut_91 : decode prog_10_method_8_code 91 = .ok (.iload_n 1, 1) := sorry
theorem d_Shelf_takeOut_92 : decode prog_10_method_8_code 92 = .ok (.iconst 1, 1) := sorry
theorem d_Shelf_takeOut_93 : decode prog_10_method_8_code 93 = .ok (.iadd, 1) := sorry
theorem d_Shelf_takeOut_94 : decode prog_10_method_8_code 94 = .ok (.aload_n 0, 1) := sorry
theorem d_Shelf_takeOut_95 : decode prog_10_method_8_code 95 = .ok (.getfield 15, 3) := sorry
theorem d_Shelf_takeOut_98 : decode prog_10_method_8_code 98 = .ok (.iload_n 1, 1) := sorry
theorem d_Shelf_takeOut_99 : decode prog_10_method_8_code 99 = .ok (.iload_n 3, 1) := sorry
theorem d_Shelf_takeOut_100 : decode prog_10_method_8_code 100 = .ok (.invokestatic 45, 3) := sorry
theorem d_Shelf_takeOut_103 : decode prog_10_method_8_code 103 = .ok (.iload_n 1, 1) := sorry
theorem d_Shelf_takeOut_104 : decode prog_10_method_8_code 104 = .ok (.istore 4, 2) := sorry
theorem d_Shelf_takeOut_106 : decode prog_10_method_8_code 106 = .ok (.iload 4, 2) := sorry
theorem d_Shelf_takeOut_108 : decode prog_10_method_8_code 108 = .ok (.aload_n 0, 1) := sorry
theorem d_Shelf_takeOut_109 : decode prog_10_method_8_code 109 = .ok (.getfield 25, 3) := sorry
theorem d_Shelf_takeOut_112 : decode prog_10_method_8_code 112 = .ok (.if_icmp .ge 27, 3) := sorry
theorem d_Shelf_takeOut_139 : decode prog_10_method_8_code 139 = .ok (.aload_n 0, 1) := sorry
theorem d_Shelf_takeOut_140 : decode prog_10_method_8_code 140 = .ok (.dup, 1) := sorry
theorem d_Shelf_takeOut_141 : decode prog_10_method_8_code 141 = .ok (.getfield 25, 3) := sorry
theorem d_Shelf_takeOut_144 : decode prog_10_method_8_code 144 = .ok (.iconst 1, 1) := sorry
theorem d_Shelf_takeOut_145 : decode prog_10_method_8_code 145 = .ok (.isub, 1) := sorry
theorem d_Shelf_takeOut_146 : decode prog_10_method_8_code 146 = .ok (.putfield 25, 3) := sorry
theorem d_Shelf_takeOut_149 : decode prog_10_method_8_code 149 = .ok (.return_, 1) := sorry
theorem d_Shelf_takeOut_115 : decode prog_10_method_8_code 115 = .ok (.aload_n 0, 1) := sorry
theorem d_Shelf_takeOut_116 : decode prog_10_method_8_code 116 = .ok (.getfield 22, 3) := sorry
theorem d_Shelf_takeOut_119 : decode prog_10_method_8_code 119 = .ok (.iload 4, 2) := sorry
theorem d_Shelf_takeOut_121 : decode prog_10_method_8_code 121 = .ok (.aload_n 0, 1) := sorry
theorem d_Shelf_takeOut_122 : decode prog_10_method_8_code 122 = .ok (.getfield 22, 3) := sorry
theorem d_Shelf_takeOut_125 : decode prog_10_method_8_code 125 = .ok (.iload 4, 2) := sorry
theorem d_Shelf_takeOut_127 : decode prog_10_method_8_code 127 = .ok (.iconst 1, 1) := sorry
theorem d_Shelf_takeOut_128 : decode prog_10_method_8_code 128 = .ok (.iadd, 1) := sorry
theorem d_Shelf_takeOut_129 : decode prog_10_method_8_code 129 = .ok (.iaload, 1) := sorry
theorem d_Shelf_takeOut_130 : decode prog_10_method_8_code 130 = .ok (.iload_n 2, 1) := sorry
theorem d_Shelf_takeOut_131 : decode prog_10_method_8_code 131 = .ok (.isub, 1) := sorry
theorem d_Shelf_takeOut_132 : decode prog_10_method_8_code 132 = .ok (.iastore, 1) := sorry
theorem d_Shelf_takeOut_133 : decode prog_10_method_8_code 133 = .ok (.iinc 4 1, 3) := sorry
theorem d_Shelf_takeOut_136 : decode prog_10_method_8_code 136 = .ok (.goto (-30), 3) := sorry
theorem d_Shelf_takeOut_8 : decode prog_10_method_8_code 8 = .ok (.return_, 1) := sorry
abbrev y_Shelf_takeOut : MethodName := ⟨"PackageBook$Shelf", "takeOut", "(I)V"⟩
abbrev i_Shelf_takeOut : pb_I := (y_Shelf_takeOut, prog_10_method_8_code, 5, (Option.none : Option Jvm.ClassFile.FieldType), [], { frames := 1, cells := 0, slots := 0, locals := 60 })
theorem g_Shelf_takeOut {l : Launch} (hl : l.stackTraces = false) (G : pb_G) (h : Nat) (sn : Nat) (sz : Nat) (sb : Nat) (sg : Nat) (c : Int32) (sfn : Nat → Int32) (sfz : Nat → Int32) (sfb : Nat → Int32) (sfg : Nat → Int32) (i : Int32) (V : VW_) (I : sh_I c.toInt sfz sfg) (R : rC_ c.toInt sfn sfz sfb sfg V) (F_sfn : sb_Fit sfn) (F_sfb : sb_Fit sfb) : Cn l G i_Shelf_takeOut [.ref h, .int i] [(h, .inr (3, [.ref sn, .ref sz, .ref sb, .ref sg, .int c])), (sn, .inl (G.2.1, 384, .inl sfn)), (sz, .inl (G.2.2.1, 16, .inl sfz)), (sb, .inl (G.2.1, 12000, .inl sfb)), (sg, .inl (G.2.2.1, 17, .inl sfg))] (S := Int32 × (Nat → Int32) × (Nat → Int32) × (Nat → Int32) × (Nat → Int32)) (fun rv_ u => rv_ = none ∧ (sh_I u.1.toInt u.2.2.1 u.2.2.2.2) ∧ ((0 ≤ i.toInt ∧ i.toInt < c.toInt ∧ u.1.toInt = c.toInt - 1 ∧ gx u.2.2.2.2 u.1.toInt = gx sfg c.toInt - (gx sfg (i.toInt + 1) - gx sfg i.toInt)) ∨ (¬ (0 ≤ i.toInt ∧ i.toInt < c.toInt) ∧ u.1.toInt = c.toInt ∧ gx u.2.2.2.2 u.1.toInt = gx sfg c.toInt)) ∧ ((0 ≤ i.toInt ∧ i.toInt < c.toInt → rC_ u.1.toInt u.2.1 u.2.2.1 u.2.2.2.1 u.2.2.2.2 (vou_ V i.toInt)) ∧ (¬ (0 ≤ i.toInt ∧ i.toInt < c.toInt) → rC_ u.1.toInt u.2.1 u.2.2.1 u.2.2.2.1 u.2.2.2.2 V)) ∧ (sb_Fit u.2.1) ∧ (sb_Fit u.2.2.2.1)) (fun u => [(h, .inr (3, [.ref sn, .ref sz, .ref sb, .ref sg, .int u.1])), (sn, .inl (G.2.1, 384, .inl u.2.1)), (sz, .inl (G.2.2.1, 16, .inl u.2.2.1)), (sb, .inl (G.2.1, 12000, .inl u.2.2.2.1)), (sg, .inl (G.2.2.1, 17, .inl u.2.2.2.2))]) := sorry
theorem d_Shelf_isBefore_0 : decode prog_10_method_11_code 0 = .ok (.iconst 0, 1) := sorry
theorem d_Shelf_isBefore_1 : decode prog_10_method_11_code 1 = .ok (.istore 5, 2) := sorry
theorem d_Shelf_isBefore_3 : decode prog_10_method_11_code 3 = .ok (.iload 5, 2) := sorry
theorem d_Shelf_isBefore_5 : decode prog_10_method_11_code 5 = .ok (.iload 4, 2) := sorry
theorem d_Shelf_isBefore_7 : decode prog_10_method_11_code 7 = .ok (.if_icmp .ge 57, 3) := sorry
theorem d_Shelf_isBefore_64 : decode prog_10_method_11_code 64 = .ok (.aload_n 0, 1) := sorry
theorem d_Shelf_isBefore_65 : decode prog_10_method_11_code 65 = .ok (.getfield 15, 3) := sorry
theorem d_Shelf_isBefore_68 : decode prog_10_method_11_code 68 = .ok (.iload_n 1, 1) := sorry
theorem d_Shelf_isBefore_69 : decode prog_10_method_11_code 69 = .ok (.iaload, 1) := sorry
theorem d_Shelf_isBefore_70 : decode prog_10_method_11_code 70 = .ok (.iload 4, 2) := sorry
theorem d_Shelf_isBefore_72 : decode prog_10_method_11_code 72 = .ok (.if_icmp .ge 7, 3) := sorry
theorem d_Shelf_isBefore_79 : decode prog_10_method_11_code 79 = .ok (.iconst 0, 1) := sorry
theorem d_Shelf_isBefore_80 : decode prog_10_method_11_code 80 = .ok (.ireturn, 1) := sorry
theorem d_Shelf_isBefore_75 : decode prog_10_method_11_code 75 = .ok (.iconst 1, 1) := sorry
theorem d_Shelf_isBefore_76 : decode prog_10_method_11_code 76 = .ok (.goto 4, 3) := sorry
theorem d_Shelf_isBefore_10 : decode prog_10_method_11_code 10 = .ok (.iload 5, 2) := sorry
theorem d_Shelf_isBefore_12 : decode prog_10_method_11_code 12 = .ok (.aload_n 0, 1) := sorry
theorem d_Shelf_isBefore_13 : decode prog_10_method_11_code 13 = .ok (.getfield 15, 3) := sorry
theorem d_Shelf_isBefore_16 : decode prog_10_method_11_code 16 = .ok (.iload_n 1, 1) := sorry
theorem d_Shelf_isBefore_17 : decode prog_10_method_11_code 17 = .ok (.iaload, 1) := sorry
theorem d_Shelf_isBefore_18 : decode prog_10_method_11_code 18 = .ok (.if_icmp .ge 46, 3) := sorry
theorem d_Shelf_isBefore_21 : decode prog_10_method_11_code 21 = .ok (.aload_n 0, 1) := sorry
theorem d_Shelf_isBefore_22 : decode prog_10_method_11_code 22 = .ok (.getfield 9, 3) := sorry
theorem d_Shelf_isBefore_25 : decode prog_10_method_11_code 25 = .ok (.bipush 24, 2) := sorry
theorem d_Shelf_isBefore_27 : decode prog_10_method_11_code 27 = .ok (.iload_n 1, 1) := sorry
theorem d_Shelf_isBefore_28 : decode prog_10_method_11_code 28 = .ok (.imul, 1) := sorry
theorem d_Shelf_isBefore_29 : decode prog_10_method_11_code 29 = .ok (.iload 5, 2) := sorry
theorem d_Shelf_isBefore_31 : decode prog_10_method_11_code 31 = .ok (.iadd, 1) := sorry
theorem d_Shelf_isBefore_32 : decode prog_10_method_11_code 32 = .ok (.baload, 1) := sorry
theorem d_Shelf_isBefore_33 : decode prog_10_method_11_code 33 = .ok (.aload_n 2, 1) := sorry
theorem d_Shelf_isBefore_34 : decode prog_10_method_11_code 34 = .ok (.iload_n 3, 1) := sorry
theorem d_Shelf_isBefore_35 : decode prog_10_method_11_code 35 = .ok (.iload 5, 2) := sorry
theorem d_Shelf_isBefore_37 : decode prog_10_method_11_code 37 = .ok (.iadd, 1) := sorry
theorem d_Shelf_isBefore_38 : decode prog_10_method_11_code 38 = .ok (.baload, 1) := sorry
theorem d_Shelf_isBefore_39 : decode prog_10_method_11_code 39 = .ok (.isub, 1) := sorry
theorem d_Shelf_isBefore_40 : decode prog_10_method_11_code 40 = .ok (.istore 6, 2) := sorry
theorem d_Shelf_isBefore_42 : decode prog_10_method_11_code 42 = .ok (.iload 6, 2) := sorry
theorem d_Shelf_isBefore_44 : decode prog_10_method_11_code 44 = .ok (.ifCond .eq 14, 3) := sorry
theorem d_Shelf_isBefore_58 : decode prog_10_method_11_code 58 = .ok (.iinc 5 1, 3) := sorry
theorem d_Shelf_isBefore_61 : decode prog_10_method_11_code 61 = .ok (.goto (-58), 3) := sorry
theorem d_Shelf_isBefore_47 : decode prog_10_method_11_code 47 = .ok (.iload 6, 2) := sorry
theorem d_Shelf_isBefore_49 : decode prog_10_method_11_code 49 = .ok (.ifCond .ge 7, 3) := sorry
theorem d_Shelf_isBefore_56 : decode prog_10_method_11_code 56 = .ok (.iconst 0, 1) := sorry
theorem d_Shelf_isBefore_57 : decode prog_10_method_11_code 57 = .ok (.ireturn, 1) := sorry
theorem d_Shelf_isBefore_52 : decode prog_10_method_11_code 52 = .ok (.iconst 1, 1) := sorry
theorem d_Shelf_isBefore_53 : decode prog_10_method_11_code 53 = .ok (.goto 4, 3) := sorry
abbrev y_Shelf_isBefore : MethodName := ⟨"PackageBook$Shelf", "isBefore", "(I[BII)Z"⟩
abbrev i_Shelf_isBefore : pb_I := (y_Shelf_isBefore, prog_10_method_11_code, 7, (some Jvm.ClassFile.FieldType.boolean), [], { frames := 0, cells := 0, slots := 0, locals := 0 })
theorem g_Shelf_isBefore {l : Launch} (hl : l.stackTraces = false) (G : pb_G) (h : Nat) (sn : Nat) (sz : Nat) (sb : Nat) (sg : Nat) (c : Int32) (sfn : Nat → Int32) (sfz : Nat → Int32) (b : Nat) (N : Nat) (f : Nat → Int32) (sfg : Nat → Int32) (i : Int32) (x : Int32) (n : Int32) (V : VW_) (R : rN_ c.toInt sfn sfz V) (n0 : 0 ≤ n.toInt) (I : sh_I c.toInt sfz sfg) (h0 : 0 ≤ x.toInt) (h1 : x.toInt + n.toInt ≤ N) (h2 : N ≤ 1000000) (h3 : 0 ≤ i.toInt) (h4 : i.toInt < c.toInt) (F_sfn : sb_Fit sfn) (F_f : sb_Fit f) : Cn l G i_Shelf_isBefore [.ref h, .int i, .ref b, .int x, .int n] [(h, .inr (3, [.ref sn, .ref sz, .ref sb, .ref sg, .int c])), (sn, .inl (G.2.1, 384, .inl sfn)), (sz, .inl (G.2.2.1, 16, .inl sfz)), (b, .inl (G.2.1, N, .inl f))] (S := Int32) (fun rv_ u => rv_ = some (.int u) ∧ (u.toInt = 0 ∨ u.toInt = 1) ∧ (u.toInt = 1 → lx_ (vN V i.toInt) (vZ V i.toInt) (fun k => gx f (x.toInt + k)) n.toInt) ∧ (u.toInt = 0 → ¬ lx_ (vN V i.toInt) (vZ V i.toInt) (fun k => gx f (x.toInt + k)) n.toInt)) (fun u => [(h, .inr (3, [.ref sn, .ref sz, .ref sb, .ref sg, .int c])), (sn, .inl (G.2.1, 384, .inl sfn)), (sz, .inl (G.2.2.1, 16, .inl sfz)), (b, .inl (G.2.1, N, .inl f))]) := sorry
theorem d_Shelf_placeOf_0 : decode prog_10_method_10_code 0 = .ok (.iconst 0, 1) := sorry
theorem d_Shelf_placeOf_1 : decode prog_10_method_10_code 1 = .ok (.istore 4, 2) := sorry
theorem d_Shelf_placeOf_3 : decode prog_10_method_10_code 3 = .ok (.iload 4, 2) := sorry
theorem d_Shelf_placeOf_5 : decode prog_10_method_10_code 5 = .ok (.aload_n 0, 1) := sorry
theorem d_Shelf_placeOf_6 : decode prog_10_method_10_code 6 = .ok (.getfield 25, 3) := sorry
theorem d_Shelf_placeOf_9 : decode prog_10_method_10_code 9 = .ok (.if_icmp .ge 21, 3) := sorry
theorem d_Shelf_placeOf_30 : decode prog_10_method_10_code 30 = .ok (.iload 4, 2) := sorry
theorem d_Shelf_placeOf_32 : decode prog_10_method_10_code 32 = .ok (.ireturn, 1) := sorry
theorem d_Shelf_placeOf_12 : decode prog_10_method_10_code 12 = .ok (.aload_n 0, 1) := sorry
theorem d_Shelf_placeOf_13 : decode prog_10_method_10_code 13 = .ok (.iload 4, 2) := sorry
theorem d_Shelf_placeOf_15 : decode prog_10_method_10_code 15 = .ok (.aload_n 1, 1) := sorry
theorem d_Shelf_placeOf_16 : decode prog_10_method_10_code 16 = .ok (.iload_n 2, 1) := sorry
theorem d_Shelf_placeOf_17 : decode prog_10_method_10_code 17 = .ok (.iload_n 3, 1) := sorry
theorem d_Shelf_placeOf_18 : decode prog_10_method_10_code 18 = .ok (.invokevirtual 55, 3) := sorry
theorem k_705 : (Jvm.Cond.methodLink "PackageBook$Shelf" (55 : Nat) ({ cls := "PackageBook$Shelf", name := "isBefore", desc := "(I[BII)Z" } : Jvm.MethodName)) ∈ uW := sorry
theorem k_708 : (Jvm.Cond.code ({ cls := "PackageBook$Shelf", name := "isBefore", desc := "(I[BII)Z" } : Jvm.MethodName) prog_10_method_11_code (7 : Nat) (Option.some Jvm.ClassFile.FieldType.boolean)) ∈ uW := sorry
theorem k_707 : (Jvm.Cond.instanceMethod ({ cls := "PackageBook$Shelf", name := "isBefore", desc := "(I[BII)Z" } : Jvm.MethodName)) ∈ uW := sorry
theorem k_27 : Cond.selects "PackageBook$Shelf" ⟨"PackageBook$Shelf", "isBefore", "(I[BII)Z"⟩ ⟨"PackageBook$Shelf", "isBefore", "(I[BII)Z"⟩ ∈ uW := sorry
theorem hy_Shelf_isBefore : (y_Shelf_isBefore).cls ≠ "java/lang/invoke/MethodHandle" ∧ (y_Shelf_isBefore).cls ≠ "java/lang/invoke/VarHandle" ∧ (parseMethodDescriptor (y_Shelf_isBefore).desc).map (fun d => d.parameters.length) = some 4 := sorry
theorem d_Shelf_placeOf_21 : decode prog_10_method_10_code 21 = .ok (.ifCond .eq 9, 3) := sorry
theorem d_Shelf_placeOf_24 : decode prog_10_method_10_code 24 = .ok (.iinc 4 1, 3) := sorry
theorem d_Shelf_placeOf_27 : decode prog_10_method_10_code 27 = .ok (.goto (-24), 3) := sorry
abbrev y_Shelf_placeOf : MethodName := ⟨"PackageBook$Shelf", "placeOf", "([BII)I"⟩
abbrev i_Shelf_placeOf : pb_I := (y_Shelf_placeOf, prog_10_method_10_code, 5, (some Jvm.ClassFile.FieldType.int), [], { frames := 1, cells := 0, slots := 0, locals := 26 })
theorem g_Shelf_placeOf {l : Launch} (hl : l.stackTraces = false) (G : pb_G) (h : Nat) (sn : Nat) (sz : Nat) (sb : Nat) (sg : Nat) (c : Int32) (sfn : Nat → Int32) (sfz : Nat → Int32) (b : Nat) (N : Nat) (f : Nat → Int32) (sfg : Nat → Int32) (x : Int32) (n : Int32) (V : VW_) (R : rN_ c.toInt sfn sfz V) (n0 : 0 ≤ n.toInt) (I : sh_I c.toInt sfz sfg) (h0 : 0 ≤ x.toInt) (h1 : x.toInt + n.toInt ≤ N) (h2 : N ≤ 1000000) (F_sfn : sb_Fit sfn) (F_f : sb_Fit f) : Cn l G i_Shelf_placeOf [.ref h, .ref b, .int x, .int n] [(h, .inr (3, [.ref sn, .ref sz, .ref sb, .ref sg, .int c])), (sn, .inl (G.2.1, 384, .inl sfn)), (sz, .inl (G.2.2.1, 16, .inl sfz)), (b, .inl (G.2.1, N, .inl f))] (S := Int32) (fun rv_ u => rv_ = some (.int u) ∧ (0 ≤ u.toInt) ∧ (u.toInt ≤ c.toInt) ∧ (∀ j : Int, 0 ≤ j → j < u.toInt → lx_ (vN V j) (vZ V j) (fun k => gx f (x.toInt + k)) n.toInt) ∧ (u.toInt < c.toInt → ¬ lx_ (vN V u.toInt) (vZ V u.toInt) (fun k => gx f (x.toInt + k)) n.toInt)) (fun u => [(h, .inr (3, [.ref sn, .ref sz, .ref sb, .ref sg, .int c])), (sn, .inl (G.2.1, 384, .inl sfn)), (sz, .inl (G.2.2.1, 16, .inl sfz)), (b, .inl (G.2.1, N, .inl f))]) := sorry
theorem d_Shelf_bringIn_0 : decode prog_10_method_9_code 0 = .ok (.aload_n 0, 1) := sorry
theorem d_Shelf_bringIn_1 : decode prog_10_method_9_code 1 = .ok (.aload_n 1, 1) := sorry
theorem d_Shelf_bringIn_2 : decode prog_10_method_9_code 2 = .ok (.iload_n 2, 1) := sorry
theorem d_Shelf_bringIn_3 : decode prog_10_method_9_code 3 = .ok (.iload_n 3, 1) := sorry
theorem d_Shelf_bringIn_4 : decode prog_10_method_9_code 4 = .ok (.invokevirtual 51, 3) := sorry
theorem k_701 : (Jvm.Cond.methodLink "PackageBook$Shelf" (51 : Nat) ({ cls := "PackageBook$Shelf", name := "placeOf", desc := "([BII)I" } : Jvm.MethodName)) ∈ uW := sorry
theorem k_704 : (Jvm.Cond.code ({ cls := "PackageBook$Shelf", name := "placeOf", desc := "([BII)I" } : Jvm.MethodName) prog_10_method_10_code (5 : Nat) (Option.some Jvm.ClassFile.FieldType.int)) ∈ uW := sorry
theorem k_703 : (Jvm.Cond.instanceMethod ({ cls := "PackageBook$Shelf", name := "placeOf", desc := "([BII)I" } : Jvm.MethodName)) ∈ uW := sorry
theorem k_26 : Cond.selects "PackageBook$Shelf" ⟨"PackageBook$Shelf", "placeOf", "([BII)I"⟩ ⟨"PackageBook$Shelf", "placeOf", "([BII)I"⟩ ∈ uW := sorry
theorem hy_Shelf_placeOf : (y_Shelf_placeOf).cls ≠ "java/lang/invoke/MethodHandle" ∧ (y_Shelf_placeOf).cls ≠ "java/lang/invoke/VarHandle" ∧ (parseMethodDescriptor (y_Shelf_placeOf).desc).map (fun d => d.parameters.length) = some 3 := sorry
theorem d_Shelf_bringIn_7 : decode prog_10_method_9_code 7 = .ok (.istore 7, 2) := sorry
theorem d_Shelf_bringIn_9 : decode prog_10_method_9_code 9 = .ok (.aload_n 0, 1) := sorry
theorem d_Shelf_bringIn_10 : decode prog_10_method_9_code 10 = .ok (.getfield 25, 3) := sorry
theorem d_Shelf_bringIn_13 : decode prog_10_method_9_code 13 = .ok (.iload 7, 2) := sorry
theorem d_Shelf_bringIn_15 : decode prog_10_method_9_code 15 = .ok (.isub, 1) := sorry
theorem d_Shelf_bringIn_16 : decode prog_10_method_9_code 16 = .ok (.istore 8, 2) := sorry
theorem d_Shelf_bringIn_18 : decode prog_10_method_9_code 18 = .ok (.aload_n 0, 1) := sorry
theorem d_Shelf_bringIn_19 : decode prog_10_method_9_code 19 = .ok (.getfield 19, 3) := sorry
theorem d_Shelf_bringIn_22 : decode prog_10_method_9_code 22 = .ok (.aload_n 0, 1) := sorry
theorem d_Shelf_bringIn_23 : decode prog_10_method_9_code 23 = .ok (.getfield 22, 3) := sorry
theorem d_Shelf_bringIn_26 : decode prog_10_method_9_code 26 = .ok (.iload 7, 2) := sorry
theorem d_Shelf_bringIn_28 : decode prog_10_method_9_code 28 = .ok (.iaload, 1) := sorry
theorem d_Shelf_bringIn_29 : decode prog_10_method_9_code 29 = .ok (.aload_n 0, 1) := sorry
theorem d_Shelf_bringIn_30 : decode prog_10_method_9_code 30 = .ok (.getfield 19, 3) := sorry
theorem d_Shelf_bringIn_33 : decode prog_10_method_9_code 33 = .ok (.aload_n 0, 1) := sorry
theorem d_Shelf_bringIn_34 : decode prog_10_method_9_code 34 = .ok (.getfield 22, 3) := sorry
theorem d_Shelf_bringIn_37 : decode prog_10_method_9_code 37 = .ok (.iload 7, 2) := sorry
theorem d_Shelf_bringIn_39 : decode prog_10_method_9_code 39 = .ok (.iaload, 1) := sorry
theorem d_Shelf_bringIn_40 : decode prog_10_method_9_code 40 = .ok (.iload 6, 2) := sorry
theorem d_Shelf_bringIn_42 : decode prog_10_method_9_code 42 = .ok (.iadd, 1) := sorry
theorem d_Shelf_bringIn_43 : decode prog_10_method_9_code 43 = .ok (.aload_n 0, 1) := sorry
theorem d_Shelf_bringIn_44 : decode prog_10_method_9_code 44 = .ok (.invokevirtual 41, 3) := sorry
theorem d_Shelf_bringIn_47 : decode prog_10_method_9_code 47 = .ok (.aload_n 0, 1) := sorry
theorem d_Shelf_bringIn_48 : decode prog_10_method_9_code 48 = .ok (.getfield 22, 3) := sorry
theorem d_Shelf_bringIn_51 : decode prog_10_method_9_code 51 = .ok (.iload 7, 2) := sorry
theorem d_Shelf_bringIn_53 : decode prog_10_method_9_code 53 = .ok (.iaload, 1) := sorry
theorem d_Shelf_bringIn_54 : decode prog_10_method_9_code 54 = .ok (.isub, 1) := sorry
theorem d_Shelf_bringIn_55 : decode prog_10_method_9_code 55 = .ok (.invokestatic 45, 3) := sorry
theorem d_Shelf_bringIn_58 : decode prog_10_method_9_code 58 = .ok (.aload_n 0, 1) := sorry
theorem d_Shelf_bringIn_59 : decode prog_10_method_9_code 59 = .ok (.getfield 9, 3) := sorry
theorem d_Shelf_bringIn_62 : decode prog_10_method_9_code 62 = .ok (.bipush 24, 2) := sorry
theorem d_Shelf_bringIn_64 : decode prog_10_method_9_code 64 = .ok (.iload 7, 2) := sorry
theorem d_Shelf_bringIn_66 : decode prog_10_method_9_code 66 = .ok (.imul, 1) := sorry
theorem d_Shelf_bringIn_67 : decode prog_10_method_9_code 67 = .ok (.aload_n 0, 1) := sorry
theorem d_Shelf_bringIn_68 : decode prog_10_method_9_code 68 = .ok (.getfield 9, 3) := sorry
theorem d_Shelf_bringIn_71 : decode prog_10_method_9_code 71 = .ok (.bipush 24, 2) := sorry
theorem d_Shelf_bringIn_73 : decode prog_10_method_9_code 73 = .ok (.iload 7, 2) := sorry
theorem d_Shelf_bringIn_75 : decode prog_10_method_9_code 75 = .ok (.iconst 1, 1) := sorry
theorem d_Shelf_bringIn_76 : decode prog_10_method_9_code 76 = .ok (.iadd, 1) := sorry
theorem d_Shelf_bringIn_77 : decode prog_10_method_9_code 77 = .ok (.imul, 1) := sorry
theorem d_Shelf_bringIn_78 : decode prog_10_method_9_code 78 = .ok (.bipush 24, 2) := sorry
theorem d_Shelf_bringIn_80 : decode prog_10_method_9_code 80 = .ok (.iload 8, 2) := sorry
theorem d_Shelf_bringIn_82 : decode prog_10_method_9_code 82 = .ok (.imul, 1) := sorry
theorem d_Shelf_bringIn_83 : decode prog_10_method_9_code 83 = .ok (.invokestatic 45, 3) := sorry
theorem d_Shelf_bringIn_86 : decode prog_10_method_9_code 86 = .ok (.aload_n 0, 1) := sorry
theorem d_Shelf_bringIn_87 : decode prog_10_method_9_code 87 = .ok (.getfield 15, 3) := sorry
theorem d_Shelf_bringIn_90 : decode prog_10_method_9_code 90 = .ok (.iload 7, 2) := sorry
theorem d_Shelf_bringIn_92 : decode prog_10_method_9_code 92 = .ok (.aload_n 0, 1) := sorry
theorem d_Shelf_bringIn_93 : decode prog_10_method_9_code 93 = .ok (.getfield 15, 3) := sorry
theorem d_Shelf_bringIn_96 : decode prog_10_method_9_code 96 = .ok (.iload 7, 2) := sorry
theorem d_Shelf_bringIn_98 : decode prog_10_method_9_code 98 = .ok (.iconst 1, 1) := sorry
theorem d_Shelf_bringIn_99 : decode prog_10_method_9_code 99 = .ok (.iadd, 1) := sorry
theorem d_Shelf_bringIn_100 : decode prog_10_method_9_code 100 = .ok (.iload 8, 2) := sorry
theorem d_Shelf_bringIn_102 : decode prog_10_method_9_code 102 = .ok (.invokestatic 45, 3) := sorry
theorem d_Shelf_bringIn_105 : decode prog_10_method_9_code 105 = .ok (.aload_n 0, 1) := sorry
theorem d_Shelf_bringIn_106 : decode prog_10_method_9_code 106 = .ok (.getfield 25, 3) := sorry
theorem d_Shelf_bringIn_109 : decode prog_10_method_9_code 109 = .ok (.istore 9, 2) := sorry
theorem d_Shelf_bringIn_111 : decode prog_10_method_9_code 111 = .ok (.iload 9, 2) := sorry
theorem d_Shelf_bringIn_113 : decode prog_10_method_9_code 113 = .ok (.iload 7, 2) := sorry
theorem d_Shelf_bringIn_115 : decode prog_10_method_9_code 115 = .ok (.if_icmp .lt 28, 3) := sorry
theorem d_Shelf_bringIn_143 : decode prog_10_method_9_code 143 = .ok (.aload_n 1, 1) := sorry
theorem d_Shelf_bringIn_144 : decode prog_10_method_9_code 144 = .ok (.iload_n 2, 1) := sorry
theorem d_Shelf_bringIn_145 : decode prog_10_method_9_code 145 = .ok (.aload_n 0, 1) := sorry
theorem d_Shelf_bringIn_146 : decode prog_10_method_9_code 146 = .ok (.getfield 9, 3) := sorry
theorem d_Shelf_bringIn_149 : decode prog_10_method_9_code 149 = .ok (.bipush 24, 2) := sorry
theorem d_Shelf_bringIn_151 : decode prog_10_method_9_code 151 = .ok (.iload 7, 2) := sorry
theorem d_Shelf_bringIn_153 : decode prog_10_method_9_code 153 = .ok (.imul, 1) := sorry
theorem d_Shelf_bringIn_154 : decode prog_10_method_9_code 154 = .ok (.iload_n 3, 1) := sorry
theorem d_Shelf_bringIn_155 : decode prog_10_method_9_code 155 = .ok (.invokestatic 45, 3) := sorry
theorem d_Shelf_bringIn_158 : decode prog_10_method_9_code 158 = .ok (.aload 4, 2) := sorry
theorem d_Shelf_bringIn_160 : decode prog_10_method_9_code 160 = .ok (.iload 5, 2) := sorry
theorem d_Shelf_bringIn_162 : decode prog_10_method_9_code 162 = .ok (.aload_n 0, 1) := sorry
theorem d_Shelf_bringIn_163 : decode prog_10_method_9_code 163 = .ok (.getfield 19, 3) := sorry
theorem d_Shelf_bringIn_166 : decode prog_10_method_9_code 166 = .ok (.aload_n 0, 1) := sorry
theorem d_Shelf_bringIn_167 : decode prog_10_method_9_code 167 = .ok (.getfield 22, 3) := sorry
theorem d_Shelf_bringIn_170 : decode prog_10_method_9_code 170 = .ok (.iload 7, 2) := sorry
theorem d_Shelf_bringIn_172 : decode prog_10_method_9_code 172 = .ok (.iaload, 1) := sorry
theorem d_Shelf_bringIn_173 : decode prog_10_method_9_code 173 = .ok (.iload 6, 2) := sorry
theorem d_Shelf_bringIn_175 : decode prog_10_method_9_code 175 = .ok (.invokestatic 45, 3) := sorry
theorem d_Shelf_bringIn_178 : decode prog_10_method_9_code 178 = .ok (.aload_n 0, 1) := sorry
theorem d_Shelf_bringIn_179 : decode prog_10_method_9_code 179 = .ok (.getfield 15, 3) := sorry
theorem d_Shelf_bringIn_182 : decode prog_10_method_9_code 182 = .ok (.iload 7, 2) := sorry
theorem d_Shelf_bringIn_184 : decode prog_10_method_9_code 184 = .ok (.iload_n 3, 1) := sorry
theorem d_Shelf_bringIn_185 : decode prog_10_method_9_code 185 = .ok (.iastore, 1) := sorry
theorem d_Shelf_bringIn_186 : decode prog_10_method_9_code 186 = .ok (.aload_n 0, 1) := sorry
theorem d_Shelf_bringIn_187 : decode prog_10_method_9_code 187 = .ok (.dup, 1) := sorry
theorem d_Shelf_bringIn_188 : decode prog_10_method_9_code 188 = .ok (.getfield 25, 3) := sorry
theorem d_Shelf_bringIn_191 : decode prog_10_method_9_code 191 = .ok (.iconst 1, 1) := sorry
theorem d_Shelf_bringIn_192 : decode prog_10_method_9_code 192 = .ok (.iadd, 1) := sorry
theorem d_Shelf_bringIn_193 : decode prog_10_method_9_code 193 = .ok (.putfield 25, 3) := sorry
theorem d_Shelf_bringIn_196 : decode prog_10_method_9_code 196 = .ok (.return_, 1) := sorry
theorem d_Shelf_bringIn_118 : decode prog_10_method_9_code 118 = .ok (.aload_n 0, 1) := sorry
theorem d_Shelf_bringIn_119 : decode prog_10_method_9_code 119 = .ok (.getfield 22, 3) := sorry
theorem d_Shelf_bringIn_122 : decode prog_10_method_9_code 122 = .ok (.iload 9, 2) := sorry
theorem d_Shelf_bringIn_124 : decode prog_10_method_9_code 124 = .ok (.iconst 1, 1) := sorry
theorem d_Shelf_bringIn_125 : decode prog_10_method_9_code 125 = .ok (.iadd, 1) := sorry
theorem d_Shelf_bringIn_126 : decode prog_10_method_9_code 126 = .ok (.aload_n 0, 1) := sorry
theorem d_Shelf_bringIn_127 : decode prog_10_method_9_code 127 = .ok (.getfield 22, 3) := sorry
theorem d_Shelf_bringIn_130 : decode prog_10_method_9_code 130 = .ok (.iload 9, 2) := sorry
theorem d_Shelf_bringIn_132 : decode prog_10_method_9_code 132 = .ok (.iaload, 1) := sorry
theorem d_Shelf_bringIn_133 : decode prog_10_method_9_code 133 = .ok (.iload 6, 2) := sorry
theorem d_Shelf_bringIn_135 : decode prog_10_method_9_code 135 = .ok (.iadd, 1) := sorry
theorem d_Shelf_bringIn_136 : decode prog_10_method_9_code 136 = .ok (.iastore, 1) := sorry
theorem d_Shelf_bringIn_137 : decode prog_10_method_9_code 137 = .ok (.iinc 9 (-1), 3) := sorry
theorem d_Shelf_bringIn_140 : decode prog_10_method_9_code 140 = .ok (.goto (-29), 3) := sorry
abbrev y_Shelf_bringIn : MethodName := ⟨"PackageBook$Shelf", "bringIn", "([BII[BII)V"⟩
abbrev i_Shelf_bringIn : pb_I := (y_Shelf_bringIn, prog_10_method_9_code, 10, (Option.none : Option Jvm.ClassFile.FieldType), [], { frames := 2, cells := 0, slots := 0, locals := 60 })
theorem g_Shelf_bringIn {l : Launch} (hl : l.stackTraces = false) (G : pb_G) (h : Nat) (sn : Nat) (sz : Nat) (sb : Nat) (sg : Nat) (c : Int32) (sfn : Nat → Int32) (sfz : Nat → Int32) (sfb : Nat → Int32) (sfg : Nat → Int32) (b : Nat) (N : Nat) (f : Nat → Int32) (b2 : Nat) (N2 : Nat) (f2 : Nat → Int32) (x : Int32) (n : Int32) (y : Int32) (m : Int32) (V : VW_) (R : rC_ c.toInt sfn sfz sfb sfg V) (I : sh_I c.toInt sfz sfg) (h0 : 0 ≤ x.toInt) (h1 : x.toInt + n.toInt ≤ N) (h2 : 1 ≤ n.toInt) (h3 : n.toInt ≤ 24) (h4 : 0 ≤ y.toInt) (h5 : y.toInt + m.toInt ≤ N2) (h6 : 0 ≤ m.toInt) (h7 : m.toInt ≤ 4000) (h8 : c.toInt < 16) (h9_ : gx sfg c.toInt + m.toInt ≤ 12000) (hN : N ≤ 1000000) (hN2 : N2 ≤ 1000000) (F_sfn : sb_Fit sfn) (F_sfb : sb_Fit sfb) (F_f : sb_Fit f) (F_f2 : sb_Fit f2) : Cn l G i_Shelf_bringIn [.ref h, .ref b, .int x, .int n, .ref b2, .int y, .int m] [(h, .inr (3, [.ref sn, .ref sz, .ref sb, .ref sg, .int c])), (sn, .inl (G.2.1, 384, .inl sfn)), (sz, .inl (G.2.2.1, 16, .inl sfz)), (sb, .inl (G.2.1, 12000, .inl sfb)), (sg, .inl (G.2.2.1, 17, .inl sfg)), (b, .inl (G.2.1, N, .inl f)), (b2, .inl (G.2.1, N2, .inl f2))] (S := Int32 × (Nat → Int32) × (Nat → Int32) × (Nat → Int32) × (Nat → Int32)) (fun rv_ u => rv_ = none ∧ (sh_I u.1.toInt u.2.2.1 u.2.2.2.2) ∧ (u.1.toInt = c.toInt + 1) ∧ (gx u.2.2.2.2 u.1.toInt = gx sfg c.toInt + m.toInt) ∧ (hid_ (∃ r : Int, 0 ≤ r ∧ r ≤ c.toInt ∧ (∀ j : Int, 0 ≤ j → j < r → lx_ (vN V j) (vZ V j) (fun k => gx f (x.toInt + k)) n.toInt) ∧ (r < c.toInt → ¬ lx_ (vN V r) (vZ V r) (fun k => gx f (x.toInt + k)) n.toInt) ∧ rC_ u.1.toInt u.2.1 u.2.2.1 u.2.2.2.1 u.2.2.2.2 (vin_ V r n.toInt (fun k => gx f (x.toInt + k)) m.toInt (fun k => gr f2 (y.toInt + k))))) ∧ (sb_Fit u.2.1) ∧ (sb_Fit u.2.2.2.1)) (fun u => [(h, .inr (3, [.ref sn, .ref sz, .ref sb, .ref sg, .int u.1])), (sn, .inl (G.2.1, 384, .inl u.2.1)), (sz, .inl (G.2.2.1, 16, .inl u.2.2.1)), (sb, .inl (G.2.1, 12000, .inl u.2.2.2.1)), (sg, .inl (G.2.2.1, 17, .inl u.2.2.2.2)), (b, .inl (G.2.1, N, .inl f)), (b2, .inl (G.2.1, N2, .inl f2))]) := sorry
theorem g_Shelf_bringIn1 {l : Launch} (hl : l.stackTraces = false) (G : pb_G) (h : Nat) (sn : Nat) (sz : Nat) (sb : Nat) (sg : Nat) (c : Int32) (sfn : Nat → Int32) (sfz : Nat → Int32) (sfb : Nat → Int32) (sfg : Nat → Int32) (b : Nat) (N : Nat) (f : Nat → Int32) (x : Int32) (n : Int32) (y : Int32) (m : Int32) (V : VW_) (R : rC_ c.toInt sfn sfz sfb sfg V) (I : sh_I c.toInt sfz sfg) (h0 : 0 ≤ x.toInt) (h1 : x.toInt + n.toInt ≤ N) (h2 : 1 ≤ n.toInt) (h3 : n.toInt ≤ 24) (h4 : 0 ≤ y.toInt) (h5 : y.toInt + m.toInt ≤ N) (h6 : 0 ≤ m.toInt) (h7 : m.toInt ≤ 4000) (h8 : c.toInt < 16) (h9_ : gx sfg c.toInt + m.toInt ≤ 12000) (hN : N ≤ 1000000) (hN2 : N ≤ 1000000) (F_sfn : sb_Fit sfn) (F_sfb : sb_Fit sfb) (F_f : sb_Fit f) : Cn l G i_Shelf_bringIn [.ref h, .ref b, .int x, .int n, .ref b, .int y, .int m] [(h, .inr (3, [.ref sn, .ref sz, .ref sb, .ref sg, .int c])), (sn, .inl (G.2.1, 384, .inl sfn)), (sz, .inl (G.2.2.1, 16, .inl sfz)), (sb, .inl (G.2.1, 12000, .inl sfb)), (sg, .inl (G.2.2.1, 17, .inl sfg)), (b, .inl (G.2.1, N, .inl f))] (S := Int32 × (Nat → Int32) × (Nat → Int32) × (Nat → Int32) × (Nat → Int32)) (fun rv_ u => rv_ = none ∧ (sh_I u.1.toInt u.2.2.1 u.2.2.2.2) ∧ (u.1.toInt = c.toInt + 1) ∧ (gx u.2.2.2.2 u.1.toInt = gx sfg c.toInt + m.toInt) ∧ (hid_ (∃ r : Int, 0 ≤ r ∧ r ≤ c.toInt ∧ (∀ j : Int, 0 ≤ j → j < r → lx_ (vN V j) (vZ V j) (fun k => gx f (x.toInt + k)) n.toInt) ∧ (r < c.toInt → ¬ lx_ (vN V r) (vZ V r) (fun k => gx f (x.toInt + k)) n.toInt) ∧ rC_ u.1.toInt u.2.1 u.2.2.1 u.2.2.2.1 u.2.2.2.2 (vin_ V r n.toInt (fun k => gx f (x.toInt + k)) m.toInt (fun k => gr f (y.toInt + k))))) ∧ (sb_Fit u.2.1) ∧ (sb_Fit u.2.2.2.1)) (fun u => [(h, .inr (3, [.ref sn, .ref sz, .ref sb, .ref sg, .int u.1])), (sn, .inl (G.2.1, 384, .inl u.2.1)), (sz, .inl (G.2.2.1, 16, .inl u.2.2.1)), (sb, .inl (G.2.1, 12000, .inl u.2.2.2.1)), (sg, .inl (G.2.2.1, 17, .inl u.2.2.2.2)), (b, .inl (G.2.1, N, .inl f))]) := sorry
