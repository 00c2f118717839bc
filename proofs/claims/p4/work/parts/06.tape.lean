def hid_ (p : Prop) : Prop := p
theorem hid_i {p : Prop} (h : p) : hid_ p := sorry
theorem hid_o {p : Prop} (h : hid_ p) : p := sorry
/-- a number as a byte -/
def by_ (r : Int) : Int32 := (Int32.ofInt r).toInt8.toInt32
theorem by_E {i : Int32} {r : Int} (h : i.toInt = r) : i.toInt8.toInt32 = by_ r := sorry
/-- an array read behind a store, a copy -/
theorem gr_upd {f : Nat → Int32} {i v : Int32} {a : Int} (hi : i.toInt = a) (k : Int) (h0 : 0 ≤ a) (hk : 0 ≤ k) : gr (upd f i.toNatClampNeg v) k = if k = a then v else gr f k := sorry
theorem gr_updb {f : Nat → Int32} {i v : Int32} {a : Int} (hi : i.toInt = a) (k : Int) (h0 : 0 ≤ a) (hk : 0 ≤ k) : gr (upd f i.toNatClampNeg (vp_nar .byte v)) k = if k = a then v.toInt8.toInt32 else gr f k := sorry
theorem gr_cpy {f g : Nat → Int32} {sp dp n : Int32} {a b c : Int} (h1 : sp.toInt = a) (h2 : dp.toInt = b) (h3 : n.toInt = c) (k : Int) (p1 : 0 ≤ a) (p2 : 0 ≤ b) (p3 : 0 ≤ c) (hk : 0 ≤ k) : gr (va_cpy f g sp.toNatClampNeg dp.toNatClampNeg n.toNatClampNeg) k = if b ≤ k ∧ k < b + c then gr f (a + (k - b)) else gr g k := sorry
theorem bz_nn (x : Int32) : x.toInt8.toInt32.toInt8.toInt32 = x.toInt8.toInt32 := sorry
theorem bz_fit {x : Int32} (h : -128 ≤ x.toInt ∧ x.toInt ≤ 127) : x.toInt8.toInt32 = x := sorry
theorem bz_sh8 (x : BitVec 64) (n : Nat) (hn : n ≤ 56) : ((x >>> n).signExtend 32).signExtend 8 = ((x.sshiftRight n).signExtend 32).signExtend 8 := sorry
theorem bz_l (w : Int64) {y c : Int32} (e : y = c) (n : Nat) (hn : n ≤ 56) (hu : ((c.toInt64.toUInt64 &&& Int64.toUInt64 63).toBitVec % 64).toNat = n) (hv : ((c.toInt64 &&& 63).toBitVec.smod 64).toNat = n) : (w.toUInt64 >>> (y.toInt64.toUInt64 &&& Int64.toUInt64 63)).toInt64.toInt32.toInt8.toInt32 = (w >>> (y.toInt64 &&& 63)).toInt32.toInt8.toInt32 := sorry
/-- byte k of a number, as it comes behind the tape -/
def tp_b (w : Int64) (k : Int) : Int32 := (w >>> ((Int32.ofInt (8 * k)).toInt64 &&& 63)).toInt32.toInt8.toInt32
theorem tp_m {w z : Int64} {y : Int32} {k : Int} (hz : z = w >>> (y.toInt64 &&& 63)) (hy : y.toInt = 8 * k) : z.toInt32.toInt8.toInt32 = tp_b w k := sorry
theorem tp_c {w z : Int64} {y : Int32} {k : Int} (hz : z = (w.toUInt64 >>> (y.toInt64.toUInt64 &&& Int64.toUInt64 63)).toInt64) (hy : y.toInt = 8 * k) (h0 : 0 ≤ k) (h1 : k ≤ 7) : z.toInt32.toInt8.toInt32 = tp_b w k := sorry
theorem tp_m2 {w z : Int64} {y v u : Int32} {k : Int} (e1 : v = u.toInt8.toInt32) (e2 : u = z.toInt32) (hz : z = w >>> (y.toInt64 &&& 63)) (hy : y.toInt = 8 * k) : v.toInt8.toInt32 = tp_b w k := sorry
theorem tp_c2 {w z : Int64} {y u : Int32} {k : Int} (e2 : u = z.toInt32) (hz : z = (w.toUInt64 >>> (y.toInt64.toUInt64 &&& Int64.toUInt64 63)).toInt64) (hy : y.toInt = 8 * k) (h0 : 0 ≤ k) (h1 : k ≤ 7) : u.toInt8.toInt32 = tp_b w k := sorry
/-- the tape behind type, behind again -/
def tp_T (f g : Nat → Int32) (s t : Int) (w : Int64) : Prop := ∀ j : Int, 0 ≤ j → j < t → gr g j = if j < s then gr f j else tp_b w (j - s)
def tp_G (f g : Nat → Int32) (s t n : Int) : Prop := ∀ j : Int, 0 ≤ j → j < t → gr g j = if j < s then gr f j else gr f (j - n)
theorem tp_T0 {f : Nat → Int32} {s t : Int} {w : Int64} (h : t ≤ s) : tp_T f f s t w := sorry
theorem tp_G0 {f : Nat → Int32} {s t n : Int} (h : t ≤ s) : tp_G f f s t n := sorry
theorem tp_step {f g g2 : Nat → Int32} {s t t2 : Int} {v : Int32} {w : Int64} (h : tp_T f g s t w) (h2 : ∀ j : Int, 0 ≤ j → gr g2 j = if j = t then v.toInt8.toInt32 else gr g j) (ht : t2 = t + 1) (hs : s ≤ t) (hv : v.toInt8.toInt32 = tp_b w (t - s)) : tp_T f g2 s t2 w := sorry
theorem tg_step {f g g2 : Nat → Int32} {s t t2 n : Int} {v : Int32} (h : tp_G f g s t n) (h2 : ∀ j : Int, 0 ≤ j → gr g2 j = if j = t then v.toInt8.toInt32 else gr g j) (ht : t2 = t + 1) (hs : s ≤ t) (hn : t - n < s) (hn0 : 0 ≤ t - n) (hv : v = gr g (t - n)) (hf : -128 ≤ v.toInt ∧ v.toInt ≤ 127) : tp_G f g2 s t2 n := sorry
theorem tg_cpy {f g : Nat → Int32} {s t n x : Int} (h : ∀ j : Int, 0 ≤ j → gr g j = if s ≤ j ∧ j < s + n then gr f (x + (j - s)) else gr f j) (hx : x = s - n) (ht : t = s + n) : tp_G f g s t n := sorry
/-- the two tapes have the same bytes -/
def rl_B (f g : Nat → Int32) (s : Int) : Prop := ∀ j : Int, 0 ≤ j → j < s → gr f j = gr g j
theorem rl_0 {f g : Nat → Int32} {s : Int} (h : s ≤ 0) : rl_B f g s := sorry
theorem rl_T {f g f2 g2 : Nat → Int32} {s s2 t t2 : Int} {w : Int64} (h : rl_B f g s) (e : s = t) (h1 : tp_T f f2 s s2 w) (h2 : tp_T g g2 t t2 w) (e2 : s2 = t2) : rl_B f2 g2 s2 := sorry
theorem rl_G {f g f2 g2 : Nat → Int32} {s s2 t t2 n : Int} (h : rl_B f g s) (e : s = t) (h1 : tp_G f f2 s s2 n) (h2 : tp_G g g2 t t2 n) (e2 : s2 = t2) (hn : 0 ≤ n ∧ n ≤ s ∧ s2 = s + n ∨ s2 ≤ s) : rl_B f2 g2 s2 := sorry
/-- THE SUM: as the class makes it, a byte at a time -/
def cr_u (r : Int32) : Int32 := (r.toUInt32 >>> ((1 : Int32).toUInt32 &&& Int32.toUInt32 31)).toInt32
def cr_s (r : Int32) : Int32 := if r &&& 1 = 1 then cr_u r ^^^ (-306674912) else cr_u r
def cr_i : Nat → Int32 → Int32
  | 0, r => r
  | n + 1, r => cr_s (cr_i n r)
def cr_n (f : Nat → Int32) (x : Int) : Nat → Int32
  | 0 => -1
  | m + 1 => cr_i 8 (cr_n f x m ^^^ (gr f (x + m) &&& 255))
/-- as the reference makes it, a bit at a time -/
def cq_b (f : Nat → Int32) (x k : Int) : Int32 := (gr f (x + k / 8) >>> (Int32.ofInt (k % 8) &&& 31)) &&& 1
def cq_s (s b : Int32) : Int32 := if s &&& 1 = b then cr_u s else cr_u s ^^^ (-306674912)
def cq_n (f : Nat → Int32) (x : Int) : Nat → Int32
  | 0 => -1
  | m + 1 => cq_s (cq_n f x m) (cq_b f x m)
theorem cr_ub (r : Int32) : (cr_u r).toBitVec = r.toBitVec >>> 1 := sorry
theorem cr_a (r : Int32) (i : Nat) : (r &&& 1).toBitVec.getLsbD i = (r.toBitVec.getLsbD i && decide (i = 0)) := sorry
theorem cr_a1 {r : Int32} (h : r.toBitVec.getLsbD 0 = true) : r &&& 1 = 1 := sorry
theorem cr_a0 {r : Int32} (h : r.toBitVec.getLsbD 0 = false) : r &&& 1 = 0 := sorry
theorem cr_01 : ¬ (0 : Int32) = 1 := sorry
theorem cr_10 : ¬ (1 : Int32) = 0 := sorry
def cr_P : BitVec 32 := (-306674912 : Int32).toBitVec
theorem cr_sb (r : Int32) : (cr_s r).toBitVec = (r.toBitVec >>> 1) ^^^ (if r.toBitVec.getLsbD 0 = true then cr_P else 0#32) := sorry
theorem cq_sb (s b : Int32) : (cq_s s (b &&& 1)).toBitVec = (s.toBitVec >>> 1) ^^^ (if (s.toBitVec.getLsbD 0 ^^ b.toBitVec.getLsbD 0) = true then cr_P else 0#32) := sorry
theorem cq_bit (a : Int32) (j : Nat) (hj : j < 8) : (a >>> (Int32.ofInt (j : Int) &&& 31)).toBitVec.getLsbD 0 = a.toBitVec.getLsbD j := sorry
theorem cr_255 (i : Nat) (hi : i < 32) : (255 : Int32).toBitVec.getLsbD i = decide (i < 8) := sorry
theorem cr_lo (a : Int32) (j : Nat) (hj : j < 8) : (a &&& 255).toBitVec.getLsbD j = a.toBitVec.getLsbD j := sorry
theorem cr_hi (a : Int32) : (a &&& 255).toBitVec >>> 8 = 0#32 := sorry
/-- the bits of one byte, one behind the other -/
def cq_j (a s : Int32) : Nat → Int32
  | 0 => s
  | j + 1 => cq_s (cq_j a s j) ((a >>> (Int32.ofInt (j : Int) &&& 31)) &&& 1)
theorem cr_cq (a s : Int32) : ∀ j : Nat, j ≤ 8 → (cr_i j (s ^^^ (a &&& 255))).toBitVec = (cq_j a s j).toBitVec ^^^ ((a &&& 255).toBitVec >>> j) := sorry
theorem cr_byte (a s : Int32) : cr_i 8 (s ^^^ (a &&& 255)) = cq_j a s 8 := sorry
theorem cq_run (f : Nat → Int32) (x : Int) (m : Nat) : ∀ j : Nat, j ≤ 8 → cq_n f x (8 * m + j) = cq_j (gr f (x + m)) (cq_n f x (8 * m)) j := sorry
theorem cq_cr (f : Nat → Int32) (x : Int) : ∀ m : Nat, cq_n f x (8 * m) = cr_n f x m := sorry
theorem cr_same {f g : Nat → Int32} {x y : Int} : ∀ m : Nat, (∀ j : Int, 0 ≤ j → j < m → gr f (x + j) = gr g (y + j)) → cr_n f x m = cr_n g y m := sorry
/-- the steps of both loops -/
theorem cr_e1 {s m u v : Int32} (e1 : m = s &&& 1) (h : m.toInt = 1) (e2 : u = (s.toUInt32 >>> ((1 : Int32).toUInt32 &&& Int32.toUInt32 31)).toInt32) (e3 : v = u ^^^ (-306674912)) : v = cr_s s := sorry
theorem cr_e0 {s m u v : Int32} (e1 : m = s &&& 1) (h : ¬ m.toInt = 1) (e2 : u = (s.toUInt32 >>> ((1 : Int32).toUInt32 &&& Int32.toUInt32 31)).toInt32) (e3 : v = u ^^^ 0) : v = cr_s s := sorry
theorem cr_st {a s s2 : Int32} {b b2 : Int} (h : s = cr_i b.toNat a) (h0 : 0 ≤ b) (hb : b2 = b + 1) (e : s2 = cr_s s) : s2 = cr_i b2.toNat a := sorry
theorem cr_z {f : Nat → Int32} {k : Int} {s i j v b : Int32} (e1 : v = s ^^^ j) (e2 : j = i &&& 255) (e3 : i = gr f k) (hb : b.toInt = 0) : v = cr_i b.toInt.toNat (s ^^^ (gr f k &&& 255)) := sorry
theorem cr_nx {f : Nat → Int32} {x k k2 b : Int} {s s2 : Int32} (hs : s = cr_n f x (k - x).toNat) (h2 : s2 = cr_i b.toNat (s ^^^ (gr f k &&& 255))) (hb : b = 8) (hk : x ≤ k) (hk2 : k2 = k + 1) : s2 = cr_n f x (k2 - x).toNat := sorry
theorem cq_bb {f : Nat → Int32} {x k : Int} {v i j m : Int32} (e1 : v = i &&& 1) (e2 : i = j >>> (m &&& 31)) (e3 : j = gr f (x + k / 8)) (hm : m.toInt = k % 8) : v = cq_b f x k := sorry
theorem cq_e1 {s b m u v : Int32} (e1 : m = s &&& 1) (h : ¬ m.toInt = b.toInt) (e2 : u = (s.toUInt32 >>> ((1 : Int32).toUInt32 &&& Int32.toUInt32 31)).toInt32) (e3 : v = u ^^^ (-306674912)) : v = cq_s s b := sorry
theorem cq_e0 {s b m u : Int32} (e1 : m = s &&& 1) (h : m.toInt = b.toInt) (e2 : u = (s.toUInt32 >>> ((1 : Int32).toUInt32 &&& Int32.toUInt32 31)).toInt32) : u = cq_s s b := sorry
theorem cq_st {f : Nat → Int32} {x k k2 : Int} {s s2 b : Int32} (hs : s = cq_n f x k.toNat) (hk : 0 ≤ k) (hk2 : k2 = k + 1) (hb : b = cq_b f x k) (e : s2 = cq_s s b) : s2 = cq_n f x k2.toNat := sorry
theorem cq_ret {f : Nat → Int32} {x k n : Int} {s r : Int32} (hs : s = cq_n f x k.toNat) (hn : 0 ≤ n) (hk : k = 8 * n) (e : r = s ^^^ (-1)) : r = cr_n f x n.toNat ^^^ (-1) := sorry
theorem cr_ret {f : Nat → Int32} {x k n : Int} {s r : Int32} (hs : s = cr_n f x (k - x).toNat) (hk : k = x + n) (e : r = s ^^^ (-1)) : r = cr_n f x n.toNat ^^^ (-1) := sorry
theorem cr_rl {f g : Nat → Int32} {s t : Int} {a b : Int32} (h : rl_B f g s) (e : s = t) (ha : a = cr_n f (0 : Int32).toInt s.toNat ^^^ (-1)) (hb : b = cr_n g (0 : Int32).toInt t.toNat ^^^ (-1)) : a.toInt = b.toInt := sorry
/-- a byte more is the same -/
theorem rl_st {f g g2 : Nat → Int32} {k k2 : Int} {v : Int32} (h : rl_B f g k) (h2 : ∀ j : Int, 0 ≤ j → gr g2 j = if j = k then v.toInt8.toInt32 else gr g j) (hk : k2 = k + 1) (hv : v = gr f k) (hf : -128 ≤ v.toInt ∧ v.toInt ≤ 127) : rl_B f g2 k2 := sorry
/-- two to a power -/
def p2 (k : Int) : Int := ((2 ^ k.toNat : Nat) : Int)
theorem p2_0 : p2 0 = 1 := sorry
theorem p2_s {k m : Int} (h : 0 ≤ k) (hm : m = k + 1) : p2 m = 2 * p2 k := sorry
theorem p2_pos (k : Int) : 1 ≤ p2 k := sorry
theorem p2_le {k : Int} (h : k ≤ 16) : p2 k ≤ 65536 := sorry
