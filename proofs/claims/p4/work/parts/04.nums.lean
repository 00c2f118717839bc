/-! more of numbers: masks, shifts, bytes, longs; arrays seen by an Int index -/
theorem fit_nar (x : Int32) : fits .byte (.int (vp_nar .byte x)) = true := sorry
theorem ti_nat {x : Int32} (h : 0 ≤ x.toInt) : ∃ j : Nat, j < 2 ^ 31 ∧ x = nI j := sorry
theorem ti_and {x m z : Int32} {b : Int} (k : Nat) (e : z = x &&& m) (hm : m.toBitVec.toNat = 2 ^ k - 1) (hb : k ≤ 30 ∧ ((2 ^ k : Nat) : Int) = b + 1) : 0 ≤ z.toInt ∧ z.toInt ≤ b := sorry
theorem ti_andL {x m z : Int32} {b : Int} (k : Nat) (e : z = m &&& x) (hm : m.toBitVec.toNat = 2 ^ k - 1) (hb : k ≤ 30 ∧ ((2 ^ k : Nat) : Int) = b + 1) : 0 ≤ z.toInt ∧ z.toInt ≤ b := sorry
theorem ti_shr {x s z : Int32} {a b : Int} (e : z = x >>> (s &&& 31)) (hx : x.toInt = a) (k : Nat) (hs : ((s &&& 31).toBitVec.smod 32).toNat = k) (hb : ((2 ^ k : Nat) : Int) = b) : z.toInt = a / b := sorry
theorem ti_shl {x s z : Int32} {a b : Int} (e : z = x <<< (s &&& 31)) (hx : x.toInt = a) (k : Nat) (hs : ((s &&& 31).toBitVec.smod 32).toNat = k) (hb : ((2 ^ k : Nat) : Int) = b) (h0 : 0 ≤ a) (h1 : a * b < 2147483648) : z.toInt = a * b := sorry
theorem ti_orN {i j : Nat} (hi : i < 2 ^ 31) (hj : j < 2 ^ 31) : (nI i ||| nI j).toInt = ((i ||| j : Nat) : Int) := sorry
theorem ti_or {x y z : Int32} {a b c : Int} (k : Nat) (e : z = x ||| y) (hx : x.toInt = a) (hy : y.toInt = b) (h1 : 0 ≤ a) (h2 : a < c) (h3 : 0 ≤ b) (h4 : b < c) (hk : ((2 ^ k : Nat) : Int) = c) : 0 ≤ z.toInt ∧ z.toInt < c := sorry
theorem ti_div {x y z : Int32} {a b : Int} (d : Nat) (e : z = x / y) (hx : x.toInt = a) (hy : y = nI d ∧ 0 < d ∧ d < 2 ^ 31) (h0 : 0 ≤ a) (hb : (d : Int) = b) : z.toInt = a / b := sorry
theorem ti_rem {x y z : Int32} {a b : Int} (d : Nat) (e : z = x - x / y * y) (hx : x.toInt = a) (hy : y = nI d ∧ 0 < d ∧ d < 2 ^ 31) (h0 : 0 ≤ a) (hb : (d : Int) = b) : z.toInt = a % b := sorry
theorem ti_neg {x z : Int32} {a : Int} (e : z = -x) (hx : x.toInt = a) (h1 : -2147483648 < a) : z.toInt = -a := sorry
theorem ti_i2b {x z : Int32} (e : z = x.toInt8.toInt32) : -128 ≤ z.toInt ∧ z.toInt ≤ 127 := sorry
theorem ti_fit {x z : Int32} (h : fits .byte (.int x) = true) (e : z = x) : -128 ≤ z.toInt ∧ z.toInt ≤ 127 := sorry
theorem ti_l2i {x : Int64} {z : Int32} {a : Int} (e : z = x.toInt32) (hx : x.toInt = a) (h1 : -2147483648 ≤ a) (h2 : a < 2147483648) : z.toInt = a := sorry
theorem tl_i2l {x : Int32} {z : Int64} {a : Int} (e : z = x.toInt64) (hx : x.toInt = a) : z.toInt = a := sorry
theorem tl_bm {z : Int} (h1 : -9223372036854775808 ≤ z) (h2 : z < 9223372036854775808) : z.bmod (2 ^ 64) = z := sorry
theorem tl_add {x y z : Int64} {a b : Int} (e : z = x + y) (hx : x.toInt = a) (hy : y.toInt = b) (h1 : -9223372036854775808 ≤ a + b) (h2 : a + b < 9223372036854775808) : z.toInt = a + b := sorry
theorem tl_sub {x y z : Int64} {a b : Int} (e : z = x - y) (hx : x.toInt = a) (hy : y.toInt = b) (h1 : -9223372036854775808 ≤ a - b) (h2 : a - b < 9223372036854775808) : z.toInt = a - b := sorry
theorem tl_mul {x y z : Int64} {a b : Int} (e : z = x * y) (hx : x.toInt = a) (hy : y.toInt = b) (h1 : -9223372036854775808 ≤ a * b) (h2 : a * b < 9223372036854775808) : z.toInt = a * b := sorry
theorem tl_nat {x : Int64} (h : 0 ≤ x.toInt) : ∃ j : Nat, j < 2 ^ 63 ∧ x = lN j := sorry
theorem tl_tn {n : Nat} (h : n < 2 ^ 64) : (lN n).toBitVec.toNat = n := sorry
theorem tl_orN {i j : Nat} (hi : i < 2 ^ 63) (hj : j < 2 ^ 63) : (lN i ||| lN j).toInt = ((i ||| j : Nat) : Int) := sorry
theorem tl_or {x y z : Int64} {a b c : Int} (k : Nat) (e : z = x ||| y) (hx : x.toInt = a) (hy : y.toInt = b) (h1 : 0 ≤ a) (h2 : a < c) (h3 : 0 ≤ b) (h4 : b < c) (hk : ((2 ^ k : Nat) : Int) = c) : 0 ≤ z.toInt ∧ z.toInt < c := sorry
theorem tl_shl {x z : Int64} {s : Int32} {a b : Int} (e : z = x <<< (s.toInt64 &&& 63)) (hx : x.toInt = a) (k : Nat) (hs : ((s.toInt64 &&& 63).toBitVec.smod 64).toNat = k ∧ ((2 ^ k : Nat) : Int) = b) (h0 : 0 ≤ a) (h1 : a * b < 9223372036854775808) : z.toInt = a * b := sorry
theorem tl_cmp {x y : Int64} {z : Int32} {a b : Int} (e : z = lg_cmp x y) (hx : x.toInt = a) (hy : y.toInt = b) : (z.toInt < 0 ↔ a < b) ∧ (z.toInt = 0 ↔ a = b) ∧ (0 < z.toInt ↔ b < a) := sorry
/-- an array by an Int index -/
def gx (f : Nat → Int32) (k : Int) : Int := (f k.toNat).toInt
def gr (f : Nat → Int32) (k : Int) : Int32 := f k.toNat
theorem gr_ld {z i : Int32} {f : Nat → Int32} {k : Int} (e : z = f i.toNatClampNeg) (hi : i.toInt = k) : z = gr f k := sorry
theorem gx_ld {z i : Int32} {f : Nat → Int32} {k : Int} (e : z = f i.toNatClampNeg) (hi : i.toInt = k) : z.toInt = gx f k := sorry
theorem gx_upd {f : Nat → Int32} {i v : Int32} {a : Int} (hi : i.toInt = a) (k : Int) (h0 : 0 ≤ a) (hk : 0 ≤ k) : gx (upd f i.toNatClampNeg v) k = if k = a then v.toInt else gx f k := sorry
theorem gx_cpy {f g : Nat → Int32} {sp dp n : Int32} {a b c : Int} (h1 : sp.toInt = a) (h2 : dp.toInt = b) (h3 : n.toInt = c) (k : Int) (p1 : 0 ≤ a) (p2 : 0 ≤ b) (p3 : 0 ≤ c) (hk : 0 ≤ k) : gx (va_cpy f g sp.toNatClampNeg dp.toNatClampNeg n.toNatClampNeg) k = if b ≤ k ∧ k < b + c then gx f (a + (k - b)) else gx g k := sorry
theorem nar_b {v : Int32} (h : v.toInt = 0 ∨ v.toInt = 1) : narrow .boolean (.int v) = .int v := sorry
theorem fit_b {v : Int32} (h : v.toInt = 0 ∨ v.toInt = 1) : fits .boolean (.int v) = true := sorry
theorem nar_byte {v : Int32} (h : -128 ≤ v.toInt ∧ v.toInt ≤ 127) : vp_nar .byte v = v := sorry
theorem gx_updb {f : Nat → Int32} {i v : Int32} {a : Int} (hi : i.toInt = a) (k : Int) (h0 : 0 ≤ a) (hk : 0 ≤ k) (hv : -128 ≤ v.toInt ∧ v.toInt ≤ 127) : gx (upd f i.toNatClampNeg (vp_nar .byte v)) k = if k = a then v.toInt else gx f k := sorry
theorem ti_i2c {x z : Int32} {a : Int} (e : z = (x.toUInt32 % 65536).toInt32) (hx : x.toInt = a) (h : 0 ≤ a ∧ a ≤ 65535) : z.toInt = a := sorry
theorem nar_c {v : Int32} (h : 0 ≤ v.toInt ∧ v.toInt ≤ 65535) : narrow .char (.int v) = .int v := sorry
theorem st_lt (k : Nat) : st_lens.getD k 0 < 2147483648 := sorry
theorem t2_add {x y z : Int32} {a b : Int} (e : z = x + y) (hx : x.toInt = a) (hy : y.toInt = b) (h : -2147483648 ≤ a + b ∧ a + b < 2147483648) : z.toInt = a + b := sorry
theorem t2_sub {x y z : Int32} {a b : Int} (e : z = x - y) (hx : x.toInt = a) (hy : y.toInt = b) (h : -2147483648 ≤ a - b ∧ a - b < 2147483648) : z.toInt = a - b := sorry
