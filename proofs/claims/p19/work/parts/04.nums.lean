/-! ROWS OF NUMBERS -/
theorem omg_6b5d911ce7 {x0 : Nat} {x1 : Int} {x2 : Nat} {x3 : Int} {x4 : Int} {x5 : Int} (a0 : (((x0 : Nat) : Int) = x1)) (a1 : (((x2 : Nat) : Int) = x3)) (a2 : ((x3 ≤ x4) ∧ (x4 < (x3 + x5)))) : ((x0 + ((Int.toNat x4) - x2)) = (Int.toNat (x1 + (x4 - x3)))) := by omega
/-! more of numbers: masks, shifts, bytes, longs; arrays seen by an Int index -/
theorem fit_nar (x : Int32) : fits .byte (.int (vp_nar .byte x)) = true := by rw [vp_nar_byte]; exact pk_fb x
theorem ti_nat {x : Int32} (h : 0 ≤ x.toInt) : ∃ j : Nat, j < 2 ^ 31 ∧ x = nI j := nI_of (fun z9 => by
  have h1 := Int32.lt_iff_toInt_lt.mp z9
  have h2 : (0 : Int32).toInt = 0 := by decide
  omega)
theorem ti_and {x m z : Int32} {b : Int} (k : Nat) (e : z = x &&& m) (hm : m.toBitVec.toNat = 2 ^ k - 1) (hb : k ≤ 30 ∧ ((2 ^ k : Nat) : Int) = b + 1) : 0 ≤ z.toInt ∧ z.toInt ≤ b := by
  obtain ⟨j, hj, ej⟩ := pk_andE x (m := m) k hm
  have h2 : 2 ^ k ≤ 2 ^ 30 := Nat.pow_le_pow_right (by decide) hb.1
  have h3 : z.toInt = (j : Int) := by rw [e, ej]; exact nI_toInt (Nat.lt_of_lt_of_le hj (Nat.le_trans h2 (by decide)))
  have h4 := hb.2
  generalize 2 ^ k = B at *
  omega
theorem ti_andL {x m z : Int32} {b : Int} (k : Nat) (e : z = m &&& x) (hm : m.toBitVec.toNat = 2 ^ k - 1) (hb : k ≤ 30 ∧ ((2 ^ k : Nat) : Int) = b + 1) : 0 ≤ z.toInt ∧ z.toInt ≤ b := ti_and k (e.trans (Int32.and_comm _ _)) hm hb
theorem ti_shr {x s z : Int32} {a b : Int} (e : z = x >>> (s &&& 31)) (hx : x.toInt = a) (k : Nat) (hs : ((s &&& 31).toBitVec.smod 32).toNat = k) (hb : ((2 ^ k : Nat) : Int) = b) : z.toInt = a / b := by
  subst e hx hb
  rw [pk_shr _ _ k hs, Int.shiftRight_eq_div_pow]
theorem ti_shl {x s z : Int32} {a b : Int} (e : z = x <<< (s &&& 31)) (hx : x.toInt = a) (k : Nat) (hs : ((s &&& 31).toBitVec.smod 32).toNat = k) (hb : ((2 ^ k : Nat) : Int) = b) (h0 : 0 ≤ a) (h1 : a * b < 2147483648) : z.toInt = a * b := by
  subst e hx hb
  obtain ⟨j, hj, rfl⟩ := ti_nat h0
  have hj2 : (nI j).toInt = (j : Int) := nI_toInt hj
  rw [hj2] at h1 ⊢
  rw [← Int.natCast_mul] at h1 ⊢
  have h2 : j * 2 ^ k < 2147483648 := by
    generalize j * 2 ^ k = w at *
    omega
  rw [pk_shlN _ k hs (Nat.lt_trans h2 (by decide)), nI_toInt h2]
theorem ti_orN {i j : Nat} (hi : i < 2 ^ 31) (hj : j < 2 ^ 31) : (nI i ||| nI j).toInt = ((i ||| j : Nat) : Int) := by
  have hn : (nI i ||| nI j).toBitVec.toNat = i ||| j := by
    rw [Int32.toBitVec_or, BitVec.toNat_or, pk_tn (by omega), pk_tn (by omega)]
  have ho : i ||| j < 2 ^ 31 := Nat.or_lt_two_pow hi hj
  show (nI i ||| nI j).toBitVec.toInt = _
  rw [BitVec.toInt_eq_toNat_of_lt (by rw [hn]; omega), hn]
theorem ti_or {x y z : Int32} {a b c : Int} (k : Nat) (e : z = x ||| y) (hx : x.toInt = a) (hy : y.toInt = b) (h1 : 0 ≤ a) (h2 : a < c) (h3 : 0 ≤ b) (h4 : b < c) (hk : ((2 ^ k : Nat) : Int) = c) : 0 ≤ z.toInt ∧ z.toInt < c := by
  subst e hx hy hk
  obtain ⟨i, hi, rfl⟩ := ti_nat h1
  obtain ⟨j, hj, rfl⟩ := ti_nat h3
  rw [nI_toInt hi] at h2
  rw [nI_toInt hj] at h4
  have ho : i ||| j < 2 ^ k := Nat.or_lt_two_pow (Int.ofNat_lt.mp h2) (Int.ofNat_lt.mp h4)
  rw [ti_orN hi hj]
  exact ⟨Int.natCast_nonneg _, Int.ofNat_lt.mpr ho⟩
theorem ti_div {x y z : Int32} {a b : Int} (d : Nat) (e : z = x / y) (hx : x.toInt = a) (hy : y = nI d ∧ 0 < d ∧ d < 2 ^ 31) (h0 : 0 ≤ a) (hb : (d : Int) = b) : z.toInt = a / b := by
  subst e hx hb
  obtain ⟨rfl, h1, h2⟩ := hy
  obtain ⟨j, hj, rfl⟩ := ti_nat h0
  have h3 : j / d ≤ j := Nat.div_le_self _ _
  rw [pk_div hj h1 h2, nI_toInt hj, nI_toInt (by omega)]
  rfl
theorem ti_rem {x y z : Int32} {a b : Int} (d : Nat) (e : z = x - x / y * y) (hx : x.toInt = a) (hy : y = nI d ∧ 0 < d ∧ d < 2 ^ 31) (h0 : 0 ≤ a) (hb : (d : Int) = b) : z.toInt = a % b := by
  subst e hx hb
  obtain ⟨rfl, h1, h2⟩ := hy
  obtain ⟨j, hj, rfl⟩ := ti_nat h0
  have h3 : j % d ≤ j := Nat.mod_le _ _
  rw [pk_rem hj h1 h2, nI_toInt hj, nI_toInt (by omega)]
  rfl
theorem ti_neg {x z : Int32} {a : Int} (e : z = -x) (hx : x.toInt = a) (h1 : -2147483648 < a) : z.toInt = -a := by
  subst e hx
  have h2 := Int32.toInt_lt x
  rw [Int32.toInt_neg]
  exact ti_bm (by omega) (by omega)
theorem ti_i2b {x z : Int32} (e : z = x.toInt8.toInt32) : -128 ≤ z.toInt ∧ z.toInt ≤ 127 := by
  subst e
  have ⟨a, b⟩ := lg_i2b_range x
  omega
theorem ti_fit {x z : Int32} (h : fits .byte (.int x) = true) (e : z = x) : -128 ≤ z.toInt ∧ z.toInt ≤ 127 := by
  subst e
  have h1 : (-128 : Int32).toInt = -128 := by decide
  have h2 : (127 : Int32).toInt = 127 := by decide
  simp only [fits, Bool.and_eq_true, decide_eq_true_eq, Int32.le_iff_toInt_le, h1, h2] at h
  exact h
theorem ti_l2i {x : Int64} {z : Int32} {a : Int} (e : z = x.toInt32) (hx : x.toInt = a) (h1 : -2147483648 ≤ a) (h2 : a < 2147483648) : z.toInt = a := by
  subst e hx
  rw [Int64.toInt_toInt32]
  exact ti_bm h1 h2
theorem tl_i2l {x : Int32} {z : Int64} {a : Int} (e : z = x.toInt64) (hx : x.toInt = a) : z.toInt = a := by
  subst e hx
  exact Int32.toInt_toInt64 x
theorem tl_bm {z : Int} (h1 : -9223372036854775808 ≤ z) (h2 : z < 9223372036854775808) : z.bmod (2 ^ 64) = z := by
  simp only [Int.bmod]; split <;> omega
theorem tl_add {x y z : Int64} {a b : Int} (e : z = x + y) (hx : x.toInt = a) (hy : y.toInt = b) (h1 : -9223372036854775808 ≤ a + b) (h2 : a + b < 9223372036854775808) : z.toInt = a + b := by
  subst e hx hy; rw [Int64.toInt_add]; exact tl_bm h1 h2
theorem tl_sub {x y z : Int64} {a b : Int} (e : z = x - y) (hx : x.toInt = a) (hy : y.toInt = b) (h1 : -9223372036854775808 ≤ a - b) (h2 : a - b < 9223372036854775808) : z.toInt = a - b := by
  subst e hx hy; rw [Int64.toInt_sub]; exact tl_bm h1 h2
theorem tl_mul {x y z : Int64} {a b : Int} (e : z = x * y) (hx : x.toInt = a) (hy : y.toInt = b) (h1 : -9223372036854775808 ≤ a * b) (h2 : a * b < 9223372036854775808) : z.toInt = a * b := by
  subst e hx hy; rw [Int64.toInt_mul]; exact tl_bm h1 h2
theorem tl_nat {x : Int64} (h : 0 ≤ x.toInt) : ∃ j : Nat, j < 2 ^ 63 ∧ x = lN j := pk_lOf (fun z9 => by
  have h1 := Int64.lt_iff_toInt_lt.mp z9
  have h2 : (0 : Int64).toInt = 0 := by decide
  omega)
theorem tl_tn {n : Nat} (h : n < 2 ^ 64) : (lN n).toBitVec.toNat = n := Nat.mod_eq_of_lt h
theorem tl_orN {i j : Nat} (hi : i < 2 ^ 63) (hj : j < 2 ^ 63) : (lN i ||| lN j).toInt = ((i ||| j : Nat) : Int) := by
  have hn : (lN i ||| lN j).toBitVec.toNat = i ||| j := by
    rw [Int64.toBitVec_or, BitVec.toNat_or, tl_tn (by omega), tl_tn (by omega)]
  have ho : i ||| j < 2 ^ 63 := Nat.or_lt_two_pow hi hj
  show (lN i ||| lN j).toBitVec.toInt = _
  rw [BitVec.toInt_eq_toNat_of_lt (by rw [hn]; omega), hn]
theorem tl_or {x y z : Int64} {a b c : Int} (k : Nat) (e : z = x ||| y) (hx : x.toInt = a) (hy : y.toInt = b) (h1 : 0 ≤ a) (h2 : a < c) (h3 : 0 ≤ b) (h4 : b < c) (hk : ((2 ^ k : Nat) : Int) = c) : 0 ≤ z.toInt ∧ z.toInt < c := by
  subst e hx hy hk
  obtain ⟨i, hi, rfl⟩ := tl_nat h1
  obtain ⟨j, hj, rfl⟩ := tl_nat h3
  rw [pk_lT hi] at h2
  rw [pk_lT hj] at h4
  have ho : i ||| j < 2 ^ k := Nat.or_lt_two_pow (Int.ofNat_lt.mp h2) (Int.ofNat_lt.mp h4)
  rw [tl_orN hi hj]
  exact ⟨Int.natCast_nonneg _, Int.ofNat_lt.mpr ho⟩
theorem tl_shl {x z : Int64} {s : Int32} {a b : Int} (e : z = x <<< (s.toInt64 &&& 63)) (hx : x.toInt = a) (k : Nat) (hs : ((s.toInt64 &&& 63).toBitVec.smod 64).toNat = k ∧ ((2 ^ k : Nat) : Int) = b) (h0 : 0 ≤ a) (h1 : a * b < 9223372036854775808) : z.toInt = a * b := by
  obtain ⟨hs, rfl⟩ := hs
  subst e hx
  obtain ⟨j, hj, rfl⟩ := tl_nat h0
  rw [pk_lT hj] at h1 ⊢
  rw [← Int.natCast_mul] at h1 ⊢
  have h2 : j * 2 ^ k < 2 ^ 63 := by
    generalize j * 2 ^ k = w at *
    omega
  have hn : (lN j <<< (s.toInt64 &&& 63)).toBitVec.toNat = j * 2 ^ k := by
    show ((lN j).toBitVec <<< ((s.toInt64 &&& 63).toBitVec.smod 64).toNat).toNat = _
    rw [hs, BitVec.toNat_shiftLeft, Nat.shiftLeft_eq, tl_tn (by omega), Nat.mod_eq_of_lt (Nat.lt_trans h2 (by decide))]
  show (lN j <<< (s.toInt64 &&& 63)).toBitVec.toInt = _
  rw [BitVec.toInt_eq_toNat_of_lt (by rw [hn]; omega), hn]
theorem tl_cmp {x y : Int64} {z : Int32} {a b : Int} (e : z = lg_cmp x y) (hx : x.toInt = a) (hy : y.toInt = b) : (z.toInt < 0 ↔ a < b) ∧ (z.toInt = 0 ↔ a = b) ∧ (0 < z.toInt ↔ b < a) := by
  subst e hx hy
  have h0 : (0 : Int32).toInt = 0 := by decide
  have h1 : (1 : Int32).toInt = 1 := by decide
  have h2 : (-1 : Int32).toInt = -1 := by decide
  unfold lg_cmp
  by_cases g1 : x > y
  · have g2 := Int64.lt_iff_toInt_lt.mp g1
    rw [if_pos g1]
    omega
  · rw [if_neg g1]
    by_cases g2 : x = y
    · subst g2
      rw [if_pos rfl]
      omega
    · have g3 : ¬ y.toInt < x.toInt := fun z9 => g1 (Int64.lt_iff_toInt_lt.mpr z9)
      have g4 : ¬ x.toInt = y.toInt := fun z9 => g2 (Int64.toInt_inj.mp z9)
      rw [if_neg g2]
      omega
/-- an array by an Int index -/
def gx (f : Nat → Int32) (k : Int) : Int := (f k.toNat).toInt
def gr (f : Nat → Int32) (k : Int) : Int32 := f k.toNat
theorem gr_ld {z i : Int32} {f : Nat → Int32} {k : Int} (e : z = f i.toNatClampNeg) (hi : i.toInt = k) : z = gr f k := by subst e hi; rfl
theorem gx_ld {z i : Int32} {f : Nat → Int32} {k : Int} (e : z = f i.toNatClampNeg) (hi : i.toInt = k) : z.toInt = gx f k := by subst e hi; rfl
theorem gx_upd {f : Nat → Int32} {i v : Int32} {a : Int} (hi : i.toInt = a) (k : Int) (h0 : 0 ≤ a) (hk : 0 ≤ k) : gx (upd f i.toNatClampNeg v) k = if k = a then v.toInt else gx f k := by
  subst hi
  unfold gx
  by_cases h : k = i.toInt
  · subst h
    rw [if_pos rfl]
    exact congrArg Int32.toInt pk_us
  · rw [if_neg h]
    refine congrArg Int32.toInt (pk_un (fun z9 => h ?_))
    have h2 : ((i.toNatClampNeg : Nat) : Int) = i.toInt := ti_clamp h0
    omega
theorem gx_cpy {f g : Nat → Int32} {sp dp n : Int32} {a b c : Int} (h1 : sp.toInt = a) (h2 : dp.toInt = b) (h3 : n.toInt = c) (k : Int) (p1 : 0 ≤ a) (p2 : 0 ≤ b) (p3 : 0 ≤ c) (hk : 0 ≤ k) : gx (va_cpy f g sp.toNatClampNeg dp.toNatClampNeg n.toNatClampNeg) k = if b ≤ k ∧ k < b + c then gx f (a + (k - b)) else gx g k := by
  subst h1 h2 h3
  have q1 : ((sp.toNatClampNeg : Nat) : Int) = sp.toInt := ti_clamp p1
  have q2 : ((dp.toNatClampNeg : Nat) : Int) = dp.toInt := ti_clamp p2
  have q3 : ((n.toNatClampNeg : Nat) : Int) = n.toInt := ti_clamp p3
  unfold gx
  by_cases h : dp.toInt ≤ k ∧ k < dp.toInt + n.toInt
  · rw [if_pos h, pk_cpy_in (by omega) (by omega), show sp.toNatClampNeg + (k.toNat - dp.toNatClampNeg) = (sp.toInt + (k - dp.toInt)).toNat by (exact omg_6b5d911ce7 q1 q2 h)]
  · rw [if_neg h, pk_cpy_out (by omega)]
theorem nar_b {v : Int32} (h : v.toInt = 0 ∨ v.toInt = 1) : narrow .boolean (.int v) = .int v := by
  have h0 : (0 : Int32).toInt = 0 := by decide
  have h1 : (1 : Int32).toInt = 1 := by decide
  rcases h with h | h
  · obtain rfl : v = 0 := Int32.toInt_inj.mp (by omega)
    rfl
  · obtain rfl : v = 1 := Int32.toInt_inj.mp (by omega)
    rfl
theorem fit_b {v : Int32} (h : v.toInt = 0 ∨ v.toInt = 1) : fits .boolean (.int v) = true := by
  have h0 : (0 : Int32).toInt = 0 := by decide
  have h1 : (1 : Int32).toInt = 1 := by decide
  rcases h with h | h
  · obtain rfl : v = 0 := Int32.toInt_inj.mp (by omega)
    rfl
  · obtain rfl : v = 1 := Int32.toInt_inj.mp (by omega)
    rfl
theorem nar_byte {v : Int32} (h : -128 ≤ v.toInt ∧ v.toInt ≤ 127) : vp_nar .byte v = v := by
  rw [vp_nar_byte]
  apply Int32.toInt_inj.mp
  rw [Int8.toInt_toInt32, Int32.toInt_toInt8]
  simp only [Int.bmod]
  split <;> omega
theorem gx_updb {f : Nat → Int32} {i v : Int32} {a : Int} (hi : i.toInt = a) (k : Int) (h0 : 0 ≤ a) (hk : 0 ≤ k) (hv : -128 ≤ v.toInt ∧ v.toInt ≤ 127) : gx (upd f i.toNatClampNeg (vp_nar .byte v)) k = if k = a then v.toInt else gx f k := by
  rw [nar_byte hv]
  exact gx_upd hi k h0 hk
theorem ti_i2c {x z : Int32} {a : Int} (e : z = (x.toUInt32 % 65536).toInt32) (hx : x.toInt = a) (h : 0 ≤ a ∧ a ≤ 65535) : z.toInt = a := by
  subst e hx
  obtain ⟨j, hj, rfl⟩ := ti_nat h.1
  have e1 := nI_toInt hj
  rw [pk_char, pk_tn (by omega), Nat.mod_eq_of_lt (by omega)]
theorem nar_c {v : Int32} (h : 0 ≤ v.toInt ∧ v.toInt ≤ 65535) : narrow .char (.int v) = .int v := by
  obtain ⟨j, hj, rfl⟩ := ti_nat h.1
  have e1 := nI_toInt hj
  exact (pk_charN (by omega)).1
theorem st_lt (k : Nat) : st_lens.getD k 0 < 2147483648 := by
  have h := st_len_rng k
  unfold st_len at h
  omega
theorem t2_add {x y z : Int32} {a b : Int} (e : z = x + y) (hx : x.toInt = a) (hy : y.toInt = b) (h : -2147483648 ≤ a + b ∧ a + b < 2147483648) : z.toInt = a + b := ti_add e hx hy h.1 h.2
theorem t2_sub {x y z : Int32} {a b : Int} (e : z = x - y) (hx : x.toInt = a) (hy : y.toInt = b) (h : -2147483648 ≤ a - b ∧ a - b < 2147483648) : z.toInt = a - b := ti_sub e hx hy h.1 h.2
