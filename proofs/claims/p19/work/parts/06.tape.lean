def hid_ (p : Prop) : Prop := p
theorem hid_i {p : Prop} (h : p) : hid_ p := h
theorem hid_o {p : Prop} (h : hid_ p) : p := h
/-- a number as a byte -/
def by_ (r : Int) : Int32 := (Int32.ofInt r).toInt8.toInt32
theorem by_E {i : Int32} {r : Int} (h : i.toInt = r) : i.toInt8.toInt32 = by_ r := by
  unfold by_
  rw [← h, Int32.ofInt_toInt]
/-- an array read behind a store, a copy -/
theorem gr_upd {f : Nat → Int32} {i v : Int32} {a : Int} (hi : i.toInt = a) (k : Int) (h0 : 0 ≤ a) (hk : 0 ≤ k) : gr (upd f i.toNatClampNeg v) k = if k = a then v else gr f k := by
  subst hi
  unfold gr
  by_cases h : k = i.toInt
  · subst h
    rw [if_pos rfl]
    exact pk_us
  · rw [if_neg h]
    refine pk_un (fun z9 => h ?_)
    have h2 : ((i.toNatClampNeg : Nat) : Int) = i.toInt := ti_clamp h0
    omega
theorem gr_updb {f : Nat → Int32} {i v : Int32} {a : Int} (hi : i.toInt = a) (k : Int) (h0 : 0 ≤ a) (hk : 0 ≤ k) : gr (upd f i.toNatClampNeg (vp_nar .byte v)) k = if k = a then v.toInt8.toInt32 else gr f k := by
  rw [gr_upd hi k h0 hk, vp_nar_byte]
theorem gr_cpy {f g : Nat → Int32} {sp dp n : Int32} {a b c : Int} (h1 : sp.toInt = a) (h2 : dp.toInt = b) (h3 : n.toInt = c) (k : Int) (p1 : 0 ≤ a) (p2 : 0 ≤ b) (p3 : 0 ≤ c) (hk : 0 ≤ k) : gr (va_cpy f g sp.toNatClampNeg dp.toNatClampNeg n.toNatClampNeg) k = if b ≤ k ∧ k < b + c then gr f (a + (k - b)) else gr g k := by
  subst h1 h2 h3
  have q1 : ((sp.toNatClampNeg : Nat) : Int) = sp.toInt := ti_clamp p1
  have q2 : ((dp.toNatClampNeg : Nat) : Int) = dp.toInt := ti_clamp p2
  have q3 : ((n.toNatClampNeg : Nat) : Int) = n.toInt := ti_clamp p3
  unfold gr
  by_cases h : dp.toInt ≤ k ∧ k < dp.toInt + n.toInt
  · rw [if_pos h, pk_cpy_in (by omega) (by omega), show sp.toNatClampNeg + (k.toNat - dp.toNatClampNeg) = (sp.toInt + (k - dp.toInt)).toNat by (exact omg_6b5d911ce7 q1 q2 h)]
  · rw [if_neg h, pk_cpy_out (by omega)]
theorem bz_nn (x : Int32) : x.toInt8.toInt32.toInt8.toInt32 = x.toInt8.toInt32 := by
  have h := nar_byte (v := x.toInt8.toInt32) (ti_i2b rfl)
  rw [vp_nar_byte] at h
  exact h
theorem bz_fit {x : Int32} (h : -128 ≤ x.toInt ∧ x.toInt ≤ 127) : x.toInt8.toInt32 = x := by
  rw [← vp_nar_byte]
  exact nar_byte h
theorem bz_sh8 (x : BitVec 64) (n : Nat) (hn : n ≤ 56) : ((x >>> n).signExtend 32).signExtend 8 = ((x.sshiftRight n).signExtend 32).signExtend 8 := by
  have e1 : ∀ y : BitVec 64, y.signExtend 32 = y.setWidth 32 := fun y => BitVec.signExtend_eq_setWidth_of_le y (by omega)
  have e2 : ∀ y : BitVec 32, y.signExtend 8 = y.setWidth 8 := fun y => BitVec.signExtend_eq_setWidth_of_le y (by omega)
  rw [e1, e1, e2, e2]
  apply BitVec.eq_of_getLsbD_eq
  intro i hi
  rw [BitVec.getLsbD_setWidth, BitVec.getLsbD_setWidth, BitVec.getLsbD_setWidth, BitVec.getLsbD_setWidth, BitVec.getLsbD_ushiftRight, BitVec.getLsbD_sshiftRight, if_pos (by omega)]
  have h1 : ¬ 64 ≤ i := by omega
  simp [h1]
theorem bz_l (w : Int64) {y c : Int32} (e : y = c) (n : Nat) (hn : n ≤ 56) (hu : ((c.toInt64.toUInt64 &&& Int64.toUInt64 63).toBitVec % 64).toNat = n) (hv : ((c.toInt64 &&& 63).toBitVec.smod 64).toNat = n) : (w.toUInt64 >>> (y.toInt64.toUInt64 &&& Int64.toUInt64 63)).toInt64.toInt32.toInt8.toInt32 = (w >>> (y.toInt64 &&& 63)).toInt32.toInt8.toInt32 := by
  subst e
  refine congrArg Int8.toInt32 (Int8.toBitVec_inj.mp ?_)
  show (((w.toBitVec >>> ((y.toInt64.toUInt64 &&& Int64.toUInt64 63).toBitVec % 64).toNat).signExtend 32).signExtend 8) = (((w.toBitVec.sshiftRight ((y.toInt64 &&& 63).toBitVec.smod 64).toNat).signExtend 32).signExtend 8)
  rw [hu, hv]
  exact bz_sh8 _ n hn
/-- byte k of a number, as it comes behind the tape -/
def tp_b (w : Int64) (k : Int) : Int32 := (w >>> ((Int32.ofInt (8 * k)).toInt64 &&& 63)).toInt32.toInt8.toInt32
theorem tp_m {w z : Int64} {y : Int32} {k : Int} (hz : z = w >>> (y.toInt64 &&& 63)) (hy : y.toInt = 8 * k) : z.toInt32.toInt8.toInt32 = tp_b w k := by
  subst hz
  unfold tp_b
  rw [← hy, Int32.ofInt_toInt]
theorem tp_c {w z : Int64} {y : Int32} {k : Int} (hz : z = (w.toUInt64 >>> (y.toInt64.toUInt64 &&& Int64.toUInt64 63)).toInt64) (hy : y.toInt = 8 * k) (h0 : 0 ≤ k) (h1 : k ≤ 7) : z.toInt32.toInt8.toInt32 = tp_b w k := by
  subst hz
  rw [← tp_m rfl hy]
  rcases (show k = 0 ∨ k = 1 ∨ k = 2 ∨ k = 3 ∨ k = 4 ∨ k = 5 ∨ k = 6 ∨ k = 7 by omega) with rfl | rfl | rfl | rfl | rfl | rfl | rfl | rfl
  · exact bz_l w (c := 0) (Int32.toInt_inj.mp (hy.trans (by decide))) 0 (by decide) (by decide) (by decide)
  · exact bz_l w (c := 8) (Int32.toInt_inj.mp (hy.trans (by decide))) 8 (by decide) (by decide) (by decide)
  · exact bz_l w (c := 16) (Int32.toInt_inj.mp (hy.trans (by decide))) 16 (by decide) (by decide) (by decide)
  · exact bz_l w (c := 24) (Int32.toInt_inj.mp (hy.trans (by decide))) 24 (by decide) (by decide) (by decide)
  · exact bz_l w (c := 32) (Int32.toInt_inj.mp (hy.trans (by decide))) 32 (by decide) (by decide) (by decide)
  · exact bz_l w (c := 40) (Int32.toInt_inj.mp (hy.trans (by decide))) 40 (by decide) (by decide) (by decide)
  · exact bz_l w (c := 48) (Int32.toInt_inj.mp (hy.trans (by decide))) 48 (by decide) (by decide) (by decide)
  · exact bz_l w (c := 56) (Int32.toInt_inj.mp (hy.trans (by decide))) 56 (by decide) (by decide) (by decide)
theorem tp_m2 {w z : Int64} {y v u : Int32} {k : Int} (e1 : v = u.toInt8.toInt32) (e2 : u = z.toInt32) (hz : z = w >>> (y.toInt64 &&& 63)) (hy : y.toInt = 8 * k) : v.toInt8.toInt32 = tp_b w k := by
  subst e1 e2
  rw [bz_nn]
  exact tp_m hz hy
theorem tp_c2 {w z : Int64} {y u : Int32} {k : Int} (e2 : u = z.toInt32) (hz : z = (w.toUInt64 >>> (y.toInt64.toUInt64 &&& Int64.toUInt64 63)).toInt64) (hy : y.toInt = 8 * k) (h0 : 0 ≤ k) (h1 : k ≤ 7) : u.toInt8.toInt32 = tp_b w k := by
  subst e2
  exact tp_c hz hy h0 h1
/-- the tape behind type, behind again -/
def tp_T (f g : Nat → Int32) (s t : Int) (w : Int64) : Prop := ∀ j : Int, 0 ≤ j → j < t → gr g j = if j < s then gr f j else tp_b w (j - s)
def tp_G (f g : Nat → Int32) (s t n : Int) : Prop := ∀ j : Int, 0 ≤ j → j < t → gr g j = if j < s then gr f j else gr f (j - n)
theorem tp_T0 {f : Nat → Int32} {s t : Int} {w : Int64} (h : t ≤ s) : tp_T f f s t w := fun j _ h1 => by rw [if_pos (by omega)]
theorem tp_G0 {f : Nat → Int32} {s t n : Int} (h : t ≤ s) : tp_G f f s t n := fun j _ h1 => by rw [if_pos (by omega)]
theorem tp_step {f g g2 : Nat → Int32} {s t t2 : Int} {v : Int32} {w : Int64} (h : tp_T f g s t w) (h2 : ∀ j : Int, 0 ≤ j → gr g2 j = if j = t then v.toInt8.toInt32 else gr g j) (ht : t2 = t + 1) (hs : s ≤ t) (hv : v.toInt8.toInt32 = tp_b w (t - s)) : tp_T f g2 s t2 w := by
  intro j h0 h1
  rw [h2 j h0]
  by_cases e : j = t
  · rw [if_pos e, if_neg (by omega), e, hv]
  · rw [if_neg e]
    exact h j h0 (by omega)
theorem tg_step {f g g2 : Nat → Int32} {s t t2 n : Int} {v : Int32} (h : tp_G f g s t n) (h2 : ∀ j : Int, 0 ≤ j → gr g2 j = if j = t then v.toInt8.toInt32 else gr g j) (ht : t2 = t + 1) (hs : s ≤ t) (hn : t - n < s) (hn0 : 0 ≤ t - n) (hv : v = gr g (t - n)) (hf : -128 ≤ v.toInt ∧ v.toInt ≤ 127) : tp_G f g2 s t2 n := by
  intro j h0 h1
  rw [h2 j h0]
  by_cases e : j = t
  · rw [if_pos e, if_neg (by omega), bz_fit hf, hv, h (t - n) hn0 (by omega), if_pos hn, e]
  · rw [if_neg e]
    exact h j h0 (by omega)
theorem tg_cpy {f g : Nat → Int32} {s t n x : Int} (h : ∀ j : Int, 0 ≤ j → gr g j = if s ≤ j ∧ j < s + n then gr f (x + (j - s)) else gr f j) (hx : x = s - n) (ht : t = s + n) : tp_G f g s t n := by
  intro j h0 h1
  rw [h j h0]
  by_cases e : j < s
  · rw [if_pos e, if_neg (by omega)]
  · rw [if_neg e, if_pos (by omega), hx, show s - n + (j - s) = j - n by omega]
/-- the two tapes have the same bytes -/
def rl_B (f g : Nat → Int32) (s : Int) : Prop := ∀ j : Int, 0 ≤ j → j < s → gr f j = gr g j
theorem rl_0 {f g : Nat → Int32} {s : Int} (h : s ≤ 0) : rl_B f g s := fun j h0 h1 => absurd h1 (by omega)
theorem rl_T {f g f2 g2 : Nat → Int32} {s s2 t t2 : Int} {w : Int64} (h : rl_B f g s) (e : s = t) (h1 : tp_T f f2 s s2 w) (h2 : tp_T g g2 t t2 w) (e2 : s2 = t2) : rl_B f2 g2 s2 := by
  intro j h0 hj
  rw [h1 j h0 hj, h2 j h0 (by omega)]
  by_cases c : j < s
  · rw [if_pos c, if_pos (by omega)]
    exact h j h0 c
  · rw [if_neg c, if_neg (by omega), e]
theorem rl_G {f g f2 g2 : Nat → Int32} {s s2 t t2 n : Int} (h : rl_B f g s) (e : s = t) (h1 : tp_G f f2 s s2 n) (h2 : tp_G g g2 t t2 n) (e2 : s2 = t2) (hn : 0 ≤ n ∧ n ≤ s ∧ s2 = s + n ∨ s2 ≤ s) : rl_B f2 g2 s2 := by
  intro j h0 hj
  rw [h1 j h0 hj, h2 j h0 (by omega)]
  by_cases c : j < s
  · rw [if_pos c, if_pos (by omega)]
    exact h j h0 c
  · rw [if_neg c, if_neg (by omega)]
    exact h (j - n) (by omega) (by omega)
/-- THE SUM: as the class makes it, a byte at a time -/
def cr_u (r : Int32) : Int32 := (r.toUInt32 >>> ((1 : Int32).toUInt32 &&& Int32.toUInt32 31)).toInt32
def cr_s (r : Int32) : Int32 := if r &&& 1 = 1 then cr_u r ^^^ (-306674912) else cr_u r
def cr_i : Nat → Int32 → Int32
  | 0, r => r
  | n + 1, r => cr_s (cr_i n r)
def cr_n (f : Nat → Int32) (x : Int) : Nat → Int32
  | 0 => -1
  | m + 1 => cr_i 8 (cr_n f x m ^^^ (gr f (x + m) &&& 255))
/-- as the reference makes it, a bit at a time -/
def cq_b (f : Nat → Int32) (x k : Int) : Int32 := (gr f (x + k / 8) >>> (Int32.ofInt (k % 8) &&& 31)) &&& 1
def cq_s (s b : Int32) : Int32 := if s &&& 1 = b then cr_u s else cr_u s ^^^ (-306674912)
def cq_n (f : Nat → Int32) (x : Int) : Nat → Int32
  | 0 => -1
  | m + 1 => cq_s (cq_n f x m) (cq_b f x m)
theorem cr_ub (r : Int32) : (cr_u r).toBitVec = r.toBitVec >>> 1 := by
  show r.toBitVec >>> (((1 : Int32).toUInt32 &&& Int32.toUInt32 31).toBitVec % 32).toNat = r.toBitVec >>> 1
  rw [show (((1 : Int32).toUInt32 &&& Int32.toUInt32 31).toBitVec % 32).toNat = 1 by decide]
theorem cr_a (r : Int32) (i : Nat) : (r &&& 1).toBitVec.getLsbD i = (r.toBitVec.getLsbD i && decide (i = 0)) := by
  rw [Int32.toBitVec_and, BitVec.getLsbD_and, show (1 : Int32).toBitVec = 1#32 from rfl, BitVec.getLsbD_one]
  simp
theorem cr_a1 {r : Int32} (h : r.toBitVec.getLsbD 0 = true) : r &&& 1 = 1 := by
  apply Int32.toBitVec_inj.mp
  apply BitVec.eq_of_getLsbD_eq
  intro i hi
  rw [cr_a, show (1 : Int32).toBitVec = 1#32 from rfl, BitVec.getLsbD_one]
  by_cases e : i = 0
  · subst e
    simp [h]
  · simp [e]
theorem cr_a0 {r : Int32} (h : r.toBitVec.getLsbD 0 = false) : r &&& 1 = 0 := by
  apply Int32.toBitVec_inj.mp
  apply BitVec.eq_of_getLsbD_eq
  intro i hi
  rw [cr_a, show (0 : Int32).toBitVec = 0#32 from rfl, BitVec.getLsbD_zero]
  by_cases e : i = 0
  · subst e
    rw [h]
    rfl
  · simp [e]
theorem cr_01 : ¬ (0 : Int32) = 1 := by decide
theorem cr_10 : ¬ (1 : Int32) = 0 := by decide
def cr_P : BitVec 32 := (-306674912 : Int32).toBitVec
theorem cr_sb (r : Int32) : (cr_s r).toBitVec = (r.toBitVec >>> 1) ^^^ (if r.toBitVec.getLsbD 0 = true then cr_P else 0#32) := by
  unfold cr_s
  cases hb : r.toBitVec.getLsbD 0
  · rw [cr_a0 hb, if_neg cr_01, if_neg (by decide), cr_ub, BitVec.xor_zero]
  · rw [cr_a1 hb, if_pos rfl, if_pos rfl, Int32.toBitVec_xor, cr_ub]
    rfl
theorem cq_sb (s b : Int32) : (cq_s s (b &&& 1)).toBitVec = (s.toBitVec >>> 1) ^^^ (if (s.toBitVec.getLsbD 0 ^^ b.toBitVec.getLsbD 0) = true then cr_P else 0#32) := by
  unfold cq_s
  cases hs : s.toBitVec.getLsbD 0 <;> cases hb : b.toBitVec.getLsbD 0
  · rw [cr_a0 hs, cr_a0 hb, if_pos rfl, if_neg (by decide), cr_ub, BitVec.xor_zero]
  · rw [cr_a0 hs, cr_a1 hb, if_neg cr_01, if_pos (by decide), Int32.toBitVec_xor, cr_ub]
    rfl
  · rw [cr_a1 hs, cr_a0 hb, if_neg cr_10, if_pos (by decide), Int32.toBitVec_xor, cr_ub]
    rfl
  · rw [cr_a1 hs, cr_a1 hb, if_pos rfl, if_neg (by decide), cr_ub, BitVec.xor_zero]
theorem cq_bit (a : Int32) (j : Nat) (hj : j < 8) : (a >>> (Int32.ofInt (j : Int) &&& 31)).toBitVec.getLsbD 0 = a.toBitVec.getLsbD j := by
  show (a.toBitVec.sshiftRight ((Int32.ofInt (j : Int) &&& 31).toBitVec.smod 32).toNat).getLsbD 0 = _
  have e : ((Int32.ofInt (j : Int) &&& 31).toBitVec.smod 32).toNat = j := by
    have h : ∀ n : Nat, n < 8 → ((Int32.ofInt (n : Int) &&& 31).toBitVec.smod 32).toNat = n := by decide
    exact h j hj
  rw [e, BitVec.getLsbD_sshiftRight, if_pos (by omega)]
  simp
theorem cr_255 (i : Nat) (hi : i < 32) : (255 : Int32).toBitVec.getLsbD i = decide (i < 8) := by
  have h : ∀ n : Nat, n < 32 → (255 : Int32).toBitVec.getLsbD n = decide (n < 8) := by decide
  exact h i hi
theorem cr_lo (a : Int32) (j : Nat) (hj : j < 8) : (a &&& 255).toBitVec.getLsbD j = a.toBitVec.getLsbD j := by
  rw [Int32.toBitVec_and, BitVec.getLsbD_and, cr_255 j (by omega)]
  simp [hj]
theorem cr_hi (a : Int32) : (a &&& 255).toBitVec >>> 8 = 0#32 := by
  apply BitVec.eq_of_getLsbD_eq
  intro i hi
  rw [BitVec.getLsbD_ushiftRight, Int32.toBitVec_and, BitVec.getLsbD_and, BitVec.getLsbD_zero]
  by_cases h : 8 + i < 32
  · rw [cr_255 (8 + i) h]
    simp
  · rw [BitVec.getLsbD_of_ge _ _ (by omega : 32 ≤ 8 + i)]
    simp
/-- the bits of one byte, one behind the other -/
def cq_j (a s : Int32) : Nat → Int32
  | 0 => s
  | j + 1 => cq_s (cq_j a s j) ((a >>> (Int32.ofInt (j : Int) &&& 31)) &&& 1)
theorem cr_cq (a s : Int32) : ∀ j : Nat, j ≤ 8 → (cr_i j (s ^^^ (a &&& 255))).toBitVec = (cq_j a s j).toBitVec ^^^ ((a &&& 255).toBitVec >>> j)
  | 0, _ => by
    show (s ^^^ (a &&& 255)).toBitVec = s.toBitVec ^^^ ((a &&& 255).toBitVec >>> 0)
    rw [Int32.toBitVec_xor, BitVec.ushiftRight_zero]
  | j + 1, h => by
    have ih := cr_cq a s j (by omega)
    show (cr_s (cr_i j (s ^^^ (a &&& 255)))).toBitVec = (cq_s (cq_j a s j) ((a >>> (Int32.ofInt (j : Int) &&& 31)) &&& 1)).toBitVec ^^^ ((a &&& 255).toBitVec >>> (j + 1))
    rw [cr_sb, cq_sb, ih, cq_bit a j (by omega), BitVec.getLsbD_xor, BitVec.getLsbD_ushiftRight, Nat.add_zero, cr_lo a j (by omega), BitVec.ushiftRight_xor_distrib, ← BitVec.shiftRight_add]
    rw [BitVec.xor_assoc, BitVec.xor_assoc, BitVec.xor_comm ((a &&& 255).toBitVec >>> (j + 1))]
theorem cr_byte (a s : Int32) : cr_i 8 (s ^^^ (a &&& 255)) = cq_j a s 8 := by
  apply Int32.toBitVec_inj.mp
  rw [cr_cq a s 8 (by omega), cr_hi, BitVec.xor_zero]
theorem cq_run (f : Nat → Int32) (x : Int) (m : Nat) : ∀ j : Nat, j ≤ 8 → cq_n f x (8 * m + j) = cq_j (gr f (x + m)) (cq_n f x (8 * m)) j
  | 0, _ => rfl
  | j + 1, h => by
    have ih := cq_run f x m j (by omega)
    show cq_s (cq_n f x (8 * m + j)) (cq_b f x ((8 * m + j : Nat) : Int)) = cq_s (cq_j (gr f (x + m)) (cq_n f x (8 * m)) j) _
    rw [ih]
    refine congrArg (cq_s _) ?_
    unfold cq_b
    rw [show x + ((8 * m + j : Nat) : Int) / 8 = x + m by omega, show ((8 * m + j : Nat) : Int) % 8 = (j : Int) by omega]
theorem cq_cr (f : Nat → Int32) (x : Int) : ∀ m : Nat, cq_n f x (8 * m) = cr_n f x m
  | 0 => rfl
  | m + 1 => by
    have ih := cq_cr f x m
    have h := cq_run f x m 8 (by omega)
    rw [show 8 * (m + 1) = 8 * m + 8 by omega, h, ih]
    exact (cr_byte _ _).symm
theorem cr_same {f g : Nat → Int32} {x y : Int} : ∀ m : Nat, (∀ j : Int, 0 ≤ j → j < m → gr f (x + j) = gr g (y + j)) → cr_n f x m = cr_n g y m
  | 0, _ => rfl
  | m + 1, h => by
    have ih := cr_same (f := f) (g := g) (x := x) (y := y) m (fun j h0 h1 => h j h0 (by omega))
    show cr_i 8 (cr_n f x m ^^^ (gr f (x + m) &&& 255)) = cr_i 8 (cr_n g y m ^^^ (gr g (y + m) &&& 255))
    rw [ih, h m (by omega) (by omega)]
/-- the steps of both loops -/
theorem cr_e1 {s m u v : Int32} (e1 : m = s &&& 1) (h : m.toInt = 1) (e2 : u = (s.toUInt32 >>> ((1 : Int32).toUInt32 &&& Int32.toUInt32 31)).toInt32) (e3 : v = u ^^^ (-306674912)) : v = cr_s s := by
  have hm : m = 1 := Int32.toInt_inj.mp (h.trans (by decide))
  unfold cr_s
  rw [if_pos (e1.symm.trans hm), e3, e2]
  rfl
theorem cr_e0 {s m u v : Int32} (e1 : m = s &&& 1) (h : ¬ m.toInt = 1) (e2 : u = (s.toUInt32 >>> ((1 : Int32).toUInt32 &&& Int32.toUInt32 31)).toInt32) (e3 : v = u ^^^ 0) : v = cr_s s := by
  have hm : ¬ m = 1 := fun z9 => h (by rw [z9]; decide)
  unfold cr_s
  rw [if_neg (fun z9 => hm (e1.trans z9)), e3, e2, Int32.xor_zero]
  rfl
theorem cr_st {a s s2 : Int32} {b b2 : Int} (h : s = cr_i b.toNat a) (h0 : 0 ≤ b) (hb : b2 = b + 1) (e : s2 = cr_s s) : s2 = cr_i b2.toNat a := by
  rw [hb, show (b + 1).toNat = b.toNat + 1 by omega]
  show s2 = cr_s (cr_i b.toNat a)
  rw [← h]
  exact e
theorem cr_z {f : Nat → Int32} {k : Int} {s i j v b : Int32} (e1 : v = s ^^^ j) (e2 : j = i &&& 255) (e3 : i = gr f k) (hb : b.toInt = 0) : v = cr_i b.toInt.toNat (s ^^^ (gr f k &&& 255)) := by
  rw [hb, e1, e2, e3]
  rfl
theorem cr_nx {f : Nat → Int32} {x k k2 b : Int} {s s2 : Int32} (hs : s = cr_n f x (k - x).toNat) (h2 : s2 = cr_i b.toNat (s ^^^ (gr f k &&& 255))) (hb : b = 8) (hk : x ≤ k) (hk2 : k2 = k + 1) : s2 = cr_n f x (k2 - x).toNat := by
  subst hb hk2
  rw [show (k + 1 - x).toNat = (k - x).toNat + 1 by omega]
  show s2 = cr_i 8 (cr_n f x (k - x).toNat ^^^ (gr f (x + ((k - x).toNat : Nat)) &&& 255))
  rw [← hs, show x + (((k - x).toNat : Nat) : Int) = k by omega]
  exact h2
theorem cq_bb {f : Nat → Int32} {x k : Int} {v i j m : Int32} (e1 : v = i &&& 1) (e2 : i = j >>> (m &&& 31)) (e3 : j = gr f (x + k / 8)) (hm : m.toInt = k % 8) : v = cq_b f x k := by
  unfold cq_b
  rw [e1, e2, e3, ← hm, Int32.ofInt_toInt]
theorem cq_e1 {s b m u v : Int32} (e1 : m = s &&& 1) (h : ¬ m.toInt = b.toInt) (e2 : u = (s.toUInt32 >>> ((1 : Int32).toUInt32 &&& Int32.toUInt32 31)).toInt32) (e3 : v = u ^^^ (-306674912)) : v = cq_s s b := by
  unfold cq_s
  rw [if_neg (fun z9 => h (by rw [e1, z9])), e3, e2]
  rfl
theorem cq_e0 {s b m u : Int32} (e1 : m = s &&& 1) (h : m.toInt = b.toInt) (e2 : u = (s.toUInt32 >>> ((1 : Int32).toUInt32 &&& Int32.toUInt32 31)).toInt32) : u = cq_s s b := by
  have hm : m = b := Int32.toInt_inj.mp h
  unfold cq_s
  rw [if_pos (e1.symm.trans hm), e2]
  rfl
theorem cq_st {f : Nat → Int32} {x k k2 : Int} {s s2 b : Int32} (hs : s = cq_n f x k.toNat) (hk : 0 ≤ k) (hk2 : k2 = k + 1) (hb : b = cq_b f x k) (e : s2 = cq_s s b) : s2 = cq_n f x k2.toNat := by
  subst hk2 hb
  rw [show (k + 1).toNat = k.toNat + 1 by omega]
  show s2 = cq_s (cq_n f x k.toNat) (cq_b f x ((k.toNat : Nat) : Int))
  rw [← hs, show ((k.toNat : Nat) : Int) = k by omega]
  exact e
theorem cq_ret {f : Nat → Int32} {x k n : Int} {s r : Int32} (hs : s = cq_n f x k.toNat) (hn : 0 ≤ n) (hk : k = 8 * n) (e : r = s ^^^ (-1)) : r = cr_n f x n.toNat ^^^ (-1) := by
  subst hk
  rw [e, hs, show (8 * n).toNat = 8 * n.toNat by omega, cq_cr]
theorem cr_ret {f : Nat → Int32} {x k n : Int} {s r : Int32} (hs : s = cr_n f x (k - x).toNat) (hk : k = x + n) (e : r = s ^^^ (-1)) : r = cr_n f x n.toNat ^^^ (-1) := by
  subst hk
  rw [e, hs, show x + n - x = n by omega]
theorem cr_rl {f g : Nat → Int32} {s t : Int} {a b : Int32} (h : rl_B f g s) (e : s = t) (ha : a = cr_n f (0 : Int32).toInt s.toNat ^^^ (-1)) (hb : b = cr_n g (0 : Int32).toInt t.toNat ^^^ (-1)) : a.toInt = b.toInt := by
  subst e
  have q : cr_n f 0 s.toNat = cr_n g 0 s.toNat := cr_same s.toNat (fun j h0 h1 => by rw [Int.zero_add]; exact h j h0 (by omega))
  rw [ha, hb, show (0 : Int32).toInt = 0 by decide, q]
/-- a byte more is the same -/
theorem rl_st {f g g2 : Nat → Int32} {k k2 : Int} {v : Int32} (h : rl_B f g k) (h2 : ∀ j : Int, 0 ≤ j → gr g2 j = if j = k then v.toInt8.toInt32 else gr g j) (hk : k2 = k + 1) (hv : v = gr f k) (hf : -128 ≤ v.toInt ∧ v.toInt ≤ 127) : rl_B f g2 k2 := fun j h0 h1 => by
  rw [h2 j h0]
  by_cases c : j = k
  · rw [if_pos c, bz_fit hf, hv, c]
  · rw [if_neg c]
    exact h j h0 (by omega)
theorem tn_dec {a b : Int} {N : Nat} (h : (a + 1).toNat < N + 1) (h0 : 0 ≤ a) (e : b = a + (-1)) : (b + 1).toNat < N := by omega

/-- two to a power -/
def p2 (k : Int) : Int := ((2 ^ k.toNat : Nat) : Int)
theorem p2_0 : p2 0 = 1 := rfl
theorem p2_s {k m : Int} (h : 0 ≤ k) (hm : m = k + 1) : p2 m = 2 * p2 k := by
  subst hm
  unfold p2
  rw [show (k + 1).toNat = k.toNat + 1 by omega, Nat.pow_succ]
  omega
theorem p2_pos (k : Int) : 1 ≤ p2 k := by
  unfold p2
  have := Nat.two_pow_pos k.toNat
  omega
theorem p2_le {k : Int} (h : k ≤ 16) : p2 k ≤ 65536 := by
  unfold p2
  have h1 : 2 ^ k.toNat ≤ 2 ^ 16 := Nat.pow_le_pow_right (by decide) (by omega)
  omega
