/-! ROWS OF NUMBERS -/
theorem omg_0ee14031cb {x0 : Int} {x1 : Int} {x2 : Int} {x3 : Int} (a0 : (((¬ (x0 = (0 : Int))) ∧ (x1 = x0)) ∨ (((x0 = (0 : Int)) ∧ ((x2 = (4000 : Int)) ∧ (x1 = (7 : Int)))) ∨ ((x0 = (0 : Int)) ∧ ((¬ (x2 = (4000 : Int))) ∧ ((x1 = (0 : Int)) ∧ (x3 = (x2 + (1 : Int))))))))) (a1 : (x0 = (0 : Int))) : (((x2 = (4000 : Int)) ∧ (x1 = (7 : Int))) ∨ ((¬ (x2 = (4000 : Int))) ∧ ((x1 = (0 : Int)) ∧ (x3 = (x2 + (1 : Int)))))) := by omega
theorem omg_854dd63b58 {x0 : Int} {x1 : Int} {x2 : Int} {x3 : Int} {x4 : Int} {x5 : Int} {x6 : Int} (a0 : (((x0 = (0 : Int)) ∧ ((x1 = (1 : Int)) ∧ ((¬ (x2 = (0 : Int))) ∧ (x3 = (0 : Int))))) ∨ (((x0 = (0 : Int)) ∧ ((¬ ((x1 = (1 : Int)) ∧ (¬ (x2 = (0 : Int))))) ∧ (x3 = (4 : Int)))) ∨ ((¬ (x0 = (0 : Int))) ∧ (x3 = x0))))) (a1 : (((x3 = (0 : Int)) ∧ (((x4 = (0 : Int)) ∨ (x5 = (1 : Int))) ∧ (x6 = (0 : Int)))) ∨ (((x3 = (0 : Int)) ∧ ((¬ ((x4 = (0 : Int)) ∨ (x5 = (1 : Int)))) ∧ (x6 = (4 : Int)))) ∨ ((¬ (x3 = (0 : Int))) ∧ (x6 = x3))))) : ((((x1 = (1 : Int)) ∧ ((¬ (x2 = (0 : Int))) ∧ ((x4 = (0 : Int)) ∨ (x5 = (1 : Int))))) ∧ (x6 = x0)) ∨ ((¬ ((x1 = (1 : Int)) ∧ ((¬ (x2 = (0 : Int))) ∧ ((x4 = (0 : Int)) ∨ (x5 = (1 : Int)))))) ∧ (((x0 = (0 : Int)) ∧ (x6 = (4 : Int))) ∨ ((¬ (x0 = (0 : Int))) ∧ (x6 = x0))))) := by omega
theorem omg_8ebc790f96 {x0 : Int} {x1 : Int} {x2 : Int} {x3 : Int} {x4 : Int} {x5 : Int} {x6 : Int} {x7 : Int} {x8 : Int} (a0 : (((x0 = (0 : Int)) ∧ ((x1 = (1 : Int)) ∧ ((¬ (x2 = (0 : Int))) ∧ (x3 = (0 : Int))))) ∨ (((x0 = (0 : Int)) ∧ ((¬ ((x1 = (1 : Int)) ∧ (¬ (x2 = (0 : Int))))) ∧ (x3 = (4 : Int)))) ∨ ((¬ (x0 = (0 : Int))) ∧ (x3 = x0))))) (a1 : (((x3 = (0 : Int)) ∧ (((x4 = (0 : Int)) ∨ (x5 = (1 : Int))) ∧ (x6 = (0 : Int)))) ∨ (((x3 = (0 : Int)) ∧ ((¬ ((x4 = (0 : Int)) ∨ (x5 = (1 : Int)))) ∧ (x6 = (4 : Int)))) ∨ ((¬ (x3 = (0 : Int))) ∧ (x6 = x3))))) (a2 : (¬ (x3 = (0 : Int)))) : ((((x1 = (1 : Int)) ∧ ((¬ (x2 = (0 : Int))) ∧ ((x7 = (0 : Int)) ∨ (x8 = (1 : Int))))) ∧ (x6 = x0)) ∨ ((¬ ((x1 = (1 : Int)) ∧ ((¬ (x2 = (0 : Int))) ∧ ((x7 = (0 : Int)) ∨ (x8 = (1 : Int)))))) ∧ (((x0 = (0 : Int)) ∧ (x6 = (4 : Int))) ∨ ((¬ (x0 = (0 : Int))) ∧ (x6 = x0))))) := by omega
theorem omg_84c38e9821 {x0 : Int} {x1 : Int} {x2 : Int} {x3 : Int} {x4 : Int} {x5 : Int} {x6 : Int} (a0 : (((x0 = (0 : Int)) ∧ ((x1 = (1 : Int)) ∧ ((¬ (x2 = (0 : Int))) ∧ (x3 = (0 : Int))))) ∨ (((x0 = (0 : Int)) ∧ ((¬ ((x1 = (1 : Int)) ∧ (¬ (x2 = (0 : Int))))) ∧ (x3 = (4 : Int)))) ∨ ((¬ (x0 = (0 : Int))) ∧ (x3 = x0))))) (a1 : (((x3 = (0 : Int)) ∧ (((x4 = (0 : Int)) ∨ (x5 = (1 : Int))) ∧ (x6 = (0 : Int)))) ∨ (((x3 = (0 : Int)) ∧ ((¬ ((x4 = (0 : Int)) ∨ (x5 = (1 : Int)))) ∧ (x6 = (4 : Int)))) ∨ ((¬ (x3 = (0 : Int))) ∧ (x6 = x3))))) (a2 : (¬ (x0 = (0 : Int)))) : (((((0 : Int) = (1 : Int)) ∧ ((¬ ((0 : Int) = (0 : Int))) ∧ (((0 : Int) = (0 : Int)) ∨ ((0 : Int) = (1 : Int))))) ∧ (x6 = x0)) ∨ ((¬ (((0 : Int) = (1 : Int)) ∧ ((¬ ((0 : Int) = (0 : Int))) ∧ (((0 : Int) = (0 : Int)) ∨ ((0 : Int) = (1 : Int)))))) ∧ (((x0 = (0 : Int)) ∧ (x6 = (4 : Int))) ∨ ((¬ (x0 = (0 : Int))) ∧ (x6 = x0))))) := by omega
/-! counting how many of a row's numbers are 1 .. m-1, or m -/
def cd_n (f : Nat → Int32) (o : Nat) (m : Int) : Nat → Nat
  | 0 => 0
  | k + 1 => cd_n f o m k + (if 1 ≤ (f (o + k)).toInt ∧ (f (o + k)).toInt < m then 1 else 0)
def cd_e (f : Nat → Int32) (o : Nat) (m : Int) : Nat → Nat
  | 0 => 0
  | k + 1 => cd_e f o m k + (if (f (o + k)).toInt = m then 1 else 0)
theorem cd_le (f : Nat → Int32) (o : Nat) (m : Int) : ∀ k, cd_n f o m k ≤ k
  | 0 => Nat.le_refl _
  | k + 1 => by
    have h := cd_le f o m k
    simp only [cd_n]
    split <;> omega
theorem cd_one (f : Nat → Int32) (o : Nat) : ∀ k, cd_n f o 1 k = 0
  | 0 => rfl
  | k + 1 => by
    simp only [cd_n, cd_one f o k]
    split <;> omega
theorem cd_sum (f : Nat → Int32) (o : Nat) {m : Int} (hm : 1 ≤ m) : ∀ k, cd_n f o m k + cd_e f o m k = cd_n f o (m + 1) k
  | 0 => rfl
  | k + 1 => by
    have h := cd_sum f o hm k
    simp only [cd_n, cd_e]
    split <;> split <;> split <;> omega
theorem cd_mono (f : Nat → Int32) (o : Nat) (m : Int) (j : Nat) : ∀ k, j ≤ k → cd_e f o m j ≤ cd_e f o m k
  | 0, h => by
    obtain rfl : j = 0 := by omega
    exact Nat.le_refl _
  | k + 1, h => by
    by_cases e : j = k + 1
    · subst e; exact Nat.le_refl _
    · have h1 := cd_mono f o m j k (by omega)
      simp only [cd_e]
      omega
theorem cd_room (f : Nat → Int32) (o : Nat) {m : Int} (hm : 1 ≤ m) {j k : Nat} (hj : j < k) (he : (f (o + j)).toInt = m) : cd_n f o m k + cd_e f o m j < k := by
  have h1 := cd_mono f o m (j + 1) k hj
  have h2 := cd_sum f o hm k
  have h3 := cd_le f o (m + 1) k
  simp only [cd_e] at h1
  rw [if_pos he] at h1
  omega

theorem num_all : ∀ j : Nat, j ≤ 16 → ∀ b : Nat, b < 2 → 0 ≤ ((nI b) <<< (nI j &&& 31)).toInt ∧ ((nI b) <<< (nI j &&& 31)).toInt ≤ ((2 ^ j : Nat) : Int) := by decide +kernel
theorem num_bit {b i k : Int32} (e : i = b <<< (k &&& 31)) (hb : 0 ≤ b.toInt ∧ b.toInt ≤ 1) (h0 : 0 ≤ k.toInt) (h1 : k.toInt ≤ 16) : 0 ≤ i.toInt ∧ i.toInt ≤ p2 k.toInt := by
  subst e
  obtain ⟨x, hx, rfl⟩ := ti_nat hb.1
  obtain ⟨j, hj, rfl⟩ := ti_nat h0
  have e1 := nI_toInt hx
  have e2 := nI_toInt hj
  have h := num_all j (by omega) x (by omega)
  unfold p2
  rw [e2]
  exact h
theorem num_or {v i z : Int32} {k m : Int} (e : z = v ||| i) (h0 : 0 ≤ v.toInt) (h1 : v.toInt < p2 k) (h2 : 0 ≤ i.toInt ∧ i.toInt ≤ p2 k) (hk : 0 ≤ k) (hm : m = k + 1) : 0 ≤ z.toInt ∧ z.toInt < p2 m := by
  have h3 := p2_s hk hm
  have h4 := p2_pos k
  exact ti_or m.toNat e rfl rfl h0 (by omega) h2.1 (by omega) rfl
theorem ld_all : ∀ j : Nat, j < 32 → 4 ≤ j → 1 ≤ (1 + ((2 + (nI j - nI j / 2 * 2)) <<< ((nI j / 2 - 1) &&& 31))).toInt ∧ (1 + ((2 + (nI j - nI j / 2 * 2)) <<< ((nI j / 2 - 1) &&& 31))).toInt ≤ 65536 := by decide +kernel
theorem ld_pos {d r : Int32} (h0 : 4 ≤ d.toInt) (h1 : d.toInt ≤ 31) (e : r = 1 + ((2 + (d - d / 2 * 2)) <<< ((d / 2 - 1) &&& 31))) : 1 ≤ r.toInt ∧ r.toInt ≤ 65536 := by
  subst e
  obtain ⟨j, hj, rfl⟩ := ti_nat (x := d) (by omega)
  have e1 := nI_toInt hj
  exact ld_all j (by omega) (by omega)
/-- the counts of a code, up to k -/
def co_n (f : Nat → Int32) : Nat → Int
  | 0 => 0
  | m + 1 => co_n f m + gx f ((m : Int) + 1)
def co_s (f : Nat → Int32) (k : Int) : Int := co_n f k.toNat
theorem co_s0 (f : Nat → Int32) : co_s f 0 = 0 := rfl
theorem co_ss {f : Nat → Int32} {k m : Int} (h : 0 ≤ k) (hm : m = k + 1) : co_s f m = co_s f k + gx f m := by
  subst hm
  unfold co_s
  rw [show (k + 1).toNat = k.toNat + 1 by omega, co_n, show ((k.toNat : Nat) : Int) + 1 = k + 1 by omega]
theorem co_same {f g : Nat → Int32} : ∀ n : Nat, (∀ j : Int, 1 ≤ j → j ≤ n → gx f j = gx g j) → co_n f n = co_n g n
  | 0, _ => rfl
  | n + 1, h => by
    rw [co_n, co_n, co_same n (fun j h0 h1 => h j h0 (by omega)), h ((n : Int) + 1) (by omega) (by omega)]
/-- a code: its symbols are below b, its counts sum up to its size -/
def co_I (sz : Int) (fc fy : Nat → Int32) (b : Int) : Prop := 0 ≤ sz ∧ (∀ m : Int, 1 ≤ m → m ≤ 15 → 0 ≤ gx fc m) ∧ co_s fc 15 = sz ∧ ∀ j : Int, 0 ≤ j → j < sz → 0 ≤ gx fy j ∧ gx fy j < b
theorem co_wide {sz b b2 : Int} {fc fy : Nat → Int32} (h : co_I sz fc fy b) (hb : b ≤ b2) : co_I sz fc fy b2 := ⟨h.1, h.2.1, h.2.2.1, fun j h0 h1 => by have := h.2.2.2 j h0 h1; omega⟩
theorem co_zero {b : Int} : co_I 0 (fun _ => 0) (fun _ => 0) b := ⟨by omega, fun m _ _ => by show (0 : Int) ≤ (0 : Int32).toInt; decide, by decide, fun j h0 h1 => absurd h1 (by omega)⟩
theorem co_up {sz b : Int} {fc fy : Nat → Int32} (h : co_I sz fc fy b) : ∀ (n : Nat) (k : Int), 0 ≤ k → k + n ≤ 15 → co_s fc k ≤ co_s fc (k + n)
  | 0, k, _, _ => by rw [show k + ((0 : Nat) : Int) = k by omega]; exact Int.le_refl _
  | n + 1, k, h0, h1 => by
    have a := co_up h n k h0 (by omega)
    have c := h.2.1 (k + n + 1) (by omega) (by omega)
    have d := co_ss (f := fc) (k := k + n) (m := k + n + 1) (by omega) rfl
    rw [show k + ((n + 1 : Nat) : Int) = k + n + 1 by omega]
    omega
theorem co_pref {sz b k : Int} {fc fy : Nat → Int32} (h : co_I sz fc fy b) (h0 : 0 ≤ k) (h1 : k ≤ 15) : 0 ≤ co_s fc k ∧ co_s fc k ≤ sz := by
  have a := co_up h k.toNat 0 (by omega) (by omega)
  rw [show 0 + (k.toNat : Int) = k by omega, co_s0] at a
  have c := co_up h (15 - k).toNat k h0 (by omega)
  rw [show k + ((15 - k).toNat : Int) = 15 by omega, h.2.2.1] at c
  exact ⟨a, c⟩
/-- the next count is told -/
theorem co_put {f : Nat → Int32} {mi v : Int32} {m s1 s3 : Int} (hm : mi.toInt = m) (h1 : 1 ≤ m) (h : co_s f (m - 1) = s1) (hv : v.toInt = s3 - s1) : co_s (upd f mi.toNatClampNeg v) m = s3 := by
  rw [co_ss (k := m - 1) (by omega) (by omega), gx_upd hm m (by omega) (by omega), if_pos rfl, hv]
  have e : co_s (upd f mi.toNatClampNeg v) (m - 1) = co_s f (m - 1) := by
    unfold co_s
    refine co_same _ (fun j h0 h2 => ?_)
    rw [gx_upd hm j (by omega) (by omega), if_neg (by omega)]
  omega

/-! A STREAM, as it is read: what comes out, and its fault, are told by the row of bytes A alone. -/
/-- bit k of a row -/
def bq_ (A : Int → Int32) (k : Int) : Int32 := (A (k / 8) >>> (Int32.ofInt (k % 8) &&& 31)) &&& 1
def bi_ (A : Int → Int32) (k : Int) : Int := (bq_ A k).toInt
theorem bi_rng (A : Int → Int32) (k : Int) : 0 ≤ bi_ A k ∧ bi_ A k ≤ 1 := ti_and 1 rfl (by decide) (by decide)
/-- a number of n bits from bit p on -/
def nu_v (A : Int → Int32) (p : Int) : Nat → Int32
  | 0 => 0
  | n + 1 => nu_v A p n ||| (bq_ A (p + (n : Int)) <<< (Int32.ofInt (n : Int) &&& 31))
/-- what a step says: its fault, or with 0 what it found and where it ends -/
def oc_ (w v p : Int) : Int × Int × Int := if w = 0 then (0, v, p) else (w, 0, 0)
theorem oc_0 {w v p : Int} (h : w = 0) : oc_ w v p = (0, v, p) := if_pos h
theorem oc_w {w v p : Int} (h : ¬ w = 0) : oc_ w v p = (w, 0, 0) := if_neg h
theorem oc_1 (w v p : Int) : (oc_ w v p).1 = w := by
  unfold oc_
  split
  · exact (by assumption : w = 0).symm
  · rfl
def nu_w (A : Int → Int32) (en w p n : Int) : Int × Int × Int := if w = 0 then (if p + n ≤ en then (0, (nu_v A p n.toNat).toInt, p + n) else (1, 0, 0)) else (w, 0, 0)
theorem nu_ww {A : Int → Int32} {en w p n : Int} (h : ¬ w = 0) : nu_w A en w p n = (w, 0, 0) := if_neg h
theorem nu_w1 {A : Int → Int32} {en p n : Int} (h : ¬ p + n ≤ en) : nu_w A en 0 p n = (1, 0, 0) := by
  unfold nu_w
  rw [if_pos rfl, if_neg h]
theorem nu_w0 {A : Int → Int32} {en p n : Int} (h : p + n ≤ en) : nu_w A en 0 p n = (0, (nu_v A p n.toNat).toInt, p + n) := by
  unfold nu_w
  rw [if_pos rfl, if_pos h]
theorem nu_wz {A : Int → Int32} {en w p v q : Int} (h : p ≤ en) (hv : v = 0) (hq : q = p) : nu_w A en w p 0 = oc_ w v q := by
  subst hv hq
  unfold nu_w oc_
  split
  · rw [if_pos (by omega), Int.add_zero]
    rfl
  · rfl
/-- the end of a number's loop, of its fault, of a fault before it -/
theorem nu_ok {A : Int → Int32} {en w w2 p n v q : Int} (hw : w = 0) (hw2 : w2 = 0) (h : p + n ≤ en) (hv : v = (nu_v A p n.toNat).toInt) (hq : q = p + n) : nu_w A en w p n = oc_ w2 v q := by
  subst hw hw2 hv hq
  rw [nu_w0 h, oc_0 rfl]
theorem nu_no {A : Int → Int32} {en w w2 p n v q : Int} (hw : w = 0) (hw2 : w2 = 1) (h : ¬ p + n ≤ en) : nu_w A en w p n = oc_ w2 v q := by
  subst hw hw2
  rw [nu_w1 h, oc_w (by omega)]
theorem nu_wr {A : Int → Int32} {en w w2 p n v q : Int} (hw : ¬ w = 0) (hw2 : w2 = w) : nu_w A en w p n = oc_ w2 v q := by
  subst hw2
  rw [nu_ww hw, oc_w hw]
theorem bq_E {f : Nat → Int32} {A : Int → Int32} {k : Int} {v i j m : Int32} (e1 : v = i &&& 1) (e2 : i = j >>> (m &&& 31)) (e3 : j = gr f (k / 8)) (hm : m.toInt = k % 8) (hA : A (k / 8) = gr f (k / 8)) : v = bq_ A k := by
  unfold bq_
  rw [e1, e2, e3, hA, ← hm, Int32.ofInt_toInt]
theorem nu_st {A : Int → Int32} {p k k2 : Int} {v v2 b i ki : Int32} (hv : v = nu_v A p k.toNat) (hk : 0 ≤ k) (hk2 : k2 = k + 1) (hb : b = bq_ A (p + k)) (hki : ki.toInt = k) (e1 : i = b <<< (ki &&& 31)) (e2 : v2 = v ||| i) : v2 = nu_v A p k2.toNat := by
  subst hk2
  rw [show (k + 1).toNat = k.toNat + 1 by omega]
  show v2 = nu_v A p k.toNat ||| (bq_ A (p + ((k.toNat : Nat) : Int)) <<< (Int32.ofInt ((k.toNat : Nat) : Int) &&& 31))
  rw [show ((k.toNat : Nat) : Int) = k by omega, ← hv, ← hb, e2, e1, ← hki, Int32.ofInt_toInt]
theorem nu_1 (A : Int → Int32) (p : Int) : (nu_v A p 1).toInt = bi_ A p := by
  show ((0 : Int32) ||| (bq_ A (p + ((0 : Nat) : Int)) <<< (Int32.ofInt ((0 : Nat) : Int) &&& 31))).toInt = (bq_ A p).toInt
  rw [show p + ((0 : Nat) : Int) = p by omega]
  have h : ∀ x : Int32, (0 : Int32) ||| (x <<< (Int32.ofInt ((0 : Nat) : Int) &&& 31)) = x := fun x => by
    rw [Int32.zero_or, show Int32.ofInt ((0 : Nat) : Int) &&& 31 = 0 by decide]
    exact Int32.shiftLeft_zero
  rw [h]
/-- how many of n numbers are b, are 1 .. m - 1, are not 0; the largest; the i-th that is b -/
def ct_ (L : Int → Int) (b : Int) : Nat → Int
  | 0 => 0
  | n + 1 => ct_ L b n + (if L (n : Int) = b then 1 else 0)
def lt_ (L : Int → Int) (m : Int) : Nat → Int
  | 0 => 0
  | n + 1 => lt_ L m n + (if 1 ≤ L (n : Int) ∧ L (n : Int) < m then 1 else 0)
def ml_ (L : Int → Int) : Nat → Int
  | 0 => 0
  | n + 1 => if ml_ L n < L (n : Int) then L (n : Int) else ml_ L n
def nt_ (L : Int → Int) (b : Int) : Nat → Int → Int → Int
  | 0, s, _ => s
  | m + 1, s, i => if L s = b then (if i ≤ 0 then s else nt_ L b m (s + 1) (i - 1)) else nt_ L b m (s + 1) i
theorem ct_s {L : Int → Int} {b k m : Int} (h : 0 ≤ k) (hm : m = k + 1) : ct_ L b m.toNat = ct_ L b k.toNat + (if L k = b then 1 else 0) := by
  subst hm
  rw [show (k + 1).toNat = k.toNat + 1 by omega, ct_, show ((k.toNat : Nat) : Int) = k by omega]
theorem lt_sx {L : Int → Int} {b k m : Int} (h : 0 ≤ k) (hm : m = k + 1) : lt_ L b m.toNat = lt_ L b k.toNat + (if 1 ≤ L k ∧ L k < b then 1 else 0) := by
  subst hm
  rw [show (k + 1).toNat = k.toNat + 1 by omega, lt_, show ((k.toNat : Nat) : Int) = k by omega]
theorem ml_s {L : Int → Int} {k m : Int} (h : 0 ≤ k) (hm : m = k + 1) : ml_ L m.toNat = if ml_ L k.toNat < L k then L k else ml_ L k.toNat := by
  subst hm
  rw [show (k + 1).toNat = k.toNat + 1 by omega, ml_, show ((k.toNat : Nat) : Int) = k by omega]
theorem ct_rng (L : Int → Int) (b : Int) : ∀ n : Nat, 0 ≤ ct_ L b n ∧ ct_ L b n ≤ n
  | 0 => by rw [ct_]; omega
  | n + 1 => by
    have a := ct_rng L b n
    rw [ct_]
    split <;> omega
theorem lt_one (L : Int → Int) : ∀ n : Nat, lt_ L 1 n = 0
  | 0 => rfl
  | n + 1 => by
    rw [lt_, lt_one L n]
    split <;> omega
theorem lt_sum (L : Int → Int) {m : Int} (hm : 1 ≤ m) : ∀ n : Nat, lt_ L m n + ct_ L m n = lt_ L (m + 1) n
  | 0 => rfl
  | n + 1 => by
    have h := lt_sum L hm n
    rw [lt_, ct_, lt_]
    split <;> split <;> split <;> omega
theorem ct_mono (L : Int → Int) (b : Int) (j : Nat) : ∀ n : Nat, j ≤ n → ct_ L b j ≤ ct_ L b n
  | 0, h => by
    obtain rfl : j = 0 := by omega
    exact Int.le_refl _
  | n + 1, h => by
    by_cases e : j = n + 1
    · subst e
      exact Int.le_refl _
    · have h1 := ct_mono L b j n (by omega)
      rw [ct_]
      split <;> omega
theorem lt_mono (L : Int → Int) {m k : Int} (h : m ≤ k) : ∀ n : Nat, lt_ L m n ≤ lt_ L k n
  | 0 => Int.le_refl _
  | n + 1 => by
    have h1 := lt_mono L h n
    rw [lt_, lt_]
    split <;> split <;> omega
/-- the largest is above all, and is one of them, or 0 -/
theorem ml_le (L : Int → Int) : ∀ (n : Nat) (k : Int), 0 ≤ k → k < n → L k ≤ ml_ L n
  | 0, k, h0, h1 => absurd h1 (by omega)
  | n + 1, k, h0, h1 => by
    rw [ml_]
    by_cases e : k = n
    · subst e
      split <;> omega
    · have := ml_le L n k h0 (by omega)
      split <;> omega
theorem ml_in (L : Int → Int) : ∀ n : Nat, ml_ L n = 0 ∨ ∃ k : Int, 0 ≤ k ∧ k < n ∧ L k = ml_ L n
  | 0 => Or.inl rfl
  | n + 1 => by
    rw [ml_]
    split
    · exact Or.inr ⟨(n : Int), by omega, by omega, rfl⟩
    · rcases ml_in L n with h | ⟨k, h0, h1, h2⟩
      · exact Or.inl h
      · exact Or.inr ⟨k, h0, by omega, h2⟩
theorem ml_0 (L : Int → Int) : ∀ n : Nat, 0 ≤ ml_ L n
  | 0 => Int.le_refl _
  | n + 1 => by
    have := ml_0 L n
    rw [ml_]
    split <;> omega
/-- there is a number of m or more just if the largest is -/
theorem lt_ml {L : Int → Int} {n : Nat} {m : Int} (hm : 1 ≤ m) (hL : ∀ k : Int, 0 ≤ k → k < n → 0 ≤ L k ∧ L k ≤ 15) : lt_ L m n < lt_ L 16 n ↔ m ≤ ml_ L n := by
  have one : ∀ (j : Nat) (k : Int), 0 ≤ k → k < j → m ≤ L k → L k ≤ 15 → lt_ L m j < lt_ L 16 j := fun j => by
    induction j with
    | zero => exact fun k h0 h1 => absurd h1 (by omega)
    | succ j ih =>
      intro k h0 h1 h2 h3
      have h4 := lt_mono L (show m ≤ 16 by omega) j
      rw [lt_, lt_]
      by_cases e : k = j
      · subst e
        split <;> split <;> omega
      · have := ih k h0 (by omega) h2 h3
        split <;> split <;> omega
  have none : ∀ j : Nat, (∀ k : Int, 0 ≤ k → k < j → L k < m ∧ 0 ≤ L k ∧ L k ≤ 15) → lt_ L m j = lt_ L 16 j := fun j => by
    induction j with
    | zero => exact fun _ => rfl
    | succ j ih =>
      intro h
      have h1 := ih (fun k h0 h1 => h k h0 (by omega))
      have h2 := h j (by omega) (by omega)
      rw [lt_, lt_, h1]
      split <;> split <;> omega
  constructor
  · intro h
    by_cases c : m ≤ ml_ L n
    · exact c
    · have := none n (fun k h0 h1 => by have := ml_le L n k h0 h1; have := hL k h0 h1; omega)
      omega
  · intro h
    rcases ml_in L n with c | ⟨k, h0, h1, h2⟩
    · omega
    · have := hL k h0 h1
      exact one n k h0 h1 (by omega) (by omega)
/-- the i-th number that is b -/
theorem nt_spec (L : Int → Int) (b : Int) (N : Nat) : ∀ (m : Nat) (s i : Int), 0 ≤ s → s + m = N → 0 ≤ i → i < ct_ L b N - ct_ L b s.toNat → 0 ≤ nt_ L b m s i ∧ nt_ L b m s i < N ∧ L (nt_ L b m s i) = b ∧ ct_ L b (nt_ L b m s i).toNat = ct_ L b s.toNat + i
  | 0, s, i, h0, h1, h2, h3 => by
    rw [show s.toNat = N by omega] at h3
    omega
  | m + 1, s, i, h0, h1, h2, h3 => by
    have cs := ct_s (L := L) (b := b) (k := s) (m := s + 1) h0 rfl
    rw [nt_]
    by_cases e : L s = b
    · rw [if_pos e]
      rw [if_pos e] at cs
      by_cases e2 : i ≤ 0
      · rw [if_pos e2]
        have hm := ct_mono L b (s + 1).toNat N (by omega)
        exact ⟨h0, by omega, e, by omega⟩
      · rw [if_neg e2]
        have ih := nt_spec L b N m (s + 1) (i - 1) (by omega) (by omega) (by omega) (by omega)
        exact ⟨ih.1, ih.2.1, ih.2.2.1, by rw [ih.2.2.2, cs]; omega⟩
    · rw [if_neg e]
      rw [if_neg e] at cs
      have ih := nt_spec L b N m (s + 1) i (by omega) (by omega) h2 (by omega)
      exact ⟨ih.1, ih.2.1, ih.2.2.1, by rw [ih.2.2.2, cs]; omega⟩
/-- a symbol, its bits one behind the other -/
def sy_g (A : Int → Int32) (en mo : Int) (C : Int → Int) (S : Int → Int → Int) : Nat → Int → Int → Int → Int → Int × Int × Int
  | 0, _, _, _, _ => (5, 0, 0)
  | m + 1, b, c, g, p => if mo < b then (5, 0, 0) else if en ≤ p then (1, 0, 0) else if 2 * c + bi_ A p - 2 * g < C b then (0, S b (2 * c + bi_ A p - 2 * g), p + 1) else sy_g A en mo C S m (b + 1) (2 * c + bi_ A p) (2 * g + C b) (p + 1)
/-- by a code that is told by the numbers L of bits of n symbols -/
def sy_l (A : Int → Int32) (en : Int) (L : Int → Int) (n : Int) (m : Nat) (b c g p : Int) : Int × Int × Int := sy_g A en (ml_ L n.toNat) (fun b => ct_ L b n.toNat) (fun b i => nt_ L b n.toNat 0 i) m b c g p
def sy_w (A : Int → Int32) (en : Int) (L : Int → Int) (n w p : Int) : Int × Int × Int := if w = 0 then sy_l A en L n 15 1 0 0 p else (w, 0, 0)
theorem sy_ww {A : Int → Int32} {en n w w2 p v q : Int} {L : Int → Int} (h : ¬ w = 0) (e : w2 = w) : sy_w A en L n w p = oc_ w2 v q := by
  subst e
  rw [oc_w h]
  exact if_neg h
theorem sy_w0 {A : Int → Int32} {en n w p : Int} {L : Int → Int} (h : w = 0) : sy_w A en L n w p = sy_l A en L n 15 1 0 0 p := if_pos h
theorem sy_5 {A : Int → Int32} {en n b c g p w v q : Int} {L : Int → Int} {m : Nat} (h : m = 0 ∨ ml_ L n.toNat < b) (e : w = 5) : sy_l A en L n m b c g p = oc_ w v q := by
  subst e
  rw [oc_w (by omega)]
  unfold sy_l
  cases m with
  | zero => rfl
  | succ m =>
    rw [sy_g, if_pos (by omega)]
theorem sy_1 {A : Int → Int32} {en n b c g p w v q : Int} {L : Int → Int} {m : Nat} (h0 : m ≠ 0) (h : b ≤ ml_ L n.toNat) (hp : en ≤ p) (e : w = 1) : sy_l A en L n m b c g p = oc_ w v q := by
  subst e
  rw [oc_w (by omega)]
  unfold sy_l
  cases m with
  | zero => exact absurd rfl h0
  | succ m =>
    rw [sy_g, if_neg (by omega), if_pos hp]
theorem sy_ok {A : Int → Int32} {en n b c g p w v q x : Int} {L : Int → Int} {m : Nat} (h0 : m ≠ 0) (h : b ≤ ml_ L n.toNat) (hp : p < en) (hx : x = 2 * c + bi_ A p - 2 * g) (hc : x < ct_ L b n.toNat) (hv : v = nt_ L b n.toNat 0 x) (hq : q = p + 1) (e : w = 0) : sy_l A en L n m b c g p = oc_ w v q := by
  subst e hx hv hq
  rw [oc_0 rfl]
  unfold sy_l
  cases m with
  | zero => exact absurd rfl h0
  | succ m =>
    rw [sy_g, if_neg (by omega), if_neg (by omega), if_pos hc]
theorem sy_go {A : Int → Int32} {en n b b2 c c2 g g2 p p2 : Int} {L : Int → Int} {m m2 : Nat} (hm : m = m2 + 1) (h : b ≤ ml_ L n.toNat) (hp : p < en) (hc : c2 = 2 * c + bi_ A p) (hx : ¬ c2 - 2 * g < ct_ L b n.toNat) (hg : g2 = 2 * g + ct_ L b n.toNat) (hb : b2 = b + 1) (hp2 : p2 = p + 1) : sy_l A en L n m b c g p = sy_l A en L n m2 b2 c2 g2 p2 := by
  subst hm hc hg hb hp2
  unfold sy_l
  rw [sy_g, if_neg (by omega), if_neg (by omega), if_neg hx]
/-- a code as the class holds it: how many symbols have how many bits, the symbols in the order of their codes -/
def cs_R (sz : Int) (fc fy : Nat → Int32) (L : Int → Int) (n : Int) : Prop := (∀ b : Int, 1 ≤ b → b ≤ 15 → gx fc b = ct_ L b n.toNat) ∧ sz = lt_ L 16 n.toNat ∧ (∀ q : Int, 0 ≤ q → q < n → 1 ≤ L q → L q ≤ 15 → gx fy (lt_ L (L q) n.toNat + ct_ L (L q) q.toNat) = q) ∧ ∀ k : Int, 0 ≤ k → k < n → 0 ≤ L k ∧ L k ≤ 15
theorem cs_co {sz n : Int} {fc fy : Nat → Int32} {L : Int → Int} (h : cs_R sz fc fy L n) : ∀ k : Nat, k ≤ 15 → co_n fc k = lt_ L ((k : Int) + 1) n.toNat
  | 0, _ => by
    rw [co_n, show ((0 : Nat) : Int) + 1 = 1 by omega, lt_one]
  | k + 1, hk => by
    have ih := cs_co h k (by omega)
    have a := h.1 ((k : Int) + 1) (by omega) (by omega)
    have b := lt_sum L (m := (k : Int) + 1) (by omega) n.toNat
    rw [co_n, ih, a, b]
    rw [show ((k + 1 : Nat) : Int) + 1 = (k : Int) + 1 + 1 by omega]
theorem cs_s {sz n m : Int} {fc fy : Nat → Int32} {L : Int → Int} (h : cs_R sz fc fy L n) (h1 : 1 ≤ m) (h2 : m ≤ 16) : co_s fc (m - 1) = lt_ L m n.toNat := by
  have := cs_co h (m - 1).toNat (by omega)
  unfold co_s
  rw [this, show (((m - 1).toNat : Nat) : Int) + 1 = m by omega]
/-- whether there are symbols of m bits or more, as the class asks it -/
theorem cs_more {sz n m : Int} {fc fy : Nat → Int32} {L : Int → Int} (h : cs_R sz fc fy L n) (h1 : 1 ≤ m) (h2 : m ≤ 16) : co_s fc (m - 1) < sz ↔ m ≤ ml_ L n.toNat := by
  rw [cs_s h h1 h2, h.2.1]
  exact lt_ml h1 (fun k h0 h3 => h.2.2.2 k h0 (by omega))
/-- the symbol of a code of m bits -/
theorem cs_at {sz n m x y : Int} {fc fy : Nat → Int32} {L : Int → Int} (h : cs_R sz fc fy L n) (hn : 0 ≤ n) (h1 : 1 ≤ m) (h2 : m ≤ 15) (x0 : 0 ≤ x) (x1 : x < ct_ L m n.toNat) (hy : y = co_s fc (m - 1) + x) : gx fy y = nt_ L m n.toNat 0 x := by
  have s := nt_spec L m n.toNat n.toNat 0 x (by omega) (by omega) x0 (by show x < ct_ L m n.toNat - ct_ L m (0 : Int).toNat; rw [show (0 : Int).toNat = 0 from rfl, ct_]; omega)
  obtain ⟨s0, s1, s2, s3⟩ := s
  rw [show (0 : Int).toNat = 0 from rfl, ct_, Int.zero_add] at s3
  have a := h.2.2.1 (nt_ L m n.toNat 0 x) s0 (by omega) (by omega) (by omega)
  rw [s2, s3] at a
  rw [hy, cs_s h h1 (by omega)]
  exact a
/-- whether a code is right -/
def rt_g (C : Int → Int) (t : Int) : Nat → Int → Int → Int
  | 0, _, f => if f = 0 ∨ (t = 1 ∧ C 1 = 1) then 1 else 0
  | m + 1, b, f => if 2 * f - C b < 0 then 0 else rt_g C t m (b + 1) (2 * f - C b)
def rt_l (L : Int → Int) (n : Int) (m : Nat) (b f : Int) : Int := rt_g (fun b => ct_ L b n.toNat) (lt_ L 16 n.toNat) m b f
def rt_f (L : Int → Int) (n : Int) : Int := rt_l L n 15 1 1
theorem rt_no {L : Int → Int} {n b f c r : Int} {m : Nat} (h0 : m ≠ 0) (hc : c = ct_ L b n.toNat) (h : 2 * f - c < 0) (hr : r = 0) : rt_l L n m b f = r := by
  subst hr hc
  unfold rt_l
  cases m with
  | zero => exact absurd rfl h0
  | succ m => rw [rt_g, if_pos h]
theorem rt_go {L : Int → Int} {n b b2 f f2 c : Int} {m m2 : Nat} (hm : m = m2 + 1) (hc : c = ct_ L b n.toNat) (h : ¬ 2 * f - c < 0) (hf : f2 = 2 * f - c) (hb : b2 = b + 1) : rt_l L n m b f = rt_l L n m2 b2 f2 := by
  subst hm hf hb hc
  unfold rt_l
  rw [rt_g, if_neg h]
theorem rt_end {L : Int → Int} {n b f r t c : Int} {m : Nat} (hm : m = 0) (ht : t = lt_ L 16 n.toNat) (hc : c = ct_ L 1 n.toNat) (h : (f = 0 ∨ t = 1 ∧ c = 1) ∧ r = 1 ∨ ¬ (f = 0 ∨ t = 1 ∧ c = 1) ∧ r = 0) : rt_l L n m b f = r := by
  subst hm ht hc
  unfold rt_l
  rw [rt_g]
  rcases h with ⟨h1, h2⟩ | ⟨h1, h2⟩
  · rw [if_pos h1, h2]
  · rw [if_neg h1, h2]
/-- how often a symbol of the third code tells -/
def tl_ (s : Int) : Int := if s < 16 then 1 else if s < 18 then 3 else 11
def tb_ (s : Int) : Int := if s < 16 then 0 else if s = 16 then 2 else if s = 17 then 3 else 7
theorem tl_rng (s : Int) : 1 ≤ tl_ s ∧ tl_ s ≤ 11 := by
  unfold tl_
  split
  · omega
  · split <;> omega
theorem tb_rng (s : Int) : 0 ≤ tb_ s ∧ tb_ s ≤ 7 := by
  unfold tb_
  split
  · omega
  · split
    · omega
    · split <;> omega
def fi_ (T : Int → Int) (k m v : Int) : Int → Int := fun j => if k ≤ j ∧ j < k + m then v else T j
/-- the numbers of bits that the third code tells: (fault, the bit behind them, they) -/
def td_e (w : Int) : Int × Int × (Int → Int) := (w, 0, fun _ => 0)
def td_g (A : Int → Int32) (en : Int) (L3 : Int → Int) (al : Int) : Nat → Int → Int → Int → (Int → Int) → Int × Int × (Int → Int)
  | 0, w, _, p, T => if w = 0 then (0, p, T) else td_e w
  | m + 1, w, k, p, T => if w = 0 then (if k < al then
      (fun o : Int × Int × Int => (fun q : Int × Int × Int => td_g A en L3 al m (if q.1 = 0 ∧ al - k < tl_ o.2.1 + q.2.1 then 4 else q.1) (k + (tl_ o.2.1 + q.2.1)) q.2.2 (fi_ T k (tl_ o.2.1 + q.2.1) (if o.2.1 < 16 then o.2.1 else if o.2.1 = 16 then T (k - 1) else 0))) (nu_w A en (if o.1 = 0 ∧ o.2.1 = 16 ∧ k = 0 then 4 else o.1) o.2.2 (tb_ o.2.1))) (sy_w A en L3 19 0 p)
    else (0, p, T)) else td_e w
theorem td_w {A : Int → Int32} {en al w k p : Int} {L3 T : Int → Int} {m : Nat} (h : ¬ w = 0) : td_g A en L3 al m w k p T = td_e w := by
  cases m with
  | zero => rw [td_g, if_neg h]
  | succ m => rw [td_g, if_neg h]
theorem td_end {A : Int → Int32} {en al w k p : Int} {L3 T : Int → Int} {m : Nat} (h : w = 0) (hk : al ≤ k) : td_g A en L3 al m w k p T = (0, p, T) := by
  subst h
  cases m with
  | zero => rw [td_g, if_pos rfl]
  | succ m => rw [td_g, if_pos rfl, if_neg (by omega)]
/-- one symbol of the third code: s, t times in all, v each -/
theorem td_go {A : Int → Int32} {en al k k2 p s f1 a1 w1 r f2 a2 w2 t v : Int} {L3 T : Int → Int} {m m2 : Nat} (hm : m = m2 + 1) (hk : k < al) (e1 : sy_w A en L3 19 0 p = oc_ f1 s a1) (hw1 : w1 = if f1 = 0 ∧ s = 16 ∧ k = 0 then 4 else f1) (e2 : nu_w A en w1 a1 (tb_ s) = oc_ f2 r a2) (ht : f2 = 0 → t = tl_ s + r) (hw2 : w2 = if f2 = 0 ∧ al - k < t then 4 else f2) (hv : f2 = 0 → v = if s < 16 then s else if s = 16 then T (k - 1) else 0) (hk2 : f2 = 0 → k2 = k + t) : td_g A en L3 al m 0 k p T = td_g A en L3 al m2 w2 k2 a2 (fi_ T k t v) := by
  subst hm
  rw [td_g, if_pos rfl, if_pos hk, e1]
  by_cases c1 : f1 = 0
  · rw [oc_0 c1]
    show td_g A en L3 al m2 (if (nu_w A en (if 0 = 0 ∧ s = 16 ∧ k = 0 then 4 else 0) a1 (tb_ s)).1 = 0 ∧ _ then 4 else _) _ _ _ = _
    rw [show (if (0 : Int) = 0 ∧ s = 16 ∧ k = 0 then (4 : Int) else 0) = w1 by rw [hw1, c1], e2]
    by_cases c2 : f2 = 0
    · rw [oc_0 c2]
      have t1 := ht c2
      show td_g A en L3 al m2 (if 0 = 0 ∧ al - k < tl_ s + r then 4 else 0) (k + (tl_ s + r)) a2 (fi_ T k (tl_ s + r) (if s < 16 then s else if s = 16 then T (k - 1) else 0)) = _
      rw [← t1, ← hk2 c2, ← hv c2, hw2, c2]
    · rw [oc_w c2]
      show td_g A en L3 al m2 (if f2 = 0 ∧ _ then 4 else f2) _ _ _ = _
      rw [if_neg (fun z => c2 z.1), td_w c2, hw2, if_neg (fun z => c2 z.1), td_w c2]
  · rw [oc_w c1]
    have hw : w1 = f1 := by rw [hw1, if_neg (fun z => c1 z.1)]
    rw [hw, nu_ww c1] at e2
    have hf : f2 = f1 := by
      have z := congrArg Prod.fst e2
      rw [oc_1] at z
      exact z.symm
    dsimp only
    have i1 : (if f1 = 0 ∧ (0 : Int) = 16 ∧ k = 0 then (4 : Int) else f1) = f1 := if_neg (fun z => c1 z.1)
    rw [i1, nu_ww c1]
    dsimp only
    have i2 : ∀ q : Int, (if f1 = 0 ∧ al - k < q then (4 : Int) else f1) = f1 := fun q => if_neg (fun z => c1 z.1)
    rw [i2, td_w c1, hw2, hf, i2, td_w c1]
/-- the numbers of bits of the third code, in their order o -/
def th_g (A : Int → Int32) (en F : Int) (o : Int → Int) : Nat → Int → Int → Int → (Int → Int) → Int × Int × (Int → Int)
  | 0, w, _, p, T => if w = 0 then (0, p, T) else td_e w
  | m + 1, w, k, p, T => if w = 0 then (if k < F then (fun q : Int × Int × Int => th_g A en F o m q.1 (k + 1) q.2.2 (fi_ T (o k) 1 q.2.1)) (nu_w A en 0 p 3) else (0, p, T)) else td_e w
theorem th_w {A : Int → Int32} {en F w k p : Int} {o T : Int → Int} {m : Nat} (h : ¬ w = 0) : th_g A en F o m w k p T = td_e w := by
  cases m with
  | zero => rw [th_g, if_neg h]
  | succ m => rw [th_g, if_neg h]
theorem th_end {A : Int → Int32} {en F w k p : Int} {o T : Int → Int} {m : Nat} (h : w = 0) (hk : F ≤ k) : th_g A en F o m w k p T = (0, p, T) := by
  subst h
  cases m with
  | zero => rw [th_g, if_pos rfl]
  | succ m => rw [th_g, if_pos rfl, if_neg (by omega)]
theorem th_go {A : Int → Int32} {en F w k k2 p f r a : Int} {o T : Int → Int} {m m2 : Nat} (hm : m = m2 + 1) (hk : k < F) (e : nu_w A en w p 3 = oc_ f r a) (hk2 : k2 = k + 1) : th_g A en F o m w k p T = th_g A en F o m2 f k2 a (fi_ T (o k) 1 r) := by
  subst hm hk2
  by_cases c : w = 0
  · subst c
    rw [th_g, if_pos rfl, if_pos hk, e]
    by_cases c2 : f = 0
    · rw [oc_0 c2, c2]
    · rw [oc_w c2]
      show th_g A en F o m2 f (k + 1) 0 _ = _
      rw [th_w c2, th_w c2]
  · rw [nu_ww c] at e
    have hf : f = w := by
      have z := congrArg Prod.fst e
      rw [oc_1] at z
      exact z.symm
    rw [th_w c, hf, th_w c]
/-- the codes of a coded block: (fault, the bit behind, how many symbols of the first and of the second, their bits) -/
def ce_ (w : Int) : Int × Int × Int × Int × (Int → Int) := (w, 0, 0, 0, fun _ => 0)
def co_z (w p a b : Int) (T : Int → Int) : Int × Int × Int × Int × (Int → Int) := if w = 0 then (0, p, a, b, T) else ce_ w
def cc_ok (T : Int → Int) (a b : Int) : Prop := rt_f T a = 1 ∧ ¬ T 256 = 0 ∧ (lt_ (fun k => T (a + k)) 16 b.toNat = 0 ∨ rt_f (fun k => T (a + k)) b = 1)
noncomputable def cc_3 (a b : Int) (o : Int × Int × (Int → Int)) : Int × Int × Int × Int × (Int → Int) := @ite _ (o.1 = 0) (Classical.propDecidable _) (@ite _ (cc_ok o.2.2 a b) (Classical.propDecidable _) (0, o.2.1, a, b, o.2.2) (ce_ 4)) (ce_ o.1)
noncomputable def cc_2 (A : Int → Int32) (en a b : Int) (w p : Int) (T : Int → Int) : Int × Int × Int × Int × (Int → Int) := cc_3 a b (td_g A en T (a + b) (a + b).toNat w 0 p (fun _ => 0))
noncomputable def cc_1 (A : Int → Int32) (en : Int) (o : Int → Int) (w p a b c : Int) : Int × Int × Int × Int × (Int → Int) := (fun t : Int × Int × (Int → Int) => cc_2 A en a b (if t.1 = 0 ∧ ¬ rt_f t.2.2 19 = 1 then 4 else t.1) t.2.1 t.2.2) (th_g A en c o c.toNat w 0 p (fun _ => 0))
noncomputable def cc_f (A : Int → Int32) (en : Int) (o : Int → Int) (w p : Int) : Int × Int × Int × Int × (Int → Int) := (fun x : Int × Int × Int => (fun y : Int × Int × Int => (fun z : Int × Int × Int => cc_1 A en o (if z.1 = 0 ∧ (286 < 257 + x.2.1 ∨ 30 < 1 + y.2.1) then 4 else z.1) z.2.2 (257 + x.2.1) (1 + y.2.1) (4 + z.2.1)) (nu_w A en y.1 y.2.2 4)) (nu_w A en x.1 x.2.2 5)) (nu_w A en w p 5)
theorem cc_3w {a b : Int} {o : Int × Int × (Int → Int)} (h : ¬ o.1 = 0) : cc_3 a b o = ce_ o.1 := if_neg h
theorem cc_2w {A : Int → Int32} {en a b w p : Int} {T : Int → Int} (h : ¬ w = 0) : cc_2 A en a b w p T = ce_ w := by
  unfold cc_2
  rw [td_w h]
  exact if_neg h
theorem cc_1w {A : Int → Int32} {en w p a b c : Int} {o : Int → Int} (h : ¬ w = 0) : cc_1 A en o w p a b c = ce_ w := by
  unfold cc_1
  rw [th_w h]
  dsimp only [td_e]
  rw [if_neg (fun z => h z.1), cc_2w h]
/-- the three numbers of a coded block -/
theorem cc_go {A : Int → Int32} {en w p f1 r1 a1 f2 r2 a2 f3 r3 a3 w4 F1 F2 F3 : Int} {o : Int → Int} (e1 : nu_w A en w p 5 = oc_ f1 r1 a1) (e2 : nu_w A en f1 a1 5 = oc_ f2 r2 a2) (e3 : nu_w A en f2 a2 4 = oc_ f3 r3 a3) (h1 : F1 = 257 + r1) (h2 : F2 = 1 + r2) (h3 : F3 = 4 + r3) (hw : f3 = 0 ∧ (286 < F1 ∨ 30 < F2) ∧ w4 = 4 ∨ f3 = 0 ∧ F1 ≤ 286 ∧ F2 ≤ 30 ∧ w4 = 0 ∨ ¬ f3 = 0 ∧ w4 = f3) : cc_f A en o w p = cc_1 A en o w4 a3 F1 F2 F3 := by
  unfold cc_f
  rw [e1]
  by_cases c1 : f1 = 0
  · rw [oc_0 c1]
    rw [c1] at e2
    show (fun y : Int × Int × Int => _) (nu_w A en 0 a1 5) = _
    rw [e2]
    by_cases c2 : f2 = 0
    · rw [oc_0 c2]
      rw [c2] at e3
      show (fun z : Int × Int × Int => _) (nu_w A en 0 a2 4) = _
      rw [e3]
      by_cases c3 : f3 = 0
      · rw [oc_0 c3]
        show cc_1 A en o (if 0 = 0 ∧ (286 < 257 + r1 ∨ 30 < 1 + r2) then 4 else 0) a3 (257 + r1) (1 + r2) (4 + r3) = _
        rw [← h1, ← h2, ← h3]
        have : (if (0 : Int) = 0 ∧ (286 < F1 ∨ 30 < F2) then (4 : Int) else 0) = w4 := by
          split <;> omega
        rw [this]
      · rw [oc_w c3]
        show cc_1 A en o (if f3 = 0 ∧ _ then 4 else f3) _ _ _ _ = _
        have hw4 : w4 = f3 := by omega
        rw [if_neg (fun z => c3 z.1), cc_1w c3, hw4, cc_1w c3]
    · rw [oc_w c2]
      show (fun z : Int × Int × Int => _) (nu_w A en f2 0 4) = _
      rw [nu_ww c2] at e3 ⊢
      have hf : f3 = f2 := by
        have z := congrArg Prod.fst e3
        rw [oc_1] at z
        exact z.symm
      show cc_1 A en o (if f2 = 0 ∧ _ then 4 else f2) _ _ _ _ = _
      have hw4 : w4 = f2 := by omega
      rw [if_neg (fun z => c2 z.1), cc_1w c2, hw4, cc_1w c2]
  · rw [oc_w c1]
    show (fun y : Int × Int × Int => _) (nu_w A en f1 0 5) = _
    rw [nu_ww c1] at e2 ⊢
    have hf : f2 = f1 := by
      have z := congrArg Prod.fst e2
      rw [oc_1] at z
      exact z.symm
    show (fun z : Int × Int × Int => _) (nu_w A en f1 0 4) = _
    rw [hf, nu_ww c1] at e3
    rw [nu_ww c1]
    have hf3 : f3 = f1 := by
      have z := congrArg Prod.fst e3
      rw [oc_1] at z
      exact z.symm
    show cc_1 A en o (if f1 = 0 ∧ _ then 4 else f1) _ _ _ _ = _
    have hw4 : w4 = f1 := by omega
    rw [if_neg (fun z => c1 z.1), cc_1w c1, hw4, cc_1w c1]
/-- the third code is told -/
theorem cc_th {A : Int → Int32} {en w p a b c w2 w3 p2 r : Int} {o T : Int → Int} (e : th_g A en c o c.toNat w 0 p (fun _ => 0) = if w2 = 0 then (0, p2, T) else td_e w2) (hr : w2 = 0 → r = rt_f T 19) (hw : w2 = 0 ∧ r = 1 ∧ w3 = 0 ∨ w2 = 0 ∧ ¬ r = 1 ∧ w3 = 4 ∨ ¬ w2 = 0 ∧ w3 = w2) : cc_1 A en o w p a b c = cc_2 A en a b w3 p2 T := by
  unfold cc_1
  rw [e]
  by_cases c1 : w2 = 0
  · rw [if_pos c1]
    show cc_2 A en a b (if 0 = 0 ∧ ¬ rt_f T 19 = 1 then 4 else 0) p2 T = _
    rw [← hr c1]
    have : (if (0 : Int) = 0 ∧ ¬ r = 1 then (4 : Int) else 0) = w3 := by
      split <;> omega
    rw [this]
  · rw [if_neg c1]
    dsimp only [td_e]
    have hw3 : w3 = w2 := by omega
    rw [if_neg (fun z => c1 z.1), cc_2w c1, hw3, cc_2w c1]
/-- all is told -/
theorem cc_td {A : Int → Int32} {en a b w p w2 w3 p2 : Int} {T T3 : Int → Int} (e : td_g A en T3 (a + b) (a + b).toNat w 0 p (fun _ => 0) = if w2 = 0 then (0, p2, T) else td_e w2) (hw : w2 = 0 ∧ cc_ok T a b ∧ w3 = 0 ∨ w2 = 0 ∧ ¬ cc_ok T a b ∧ w3 = 4 ∨ ¬ w2 = 0 ∧ w3 = w2) : cc_2 A en a b w p T3 = co_z w3 p2 a b T := by
  unfold cc_2
  rw [e]
  rcases hw with ⟨h1, h2, h3⟩ | ⟨h1, h2, h3⟩ | ⟨h1, h3⟩
  · rw [if_pos h1]
    unfold cc_3 co_z
    rw [if_pos rfl, if_pos h2, if_pos h3]
  · rw [if_pos h1]
    unfold cc_3 co_z
    rw [if_pos rfl, if_neg h2, if_neg (by omega), h3]
  · rw [if_neg h1, cc_3w h1]
    unfold co_z
    rw [if_neg (by omega), h3]
    rfl
/-- lengths and distances -/
def ll_f (k : Int) : Int := if k < 8 then 3 + k else if k < 12 then 3 + 2 * (k - 4) else if k < 16 then 3 + 4 * (k - 8) else if k < 20 then 3 + 8 * (k - 12) else if k < 24 then 3 + 16 * (k - 16) else if k < 28 then 3 + 32 * (k - 20) else 258
def lb_f (k : Int) : Int := if k < 8 ∨ 28 ≤ k then 0 else k / 4 - 1
def ld_f (d : Int) : Int := if d < 4 then 1 + d else if d < 6 then 1 + 2 * (d - 2) else if d < 8 then 1 + 4 * (d - 4) else if d < 10 then 1 + 8 * (d - 6) else if d < 12 then 1 + 16 * (d - 8) else if d < 14 then 1 + 32 * (d - 10) else if d < 16 then 1 + 64 * (d - 12) else if d < 18 then 1 + 128 * (d - 14) else if d < 20 then 1 + 256 * (d - 16) else if d < 22 then 1 + 512 * (d - 18) else if d < 24 then 1 + 1024 * (d - 20) else if d < 26 then 1 + 2048 * (d - 22) else if d < 28 then 1 + 4096 * (d - 24) else 1 + 8192 * (d - 26)
def db_f (d : Int) : Int := if d < 4 then 0 else d / 2 - 1
/-- what came out: s bytes X -/
def er_ (w : Int) : Int × Int × Int × (Int → Int32) := (w, 0, 0, fun _ => 0)
def oz_ (w p s : Int) (X : Int → Int32) : Int × Int × Int × (Int → Int32) := if w = 0 then (0, p, s, X) else er_ w
theorem oz_0 {w p s : Int} {X : Int → Int32} (h : w = 0) : oz_ w p s X = (0, p, s, X) := if_pos h
theorem oz_w {w p s : Int} {X : Int → Int32} (h : ¬ w = 0) : oz_ w p s X = er_ w := if_neg h
def pu_ (X : Int → Int32) (s : Int) (v : Int32) : Int → Int32 := fun j => if j = s then v else X j
def cp_ (D : Int) : Nat → Int → (Int → Int32) → Int → Int32
  | 0, _, X => X
  | n + 1, s, X => cp_ D n (s + 1) (pu_ X s (X (s - D)))
def rp_6 (s : Int) (X : Int → Int32) (w p len D : Int) : Int × Int × Int × (Int → Int32) := if w = 0 then (0, p, s + len, cp_ D len.toNat s X) else er_ w
def rp_5 (s : Int) (X : Int → Int32) (w p len D : Int) : Int × Int × Int × (Int → Int32) := rp_6 s X (if w = 0 ∧ 4000 - s < len then 7 else w) p len D
def rp_4 (s : Int) (X : Int → Int32) (w p len D : Int) : Int × Int × Int × (Int → Int32) := rp_5 s X (if w = 0 ∧ s < D then 6 else w) p len D
def rp_3 (A : Int → Int32) (en s : Int) (X : Int → Int32) (len w p d : Int) : Int × Int × Int × (Int → Int32) := (fun q : Int × Int × Int => rp_4 s X q.1 q.2.2 len (ld_f d + q.2.1)) (nu_w A en w p (db_f d))
def rp_2 (A : Int → Int32) (en : Int) (L : Int → Int) (n s : Int) (X : Int → Int32) (len w p : Int) : Int × Int × Int × (Int → Int32) := (fun o : Int × Int × Int => rp_3 A en s X len (if o.1 = 0 ∧ 30 ≤ o.2.1 then 5 else o.1) o.2.2 o.2.1) (sy_w A en L n w p)
def rp_1 (A : Int → Int32) (en : Int) (L : Int → Int) (n s : Int) (X : Int → Int32) (k w p : Int) : Int × Int × Int × (Int → Int32) := (fun q : Int × Int × Int => rp_2 A en L n s X (ll_f k + q.2.1) q.1 q.2.2) (nu_w A en w p (lb_f k))
def rp_f (A : Int → Int32) (en : Int) (L : Int → Int) (n s : Int) (X : Int → Int32) (k w p : Int) : Int × Int × Int × (Int → Int32) := rp_1 A en L n s X k (if w = 0 ∧ 28 < k then 5 else w) p
theorem rp_6w {s w p len D : Int} {X : Int → Int32} (h : ¬ w = 0) : rp_6 s X w p len D = er_ w := if_neg h
theorem rp_5w {s w p len D : Int} {X : Int → Int32} (h : ¬ w = 0) : rp_5 s X w p len D = er_ w := by
  unfold rp_5
  rw [if_neg (fun z => h z.1), rp_6w h]
theorem rp_4w {s w p len D : Int} {X : Int → Int32} (h : ¬ w = 0) : rp_4 s X w p len D = er_ w := by
  unfold rp_4
  rw [if_neg (fun z => h z.1), rp_5w h]
theorem rp_3w {A : Int → Int32} {en s len w p d : Int} {X : Int → Int32} (h : ¬ w = 0) : rp_3 A en s X len w p d = er_ w := by
  unfold rp_3
  rw [nu_ww h]
  exact rp_4w h
theorem rp_2w {A : Int → Int32} {en n s len w p : Int} {L : Int → Int} {X : Int → Int32} (h : ¬ w = 0) : rp_2 A en L n s X len w p = er_ w := by
  unfold rp_2
  rw [sy_ww (w2 := w) (v := 0) (q := 0) h rfl, oc_w h]
  show rp_3 A en s X len (if w = 0 ∧ _ then 5 else w) 0 0 = _
  rw [if_neg (fun z => h z.1), rp_3w h]
theorem rp_1w {A : Int → Int32} {en n s k w p : Int} {L : Int → Int} {X : Int → Int32} (h : ¬ w = 0) : rp_1 A en L n s X k w p = er_ w := by
  unfold rp_1
  rw [nu_ww h]
  exact rp_2w h
theorem rp_fw {A : Int → Int32} {en n s k w p : Int} {L : Int → Int} {X : Int → Int32} (h : ¬ w = 0) : rp_f A en L n s X k w p = er_ w := by
  unfold rp_f
  rw [if_neg (fun z => h z.1), rp_1w h]
theorem ll_rng {k : Int} (h : 0 ≤ k) : 3 ≤ ll_f k ∧ ll_f k ≤ 258 := by
  unfold ll_f
  repeat (split; · omega)
  omega
theorem rp_1g {A : Int → Int32} {en n s k w p f r a len : Int} {L : Int → Int} {X : Int → Int32} (e : nu_w A en w p (lb_f k) = oc_ f r a) (hl : f = 0 → len = ll_f k + r) : rp_1 A en L n s X k w p = rp_2 A en L n s X len f a := by
  unfold rp_1
  rw [e]
  by_cases c : f = 0
  · rw [oc_0 c, hl c, c]
  · rw [oc_w c]
    show rp_2 A en L n s X (ll_f k + 0) f 0 = _
    rw [rp_2w c, rp_2w c]
theorem rp_2g {A : Int → Int32} {en n s len w p f d a w2 : Int} {L : Int → Int} {X : Int → Int32} (e : sy_w A en L n w p = oc_ f d a) (hw : f = 0 ∧ 30 ≤ d ∧ w2 = 5 ∨ ¬ (f = 0 ∧ 30 ≤ d) ∧ w2 = f) : rp_2 A en L n s X len w p = rp_3 A en s X len w2 a d := by
  unfold rp_2
  rw [e]
  by_cases c : f = 0
  · rw [oc_0 c]
    show rp_3 A en s X len (if 0 = 0 ∧ 30 ≤ d then 5 else 0) a d = _
    have : (if (0 : Int) = 0 ∧ 30 ≤ d then (5 : Int) else 0) = w2 := by
      split <;> omega
    rw [this]
  · rw [oc_w c]
    show rp_3 A en s X len (if f = 0 ∧ _ then 5 else f) 0 0 = _
    have hw2 : w2 = f := by omega
    rw [if_neg (fun z => c z.1), rp_3w c, hw2, rp_3w c]
theorem rp_3g {A : Int → Int32} {en s len w p d f r a D : Int} {X : Int → Int32} (e : nu_w A en w p (db_f d) = oc_ f r a) (hD : f = 0 → D = ld_f d + r) : rp_3 A en s X len w p d = rp_4 s X f a len D := by
  unfold rp_3
  rw [e]
  by_cases c : f = 0
  · rw [oc_0 c, hD c, c]
  · rw [oc_w c]
    show rp_4 s X f 0 len (ld_f d + 0) = _
    rw [rp_4w c, rp_4w c]
theorem rp_6g {s w p len D s9 : Int} {X X9 : Int → Int32} (hs : w = 0 → s9 = s + len) (hX : w = 0 → cp_ D 0 s9 X9 = cp_ D len.toNat s X) : rp_6 s X w p len D = oz_ w p s9 X9 := by
  by_cases c : w = 0
  · rw [oz_0 c, hs c]
    unfold rp_6
    rw [if_pos c, ← hX c]
    rfl
  · rw [oz_w c, rp_6w c]
theorem rp_4g {s w p len D w2 : Int} {X : Int → Int32} (hw : w = 0 ∧ s < D ∧ w2 = 6 ∨ ¬ (w = 0 ∧ s < D) ∧ w2 = w) : rp_4 s X w p len D = rp_5 s X w2 p len D := by
  unfold rp_4
  have : (if w = 0 ∧ s < D then (6 : Int) else w) = w2 := by
    split <;> omega
  rw [this]
theorem rp_5g {s w p len D w2 : Int} {X : Int → Int32} (hw : w = 0 ∧ 4000 - s < len ∧ w2 = 7 ∨ ¬ (w = 0 ∧ 4000 - s < len) ∧ w2 = w) : rp_5 s X w p len D = rp_6 s X w2 p len D := by
  unfold rp_5
  have : (if w = 0 ∧ 4000 - s < len then (7 : Int) else w) = w2 := by
    split <;> omega
  rw [this]
theorem rp_fg {A : Int → Int32} {en n s k w p w2 : Int} {L : Int → Int} {X : Int → Int32} (hw : w = 0 ∧ 28 < k ∧ w2 = 5 ∨ ¬ (w = 0 ∧ 28 < k) ∧ w2 = w) : rp_f A en L n s X k w p = rp_1 A en L n s X k w2 p := by
  unfold rp_f
  have : (if w = 0 ∧ 28 < k then (5 : Int) else w) = w2 := by
    split <;> omega
  rw [this]
/-- bytes that come behind the others -/
theorem sq_pu {f : Nat → Int32} {i v : Int32} {s s2 : Int} (hi : i.toInt = s) (h0 : 0 ≤ s) (hs : s2 = s + 1) : sq (upd f i.toNatClampNeg v) 0 s2 = pu_ (sq f 0 s) s v := by
  subst hs
  funext j
  unfold sq pu_
  try dsimp only
  by_cases c : j = s
  · rw [if_pos (by omega), if_pos c, Int.zero_add, gr_upd hi j h0 (by omega), if_pos c]
  · rw [if_neg c]
    by_cases c2 : 0 ≤ j ∧ j < s
    · rw [if_pos (by omega), if_pos c2, Int.zero_add, gr_upd hi j h0 (by omega), if_neg c]
    · rw [if_neg (by omega), if_neg c2]
theorem cp_st {D s s2 n n2 len : Int} {X Y : Int → Int32} {X0 : Int → Int32} {s0 : Int} {v : Int32} (h : cp_ D (len - n).toNat s X = cp_ D len.toNat s0 X0) (hn : n < len) (hn2 : n2 = n + 1) (hs : s2 = s + 1) (hY : Y = pu_ X s v) (hv : v = X (s - D)) : cp_ D (len - n2).toNat s2 Y = cp_ D len.toNat s0 X0 := by
  subst hn2 hs hY hv
  rw [← h, show (len - n).toNat = (len - (n + 1)).toNat + 1 by omega]
  rfl
theorem sq_0 (f : Nat → Int32) {s : Int} (h : s = 0) : sq f 0 s = fun _ => 0 := by
  subst h
  funext j
  exact if_neg (by omega)
theorem sq_ld {f : Nat → Int32} {s j : Int} (h0 : 0 ≤ j) (h1 : j < s) : sq f 0 s j = gr f j := by
  rw [sq_at h0 h1, Int.zero_add]
/-- bytes as they are -/
def st_l (A : Int → Int32) (en z : Int) : Nat → Int → Int → Int → Int → (Int → Int32) → Int × Int × Int × (Int → Int32)
  | 0, w, _, p, s, X => oz_ w p s X
  | m + 1, w, k, p, s, X => if w = 0 then (if k < z then (fun q : Int × Int × Int => if q.1 = 0 then (if s = 4000 then er_ 7 else st_l A en z m 0 (k + 1) q.2.2 (s + 1) (pu_ X s (by_ q.2.1))) else er_ q.1) (nu_w A en 0 p 8) else (0, p, s, X)) else er_ w
theorem st_lw {A : Int → Int32} {en z w k p s : Int} {X : Int → Int32} {m : Nat} (h : ¬ w = 0) : st_l A en z m w k p s X = er_ w := by
  cases m with
  | zero => exact if_neg h
  | succ m => rw [st_l, if_neg h]
theorem st_le {A : Int → Int32} {en z w k p s : Int} {X : Int → Int32} {m : Nat} (hk : z ≤ k) : st_l A en z m w k p s X = oz_ w p s X := by
  cases m with
  | zero => rfl
  | succ m =>
    by_cases c : w = 0
    · rw [st_l, if_pos c, if_neg (by omega), oz_0 c]
    · rw [st_lw c, oz_w c]
theorem st_lg {A : Int → Int32} {en z k k2 p s f r a w2 s2 : Int} {X X2 : Int → Int32} {v : Int32} {m m2 : Nat} (hm : m = m2 + 1) (hk : k < z) (e : nu_w A en 0 p 8 = oc_ f r a) (hw : ¬ f = 0 ∧ w2 = f ∨ f = 0 ∧ s = 4000 ∧ w2 = 7 ∨ f = 0 ∧ ¬ s = 4000 ∧ w2 = 0 ∧ s2 = s + 1) (hX : w2 = 0 → X2 = pu_ X s v) (hv : w2 = 0 → v = by_ r) (hk2 : k2 = k + 1) : st_l A en z m 0 k p s X = st_l A en z m2 w2 k2 a s2 X2 := by
  subst hm hk2
  rw [st_l, if_pos rfl, if_pos hk, e]
  rcases hw with ⟨h1, h2⟩ | ⟨h1, h2, h3⟩ | ⟨h1, h2, h3, h4⟩
  · rw [oc_w h1]
    show (if f = 0 then _ else er_ f) = _
    rw [if_neg h1, st_lw (by omega), h2]
  · rw [oc_0 h1]
    show (if (0 : Int) = 0 then (if s = 4000 then er_ 7 else _) else _) = _
    rw [if_pos rfl, if_pos h2, st_lw (by omega), h3]
  · rw [oc_0 h1]
    show (if (0 : Int) = 0 then (if s = 4000 then er_ 7 else st_l A en z m2 0 (k + 1) a (s + 1) (pu_ X s (by_ r))) else _) = _
    rw [if_pos rfl, if_neg h2, hX h3, hv h3, h4, h3]
def st_f (A : Int → Int32) (en w p s : Int) (X : Int → Int32) : Int × Int × Int × (Int → Int32) := (fun x : Int × Int × Int => (fun y : Int × Int × Int => st_l A en x.2.1 x.2.1.toNat (if y.1 = 0 ∧ ¬ y.2.1 = 65535 - x.2.1 then 3 else y.1) 0 y.2.2 s X) (nu_w A en x.1 x.2.2 16)) (nu_w A en w ((p + 7) / 8 * 8) 16)
theorem st_fg {A : Int → Int32} {en w p p0 s f1 z a1 f2 r a2 w3 : Int} {X : Int → Int32} (hp : p0 = (p + 7) / 8 * 8) (e1 : nu_w A en w p0 16 = oc_ f1 z a1) (e2 : nu_w A en f1 a1 16 = oc_ f2 r a2) (hw : f2 = 0 ∧ ¬ r = 65535 - z ∧ w3 = 3 ∨ ¬ (f2 = 0 ∧ ¬ r = 65535 - z) ∧ w3 = f2) : st_f A en w p s X = st_l A en z z.toNat w3 0 a2 s X := by
  subst hp
  unfold st_f
  rw [e1]
  by_cases c1 : f1 = 0
  · rw [oc_0 c1]
    rw [c1] at e2
    show (fun y : Int × Int × Int => _) (nu_w A en 0 a1 16) = _
    rw [e2]
    by_cases c2 : f2 = 0
    · rw [oc_0 c2]
      show st_l A en z z.toNat (if 0 = 0 ∧ ¬ r = 65535 - z then 3 else 0) 0 a2 s X = _
      have : (if (0 : Int) = 0 ∧ ¬ r = 65535 - z then (3 : Int) else 0) = w3 := by
        split <;> omega
      rw [this]
    · rw [oc_w c2]
      show st_l A en z z.toNat (if f2 = 0 ∧ _ then 3 else f2) 0 0 s X = _
      have hw3 : w3 = f2 := by omega
      rw [if_neg (fun q => c2 q.1), st_lw c2, hw3, st_lw c2]
  · rw [oc_w c1]
    rw [nu_ww c1] at e2
    have hf : f2 = f1 := by
      have q := congrArg Prod.fst e2
      rw [oc_1] at q
      exact q.symm
    show (fun y : Int × Int × Int => _) (nu_w A en f1 0 16) = _
    rw [nu_ww c1]
    show st_l A en 0 _ (if f1 = 0 ∧ _ then 3 else f1) 0 0 s X = _
    have hw3 : w3 = f1 := by omega
    rw [if_neg (fun q => c1 q.1), st_lw c1, hw3, st_lw c1]
theorem st_fw {A : Int → Int32} {en w p s : Int} {X : Int → Int32} (h : ¬ w = 0) : st_f A en w p s X = er_ w := by
  rw [st_fg (f1 := w) (z := 0) (a1 := 0) (f2 := w) (r := 0) (a2 := 0) (w3 := w) rfl (by rw [nu_ww h, oc_w h]) (by rw [nu_ww h, oc_w h]) (by omega), st_lw h]
/-- the symbols of a block -/
def sl_g (A : Int → Int32) (en : Int) (L : Int → Int) (n : Int) (M : Int → Int) (k : Int) : Nat → Int → Int → Int → (Int → Int32) → Int × Int × Int × (Int → Int32)
  | 0, w, _, _, _ => er_ w
  | m + 1, w, p, s, X => if w = 0 then (fun o : Int × Int × Int => if o.1 = 0 then (if o.2.1 = 256 then (0, o.2.2, s, X) else if o.2.1 < 256 then (if s = 4000 then er_ 7 else sl_g A en L n M k m 0 o.2.2 (s + 1) (pu_ X s (by_ o.2.1))) else (fun q : Int × Int × Int × (Int → Int32) => sl_g A en L n M k m q.1 q.2.1 q.2.2.1 q.2.2.2) (rp_f A en M k s X (o.2.1 - 257) 0 o.2.2)) else er_ o.1) (sy_w A en L n 0 p) else er_ w
theorem sl_w {A : Int → Int32} {en n k w p s : Int} {L M : Int → Int} {X : Int → Int32} {m : Nat} (h : ¬ w = 0) : sl_g A en L n M k m w p s X = er_ w := by
  cases m with
  | zero => rfl
  | succ m => rw [sl_g, if_neg h]
theorem sl_f5 {A : Int → Int32} {en n k p s f r a : Int} {L M : Int → Int} {X : Int → Int32} {m : Nat} (h0 : m ≠ 0) (e : sy_w A en L n 0 p = oc_ f r a) (h : ¬ f = 0) : sl_g A en L n M k m 0 p s X = er_ f := by
  cases m with
  | zero => exact absurd rfl h0
  | succ m =>
    rw [sl_g, if_pos rfl, e, oc_w h]
    exact if_neg h
theorem sl_256 {A : Int → Int32} {en n k p s f r a : Int} {L M : Int → Int} {X : Int → Int32} {m : Nat} (h0 : m ≠ 0) (e : sy_w A en L n 0 p = oc_ f r a) (h : f = 0) (hr : r = 256) : sl_g A en L n M k m 0 p s X = (0, a, s, X) := by
  cases m with
  | zero => exact absurd rfl h0
  | succ m =>
    rw [sl_g, if_pos rfl, e, oc_0 h]
    show (if (0 : Int) = 0 then (if r = 256 then _ else _) else _) = _
    rw [if_pos rfl, if_pos hr]
theorem sl_lit {A : Int → Int32} {en n k p s f r a w2 s2 : Int} {L M : Int → Int} {X X2 : Int → Int32} {v : Int32} {m m2 : Nat} (hm : m = m2 + 1) (e : sy_w A en L n 0 p = oc_ f r a) (h : f = 0) (hr : r < 256) (hw : s = 4000 ∧ w2 = 7 ∨ ¬ s = 4000 ∧ w2 = 0 ∧ s2 = s + 1) (hX : w2 = 0 → X2 = pu_ X s v) (hv : w2 = 0 → v = by_ r) : sl_g A en L n M k m 0 p s X = sl_g A en L n M k m2 w2 a s2 X2 := by
  subst hm
  rw [sl_g, if_pos rfl, e, oc_0 h]
  show (if (0 : Int) = 0 then (if r = 256 then _ else if r < 256 then (if s = 4000 then er_ 7 else sl_g A en L n M k m2 0 a (s + 1) (pu_ X s (by_ r))) else _) else _) = _
  rw [if_pos rfl, if_neg (by omega), if_pos hr]
  rcases hw with ⟨h1, h2⟩ | ⟨h1, h2, h3⟩
  · rw [if_pos h1, sl_w (by omega), h2]
  · rw [if_neg h1, hX h2, hv h2, h3, h2]
theorem sl_rep {A : Int → Int32} {en n k p s f r a j f2 a2 s2 : Int} {L M : Int → Int} {X X2 : Int → Int32} {m m2 : Nat} (hm : m = m2 + 1) (e : sy_w A en L n 0 p = oc_ f r a) (h : f = 0) (hr : 256 < r) (hj : j = r - 257) (e2 : rp_f A en M k s X j 0 a = oz_ f2 a2 s2 X2) : sl_g A en L n M k m 0 p s X = sl_g A en L n M k m2 f2 a2 s2 X2 := by
  subst hm hj
  rw [sl_g, if_pos rfl, e, oc_0 h]
  show (if (0 : Int) = 0 then (if r = 256 then _ else if r < 256 then _ else (fun q : Int × Int × Int × (Int → Int32) => sl_g A en L n M k m2 q.1 q.2.1 q.2.2.1 q.2.2.2) (rp_f A en M k s X (r - 257) 0 a)) else _) = _
  rw [if_pos rfl, if_neg (by omega), if_neg (by omega), e2]
  by_cases c : f2 = 0
  · rw [oz_0 c, c]
  · rw [oz_w c]
    show sl_g A en L n M k m2 f2 0 0 _ = _
    rw [sl_w c, sl_w c]
def sl_f (A : Int → Int32) (en : Int) (L : Int → Int) (n : Int) (M : Int → Int) (k w p s : Int) (X : Int → Int32) : Int × Int × Int × (Int → Int32) := sl_g A en L n M k (en - p + 1).toNat w p s X
/-- the fixed codes -/
def fx_1 (k : Int) : Int := if k < 144 then 8 else if k < 256 then 9 else if k < 280 then 7 else 8
def fx_2 (_ : Int) : Int := 5
/-- a block of a kind -/
noncomputable def bk_f (A : Int → Int32) (en : Int) (o : Int → Int) (w p s : Int) (X : Int → Int32) (kd : Int) : Int × Int × Int × (Int → Int32) := if w = 0 then (if kd = 0 then st_f A en 0 p s X else if kd = 1 then sl_f A en fx_1 288 fx_2 32 0 p s X else if kd = 2 then (fun c : Int × Int × Int × Int × (Int → Int) => sl_f A en c.2.2.2.2 c.2.2.1 (fun j => c.2.2.2.2 (c.2.2.1 + j)) c.2.2.2.1 c.1 c.2.1 s X) (cc_f A en o 0 p) else er_ 2) else er_ w
theorem bk_w {A : Int → Int32} {en w p s kd : Int} {o : Int → Int} {X : Int → Int32} (h : ¬ w = 0) : bk_f A en o w p s X kd = er_ w := if_neg h
theorem bk_0 {A : Int → Int32} {en p s kd : Int} {o : Int → Int} {X : Int → Int32} (h : kd = 0) : bk_f A en o 0 p s X kd = st_f A en 0 p s X := by
  unfold bk_f
  rw [if_pos rfl, if_pos h]
theorem bk_1 {A : Int → Int32} {en p s kd : Int} {o : Int → Int} {X : Int → Int32} (h : kd = 1) : bk_f A en o 0 p s X kd = sl_f A en fx_1 288 fx_2 32 0 p s X := by
  unfold bk_f
  rw [if_pos rfl, if_neg (by omega), if_pos h]
theorem bk_2 {A : Int → Int32} {en p s kd w2 p2 a b : Int} {o T : Int → Int} {X : Int → Int32} (h : kd = 2) (e : cc_f A en o 0 p = co_z w2 p2 a b T) : bk_f A en o 0 p s X kd = sl_f A en T a (fun j => T (a + j)) b w2 p2 s X := by
  unfold bk_f
  rw [if_pos rfl, if_neg (by omega), if_neg (by omega), if_pos h, e]
  unfold co_z
  by_cases c : w2 = 0
  · rw [if_pos c, c]
  · rw [if_neg c]
    unfold sl_f
    show sl_g A en _ _ _ _ _ w2 _ s X = _
    rw [sl_w c, sl_w c]
theorem bk_3 {A : Int → Int32} {en p s kd : Int} {o : Int → Int} {X : Int → Int32} (h : ¬ kd = 0 ∧ ¬ kd = 1 ∧ ¬ kd = 2) : bk_f A en o 0 p s X kd = er_ 2 := by
  unfold bk_f
  rw [if_pos rfl, if_neg h.1, if_neg h.2.1, if_neg h.2.2]
/-- blocks, one behind the other -/
def bl_e (en w p s : Int) (X : Int → Int32) : Int × Int × Int × (Int → Int32) := if w = 0 then (if p + 7 < en then er_ 8 else (0, p, s, X)) else er_ w
noncomputable def bl_g (A : Int → Int32) (en : Int) (o : Int → Int) : Nat → Int → Int → Int → (Int → Int32) → Int × Int × Int × (Int → Int32)
  | 0, w, _, _, _ => er_ w
  | m + 1, w, p, s, X => if w = 0 then (fun x : Int × Int × Int => (fun y : Int × Int × Int => (fun z : Int × Int × Int × (Int → Int32) => if x.2.1 = 1 then bl_e en z.1 z.2.1 z.2.2.1 z.2.2.2 else bl_g A en o m z.1 z.2.1 z.2.2.1 z.2.2.2) (bk_f A en o y.1 y.2.2 s X y.2.1)) (nu_w A en x.1 x.2.2 2)) (nu_w A en 0 p 1) else er_ w
theorem bl_w {A : Int → Int32} {en w p s : Int} {o : Int → Int} {X : Int → Int32} {m : Nat} (h : ¬ w = 0) : bl_g A en o m w p s X = er_ w := by
  cases m with
  | zero => rfl
  | succ m => rw [bl_g, if_neg h]
theorem bl_ew {en w p s : Int} {X : Int → Int32} (h : ¬ w = 0) : bl_e en w p s X = er_ w := if_neg h
theorem bl_go {A : Int → Int32} {en p s f1 la a1 f2 kd a2 w3 p3 s3 : Int} {o : Int → Int} {X X3 : Int → Int32} {m m2 : Nat} (hm : m = m2 + 1) (e1 : nu_w A en 0 p 1 = oc_ f1 la a1) (e2 : nu_w A en f1 a1 2 = oc_ f2 kd a2) (e3 : bk_f A en o f2 a2 s X kd = oz_ w3 p3 s3 X3) : bl_g A en o m 0 p s X = if la = 1 then bl_e en w3 p3 s3 X3 else bl_g A en o m2 w3 p3 s3 X3 := by
  subst hm
  rw [bl_g, if_pos rfl, e1]
  have fin : ∀ (x : Int), (fun z : Int × Int × Int × (Int → Int32) => if x = 1 then bl_e en z.1 z.2.1 z.2.2.1 z.2.2.2 else bl_g A en o m2 z.1 z.2.1 z.2.2.1 z.2.2.2) (oz_ w3 p3 s3 X3) = if x = 1 then bl_e en w3 p3 s3 X3 else bl_g A en o m2 w3 p3 s3 X3 := fun x => by
    by_cases c : w3 = 0
    · rw [oz_0 c, c]
    · rw [oz_w c]
      show (if x = 1 then bl_e en w3 0 0 _ else bl_g A en o m2 w3 0 0 _) = _
      rw [bl_ew c, bl_ew c, bl_w c, bl_w c]
  by_cases c1 : f1 = 0
  · rw [oc_0 c1]
    rw [c1] at e2
    show (fun y : Int × Int × Int => _) (nu_w A en 0 a1 2) = _
    rw [e2]
    by_cases c2 : f2 = 0
    · rw [oc_0 c2]
      rw [c2] at e3
      show (fun z : Int × Int × Int × (Int → Int32) => _) (bk_f A en o 0 a2 s X kd) = _
      rw [e3]
      exact fin la
    · rw [oc_w c2]
      rw [bk_w c2] at e3
      show (fun z : Int × Int × Int × (Int → Int32) => _) (bk_f A en o f2 0 s X 0) = _
      rw [bk_w c2, e3]
      exact fin la
  · rw [oc_w c1]
    rw [nu_ww c1] at e2
    have hf : f2 = f1 := by
      have q := congrArg Prod.fst e2
      rw [oc_1] at q
      exact q.symm
    rw [hf, bk_w c1] at e3
    show (fun y : Int × Int × Int => _) (nu_w A en f1 0 2) = _
    rw [nu_ww c1]
    show (fun z : Int × Int × Int × (Int → Int32) => _) (bk_f A en o f1 0 s X 0) = _
    rw [bk_w c1, e3]
    have hw3 : w3 = f1 := by
      have q := congrArg Prod.fst e3
      unfold oz_ er_ at q
      split at q
      · exact absurd q c1
      · exact q.symm
    have c3 : ¬ w3 = 0 := by omega
    rw [fin 0, bl_ew c3, bl_w c3]
    split <;> split <;> rfl
/-- a stream: n bytes from place x on -/
noncomputable def ex_f (A : Int → Int32) (o : Int → Int) (x n : Int) : Int × Int × Int × (Int → Int32) := bl_g A (8 * (x + n)) o (8 * n + 1).toNat 0 (8 * x) 0 (fun _ => 0)
theorem oz_inj {w p s w' p' s' : Int} {X X' : Int → Int32} (h : oz_ w p s X = oz_ w' p' s' X') : w = w' ∧ (w = 0 → p = p' ∧ s = s' ∧ X = X') := by
  by_cases c : w = 0
  · by_cases c' : w' = 0
    · rw [oz_0 c, oz_0 c'] at h
      have h1 := (Prod.mk.inj h).2
      have h2 := Prod.mk.inj h1
      have h3 := Prod.mk.inj h2.2
      exact ⟨by omega, fun _ => ⟨h2.1, h3.1, h3.2⟩⟩
    · rw [oz_0 c, oz_w c'] at h
      have h1 := (Prod.mk.inj h).1
      exact absurd h1.symm c'
  · by_cases c' : w' = 0
    · rw [oz_w c, oz_0 c'] at h
      have h1 := (Prod.mk.inj h).1
      exact absurd h1 c
    · rw [oz_w c, oz_w c'] at h
      have h1 := (Prod.mk.inj h).1
      exact ⟨h1, fun z => absurd z c⟩
theorem sq_pu2 {f g : Nat → Int32} {v : Int32} {s s2 : Int} (h : ∀ j : Int, 0 ≤ j → gr g j = if j = s then v else gr f j) (h0 : 0 ≤ s) (hs : s2 = s + 1) : sq g 0 s2 = pu_ (sq f 0 s) s v := by
  subst hs
  funext j
  unfold sq pu_
  try dsimp only
  by_cases c : j = s
  · rw [if_pos (by omega), if_pos c, Int.zero_add, h j (by omega), if_pos c]
  · rw [if_neg c]
    by_cases c2 : 0 ≤ j ∧ j < s
    · rw [if_pos (by omega), if_pos c2, Int.zero_add, h j c2.1, if_neg c]
    · rw [if_neg (by omega), if_neg c2]
theorem ti_and7 {x z : Int32} (e : z = x &&& 7) (h : 0 ≤ x.toInt) : z.toInt = x.toInt % 8 := by
  subst e
  obtain ⟨j, hj, rfl⟩ := ti_nat h
  have e1 := nI_toInt hj
  rw [pk_and _ 3 (by decide), pk_tn (by omega), nI_toInt (by omega), e1, show (2 : Nat) ^ 3 = 8 from rfl]
  omega
/-- the class's code while it is told: symbols of less than m bits, and those of m before k, are in their places -/
def tq_ (g : Nat → Int32) (L : Int → Int) (n m k : Int) : Prop := ∀ q : Int, 0 ≤ q → q < n → 1 ≤ L q → (L q < m ∨ L q = m ∧ q < k) → gx g (lt_ L (L q) n.toNat + ct_ L (L q) q.toNat) = q
theorem ct_lt {L : Int → Int} {q k : Int} (h0 : 0 ≤ q) (h : q < k) : ct_ L (L q) q.toNat < ct_ L (L q) k.toNat := by
  have a := ct_s (L := L) (b := L q) (k := q) (m := q + 1) h0 rfl
  rw [if_pos rfl] at a
  have b := ct_mono L (L q) (q + 1).toNat k.toNat (by omega)
  omega
theorem tq_skip {g : Nat → Int32} {L : Int → Int} {n m k k2 : Int} (h : tq_ g L n m k) (e : k2 = k + 1) (hk : ¬ L k = m) : tq_ g L n m k2 := fun q q0 q1 q2 q3 => by
  subst e
  refine h q q0 q1 q2 ?_
  rcases q3 with c | ⟨c, d⟩
  · exact Or.inl c
  · by_cases z : q = k
    · subst z
      exact absurd c hk
    · exact Or.inr ⟨c, by omega⟩
theorem tq_put {g : Nat → Int32} {L : Int → Int} {n m k k2 s : Int} {i v : Int32} (h : tq_ g L n m k) (e : k2 = k + 1) (k0 : 0 ≤ k) (hk : L k = m) (hm : 1 ≤ m) (hs : s = lt_ L m n.toNat + ct_ L m k.toNat) (s0 : 0 ≤ s) (hi : i.toInt = s) (hv : v.toInt = k) : tq_ (upd g i.toNatClampNeg v) L n m k2 := fun q q0 q1 q2 q3 => by
  subst e
  have r1 := ct_rng L (L q) q.toNat
  have ix : 0 ≤ lt_ L (L q) n.toNat + ct_ L (L q) q.toNat := by
    have := lt_mono L (m := 1) (k := L q) q2 n.toNat
    rw [lt_one] at this
    omega
  rw [gx_upd hi _ s0 ix]
  by_cases z : q = k
  · subst z
    rw [hk, if_pos hs.symm, hv]
  · have r2 := ct_lt (L := L) q0 q1
    have r3 := lt_sum L q2 n.toNat
    have r4 := ct_rng L m k.toNat
    rw [if_neg]
    · refine h q q0 q1 q2 ?_
      rcases q3 with c | ⟨c, d⟩
      · exact Or.inl c
      · exact Or.inr ⟨c, by omega⟩
    · rcases q3 with c | ⟨c, d⟩
      · have r5 := lt_mono L (m := L q + 1) (k := m) (by omega) n.toNat
        omega
      · have r6 := ct_lt (L := L) (q := q) (k := k) q0 (by omega)
        rw [c] at r6 ⊢
        omega
theorem tq_nx {g : Nat → Int32} {L : Int → Int} {n m k m2 : Int} (h : tq_ g L n m k) (hk : k = n) (e : m2 = m + 1) : tq_ g L n m2 0 := fun q q0 q1 q2 q3 => by
  subst e hk
  refine h q q0 q1 q2 ?_
  omega
theorem tq_go {g : Nat → Int32} {L : Int → Int} {n m : Int} (h : tq_ g L n m 0) : tq_ g L n m 0 := h
theorem tq_1 {g : Nat → Int32} {L : Int → Int} {n : Int} : tq_ g L n 1 0 := fun q q0 q1 q2 q3 => by omega
theorem cs_mk {sz n : Int} {fc fy : Nat → Int32} {L : Int → Int} {m : Int} (hm : m = 16) (h1 : ∀ b : Int, 1 ≤ b → b < m → gx fc b = ct_ L b n.toNat) (h2 : sz = lt_ L m n.toNat) (h3 : tq_ fy L n m 0) (h4 : ∀ k : Int, 0 ≤ k → k < n → 0 ≤ L k ∧ L k ≤ 15) : cs_R sz fc fy L n := by
  subst hm
  exact ⟨fun b b0 b1 => h1 b b0 (by omega), h2, fun q q0 q1 q2 q3 => h3 q q0 q1 q2 (Or.inl (by omega)), h4⟩
theorem sl_lit2 {A : Int → Int32} {en n k p s f r a w2 s2 : Int} {L M : Int → Int} {X X2 : Int → Int32} {v : Int32} {m m2 : Nat} (hm : m = m2 + 1) (e : sy_w A en L n 0 p = oc_ f r a) (hr : f = 0 → r < 256) (hw : ¬ f = 0 ∧ w2 = f ∨ f = 0 ∧ s = 4000 ∧ w2 = 7 ∨ f = 0 ∧ ¬ s = 4000 ∧ w2 = 0 ∧ s2 = s + 1) (hX : w2 = 0 → X2 = pu_ X s v) (hv : w2 = 0 → v = by_ r) : sl_g A en L n M k m 0 p s X = sl_g A en L n M k m2 w2 a s2 X2 := by
  by_cases c : f = 0
  · exact sl_lit hm e c (hr c) (by (exact omg_0ee14031cb hw c)) hX hv
  · have hw2 : w2 = f := by omega
    rw [sl_f5 (by omega) e c, hw2, sl_w c]
theorem sl_end {A : Int → Int32} {en n k p s f r a : Int} {L M : Int → Int} {X : Int → Int32} {m : Nat} (hm : m ≠ 0) (e : sy_w A en L n 0 p = oc_ f r a) (hr : f = 0 → r = 256) : sl_g A en L n M k m 0 p s X = oz_ f a s X := by
  by_cases c : f = 0
  · rw [sl_256 hm e c (hr c), oz_0 c]
  · rw [sl_f5 hm e c, oz_w c]
theorem oz_er {w p s f : Int} {X : Int → Int32} (h : er_ f = oz_ w p s X) (hf : ¬ f = 0) : w = f := by
  by_cases c : w = 0
  · rw [oz_0 c] at h
    have h1 : f = 0 := (Prod.mk.inj h).1
    exact absurd h1 hf
  · rw [oz_w c] at h
    have h1 : f = w := (Prod.mk.inj h).1
    exact h1.symm
theorem sl_rep2 {A : Int → Int32} {en n k p s f r a j f2 a2 s2 : Int} {L M : Int → Int} {X X2 : Int → Int32} {m m2 : Nat} (hm : m = m2 + 1) (e : sy_w A en L n 0 p = oc_ f r a) (hr : f = 0 → 256 < r ∧ j = r - 257) (e2 : rp_f A en M k s X j f a = oz_ f2 a2 s2 X2) : sl_g A en L n M k m 0 p s X = sl_g A en L n M k m2 f2 a2 s2 X2 := by
  by_cases c : f = 0
  · rw [c] at e2
    exact sl_rep hm e c (hr c).1 (hr c).2 e2
  · rw [rp_fw c] at e2
    have h := oz_er e2 c
    rw [sl_f5 (by omega) e c, h, sl_w c]
/-- numbers of an array as they are told -/
def tn_ (f : Nat → Int32) (n : Int) : Int → Int := fun j => if 0 ≤ j ∧ j < n then gx f j else 0
theorem tn_0 {f : Nat → Int32} {n : Int} (h : n ≤ 0) : tn_ f n = fun _ => 0 := by
  funext j
  exact if_neg (by omega)
theorem tn_at {f : Nat → Int32} {n j : Int} (h0 : 0 ≤ j) (h1 : j < n) : tn_ f n j = gx f j := if_pos ⟨h0, h1⟩
theorem tn_fi {f g : Nat → Int32} {k t v k2 e : Int} (h : ∀ j : Int, 0 ≤ j → gx g j = if k ≤ j ∧ j < e then v else gx f j) (h0 : 0 ≤ k) (h1 : 0 ≤ t) (he : e = k + t) (hk : k2 = k + t) : tn_ g k2 = fi_ (tn_ f k) k t v := by
  subst he hk
  funext j
  unfold tn_ fi_
  try dsimp only
  by_cases c : 0 ≤ j ∧ j < k + t
  · rw [if_pos c, h j c.1]
    by_cases c2 : k ≤ j ∧ j < k + t
    · rw [if_pos c2, if_pos c2]
    · rw [if_neg c2, if_neg c2, if_pos (by omega)]
  · rw [if_neg c, if_neg (by omega), if_neg (by omega)]
def tz_ (w p : Int) (T : Int → Int) : Int × Int × (Int → Int) := if w = 0 then (0, p, T) else td_e w
theorem td_fin {A : Int → Int32} {en al w k p : Int} {L3 T : Int → Int} {m : Nat} (h : w = 0 → al ≤ k) : td_g A en L3 al m w k p T = tz_ w p T := by
  unfold tz_
  by_cases c : w = 0
  · rw [td_end c (h c), if_pos c]
  · rw [td_w c, if_neg c]
theorem th_fin {A : Int → Int32} {en F w k p : Int} {o T : Int → Int} {m : Nat} (h : w = 0 → F ≤ k) : th_g A en F o m w k p T = tz_ w p T := by
  unfold tz_
  by_cases c : w = 0
  · rw [th_end c (h c), if_pos c]
  · rw [th_w c, if_neg c]
/-- the same, whatever stands behind a fault -/
theorem td_go2 {A : Int → Int32} {en al k k2 p s f1 a1 w1 r f2 a2 w2 t v : Int} {L3 T T2 : Int → Int} {m m2 : Nat} (hm : m = m2 + 1) (hk : k < al) (e1 : sy_w A en L3 19 0 p = oc_ f1 s a1) (hw1 : w1 = if f1 = 0 ∧ s = 16 ∧ k = 0 then 4 else f1) (e2 : nu_w A en w1 a1 (tb_ s) = oc_ f2 r a2) (ht : f2 = 0 → t = tl_ s + r) (hw2 : w2 = if f2 = 0 ∧ al - k < t then 4 else f2) (hv : w2 = 0 → v = if s < 16 then s else if s = 16 then T (k - 1) else 0) (hk2 : w2 = 0 → k2 = k + t) (hT : w2 = 0 → T2 = fi_ T k t v) : td_g A en L3 al m 0 k p T = td_g A en L3 al m2 w2 k2 a2 T2 := by
  have h := td_go (k2 := k + t) (v := if s < 16 then s else if s = 16 then T (k - 1) else 0) hm hk e1 hw1 e2 ht hw2 (fun _ => rfl) (fun _ => rfl)
  rw [h]
  by_cases c : w2 = 0
  · rw [hk2 c, hT c, hv c]
  · rw [td_w c, td_w c]
theorem cs_cong {sz n : Int} {fc fy : Nat → Int32} {L M : Int → Int} (h : cs_R sz fc fy L n) (e : L = M) : cs_R sz fc fy M n := by
  subst e
  exact h
/-- the order in which the third code's numbers of bits stand -/
def od_ (j : Int) : Int := (pb_third.getD j.toNat 0).toInt
theorem od_E {z i : Int32} (e : z = pb_third.getD i.toNatClampNeg 0) : z.toInt = od_ i.toInt := by
  rw [e]
  rfl
theorem tn_up {f : Nat → Int32} {i v : Int32} {o n r : Int} (hi : i.toInt = o) (h0 : 0 ≤ o) (h1 : o < n) (hv : v.toInt = r) : tn_ (upd f i.toNatClampNeg v) n = fi_ (tn_ f n) o 1 r := by
  funext j
  unfold tn_ fi_
  try dsimp only
  by_cases c : 0 ≤ j ∧ j < n
  · rw [if_pos c, gx_upd hi j h0 c.1]
    by_cases c2 : j = o
    · rw [if_pos c2, if_pos (by omega), hv]
    · rw [if_neg c2, if_neg (by omega), if_pos c]
  · rw [if_neg c, if_neg (by omega), if_neg c]
theorem co_zw {w p a b : Int} {T : Int → Int} (h : ¬ w = 0) : co_z w p a b T = ce_ w := if_neg h
/-- what the class looks at when all is told: whether the first is right, the symbol 256, whether the second has symbols and is right -/
theorem cc_fin {A : Int → Int32} {en a b w p w2 w3 p2 r1 r2 v s : Int} {T T3 : Int → Int} (e : td_g A en T3 (a + b) (a + b).toNat w 0 p (fun _ => 0) = tz_ w2 p2 T) (h1 : w2 = 0 → r1 = rt_f T a) (hv : w2 = 0 → v = T 256) (hs : w2 = 0 → s = lt_ (fun k => T (a + k)) 16 b.toNat) (h2 : w2 = 0 → r2 = rt_f (fun k => T (a + k)) b) (hw : (r1 = 1 ∧ ¬ v = 0 ∧ (s = 0 ∨ r2 = 1)) ∧ w3 = w2 ∨ ¬ (r1 = 1 ∧ ¬ v = 0 ∧ (s = 0 ∨ r2 = 1)) ∧ (w2 = 0 ∧ w3 = 4 ∨ ¬ w2 = 0 ∧ w3 = w2)) : cc_2 A en a b w p T3 = co_z w3 p2 a b T := by
  refine cc_td (w2 := w2) e ?_
  by_cases c : w2 = 0
  · have e1 := h1 c
    have e2 := hv c
    have e3 := hs c
    have e4 := h2 c
    by_cases ok : cc_ok T a b
    · refine Or.inl ⟨c, ok, ?_⟩
      unfold cc_ok at ok
      rw [← e1, ← e2, ← e3, ← e4] at ok
      rcases hw with ⟨_, h⟩ | ⟨h, _⟩
      · omega
      · exact absurd ok h
    · refine Or.inr (Or.inl ⟨c, ok, ?_⟩)
      unfold cc_ok at ok
      rw [← e1, ← e2, ← e3, ← e4] at ok
      rcases hw with ⟨h, _⟩ | ⟨_, h⟩
      · exact absurd h ok
      · omega
  · exact Or.inr (Or.inr ⟨c, by omega⟩)
theorem bk_st {A : Int → Int32} {en w p s kd w2 p2 s2 : Int} {o : Int → Int} {X X2 : Int → Int32} (e : st_f A en w p s X = oz_ w2 p2 s2 X2) (h : kd = 0) : bk_f A en o w p s X kd = oz_ w2 p2 s2 X2 := by
  by_cases c : w = 0
  · rw [c] at e ⊢
    rw [bk_0 h, e]
  · rw [bk_w c, ← e, st_fw c]
theorem sl_fw {A : Int → Int32} {en n k w p s : Int} {L M : Int → Int} {X : Int → Int32} (h : ¬ w = 0) : sl_f A en L n M k w p s X = er_ w := sl_w h
theorem bk_sy {A : Int → Int32} {en w p s kd w2 p2 s2 : Int} {o : Int → Int} {X X2 : Int → Int32} (e : sl_f A en fx_1 288 fx_2 32 w p s X = oz_ w2 p2 s2 X2) (h : kd = 1) : bk_f A en o w p s X kd = oz_ w2 p2 s2 X2 := by
  by_cases c : w = 0
  · rw [c] at e ⊢
    rw [bk_1 h, e]
  · rw [bk_w c, ← e, sl_fw c]
theorem cc_fw {A : Int → Int32} {en w p : Int} {o : Int → Int} (h : ¬ w = 0) : cc_f A en o w p = ce_ w := by
  rw [cc_go (f1 := w) (r1 := 0) (a1 := 0) (f2 := w) (r2 := 0) (a2 := 0) (f3 := w) (r3 := 0) (a3 := 0) (w4 := w) (F1 := 257) (F2 := 1) (F3 := 4) (by rw [nu_ww h, oc_w h]) (by rw [nu_ww h, oc_w h]) (by rw [nu_ww h, oc_w h]) (by omega) (by omega) (by omega) (by omega), cc_1w h]
theorem bk_co {A : Int → Int32} {en w p s kd w1 p1 a b w2 p2 s2 : Int} {o T : Int → Int} {X X2 : Int → Int32} (e1 : cc_f A en o w p = co_z w1 p1 a b T) (e2 : sl_f A en T a (fun j => T (a + j)) b w1 p1 s X = oz_ w2 p2 s2 X2) (h : kd = 2) : bk_f A en o w p s X kd = oz_ w2 p2 s2 X2 := by
  by_cases c : w = 0
  · rw [c] at e1 ⊢
    rw [bk_2 h e1, e2]
  · rw [cc_fw c] at e1
    have hw : w1 = w := by
      by_cases d : w1 = 0
      · have z := congrArg Prod.fst e1
        unfold co_z at z
        rw [if_pos d] at z
        exact absurd z c
      · rw [co_zw d] at e1
        exact (congrArg Prod.fst e1).symm
    rw [bk_w c, ← e2, hw, sl_fw c]
theorem bk_no {A : Int → Int32} {en w p s kd w2 p2 s2 : Int} {o : Int → Int} {X X2 : Int → Int32} (h : ¬ kd = 0 ∧ ¬ kd = 1 ∧ ¬ kd = 2) (hw : w = 0 ∧ w2 = 2 ∨ ¬ w = 0 ∧ w2 = w) : bk_f A en o w p s X kd = oz_ w2 p2 s2 X2 := by
  rw [oz_w (by omega)]
  by_cases c : w = 0
  · have e : w2 = 2 := by omega
    rw [c, bk_3 h, e]
  · have e : w2 = w := by omega
    rw [bk_w c, e]
theorem bl_fin {en f p s w : Int} {X : Int → Int32} {R : Int × Int × Int × (Int → Int32)} (h : R = bl_e en f p s X) (hw : f = 0 ∧ p + 7 < en ∧ w = 8 ∨ f = 0 ∧ ¬ p + 7 < en ∧ w = 0 ∨ ¬ f = 0 ∧ w = f) : R = oz_ w p s X := by
  rw [h]
  unfold bl_e
  rcases hw with ⟨h1, h2, h3⟩ | ⟨h1, h2, h3⟩ | ⟨h1, h3⟩
  · rw [if_pos h1, if_pos h2, oz_w (by omega), h3]
  · rw [if_pos h1, if_neg h2, oz_0 h3]
  · rw [if_neg h1, oz_w (by omega), h3]
/-- a block is read: the loop goes on, or is at its end -/
theorem bl_on {A : Int → Int32} {en p s f1 r1 a1 f2 kd a2 w3 p3 s3 : Int} {o : Int → Int} {X X3 : Int → Int32} {m m2 : Nat} {R : Int × Int × Int × (Int → Int32)} (h : bl_g A en o m 0 p s X = R) (hm : m = m2 + 1) (e1 : nu_w A en 0 p 1 = oc_ f1 r1 a1) (e2 : nu_w A en f1 a1 2 = oc_ f2 kd a2) (e3 : bk_f A en o f2 a2 s X kd = oz_ w3 p3 s3 X3) (hr : ¬ r1 = 1) : bl_g A en o m2 w3 p3 s3 X3 = R := by
  rw [← h, bl_go hm e1 e2 e3, if_neg hr]
theorem bl_of {A : Int → Int32} {en p s f1 r1 a1 f2 kd a2 w3 p3 s3 : Int} {o : Int → Int} {X X3 : Int → Int32} {m m2 : Nat} {R : Int × Int × Int × (Int → Int32)} (h : bl_g A en o m 0 p s X = R) (hm : m = m2 + 1) (e1 : nu_w A en 0 p 1 = oc_ f1 r1 a1) (e2 : nu_w A en f1 a1 2 = oc_ f2 kd a2) (e3 : bk_f A en o f2 a2 s X kd = oz_ w3 p3 s3 X3) (hr : r1 = 1) : R = bl_e en w3 p3 s3 X3 := by
  rw [← h, bl_go hm e1 e2 e3, if_pos hr]
/-- the reference's counting, on the numbers that it has in its array -/
theorem nt_no {L : Int → Int} {b s s2 i : Int} {m m2 : Nat} (hm : m = m2 + 1) (h : ¬ L s = b) (hs : s2 = s + 1) : nt_ L b m s i = nt_ L b m2 s2 i := by
  subst hm hs
  rw [nt_, if_neg h]
theorem nt_ye {L : Int → Int} {b s s2 i i2 : Int} {m m2 : Nat} (hm : m = m2 + 1) (h : L s = b) (hi : 0 < i) (hs : s2 = s + 1) (hi2 : i2 = i - 1) : nt_ L b m s i = nt_ L b m2 s2 i2 := by
  subst hm hs hi2
  rw [nt_, if_pos h, if_neg (by omega)]
theorem nt_fo {L : Int → Int} {b s i r : Int} {m : Nat} (h0 : m ≠ 0) (h : L s = b) (hi : i ≤ 0) (hr : r = s) : nt_ L b m s i = r := by
  subst hr
  cases m with
  | zero => exact absurd rfl h0
  | succ m => rw [nt_, if_pos h, if_pos hi]
theorem nu_b1 {A : Int → Int32} {en p w v q : Int} (h : nu_w A en 0 p 1 = oc_ w v q) : w = 0 ∧ v = bi_ A p ∧ q = p + 1 ∧ p < en ∨ w = 1 ∧ en ≤ p := by
  by_cases c : p + 1 ≤ en
  · rw [nu_w0 c] at h
    by_cases d : w = 0
    · rw [oc_0 d] at h
      have h1 := (Prod.mk.inj h).2
      have h2 := Prod.mk.inj h1
      have e : (nu_v A p (1 : Int).toNat).toInt = bi_ A p := nu_1 A p
      exact Or.inl ⟨d, by omega, by omega, by omega⟩
    · rw [oc_w d] at h
      exact absurd (Prod.mk.inj h).1.symm d
  · rw [nu_w1 c] at h
    by_cases d : w = 0
    · rw [oc_0 d] at h
      have h1 := (Prod.mk.inj h).1
      omega
    · rw [oc_w d] at h
      have h1 := (Prod.mk.inj h).1
      exact Or.inr ⟨h1.symm, by omega⟩
/-- where the reference keeps the j-th number of bits that is told, F symbols of the first code being told -/
def ta_ (F j : Int) : Int := if j < F then j else 300 + j - F
def tm_ (g : Nat → Int32) (F k : Int) : Int → Int := fun j => if 0 ≤ j ∧ j < k then gx g (ta_ F j) else 0
theorem tm_0 {g : Nat → Int32} {F k : Int} (h : k ≤ 0) : tm_ g F k = fun _ => 0 := by
  funext j
  exact if_neg (by omega)
theorem tm_at {g : Nat → Int32} {F k j : Int} (h0 : 0 ≤ j) (h1 : j < k) : tm_ g F k j = gx g (ta_ F j) := if_pos ⟨h0, h1⟩
theorem ta_lo {F j : Int} (h : j < F) : ta_ F j = j := if_pos h
theorem ta_hi {F j : Int} (h : ¬ j < F) : ta_ F j = 300 + j - F := if_neg h
theorem ta_inj {F i j : Int} (h0 : 0 ≤ i) (h1 : 0 ≤ j) (hF : F ≤ 300) (h : ta_ F i = ta_ F j) : i = j := by
  unfold ta_ at h
  split at h <;> split at h <;> omega
theorem ta_rng {F j al : Int} (h0 : 0 ≤ j) (h1 : j < al) (hF : 0 ≤ F) (hF2 : F ≤ 300) (ha : al - F ≤ 100) : 0 ≤ ta_ F j ∧ ta_ F j < 400 := by
  unfold ta_
  split <;> omega
theorem tm_fi {f g : Nat → Int32} {F al k t v k2 e : Int} (h : ∀ j : Int, 0 ≤ j → j < al → gx g (ta_ F j) = if k ≤ j ∧ j < e then v else gx f (ta_ F j)) (h0 : 0 ≤ k) (h1 : 0 ≤ t) (he : e = k + t) (ha : k + t ≤ al) (hk : k2 = k + t) : tm_ g F k2 = fi_ (tm_ f F k) k t v := by
  subst he hk
  funext j
  unfold tm_ fi_
  try dsimp only
  by_cases c : 0 ≤ j ∧ j < k + t
  · rw [if_pos c, h j c.1 (by omega)]
    by_cases c2 : k ≤ j ∧ j < k + t
    · rw [if_pos c2, if_pos c2]
    · rw [if_neg c2, if_neg c2, if_pos (by omega)]
  · rw [if_neg c, if_neg (by omega), if_neg (by omega)]
theorem tb_lo {s : Int} (h : s < 16) : tb_ s = 0 ∧ tl_ s = 1 := ⟨if_pos h, if_pos h⟩
theorem tb_16 {s : Int} (h : s = 16) : tb_ s = 2 ∧ tl_ s = 3 := by
  subst h
  exact ⟨rfl, rfl⟩
theorem tb_17 {s : Int} (h : s = 17) : tb_ s = 3 ∧ tl_ s = 3 := by
  subst h
  exact ⟨rfl, rfl⟩
theorem tb_18 {s : Int} (h : 18 ≤ s) : tb_ s = 7 ∧ tl_ s = 11 := by
  unfold tb_ tl_
  rw [if_neg (by omega), if_neg (by omega), if_neg (by omega), if_neg (by omega), if_neg (by omega)]
  exact ⟨rfl, rfl⟩
/-- what one call of tell does, from the symbol on -/
theorem tm_put {g f : Nat → Int32} {F al k i i2 v : Int} {r x : Int32} (h : ∀ j : Int, 0 ≤ j → j < al → gx g (ta_ F j) = if k ≤ j ∧ j < k + i then v else gx f (ta_ F j)) (hF : 0 ≤ F) (hF2 : F ≤ 300) (ha : al - F ≤ 100) (hk : 0 ≤ k) (h0 : 0 ≤ i) (hr : r.toInt = ta_ F (k + i)) (hx : x.toInt = v) (hi : i2 = i + 1) : ∀ j : Int, 0 ≤ j → j < al → gx (upd g r.toNatClampNeg x) (ta_ F j) = if k ≤ j ∧ j < k + i2 then v else gx f (ta_ F j) := fun j j0 j1 => by
  subst hi
  have b1 := ta_rng j0 j1 hF hF2 ha
  have b2 : 0 ≤ ta_ F (k + i) := by
    unfold ta_
    split <;> omega
  rw [gx_upd hr _ b2 b1.1]
  by_cases c : j = k + i
  · rw [c, if_pos rfl, if_pos (by omega), hx]
  · rw [if_neg (fun z => c (ta_inj j0 (by omega) hF2 z)), h j j0 j1]
    by_cases d : k ≤ j ∧ j < k + i
    · rw [if_pos d, if_pos (by omega)]
    · rw [if_neg d, if_neg (by omega)]
/-- the third code's numbers of bits, where the reference keeps them -/
def t3_ (g : Nat → Int32) : Int → Int := fun j => if 0 ≤ j ∧ j < 19 then gx g (400 + j) else 0
theorem t3_at {g : Nat → Int32} {j : Int} (h0 : 0 ≤ j) (h1 : j < 19) : t3_ g j = gx g (400 + j) := if_pos ⟨h0, h1⟩
theorem t3_0 {g : Nat → Int32} (h : ∀ j : Int, 0 ≤ j → j < 19 → gx g (400 + j) = 0) : t3_ g = fun _ => 0 := by
  funext j
  unfold t3_
  split
  · rename_i c
    exact h j c.1 c.2
  · rfl
theorem t3_up {f : Nat → Int32} {i v : Int32} {o r : Int} (hi : i.toInt = 400 + o) (h0 : 0 ≤ o) (h1 : o < 19) (hv : v.toInt = r) : t3_ (upd f i.toNatClampNeg v) = fi_ (t3_ f) o 1 r := by
  funext j
  unfold t3_ fi_
  try dsimp only
  by_cases c : 0 ≤ j ∧ j < 19
  · rw [if_pos c, gx_upd hi (400 + j) (by omega) (by omega)]
    by_cases c2 : j = o
    · rw [if_pos (by omega), if_pos (by omega), hv]
    · rw [if_neg (by omega), if_neg (by omega), if_pos c]
  · rw [if_neg c, if_neg (by omega), if_neg c]
theorem t3_eq {f g : Nat → Int32} (h : ∀ j : Int, 400 ≤ j → j < 420 → gx g j = gx f j) : t3_ g = t3_ f := by
  funext j
  unfold t3_
  by_cases c : 0 ≤ j ∧ j < 19
  · rw [if_pos c, if_pos c, h (400 + j) (by omega) (by omega)]
  · rw [if_neg c, if_neg c]
/-- the reference asks in two steps whether the codes are right -/
theorem cc_fin2 {A : Int → Int32} {en a b w p w2 w3 w4 p2 r1 r2 v s : Int} {T T3 : Int → Int} (e : td_g A en T3 (a + b) (a + b).toNat w 0 p (fun _ => 0) = tz_ w2 p2 T) (h1 : w2 = 0 → r1 = rt_f T a) (hv : w2 = 0 → v = T 256) (hw3 : w2 = 0 ∧ r1 = 1 ∧ ¬ v = 0 ∧ w3 = 0 ∨ w2 = 0 ∧ ¬ (r1 = 1 ∧ ¬ v = 0) ∧ w3 = 4 ∨ ¬ w2 = 0 ∧ w3 = w2) (hs : w3 = 0 → s = lt_ (fun k => T (a + k)) 16 b.toNat) (h2 : w3 = 0 → r2 = rt_f (fun k => T (a + k)) b) (hw4 : w3 = 0 ∧ (s = 0 ∨ r2 = 1) ∧ w4 = 0 ∨ w3 = 0 ∧ ¬ (s = 0 ∨ r2 = 1) ∧ w4 = 4 ∨ ¬ w3 = 0 ∧ w4 = w3) : cc_2 A en a b w p T3 = co_z w4 p2 a b T := by
  by_cases c : w3 = 0
  · have c2 : w2 = 0 := by omega
    exact cc_fin e h1 hv (fun _ => hs c) (fun _ => h2 c) (by (exact omg_854dd63b58 hw3 hw4))
  · by_cases c2 : w2 = 0
    · exact cc_fin (s := lt_ (fun k => T (a + k)) 16 b.toNat) (r2 := rt_f (fun k => T (a + k)) b) e h1 hv (fun _ => rfl) (fun _ => rfl) (by (exact omg_8ebc790f96 hw3 hw4 c))
    · exact cc_fin (r1 := 0) (v := 0) (s := 0) (r2 := 0) e (fun q => absurd q c2) (fun q => absurd q c2) (fun q => absurd q c2) (fun q => absurd q c2) (by (exact omg_84c38e9821 hw3 hw4 c2))
/-- a number of no bits is not read: the reference's way -/
theorem nu_lb {A : Int → Int32} {en w p k v q : Int} (h : k < 8 ∨ 28 ≤ k) (hp : p ≤ en) (hv : v = 0) (hq : q = p) : nu_w A en w p (lb_f k) = oc_ w v q := by
  rw [show lb_f k = 0 from if_pos h]
  exact nu_wz hp hv hq
theorem nu_db {A : Int → Int32} {en w p d v q : Int} (h : d < 4) (hp : p ≤ en) (hv : v = 0) (hq : q = p) : nu_w A en w p (db_f d) = oc_ w v q := by
  rw [show db_f d = 0 from if_pos h]
  exact nu_wz hp hv hq
theorem lb_E {k n : Int} (h : ¬ (k < 8 ∨ 28 ≤ k)) (hn : n = k / 4 - 1) : lb_f k = n := by
  unfold lb_f
  rw [if_neg h, hn]
theorem db_E {d n : Int} (h : ¬ d < 4) (hn : n = d / 2 - 1) : db_f d = n := by
  unfold db_f
  rw [if_neg h, hn]
theorem ll_E {k r : Int} (h : (k < 8 ∧ r = 3 + (k)) ∨ (8 ≤ k ∧ k < 12 ∧ r = 3 + 2 * (k - 4)) ∨ (12 ≤ k ∧ k < 16 ∧ r = 3 + 4 * (k - 8)) ∨ (16 ≤ k ∧ k < 20 ∧ r = 3 + 8 * (k - 12)) ∨ (20 ≤ k ∧ k < 24 ∧ r = 3 + 16 * (k - 16)) ∨ (24 ≤ k ∧ k < 28 ∧ r = 3 + 32 * (k - 20)) ∨ (k = 28 ∧ r = 258)) : r = ll_f k := by
  unfold ll_f
  repeat (split; · omega)
  omega
theorem ld_E {d r : Int} (h : (d < 4 ∧ r = 1 + (d)) ∨ (4 ≤ d ∧ d < 6 ∧ r = 1 + 2 * (d - 2)) ∨ (6 ≤ d ∧ d < 8 ∧ r = 1 + 4 * (d - 4)) ∨ (8 ≤ d ∧ d < 10 ∧ r = 1 + 8 * (d - 6)) ∨ (10 ≤ d ∧ d < 12 ∧ r = 1 + 16 * (d - 8)) ∨ (12 ≤ d ∧ d < 14 ∧ r = 1 + 32 * (d - 10)) ∨ (14 ≤ d ∧ d < 16 ∧ r = 1 + 64 * (d - 12)) ∨ (16 ≤ d ∧ d < 18 ∧ r = 1 + 128 * (d - 14)) ∨ (18 ≤ d ∧ d < 20 ∧ r = 1 + 256 * (d - 16)) ∨ (20 ≤ d ∧ d < 22 ∧ r = 1 + 512 * (d - 18)) ∨ (22 ≤ d ∧ d < 24 ∧ r = 1 + 1024 * (d - 20)) ∨ (24 ≤ d ∧ d < 26 ∧ r = 1 + 2048 * (d - 22)) ∨ (26 ≤ d ∧ d < 28 ∧ r = 1 + 4096 * (d - 24)) ∨ (28 ≤ d ∧ d < 30 ∧ r = 1 + 8192 * (d - 26))) : r = ld_f d := by
  unfold ld_f
  repeat (split; · omega)
  omega

theorem fx1_rng (k : Int) : 0 ≤ fx_1 k ∧ fx_1 k ≤ 15 := by
  unfold fx_1
  (repeat' split) <;> omega
theorem lit_od {f : Nat → Int32} (h : ∀ j : Nat, j < 19 → f j = pb_third.getD j 0) : ∀ x : Int, 0 ≤ x → x < 19 → gx f x = od_ x := fun x h0 h1 => by
  unfold gx od_
  rw [h x.toNat (by omega)]
/-- the answer of expand -/
def ea_ (o : Int × Int × Int × (Int → Int32)) : Int := if o.1 = 0 then o.2.2.1 else - o.1
theorem ea_E {R : Int × Int × Int × (Int → Int32)} {w p s r : Int} {X : Int → Int32} (h : R = oz_ w p s X) (hr : w = 0 ∧ r = s ∨ 0 < w ∧ r = - w) : r = ea_ R := by
  rw [h]
  rcases hr with ⟨h1, h2⟩ | ⟨h1, h2⟩
  · rw [oz_0 h1]
    show r = if (0 : Int) = 0 then s else - 0
    rw [if_pos rfl, h2]
  · rw [oz_w (by omega)]
    show r = if w = 0 then 0 else - w
    rw [if_neg (by omega), h2]

/-- what expand leaves, if it made something -/
def xo_ (R : Int × Int × Int × (Int → Int32)) (f : Nat → Int32) (z : Int) : Prop := R.1 = 0 ∧ R.2.2.1 = z ∧ R.2.2.2 = sq f 0 z
theorem xo_E {R : Int × Int × Int × (Int → Int32)} {w p s z : Int} {f g : Nat → Int32} (h : R = oz_ w p s (sq f 0 s)) (hw : w = 0) (hz : z = s) (r : rl_B f g s) : xo_ R g z := by
  subst hz
  rw [h, oz_0 hw]
  refine ⟨rfl, rfl, ?_⟩
  show sq f 0 z = sq g 0 z
  funext j
  unfold sq
  split
  · rename_i c
    rw [r (0 + j) (by omega) (by omega)]
  · rfl
theorem xo_law {R : Int × Int × Int × (Int → Int32)} {cf of cf0 of0 : Nat → Int32} {c o c0 o0 a b : Int} (l1 : a < 0 → c = c0 ∧ cf = cf0) (l2 : 0 ≤ a → xo_ R cf c) (m1 : b < 0 → o = o0 ∧ of = of0) (m2 : 0 ≤ b → xo_ R of o) (e : a = b) (r0 : c0 = o0) (r1 : rl_B cf0 of0 c0) : c = o ∧ rl_B cf of c := by
  by_cases h : a < 0
  · obtain ⟨a1, a2⟩ := l1 h
    obtain ⟨b1, b2⟩ := m1 (by omega)
    subst a1 a2 b1 b2
    exact ⟨r0, r1⟩
  · obtain ⟨_, a2, a3⟩ := l2 (by omega)
    obtain ⟨_, b2, b3⟩ := m2 (by omega)
    have hc : c = o := a2.symm.trans b2
    subst hc
    refine ⟨rfl, fun j j0 j1 => ?_⟩
    have q := congrFun (a3.symm.trans b3) j
    rw [sq_ld j0 j1, sq_ld j0 j1] at q
    exact q
theorem ou_law {cf of : Nat → Int32} {c o k th i ov : Int} {r : Int32} (r0 : c = o) (r1 : rl_B cf of c) (kk : k = 0 ∨ k = 1) (l0 : k = 0 → 0 ≤ i ∧ i < c ∧ ov = (gr cf i &&& 255).toInt) (l1 : k = 1 → ¬ (0 ≤ i ∧ i < c)) (m0 : th = 0 ∧ 0 ≤ i ∧ i < o ∨ th = 1 ∧ ¬ (0 ≤ i ∧ i < o)) (m1 : th = 0 → r = gr of i &&& 255) : k = th ∧ (k = 0 → ov = r.toInt) := by
  subst r0
  rcases kk with h | h
  · obtain ⟨a1, a2, a3⟩ := l0 h
    have ht : th = 0 := by omega
    refine ⟨by omega, fun _ => ?_⟩
    rw [a3, m1 ht, r1 i a1 a2]
  · have a1 := l1 h
    exact ⟨by omega, fun q => absurd q (by omega)⟩
