theorem tw_rng (f : Nat → Int32) (k : Int) : 0 ≤ tw f k ∧ tw f k ≤ 65535 := sorry
/-- the places of a directory's entries -/
def dp_n (f : Nat → Int32) (a : Int) : Nat → Int
  | 0 => a
  | k + 1 => dp_n f a k + (46 + tw f (dp_n f a k + 28))
def dp (f : Nat → Int32) (a k : Int) : Int := dp_n f a k.toNat
theorem dp_0 (f : Nat → Int32) (a : Int) : dp f a 0 = a := sorry
theorem dp_s {f : Nat → Int32} {a k m : Int} (h : 0 ≤ k) (hm : m = k + 1) : dp f a m = dp f a k + (46 + tw f (dp f a k + 28)) := sorry
theorem dp_up (f : Nat → Int32) (a : Int) : ∀ (n : Nat) (k : Int), 0 ≤ k → dp f a k ≤ dp f a (k + n) := sorry
theorem dp_le {f : Nat → Int32} {a j k : Int} (h0 : 0 ≤ j) (h1 : j ≤ k) : dp f a j ≤ dp f a k := sorry
/-! READING A ROW OF BYTES AS A FILE: the pure picture -/
def aw (A : Int → Int32) (y : Int) : Nat → Int
  | 0 => 0
  | n + 1 => 256 * aw A (y + 1) n + (A y &&& 255).toInt
theorem av_aw {f : Nat → Int32} {A : Int → Int32} : ∀ (n : Nat) (y : Int), (∀ j : Int, y ≤ j → j < y + n → A j = gr f j) → av f y n = aw A y n := sorry
theorem av_A {f : Nat → Int32} {A : Int → Int32} {sz y : Int} (h : ∀ j : Int, 0 ≤ j → j < sz → A j = gr f j) (n : Nat) (h0 : 0 ≤ y) (h1 : y + n ≤ sz) : av f y n = aw A y n := sorry
theorem bz_255 (x : Int32) : (x &&& 255).toInt = x.toInt % 256 := sorry
theorem aw_2 (A : Int → Int32) (y : Int) : aw A y 2 = (A y).toInt % 256 + 256 * ((A (y + 1)).toInt % 256) := sorry
theorem aw_4 (A : Int → Int32) (y : Int) : aw A y 4 = (A y).toInt % 256 + 256 * ((A (y + 1)).toInt % 256) + 65536 * ((A (y + 2)).toInt % 256) + 16777216 * ((A (y + 3)).toInt % 256) := sorry
theorem aw2 (A : Int → Int32) (y : Int) : 0 ≤ aw A y 2 ∧ aw A y 2 ≤ 65535 := sorry
theorem aw4 (A : Int → Int32) (y : Int) : 0 ≤ aw A y 4 ∧ aw A y 4 < 4294967296 := sorry
theorem aw4_2 (A : Int → Int32) (y : Int) : aw A y 4 = aw A y 2 + 65536 * aw A (y + 2) 2 := sorry
theorem b8_inj {x y : Int32} (hx : -128 ≤ x.toInt ∧ x.toInt ≤ 127) (hy : -128 ≤ y.toInt ∧ y.toInt ≤ 127) (h : x.toInt % 256 = y.toInt % 256) : x = y := sorry
/-- the end; an entry; the directory -/
def ed_ (A : Int → Int32) (e : Int) : Prop := aw A e 4 = 101010256 ∧ aw A (e + 4) 4 = 0 ∧ aw A (e + 8) 2 = aw A (e + 10) 2 ∧ aw A (e + 20) 2 = 0
def ey_ (A : Int → Int32) (e : Int) : Prop := aw A e 4 = 33639248 ∧ aw A (e + 4) 4 = 1310740 ∧ aw A (e + 8) 2 = 0 ∧ (aw A (e + 10) 2 = 0 ∨ aw A (e + 10) 2 = 8) ∧ aw A (e + 30) 4 = 0 ∧ aw A (e + 34) 4 = 0 ∧ aw A (e + 38) 4 = 0
theorem ey_C {A : Int → Int32} {e : Int} (h : aw A (e + 4) 2 = 20) (h2 : aw A (e + 6) 2 = 20) : aw A (e + 4) 4 = 1310740 := sorry
theorem ey_D {A : Int → Int32} {e : Int} (h : aw A (e + 4) 4 = 1310740) : aw A (e + 4) 2 = 20 ∧ aw A (e + 6) 2 = 20 := sorry
def dz (A : Int → Int32) (x : Int) : Nat → Int
  | 0 => x
  | k + 1 => dz A x k + 46 + aw A (dz A x k + 28) 2
def dy_ (A : Int → Int32) (x e : Int) (n : Nat) : Prop := (∀ k : Nat, k < n → dz A x k + 46 ≤ e ∧ ey_ A (dz A x k)) ∧ dz A x n = e
theorem dz_up (A : Int → Int32) (x : Int) : ∀ m k : Nat, dz A x k + 46 * m ≤ dz A x (k + m) := sorry
theorem dz_in {A : Int → Int32} {x e : Int} {n k : Nat} (h : dy_ A x e n) (hk : k < n) : x ≤ dz A x k ∧ dz A x k + 46 + aw A (dz A x k + 28) 2 ≤ e ∧ dz A x (k + 1) = dz A x k + 46 + aw A (dz A x k + 28) 2 := sorry
theorem dz_lt {A : Int → Int32} {x e : Int} {n k : Nat} (h : dy_ A x e n) (hk : dz A x k < e) : k < n := sorry
theorem dy_no {A : Int → Int32} {x e : Int} {n k : Nat} (hk : k < n) (h : ¬ (dz A x k + 46 ≤ e ∧ ey_ A (dz A x k))) : ¬ dy_ A x e n := sorry
theorem dy_s {A : Int → Int32} {x e : Int} {k : Nat} (h : ∀ j : Nat, j < k → dz A x j + 46 ≤ e ∧ ey_ A (dz A x j)) (h2 : dz A x k + 46 ≤ e ∧ ey_ A (dz A x k)) : ∀ j : Nat, j < k + 1 → dz A x j + 46 ≤ e ∧ ey_ A (dz A x j) := sorry
/-- a record that says what its entry says -/
def rr_ (A : Int → Int32) (lim e : Int) : Prop := aw A (e + 42) 4 + 30 + aw A (e + 28) 2 + aw A (e + 20) 4 ≤ lim ∧ aw A (aw A (e + 42) 4) 4 = 67324752 ∧ (∀ k : Int, 0 ≤ k → k < 26 → A (e + 6 + k) = A (aw A (e + 42) 4 + 4 + k)) ∧ ∀ k : Int, 0 ≤ k → k < aw A (e + 28) 2 → A (e + 46 + k) = A (aw A (e + 42) 4 + 30 + k)
theorem rr_iff {A : Int → Int32} {lim e R : Int} (eR : R = aw A (e + 42) 4) (hB : ∀ j : Int, -128 ≤ (A j).toInt ∧ (A j).toInt ≤ 127) (hy : ey_ A e) : rr_ A lim e ↔ (R + 30 + aw A (e + 28) 2 + aw A (e + 20) 4 ≤ lim ∧ aw A R 4 = 67324752 ∧ aw A (R + 4) 4 = 20 ∧ aw A (R + 28) 2 = 0 ∧ (∀ k : Int, 0 ≤ k → k < 20 → A (R + 8 + k) = A (e + 10 + k)) ∧ ∀ k : Int, 0 ≤ k → k < aw A (e + 28) 2 → A (R + 30 + k) = A (e + 46 + k)) := sorry
/-- the bytes of an entry; those that are as it says -/
def bs_ (A : Int → Int32) (e s : Int) (d : Int → Int32) : Prop := (aw A (e + 10) 2 = 8 ∧ ∃ p : Int, ex_f A od_ (aw A (e + 42) 4 + 30 + aw A (e + 28) 2) (aw A (e + 20) 4) = oz_ 0 p s d) ∨ (¬ aw A (e + 10) 2 = 8 ∧ s = aw A (e + 20) 4 ∧ d = fun k => A (aw A (e + 42) 4 + 30 + aw A (e + 28) 2 + k))
theorem oz_0j {p s p' s' : Int} {d d' : Int → Int32} (h : oz_ 0 p s d = oz_ 0 p' s' d') : s = s' ∧ d = d' := sorry
theorem oz_ne {w p s p' s' : Int} {d d' : Int → Int32} (hw : ¬ w = 0) : ¬ oz_ w p s d = oz_ 0 p' s' d' := sorry
theorem bs_u {A : Int → Int32} {e s s' : Int} {d d' : Int → Int32} (h : bs_ A e s d) (k : bs_ A e s' d') : s = s' ∧ d = d' := sorry
def ok_ (A : Int → Int32) (e s : Int) (d : Int → Int32) : Prop := bs_ A e s d ∧ s = aw A (e + 24) 4 ∧ cw_ d s.toNat ^^^ (-1) = Int32.ofInt (aw A (e + 16) 4)
theorem ok_no {A : Int → Int32} {e s : Int} {d : Int → Int32} (h : bs_ A e s d) (n : ¬ (s = aw A (e + 24) 4 ∧ cw_ d s.toNat ^^^ (-1) = Int32.ofInt (aw A (e + 16) 4))) : ∀ (s' : Int) (d' : Int → Int32), ¬ ok_ A e s' d' := sorry
theorem ok_nz {A : Int → Int32} {e w p s0 : Int} {d0 : Int → Int32} (h8 : aw A (e + 10) 2 = 8) (h : ex_f A od_ (aw A (e + 42) 4 + 30 + aw A (e + 28) 2) (aw A (e + 20) 4) = oz_ w p s0 d0) (hw : ¬ w = 0) : ∀ (s : Int) (d : Int → Int32), ¬ ok_ A e s d := sorry
/-- AN ENTRY READ: the fault, or the parts with one more -/
def ai_ (A : Int → Int32) : Int → Int := fun j => (A j).toInt
def nm_ (A : Int → Int32) (x : Int) : Int → Int := fun k => (A (x + k)).toInt
def nq_ (A : Int → Int32) (e : Int) (V : VW_) : Prop := iA_ (ai_ A) (e + 46) (aw A (e + 28) 2) ∧ ∀ i : Int, 0 ≤ i → i < vC V → ¬ nE_ V i (aw A (e + 28) 2) (nm_ A (e + 46))
def en_R (A : Int → Int32) (lim e : Int) (V : VW_) (r : Int) (W : VW_) : Prop := (¬ rr_ A lim e → r = 3) ∧ (rr_ A lim e → ¬ nq_ A e V → r = 4) ∧ (rr_ A lim e → nq_ A e V → (∀ (s : Int) (d : Int → Int32), ¬ ok_ A e s d) → r = 5) ∧ ∀ (s : Int) (d : Int → Int32), rr_ A lim e → nq_ A e V → ok_ A e s d → (¬ RM_ V (nm_ A (e + 46)) (aw A (e + 28) 2) s → r = 6) ∧ (RM_ V (nm_ A (e + 46)) (aw A (e + 28) 2) s → r = 0 ∧ AD_ V (nm_ A (e + 46)) (aw A (e + 28) 2) s d W)
theorem en_3 {A : Int → Int32} {lim e r : Int} {V W : VW_} (hr : r = 3) (h : ¬ rr_ A lim e) : en_R A lim e V r W := sorry
theorem en_4 {A : Int → Int32} {lim e r : Int} {V W : VW_} (hr : r = 4) (h : rr_ A lim e) (h2 : ¬ nq_ A e V) : en_R A lim e V r W := sorry
theorem en_5 {A : Int → Int32} {lim e r : Int} {V W : VW_} (hr : r = 5) (h : rr_ A lim e) (h2 : nq_ A e V) (h3 : ∀ (s : Int) (d : Int → Int32), ¬ ok_ A e s d) : en_R A lim e V r W := sorry
theorem en_6 {A : Int → Int32} {lim e r s : Int} {d : Int → Int32} {V W : VW_} (hr : r = 6) (h : rr_ A lim e) (h2 : nq_ A e V) (h3 : ok_ A e s d) (h4 : ¬ RM_ V (nm_ A (e + 46)) (aw A (e + 28) 2) s) : en_R A lim e V r W := sorry
theorem en_0 {A : Int → Int32} {lim e r s : Int} {d : Int → Int32} {V W : VW_} (hr : r = 0) (h : rr_ A lim e) (h2 : nq_ A e V) (h3 : ok_ A e s d) (h4 : RM_ V (nm_ A (e + 46)) (aw A (e + 28) 2) s) (h5 : AD_ V (nm_ A (e + 46)) (aw A (e + 28) 2) s d W) : en_R A lim e V r W := sorry
theorem en_u {A : Int → Int32} {lim e r r' : Int} {V W W' : VW_} (hs : srt_ V) (h : en_R A lim e V r W) (k : en_R A lim e V r' W') : r = r' ∧ (r = 0 → W = W') := sorry
theorem en_srt {A : Int → Int32} {lim e r : Int} {V W : VW_} (hs : srt_ V) (h : en_R A lim e V r W) (hr : r = 0) : srt_ W := sorry
/-- ENTRIES, one behind the other -/
def nl_ : VW_ := (0, fun _ => 0, fun _ _ => 0, fun _ => 0, fun _ _ => 0)
theorem srt_nl : srt_ nl_ := sorry
def rs_ (A : Int → Int32) (x : Int) : Nat → Int → VW_ → Prop
  | 0, r, W => r = 0 ∧ W = nl_
  | k + 1, r, W => ∃ (r1 : Int) (V1 : VW_), rs_ A x k r1 V1 ∧ ((¬ r1 = 0 ∧ r = r1) ∨ (r1 = 0 ∧ en_R A x (dz A x k) V1 r W))
theorem rs_0 {A : Int → Int32} {x r : Int} (h : r = 0) : rs_ A x 0 r nl_ := sorry
theorem rs_s {A : Int → Int32} {x r r1 : Int} {k : Nat} {V W : VW_} (h : rs_ A x k r1 V) (h1 : r1 = 0) (e : en_R A x (dz A x k) V r W) : rs_ A x (k + 1) r W := sorry
theorem rs_up {A : Int → Int32} {x r : Int} {k : Nat} {W : VW_} (h : rs_ A x k r W) (hr : ¬ r = 0) : ∀ m : Nat, rs_ A x (k + m) r W := sorry
theorem rs_to {A : Int → Int32} {x r : Int} {k n : Nat} {W : VW_} (h : rs_ A x k r W) (hk : k ≤ n) (hr : r = 0 → k = n) : rs_ A x n r W := sorry
theorem rs_srt {A : Int → Int32} {x : Int} : ∀ (k : Nat) {r : Int} {W : VW_}, rs_ A x k r W → r = 0 → srt_ W := sorry
theorem rs_u {A : Int → Int32} {x : Int} : ∀ (k : Nat) {r r' : Int} {W W' : VW_}, rs_ A x k r W → rs_ A x k r' W' → r = r' ∧ (r = 0 → W = W') := sorry
/-- THE WHOLE READING -/
def dw_ (A : Int → Int32) (e : Int) : Prop := aw A (e + 16) 4 + aw A (e + 12) 4 = e ∧ dy_ A (aw A (e + 16) 4) e (aw A (e + 8) 2).toNat
def rd_ (A : Int → Int32) (sz r : Int) (W : VW_) : Prop := (¬ (22 ≤ sz ∧ ed_ A (sz - 22)) → r = 1) ∧ (22 ≤ sz ∧ ed_ A (sz - 22) → ¬ dw_ A (sz - 22) → r = 2) ∧ (22 ≤ sz ∧ ed_ A (sz - 22) → dw_ A (sz - 22) → rs_ A (aw A (sz - 22 + 16) 4) (aw A (sz - 22 + 8) 2).toNat r W)
theorem rd_1 {A : Int → Int32} {sz r : Int} {W : VW_} (hr : r = 1) (h : ¬ (22 ≤ sz ∧ ed_ A (sz - 22))) : rd_ A sz r W := sorry
theorem rd_2 {A : Int → Int32} {sz r : Int} {W : VW_} (hr : r = 2) (h : 22 ≤ sz ∧ ed_ A (sz - 22)) (h2 : ¬ dw_ A (sz - 22)) : rd_ A sz r W := sorry
theorem rd_3 {A : Int → Int32} {sz r : Int} {W : VW_} (h : 22 ≤ sz ∧ ed_ A (sz - 22)) (h2 : dw_ A (sz - 22)) (h3 : rs_ A (aw A (sz - 22 + 16) 4) (aw A (sz - 22 + 8) 2).toNat r W) : rd_ A sz r W := sorry
theorem rd_u {A : Int → Int32} {sz r r' : Int} {W W' : VW_} (h : rd_ A sz r W) (k : rd_ A sz r' W') : r = r' ∧ (r = 0 → W = W') := sorry
theorem rd_srt {A : Int → Int32} {sz r : Int} {W : VW_} (h : rd_ A sz r W) (hr : r = 0) : srt_ W := sorry
/-- views that are the same where they are looked at -/
def vE_ (V W : VW_) : Prop := vC V = vC W ∧ ∀ i : Int, 0 ≤ i → i < vC V → vZ V i = vZ W i ∧ vS V i = vS W i ∧ (∀ k : Int, 0 ≤ k → k < vZ V i → vN V i k = vN W i k) ∧ ∀ k : Int, 0 ≤ k → k < vS V i → vD V i k = vD W i k
theorem rC_vE {c : Int} {fn fz fb fg : Nat → Int32} {V W : VW_} (h : rC_ c fn fz fb fg V) (e : vE_ V W) : rC_ c fn fz fb fg W := sorry
theorem vin_vE {V : VW_} {r m s : Int} {a a' : Int → Int} {d d' : Int → Int32} (ha : ∀ k : Int, 0 ≤ k → k < m → a k = a' k) (hd : ∀ k : Int, 0 ≤ k → k < s → d k = d' k) : vE_ (vin_ V r m a s d) (vin_ V r m a' s d') := sorry
theorem vse_vE {V : VW_} {q m s : Int} {a a' : Int → Int} {d d' : Int → Int32} (ha : ∀ k : Int, 0 ≤ k → k < m → a k = a' k) (hd : ∀ k : Int, 0 ≤ k → k < s → d k = d' k) : vE_ (vse_ V q m a s d) (vse_ V q m a' s d') := sorry
theorem AD_R {c c2 n m : Int} {fn fz fb fg fn2 fz2 fb2 fg2 : Nat → Int32} {V : VW_} {a a' : Int → Int} {d d' : Int → Int32} (R : rC_ c fn fz fb fg V) (I : sh_I c fz fg) (hs : srt_ V) (n0 : 0 ≤ n) (hno : ∀ i : Int, 0 ≤ i → i < vC V → ¬ nE_ V i n a') (ha : ∀ k : Int, 0 ≤ k → k < n → a k = a' k) (hd : ∀ k : Int, 0 ≤ k → k < m → d k = d' k) (h : ∃ r : Int, 0 ≤ r ∧ r ≤ c ∧ (∀ j : Int, 0 ≤ j → j < r → lx_ (vN V j) (vZ V j) a n) ∧ (r < c → ¬ lx_ (vN V r) (vZ V r) a n) ∧ rC_ c2 fn2 fz2 fb2 fg2 (vin_ V r n a m d)) : ∃ W : VW_, AD_ V a' n m d' W ∧ rC_ c2 fn2 fz2 fb2 fg2 W := sorry
theorem AD_d {V W : VW_} {a : Int → Int} {m s : Int} {d d' : Int → Int32} (h : AD_ V a m s d W) (hd : ∀ k : Int, 0 ≤ k → k < s → d k = d' k) : ∃ W' : VW_, AD_ V a m s d' W' ∧ vE_ W W' := sorry
theorem rM_vE {b c : Int} {z n s d : Nat → Int32} {V W : VW_} (h : rM_ b c z n s d V) (e : vE_ V W) : rM_ b c z n s d W := sorry
theorem rM_nil {b : Int} {z n s d : Nat → Int32} {V : VW_} (h : vC V = 0) : rM_ b 0 z n s d V := sorry
theorem sm_A {f : Nat → Int32} {A : Int → Int32} {Z P Q M p q n : Int} (hA : ∀ j : Int, 0 ≤ j → j < Z → A j = gr f j) (h : ∀ j : Int, 0 ≤ j → j < M → gx f (P + j) = gx f (Q + j)) (eP : P = p) (eQ : Q = q) (eM : M = n) (p0 : 0 ≤ p) (p1 : p + n ≤ Z) (q0 : 0 ≤ q) (q1 : q + n ≤ Z) : ∀ k : Int, 0 ≤ k → k < n → A (p + k) = A (q + k) := sorry
theorem sm_N {f : Nat → Int32} {A : Int → Int32} {Z P Q M p q n : Int} (hA : ∀ j : Int, 0 ≤ j → j < Z → A j = gr f j) (h : ¬ ∀ j : Int, 0 ≤ j → j < M → gx f (P + j) = gx f (Q + j)) (eP : P = p) (eQ : Q = q) (eM : M = n) (p0 : 0 ≤ p) (p1 : p + n ≤ Z) (q0 : 0 ≤ q) (q1 : q + n ≤ Z) : ¬ ∀ k : Int, 0 ≤ k → k < n → A (p + k) = A (q + k) := sorry
theorem iA_A {f : Nat → Int32} {A : Int → Int32} {Z X x n : Int} (hA : ∀ j : Int, 0 ≤ j → j < Z → A j = gr f j) (eX : X = x) (h0 : 0 ≤ x) (h1 : x + n ≤ Z) : iA_ (gx f) X n ↔ iA_ (ai_ A) x n := sorry
theorem nm_A {f : Nat → Int32} {A : Int → Int32} {Z X x n : Int} (hA : ∀ j : Int, 0 ≤ j → j < Z → A j = gr f j) (eX : X = x) (h0 : 0 ≤ x) (h1 : x + n ≤ Z) : ∀ k : Int, 0 ≤ k → k < n → (fun k => gx f (X + k)) k = nm_ A x k := sorry
theorem rr_y {A : Int → Int32} {lim e R n : Int} (eR : R = aw A (e + 42) 4) (en : n = aw A (e + 28) 2) (h1 : R + 30 + n + aw A (e + 20) 4 ≤ lim) (h : aw A R 4 = 67324752 ∧ (∀ k : Int, 0 ≤ k → k < 26 → A (e + 6 + k) = A (R + 4 + k)) ∧ ∀ k : Int, 0 ≤ k → k < n → A (e + 46 + k) = A (R + 30 + k)) : rr_ A lim e := sorry
theorem rr_n1 {A : Int → Int32} {lim e : Int} (h1 : ¬ aw A (e + 42) 4 + 30 + aw A (e + 28) 2 + aw A (e + 20) 4 ≤ lim) : ¬ rr_ A lim e := sorry
theorem rr_n2 {A : Int → Int32} {lim e R n : Int} (eR : R = aw A (e + 42) 4) (en : n = aw A (e + 28) 2) (h : ¬ (aw A R 4 = 67324752 ∧ (∀ k : Int, 0 ≤ k → k < 26 → A (e + 6 + k) = A (R + 4 + k)) ∧ ∀ k : Int, 0 ≤ k → k < n → A (e + 46 + k) = A (R + 30 + k))) : ¬ rr_ A lim e := sorry
theorem nq_i {A : Int → Int32} {e n : Int} {V : VW_} (en : n = aw A (e + 28) 2) (h : ¬ iA_ (ai_ A) (e + 46) n) : ¬ nq_ A e V := sorry
theorem nq_f {A : Int → Int32} {e n r : Int} {V : VW_} (en : n = aw A (e + 28) 2) (h : isF_ V n (nm_ A (e + 46)) r) (hr : 0 ≤ r) : ¬ nq_ A e V := sorry
theorem nq_y {A : Int → Int32} {e n r : Int} {V : VW_} (en : n = aw A (e + 28) 2) (hi : iA_ (ai_ A) (e + 46) n) (h : isF_ V n (nm_ A (e + 46)) r) (hr : r < 0) : nq_ A e V := sorry
/-- the bytes of an entry, as they lie -/
theorem ok_y {A : Int → Int32} {e s : Int} {d : Int → Int32} {f : Nat → Int32} {y : Int} {sm w : Int32} (hb : bs_ A e s d) (h1 : s = aw A (e + 24) 4) (hs : sm = cr_n f y s.toNat ^^^ (-1)) (hd : ∀ k : Int, 0 ≤ k → k < s → gr f (y + k) = d k) (hw : w = Int32.ofInt (aw A (e + 16) 4)) (hq : sm.toInt = w.toInt) (s0 : 0 ≤ s) : ok_ A e s d := sorry
theorem ok_x {A : Int → Int32} {e s : Int} {d : Int → Int32} {f : Nat → Int32} {y : Int} {sm w : Int32} (hb : bs_ A e s d) (hs : sm = cr_n f y s.toNat ^^^ (-1)) (hd : ∀ k : Int, 0 ≤ k → k < s → gr f (y + k) = d k) (hw : w = Int32.ofInt (aw A (e + 16) 4)) (hq : ¬ sm.toInt = w.toInt) (s0 : 0 ≤ s) : ∀ (s' : Int) (d' : Int → Int32), ¬ ok_ A e s' d' := sorry
theorem sq_at0 {f : Nat → Int32} {s k Y : Int} (hY : Y = 0) (h0 : 0 ≤ k) (h1 : k < s) : gr f (Y + k) = sq f 0 s k := sorry
/-! a byte changed -/
theorem i8_xor (a b : Int32) : (a ^^^ b).toInt8 = a.toInt8 ^^^ b.toInt8 := sorry
theorem i8_i8 (x : Int8) : x.toInt32.toInt8 = x := sorry
def xr_ (F : Int → Int32) (k : Int) (x : Int32) : Int → Int32 := fun j => if j = k then (F j ^^^ x).toInt8.toInt32 else F j
theorem xr_C {f : Nat → Int32} {k j : Int} {ix x y u v w : Int32} (h0 : 0 ≤ j) (hi : ix.toInt = k) (k0 : 0 ≤ k) (xj : w = gr f k) (xy : y = x.toInt8.toInt32) (xu : u = w ^^^ y) (xv : v = u.toInt8.toInt32) : gr (upd f ix.toNatClampNeg (vp_nar .byte v)) j = xr_ (gr f) k x j := sorry
theorem xr_xr {F : Int32} {x y u v w : Int32} (hF : -128 ≤ F.toInt ∧ F.toInt ≤ 127) (xj : w = (F ^^^ x).toInt8.toInt32) (xy : y = x.toInt8.toInt32) (xu : u = w ^^^ y) (xv : v = u.toInt8.toInt32) : v.toInt8.toInt32 = F := sorry
theorem xr_b {F : Int → Int32} {k : Int} {x : Int32} (h : ∀ j : Int, -128 ≤ (F j).toInt ∧ (F j).toInt ≤ 127) : ∀ j : Int, -128 ≤ (xr_ F k x j).toInt ∧ (xr_ F k x j).toInt ≤ 127 := sorry
theorem xr_R {f : Nat → Int32} {k : Int} {ix x y u v w y' u' v' w' : Int32} (hF : ∀ j : Int, -128 ≤ (gr f j).toInt ∧ (gr f j).toInt ≤ 127) (hi : ix.toInt = k) (k0 : 0 ≤ k) (xj : w = gr f k) (xy : y = x.toInt8.toInt32) (xu : u = w ^^^ y) (xv : v = u.toInt8.toInt32) (yj : w' = gr (upd f ix.toNatClampNeg (vp_nar .byte v)) k) (yy : y' = x.toInt8.toInt32) (yu : u' = w' ^^^ y') (yv : v' = u'.toInt8.toInt32) : ∀ j : Int, 0 ≤ j → gr (upd (upd f ix.toNatClampNeg (vp_nar .byte v)) ix.toNatClampNeg (vp_nar .byte v')) j = gr f j := sorry
theorem rd_e {A : Int → Int32} {sz r r' : Int} {W : VW_} (h : rd_ A sz r W) (e : r = r') : rd_ A sz r' W := sorry
theorem d_FileReader_isEnd_0 : decode prog_5_method_3_code 0 = .ok (.aload_n 0, 1) := sorry
theorem d_FileReader_isEnd_1 : decode prog_5_method_3_code 1 = .ok (.getfield 9, 3) := sorry
theorem d_FileReader_isEnd_4 : decode prog_5_method_3_code 4 = .ok (.iload_n 1, 1) := sorry
theorem d_FileReader_isEnd_5 : decode prog_5_method_3_code 5 = .ok (.invokestatic 28, 3) := sorry
theorem k_592 : (Jvm.Cond.methodLinkNest "PackageBook$FileReader" (28 : Nat) ({ cls := "PackageBook", name := "fourAt", desc := "([BI)J" } : Jvm.MethodName) "PackageBook") ∈ uN := sorry
theorem k_594 : (Jvm.Cond.code ({ cls := "PackageBook", name := "fourAt", desc := "([BI)J" } : Jvm.MethodName) prog_1_method_31_code (2 : Nat) (Option.some Jvm.ClassFile.FieldType.long)) ∈ uW := sorry
theorem k_593 : (Jvm.Cond.static ({ cls := "PackageBook", name := "fourAt", desc := "([BI)J" } : Jvm.MethodName)) ∈ uW := sorry
theorem hy_Book_fourAt : (y_Book_fourAt).cls ≠ "java/lang/invoke/MethodHandle" ∧ (y_Book_fourAt).cls ≠ "java/lang/invoke/VarHandle" ∧ (parseMethodDescriptor (y_Book_fourAt).desc).map (fun d => d.parameters.length) = some 2 := sorry
theorem d_FileReader_isEnd_8 : decode prog_5_method_3_code 8 = .ok (.ldc2_w 40, 3) := sorry
theorem k_598 : (Jvm.Cond.constantLong "PackageBook$FileReader" (40 : Nat) (101010256 : Int64)) ∈ uW := sorry
theorem d_FileReader_isEnd_11 : decode prog_5_method_3_code 11 = .ok (.lcmp, 1) := sorry
theorem d_FileReader_isEnd_12 : decode prog_5_method_3_code 12 = .ok (.ifCond .ne 61, 3) := sorry
theorem d_FileReader_isEnd_73 : decode prog_5_method_3_code 73 = .ok (.iconst 0, 1) := sorry
theorem d_FileReader_isEnd_74 : decode prog_5_method_3_code 74 = .ok (.ireturn, 1) := sorry
theorem d_FileReader_isEnd_15 : decode prog_5_method_3_code 15 = .ok (.aload_n 0, 1) := sorry
theorem d_FileReader_isEnd_16 : decode prog_5_method_3_code 16 = .ok (.getfield 9, 3) := sorry
theorem d_FileReader_isEnd_19 : decode prog_5_method_3_code 19 = .ok (.iload_n 1, 1) := sorry
theorem d_FileReader_isEnd_20 : decode prog_5_method_3_code 20 = .ok (.iconst 4, 1) := sorry
theorem d_FileReader_isEnd_21 : decode prog_5_method_3_code 21 = .ok (.iadd, 1) := sorry
theorem d_FileReader_isEnd_22 : decode prog_5_method_3_code 22 = .ok (.invokestatic 28, 3) := sorry
theorem d_FileReader_isEnd_25 : decode prog_5_method_3_code 25 = .ok (.lconst 0, 1) := sorry
theorem d_FileReader_isEnd_26 : decode prog_5_method_3_code 26 = .ok (.lcmp, 1) := sorry
theorem d_FileReader_isEnd_27 : decode prog_5_method_3_code 27 = .ok (.ifCond .ne 46, 3) := sorry
theorem d_FileReader_isEnd_30 : decode prog_5_method_3_code 30 = .ok (.aload_n 0, 1) := sorry
theorem d_FileReader_isEnd_31 : decode prog_5_method_3_code 31 = .ok (.getfield 9, 3) := sorry
theorem d_FileReader_isEnd_34 : decode prog_5_method_3_code 34 = .ok (.iload_n 1, 1) := sorry
theorem d_FileReader_isEnd_35 : decode prog_5_method_3_code 35 = .ok (.bipush 8, 2) := sorry
theorem d_FileReader_isEnd_37 : decode prog_5_method_3_code 37 = .ok (.iadd, 1) := sorry
theorem d_FileReader_isEnd_38 : decode prog_5_method_3_code 38 = .ok (.invokestatic 24, 3) := sorry
theorem k_599 : (Jvm.Cond.methodLinkNest "PackageBook$FileReader" (24 : Nat) ({ cls := "PackageBook", name := "twoAt", desc := "([BI)I" } : Jvm.MethodName) "PackageBook") ∈ uN := sorry
theorem d_FileReader_isEnd_41 : decode prog_5_method_3_code 41 = .ok (.aload_n 0, 1) := sorry
theorem d_FileReader_isEnd_42 : decode prog_5_method_3_code 42 = .ok (.getfield 9, 3) := sorry
theorem d_FileReader_isEnd_45 : decode prog_5_method_3_code 45 = .ok (.iload_n 1, 1) := sorry
theorem d_FileReader_isEnd_46 : decode prog_5_method_3_code 46 = .ok (.bipush 10, 2) := sorry
theorem d_FileReader_isEnd_48 : decode prog_5_method_3_code 48 = .ok (.iadd, 1) := sorry
theorem d_FileReader_isEnd_49 : decode prog_5_method_3_code 49 = .ok (.invokestatic 24, 3) := sorry
theorem d_FileReader_isEnd_52 : decode prog_5_method_3_code 52 = .ok (.if_icmp .ne 21, 3) := sorry
theorem d_FileReader_isEnd_55 : decode prog_5_method_3_code 55 = .ok (.aload_n 0, 1) := sorry
theorem d_FileReader_isEnd_56 : decode prog_5_method_3_code 56 = .ok (.getfield 9, 3) := sorry
theorem d_FileReader_isEnd_59 : decode prog_5_method_3_code 59 = .ok (.iload_n 1, 1) := sorry
theorem d_FileReader_isEnd_60 : decode prog_5_method_3_code 60 = .ok (.bipush 20, 2) := sorry
theorem d_FileReader_isEnd_62 : decode prog_5_method_3_code 62 = .ok (.iadd, 1) := sorry
theorem d_FileReader_isEnd_63 : decode prog_5_method_3_code 63 = .ok (.invokestatic 24, 3) := sorry
theorem d_FileReader_isEnd_66 : decode prog_5_method_3_code 66 = .ok (.ifCond .ne 7, 3) := sorry
theorem d_FileReader_isEnd_69 : decode prog_5_method_3_code 69 = .ok (.iconst 1, 1) := sorry
theorem d_FileReader_isEnd_70 : decode prog_5_method_3_code 70 = .ok (.goto 4, 3) := sorry
abbrev y_FileReader_isEnd : MethodName := ⟨"PackageBook$FileReader", "isEnd", "(I)Z"⟩
abbrev i_FileReader_isEnd : pb_I := (y_FileReader_isEnd, prog_5_method_3_code, 2, (some Jvm.ClassFile.FieldType.boolean), [], { frames := 2, cells := 0, slots := 0, locals := 42 })
theorem g_Rd_isEnd {l : Launch} (hl : l.stackTraces = false) (G : pb_G) (h : Nat) (b : Nat) (N : Nat) (f : Nat → Int32) (x : Int32) (A : Int → Int32) (Zs : Int) (h0 : 0 ≤ x.toInt) (h1 : x.toInt + 22 ≤ N) (hN : N ≤ 100000) (hA : ∀ j : Int, 0 ≤ j → j < Zs → A j = gr f j) (hZ : x.toInt + 22 ≤ Zs) (F_f : sb_Fit f) : Cn l G i_FileReader_isEnd [.ref h, .int x] [(h, .inr (7, [.ref b])), (b, .inl (G.2.1, N, .inl f))] (S := Int32) (fun rv_ u => rv_ = some (.int u) ∧ (u.toInt = 0 ∨ u.toInt = 1) ∧ (u.toInt = 1 → ed_ A x.toInt) ∧ (u.toInt = 0 → ¬ ed_ A x.toInt)) (fun u => [(h, .inr (7, [.ref b])), (b, .inl (G.2.1, N, .inl f))]) := sorry
theorem d_FileReader_isEntry_0 : decode prog_5_method_5_code 0 = .ok (.aload_n 0, 1) := sorry
theorem d_FileReader_isEntry_1 : decode prog_5_method_5_code 1 = .ok (.getfield 9, 3) := sorry
theorem d_FileReader_isEntry_4 : decode prog_5_method_5_code 4 = .ok (.iload_n 1, 1) := sorry
theorem d_FileReader_isEntry_5 : decode prog_5_method_5_code 5 = .ok (.bipush 10, 2) := sorry
theorem d_FileReader_isEntry_7 : decode prog_5_method_5_code 7 = .ok (.iadd, 1) := sorry
theorem d_FileReader_isEntry_8 : decode prog_5_method_5_code 8 = .ok (.invokestatic 24, 3) := sorry
theorem d_FileReader_isEntry_11 : decode prog_5_method_5_code 11 = .ok (.istore_n 2, 1) := sorry
theorem d_FileReader_isEntry_12 : decode prog_5_method_5_code 12 = .ok (.aload_n 0, 1) := sorry
theorem d_FileReader_isEntry_13 : decode prog_5_method_5_code 13 = .ok (.getfield 9, 3) := sorry
theorem d_FileReader_isEntry_16 : decode prog_5_method_5_code 16 = .ok (.iload_n 1, 1) := sorry
theorem d_FileReader_isEntry_17 : decode prog_5_method_5_code 17 = .ok (.invokestatic 28, 3) := sorry
theorem d_FileReader_isEntry_20 : decode prog_5_method_5_code 20 = .ok (.ldc2_w 45, 3) := sorry
theorem k_608 : (Jvm.Cond.constantLong "PackageBook$FileReader" (45 : Nat) (33639248 : Int64)) ∈ uW := sorry
theorem d_FileReader_isEntry_23 : decode prog_5_method_5_code 23 = .ok (.lcmp, 1) := sorry
theorem d_FileReader_isEntry_24 : decode prog_5_method_5_code 24 = .ok (.ifCond .ne 110, 3) := sorry
theorem d_FileReader_isEntry_134 : decode prog_5_method_5_code 134 = .ok (.iconst 0, 1) := sorry
theorem d_FileReader_isEntry_135 : decode prog_5_method_5_code 135 = .ok (.ireturn, 1) := sorry
theorem d_FileReader_isEntry_27 : decode prog_5_method_5_code 27 = .ok (.aload_n 0, 1) := sorry
theorem d_FileReader_isEntry_28 : decode prog_5_method_5_code 28 = .ok (.getfield 9, 3) := sorry
theorem d_FileReader_isEntry_31 : decode prog_5_method_5_code 31 = .ok (.iload_n 1, 1) := sorry
theorem d_FileReader_isEntry_32 : decode prog_5_method_5_code 32 = .ok (.iconst 4, 1) := sorry
theorem d_FileReader_isEntry_33 : decode prog_5_method_5_code 33 = .ok (.iadd, 1) := sorry
theorem d_FileReader_isEntry_34 : decode prog_5_method_5_code 34 = .ok (.invokestatic 24, 3) := sorry
theorem d_FileReader_isEntry_37 : decode prog_5_method_5_code 37 = .ok (.bipush 20, 2) := sorry
theorem d_FileReader_isEntry_39 : decode prog_5_method_5_code 39 = .ok (.if_icmp .ne 95, 3) := sorry
theorem d_FileReader_isEntry_42 : decode prog_5_method_5_code 42 = .ok (.aload_n 0, 1) := sorry
theorem d_FileReader_isEntry_43 : decode prog_5_method_5_code 43 = .ok (.getfield 9, 3) := sorry
theorem d_FileReader_isEntry_46 : decode prog_5_method_5_code 46 = .ok (.iload_n 1, 1) := sorry
theorem d_FileReader_isEntry_47 : decode prog_5_method_5_code 47 = .ok (.bipush 6, 2) := sorry
theorem d_FileReader_isEntry_49 : decode prog_5_method_5_code 49 = .ok (.iadd, 1) := sorry
theorem d_FileReader_isEntry_50 : decode prog_5_method_5_code 50 = .ok (.invokestatic 24, 3) := sorry
theorem d_FileReader_isEntry_53 : decode prog_5_method_5_code 53 = .ok (.bipush 20, 2) := sorry
theorem d_FileReader_isEntry_55 : decode prog_5_method_5_code 55 = .ok (.if_icmp .ne 79, 3) := sorry
theorem d_FileReader_isEntry_58 : decode prog_5_method_5_code 58 = .ok (.aload_n 0, 1) := sorry
theorem d_FileReader_isEntry_59 : decode prog_5_method_5_code 59 = .ok (.getfield 9, 3) := sorry
theorem d_FileReader_isEntry_62 : decode prog_5_method_5_code 62 = .ok (.iload_n 1, 1) := sorry
theorem d_FileReader_isEntry_63 : decode prog_5_method_5_code 63 = .ok (.bipush 8, 2) := sorry
theorem d_FileReader_isEntry_65 : decode prog_5_method_5_code 65 = .ok (.iadd, 1) := sorry
theorem d_FileReader_isEntry_66 : decode prog_5_method_5_code 66 = .ok (.invokestatic 24, 3) := sorry
theorem d_FileReader_isEntry_69 : decode prog_5_method_5_code 69 = .ok (.ifCond .ne 65, 3) := sorry
theorem d_FileReader_isEntry_72 : decode prog_5_method_5_code 72 = .ok (.iload_n 2, 1) := sorry
theorem d_FileReader_isEntry_73 : decode prog_5_method_5_code 73 = .ok (.ifCond .eq 9, 3) := sorry
theorem d_FileReader_isEntry_82 : decode prog_5_method_5_code 82 = .ok (.aload_n 0, 1) := sorry
theorem d_FileReader_isEntry_83 : decode prog_5_method_5_code 83 = .ok (.getfield 9, 3) := sorry
theorem d_FileReader_isEntry_86 : decode prog_5_method_5_code 86 = .ok (.iload_n 1, 1) := sorry
theorem d_FileReader_isEntry_87 : decode prog_5_method_5_code 87 = .ok (.bipush 30, 2) := sorry
theorem d_FileReader_isEntry_89 : decode prog_5_method_5_code 89 = .ok (.iadd, 1) := sorry
theorem d_FileReader_isEntry_90 : decode prog_5_method_5_code 90 = .ok (.invokestatic 28, 3) := sorry
theorem d_FileReader_isEntry_93 : decode prog_5_method_5_code 93 = .ok (.lconst 0, 1) := sorry
theorem d_FileReader_isEntry_94 : decode prog_5_method_5_code 94 = .ok (.lcmp, 1) := sorry
theorem d_FileReader_isEntry_95 : decode prog_5_method_5_code 95 = .ok (.ifCond .ne 39, 3) := sorry
theorem d_FileReader_isEntry_98 : decode prog_5_method_5_code 98 = .ok (.aload_n 0, 1) := sorry
theorem d_FileReader_isEntry_99 : decode prog_5_method_5_code 99 = .ok (.getfield 9, 3) := sorry
theorem d_FileReader_isEntry_102 : decode prog_5_method_5_code 102 = .ok (.iload_n 1, 1) := sorry
theorem d_FileReader_isEntry_103 : decode prog_5_method_5_code 103 = .ok (.bipush 34, 2) := sorry
theorem d_FileReader_isEntry_105 : decode prog_5_method_5_code 105 = .ok (.iadd, 1) := sorry
theorem d_FileReader_isEntry_106 : decode prog_5_method_5_code 106 = .ok (.invokestatic 28, 3) := sorry
theorem d_FileReader_isEntry_109 : decode prog_5_method_5_code 109 = .ok (.lconst 0, 1) := sorry
theorem d_FileReader_isEntry_110 : decode prog_5_method_5_code 110 = .ok (.lcmp, 1) := sorry
theorem d_FileReader_isEntry_111 : decode prog_5_method_5_code 111 = .ok (.ifCond .ne 23, 3) := sorry
theorem d_FileReader_isEntry_114 : decode prog_5_method_5_code 114 = .ok (.aload_n 0, 1) := sorry
theorem d_FileReader_isEntry_115 : decode prog_5_method_5_code 115 = .ok (.getfield 9, 3) := sorry
theorem d_FileReader_isEntry_118 : decode prog_5_method_5_code 118 = .ok (.iload_n 1, 1) := sorry
theorem d_FileReader_isEntry_119 : decode prog_5_method_5_code 119 = .ok (.bipush 38, 2) := sorry
theorem d_FileReader_isEntry_121 : decode prog_5_method_5_code 121 = .ok (.iadd, 1) := sorry
theorem d_FileReader_isEntry_122 : decode prog_5_method_5_code 122 = .ok (.invokestatic 28, 3) := sorry
theorem d_FileReader_isEntry_125 : decode prog_5_method_5_code 125 = .ok (.lconst 0, 1) := sorry
theorem d_FileReader_isEntry_126 : decode prog_5_method_5_code 126 = .ok (.lcmp, 1) := sorry
theorem d_FileReader_isEntry_127 : decode prog_5_method_5_code 127 = .ok (.ifCond .ne 7, 3) := sorry
theorem d_FileReader_isEntry_130 : decode prog_5_method_5_code 130 = .ok (.iconst 1, 1) := sorry
theorem d_FileReader_isEntry_131 : decode prog_5_method_5_code 131 = .ok (.goto 4, 3) := sorry
theorem d_FileReader_isEntry_76 : decode prog_5_method_5_code 76 = .ok (.iload_n 2, 1) := sorry
theorem d_FileReader_isEntry_77 : decode prog_5_method_5_code 77 = .ok (.bipush 8, 2) := sorry
theorem d_FileReader_isEntry_79 : decode prog_5_method_5_code 79 = .ok (.if_icmp .ne 55, 3) := sorry
abbrev y_FileReader_isEntry : MethodName := ⟨"PackageBook$FileReader", "isEntry", "(I)Z"⟩
abbrev i_FileReader_isEntry : pb_I := (y_FileReader_isEntry, prog_5_method_5_code, 3, (some Jvm.ClassFile.FieldType.boolean), [], { frames := 2, cells := 0, slots := 0, locals := 42 })
theorem g_Rd_isEntry {l : Launch} (hl : l.stackTraces = false) (G : pb_G) (h : Nat) (b : Nat) (N : Nat) (f : Nat → Int32) (x : Int32) (A : Int → Int32) (Zs : Int) (h0 : 0 ≤ x.toInt) (h1 : x.toInt + 46 ≤ N) (hN : N ≤ 100000) (hA : ∀ j : Int, 0 ≤ j → j < Zs → A j = gr f j) (hZ : x.toInt + 46 ≤ Zs) (F_f : sb_Fit f) : Cn l G i_FileReader_isEntry [.ref h, .int x] [(h, .inr (7, [.ref b])), (b, .inl (G.2.1, N, .inl f))] (S := Int32) (fun rv_ u => rv_ = some (.int u) ∧ (u.toInt = 0 ∨ u.toInt = 1) ∧ (u.toInt = 1 → ey_ A x.toInt) ∧ (u.toInt = 0 → ¬ ey_ A x.toInt)) (fun u => [(h, .inr (7, [.ref b])), (b, .inl (G.2.1, N, .inl f))]) := sorry
