theorem pb_mmin {l : Launch} {G : pb_G} {M : pb_M} {I : pb_I} {pc : Nat} {lo : List (Nat × Value)} {rest : List Value} {ws : va_W} {ck cn : Nat} {index : Nat} {x y : Int32} (hd : decode (pi_c I) pc = .ok (.invokestatic index, 3)) (w1 : Cond.methodLink (pi_y I).cls index Lib.Math.min.name ∈ uW) (w2 : Cond.static Lib.Math.min.name ∈ uW) (w3 : Cond.initialized "java/lang/Math" ∈ uW) (w4 : Cond.code Lib.Math.min.name Lib.Math.min.code 2 (some .int) ∈ uW) (h6 : 1 ≤ (pi_R I).frames) (h7 : (rest.map fun v => v.category).sum + 13 ≤ (pi_R I).locals) (hc : ck ≤ (pi_R I).cells) (hs : cn ≤ (pi_R I).slots) (kk : ∀ z : Int32, z.toInt ≤ x.toInt → z.toInt ≤ y.toInt → (z.toInt = x.toInt ∨ z.toInt = y.toInt) → pb_P l G M I (pc + 3) lo (.int z :: rest) ws ck cn) : pb_P l G M I pc lo (.int y :: .int x :: rest) ws ck cn := sorry
/-- a row of bytes as it is: n bytes from place b of an array on -/
def sq (f : Nat → Int32) (b n : Int) : Int → Int32 := fun j => if 0 ≤ j ∧ j < n then gr f (b + j) else 0
theorem sq_at {f : Nat → Int32} {b n j : Int} (h0 : 0 ≤ j) (h1 : j < n) : sq f b n j = gr f (b + j) := sorry
theorem sq_rl {f g : Nat → Int32} {n : Int} (h : rl_B f g n) : sq f (0 : Int32).toInt n = sq g (0 : Int32).toInt n := sorry
/-- r bytes from x on are those from y on, and not one more, but for the most m -/
def sm_R (a : Int → Int32) (x y m r : Int) : Prop := 0 ≤ r ∧ r ≤ m ∧ (∀ j : Int, 0 ≤ j → j < r → a (x + j) = a (y + j)) ∧ (r < m → ¬ a (x + r) = a (y + r))
theorem sm_uniq {a : Int → Int32} {x y m r s : Int} (h : sm_R a x y m r) (k : sm_R a x y m s) : r = s := sorry
/-- how many bytes may be alike at place p -/
def mm_ (n p : Int) : Int := if n - p < 258 then n - p else 258
theorem mm_le {n p : Int} : mm_ n p ≤ n - p ∧ mm_ n p ≤ 258 ∧ (mm_ n p = n - p ∨ mm_ n p = 258) := sorry
/-- the longest row before place p has L bytes and begins at W; there is none of three bytes -/
def lb_S (a : Int → Int32) (n p L W : Int) : Prop := 3 ≤ L ∧ 0 ≤ W ∧ W < p ∧ sm_R a W p (mm_ n p) L ∧ ∀ i r : Int, 0 ≤ i → i < p → sm_R a i p (mm_ n p) r → r ≤ L ∧ (r = L → i ≤ W)
def lb_N (a : Int → Int32) (n p : Int) : Prop := ∀ i r : Int, 0 ≤ i → i < p → sm_R a i p (mm_ n p) r → r < 3
theorem lb_uniq {a : Int → Int32} {n p L W L' W' : Int} (h : lb_S a n p L W) (k : lb_S a n p L' W') : L = L' ∧ W = W' := sorry
theorem lb_not {a : Int → Int32} {n p L W : Int} (h : lb_S a n p L W) (k : lb_N a n p) : False := sorry
/-- how many bits a byte, a length, a distance has -/
def li_c (b : Int32) : Int := if (b &&& 255).toInt < 144 then 8 else 9
def le_c (L : Int) : Int := if L ≤ 10 then 7 else if L ≤ 18 then 8 else if L ≤ 34 then 9 else if L ≤ 66 then 10 else if L ≤ 114 then 11 else if L ≤ 130 then 12 else if L ≤ 257 then 13 else 8
def di_c (D : Int) : Int := if D ≤ 4 then 5 else if D ≤ 8 then 6 else if D ≤ 16 then 7 else if D ≤ 32 then 8 else if D ≤ 64 then 9 else if D ≤ 128 then 10 else if D ≤ 256 then 11 else if D ≤ 512 then 12 else if D ≤ 1024 then 13 else if D ≤ 2048 then 14 else 15
theorem li_rng (b : Int32) : 8 ≤ li_c b ∧ li_c b ≤ 9 := sorry
theorem li_cE {b v : Int32} {c : Int} (e : v = b &&& 255) (h : v.toInt < 144 ∧ c = 8 ∨ 144 ≤ v.toInt ∧ c = 9) : c = li_c b := sorry
theorem le_cE {L c : Int} (h : L ≤ 10 ∧ c = 7 ∨ 11 ≤ L ∧ L ≤ 18 ∧ c = 8 ∨ 19 ≤ L ∧ L ≤ 34 ∧ c = 9 ∨ 35 ≤ L ∧ L ≤ 66 ∧ c = 10 ∨ 67 ≤ L ∧ L ≤ 114 ∧ c = 11 ∨ 115 ≤ L ∧ L ≤ 130 ∧ c = 12 ∨ 131 ≤ L ∧ L ≤ 257 ∧ c = 13 ∨ 258 ≤ L ∧ c = 8) : c = le_c L := sorry
theorem le_cb (L : Int) (h : 3 ≤ L) : 7 ≤ le_c L ∧ le_c L ≤ 13 ∧ le_c L + 15 ≤ 9 * L := sorry
theorem di_cE {D c : Int} (h : D ≤ 4 ∧ c = 5 ∨ 5 ≤ D ∧ D ≤ 8 ∧ c = 6 ∨ 9 ≤ D ∧ D ≤ 16 ∧ c = 7 ∨ 17 ≤ D ∧ D ≤ 32 ∧ c = 8 ∨ 33 ≤ D ∧ D ≤ 64 ∧ c = 9 ∨ 65 ≤ D ∧ D ≤ 128 ∧ c = 10 ∨ 129 ≤ D ∧ D ≤ 256 ∧ c = 11 ∨ 257 ≤ D ∧ D ≤ 512 ∧ c = 12 ∨ 513 ≤ D ∧ D ≤ 1024 ∧ c = 13 ∨ 1025 ≤ D ∧ D ≤ 2048 ∧ c = 14 ∨ 2049 ≤ D ∧ c = 15) : c = di_c D := sorry
theorem di_cb (D : Int) : 5 ≤ di_c D ∧ di_c D ≤ 15 := sorry
/-- one symbol, or one length and distance, from place p to place q, in c bits -/
def ts_R (a : Int → Int32) (n p q c : Int) : Prop := p < n ∧ ((lb_N a n p ∧ q = p + 1 ∧ c = li_c (a p)) ∨ ∃ L W : Int, lb_S a n p L W ∧ q = p + L ∧ c = le_c L + di_c (p - W))
theorem ts_uniq {a : Int → Int32} {n p q c q' c' : Int} (h : ts_R a n p q c) (k : ts_R a n p q' c') : q = q' ∧ c = c' := sorry
theorem ts_rng {a : Int → Int32} {n p q c : Int} (h : ts_R a n p q c) : p < q ∧ q ≤ n ∧ 0 ≤ c ∧ c ≤ 9 * (q - p) := sorry
/-- the place and the bits behind so many of them -/
noncomputable def ts_f (a : Int → Int32) (n : Int) (s : Int × Int) : Int × Int := @dite (Int × Int) (∃ t : Int × Int, ts_R a n s.1 t.1 (t.2 - s.2)) (Classical.propDecidable _) (fun h => Classical.choose h) (fun _ => s)
noncomputable def ts_i (a : Int → Int32) (n : Int) : Nat → Int × Int
  | 0 => (0, 3)
  | k + 1 => ts_f a n (ts_i a n k)
theorem ts_pos {a : Int → Int32} {n p q c T : Int} (h : ts_R a n p q c) : ts_f a n (p, T) = (q, T + c) := sorry
theorem ts_neg {a : Int → Int32} {n p T : Int} (h : n ≤ p) : ts_f a n (p, T) = (p, T) := sorry
/-- T bits are made when place p is next -/
def pt_R (a : Int → Int32) (n p T : Int) : Prop := ∃ k : Nat, ts_i a n k = (p, T)
theorem pt_00 {a : Int → Int32} {n : Int} : pt_R a n 0 3 := sorry
theorem pt_st {a : Int → Int32} {n p q c T T' : Int} (h : pt_R a n p T) (k : ts_R a n p q c) (e : T' = T + c) : pt_R a n q T' := sorry
theorem pt_stay {a : Int → Int32} {n T : Int} {k : Nat} (h : ts_i a n k = (n, T)) : ∀ d : Nat, ts_i a n (k + d) = (n, T) := sorry
theorem pt_uniq {a : Int → Int32} {n T T' : Int} (h : pt_R a n n T) (k : pt_R a n n T') : T = T' := sorry
theorem pt_all {a : Int → Int32} {n : Int} (hn : 0 ≤ n) : ∀ k : Nat, 0 ≤ (ts_i a n k).1 ∧ (ts_i a n k).1 ≤ n ∧ 3 ≤ (ts_i a n k).2 ∧ (ts_i a n k).2 ≤ 3 + 9 * (ts_i a n k).1 := sorry
theorem pt_rng {a : Int → Int32} {n p T : Int} (hn : 0 ≤ n) (h : pt_R a n p T) : 0 ≤ p ∧ p ≤ n ∧ 3 ≤ T ∧ T ≤ 3 + 9 * p := sorry
/-- the size of all: the bits, seven more, and zeros to the end of the byte -/
def pt_F (a : Int → Int32) (n z : Int) : Prop := ∃ T : Int, pt_R a n n T ∧ z = (T + 14) / 8
theorem pt_Fu {a : Int → Int32} {n z z' : Int} (h : pt_F a n z) (k : pt_F a n z') : z = z' := sorry
/-- the mix of three bytes -/
def mx_ (a : Int → Int32) (p : Int) : Int := ((((a p) <<< ((6 : Int32) &&& 31)) ^^^ ((a (p + 1)) <<< ((3 : Int32) &&& 31)) ^^^ (a (p + 2))) &&& 1023).toInt
theorem mx_sm {a : Int → Int32} {x y m r : Int} (h : sm_R a x y m r) (hr : 3 ≤ r) : mx_ a x = mx_ a y := sorry
/-- v is the nearest place before p of the mix x, or -1 -/
def la_R (a : Int → Int32) (n p x v : Int) : Prop := (v = -1 ∨ (0 ≤ v ∧ v < p ∧ v + 3 ≤ n ∧ mx_ a v = x)) ∧ ∀ q : Int, v < q → 0 ≤ q → q < p → q + 3 ≤ n → ¬ mx_ a q = x
def ch_I (a : Int → Int32) (n p : Int) (fl fe : Nat → Int32) : Prop := (∀ x : Int, 0 ≤ x → x < 1024 → la_R a n p x (gx fl x)) ∧ ∀ k : Int, 0 ≤ k → k < p → k + 3 ≤ n → la_R a n k (mx_ a k) (gx fe k)
theorem ch_0 {a : Int → Int32} {n : Int} {fl fe : Nat → Int32} (h : ∀ x : Int, 0 ≤ x → x < 1024 → gx fl x = -1) : ch_I a n 0 fl fe := sorry
theorem ch_skip {a : Int → Int32} {n p q : Int} {fl fe : Nat → Int32} (h : ch_I a n p fl fe) (hs : ¬ p + 3 ≤ n) (hq : q = p + 1) : ch_I a n q fl fe := sorry
theorem ch_step {a : Int → Int32} {n p q m : Int} {fl fe : Nat → Int32} {pi mi pv v : Int32} (h : ch_I a n p fl fe) (h0 : 0 ≤ p) (h3 : p + 3 ≤ n) (hm : m = mx_ a p) (hp : pi.toInt = p) (hmi : mi.toInt = m) (hm0 : 0 ≤ m) (hm1 : m < 1024) (hv : v.toInt = gx fl m) (hpv : pv.toInt = p) (hq : q = p + 1) : ch_I a n q (upd fl mi.toNatClampNeg pv) (upd fe pi.toNatClampNeg v) := sorry
/-- what the search along the chain knows: places behind o have been looked at -/
def bs_R (a : Int → Int32) (n p o l d : Int) : Prop := (l = 1 ∧ ∀ i r : Int, o < i → 0 ≤ i → i < p → sm_R a i p (mm_ n p) r → r < 3) ∨ (3 ≤ l ∧ o < p - d ∧ 0 ≤ p - d ∧ p - d < p ∧ sm_R a (p - d) p (mm_ n p) l ∧ ∀ i r : Int, o < i → 0 ≤ i → i < p → sm_R a i p (mm_ n p) r → r ≤ l ∧ (r = l → i ≤ p - d))
theorem bs_0 {a : Int → Int32} {n p o d : Int} (h3 : p + 3 ≤ n) (h : la_R a n p (mx_ a p) o) : bs_R a n p o 1 d := sorry
theorem bs_keep {a : Int → Int32} {n p o o' l d s : Int} (h : bs_R a n p o l d) (h3 : p + 3 ≤ n) (ho : 0 ≤ o) (hp : o < p) (hm : mx_ a o = mx_ a p) (hc : la_R a n o (mx_ a o) o') (hs : sm_R a o p (mm_ n p) s) (hl : s < 3 ∨ s ≤ l) : bs_R a n p o' l d := sorry
theorem bs_take {a : Int → Int32} {n p o o' l d d' s : Int} (h : bs_R a n p o l d) (h3 : p + 3 ≤ n) (ho : 0 ≤ o) (hp : o < p) (hm : mx_ a o = mx_ a p) (hc : la_R a n o (mx_ a o) o') (hs : sm_R a o p (mm_ n p) s) (hl : 3 ≤ s) (hl2 : l < s) (hd : d' = p - o) : bs_R a n p o' s d' := sorry
/-- what the search finds -/
def fl_R (a : Int → Int32) (n p l d : Int) : Prop := (lb_N a n p ∧ l = 1) ∨ lb_S a n p l (p - d)
theorem fl_bs {a : Int → Int32} {n p o l d : Int} (h : bs_R a n p o l d) (he : o < 0 ∨ mm_ n p ≤ l) (hm : 3 ≤ mm_ n p) : fl_R a n p l d := sorry
theorem fl_few {a : Int → Int32} {n p d : Int} (hm : mm_ n p < 3) : fl_R a n p 1 d := sorry
theorem fl_lit {a : Int → Int32} {n p q l d c : Int} (h : fl_R a n p l d) (hl : l < 3) (hp : p < n) (hq : q = p + l) (hc : c = li_c (a p)) : ts_R a n p q c := sorry
theorem fl_rng {a : Int → Int32} {n p l d : Int} (h : fl_R a n p l d) (hp : p < n) : 1 ≤ l ∧ l ≤ 258 ∧ p + l ≤ n ∧ (3 ≤ l → 1 ≤ d ∧ d ≤ p) ∧ (l < 3 → l = 1) := sorry
theorem fl_row {a : Int → Int32} {n p q l d c : Int} (h : fl_R a n p l d) (hl : 3 ≤ l) (hp : p < n) (hq : q = p + l) (hc : c = le_c l + di_c d) : ts_R a n p q c := sorry
/-- what the reference's search knows: places before i have been looked at -/
def rb_R (a : Int → Int32) (n p i l w : Int) : Prop := (i = 0 ∧ l = 0) ∨ (0 < i ∧ 0 ≤ w ∧ w < i ∧ sm_R a w p (mm_ n p) l ∧ ∀ j r : Int, 0 ≤ j → j < i → sm_R a j p (mm_ n p) r → r ≤ l ∧ (r = l → j ≤ w))
theorem rb_st {a : Int → Int32} {n p i i' l l' w w' m : Int} (h : rb_R a n p i l w) (hi : 0 ≤ i) (hm : sm_R a i p (mm_ n p) m) (hi' : i' = i + 1) (hc : l ≤ m ∧ l' = m ∧ w' = i ∨ m < l ∧ l' = l ∧ w' = w) : rb_R a n p i' l' w' := sorry
theorem rb_fl {a : Int → Int32} {n p l w : Int} (h : rb_R a n p p l w) (hl : 3 ≤ l) : lb_S a n p l w := sorry
theorem rb_no {a : Int → Int32} {n p l w : Int} (h : rb_R a n p p l w) (hl : l < 3) : lb_N a n p := sorry
theorem ts_lit {a : Int → Int32} {n p q c : Int} (h : lb_N a n p) (hp : p < n) (hq : q = p + 1) (hc : c = li_c (a p)) : ts_R a n p q c := sorry
theorem ts_row {a : Int → Int32} {n p q c L W D : Int} (h : lb_S a n p L W) (hp : p < n) (hq : q = p + L) (hD : D = p - W) (hc : c = le_c L + di_c D) : ts_R a n p q c := sorry
/-- the two searches' rows of like bytes, by the arrays -/
theorem sm_of {f : Nat → Int32} {b n x y m r X Y : Int} (h0 : 0 ≤ r) (h1 : r ≤ m) (hx : 0 ≤ x) (hxy : x ≤ y) (hy : y + m ≤ n) (eX : X = b + x) (eY : Y = b + y) (h2 : ∀ j : Int, 0 ≤ j → j < r → gr f (X + j) = gr f (Y + j)) (h3 : r < m → ¬ gr f (X + r) = gr f (Y + r)) : sm_R (sq f b n) x y m r := sorry
/-- a shift by a number that isn't told ahead -/
theorem ti_shv {z x m : Int32} (e : z = x >>> (m &&& 31)) (h0 : 0 ≤ m.toInt) (h1 : m.toInt ≤ 13) : (m.toInt = 0 → z.toInt = x.toInt) ∧ (m.toInt = 1 → z.toInt = x.toInt / 2) ∧ (m.toInt = 2 → z.toInt = x.toInt / 4) ∧ (m.toInt = 3 → z.toInt = x.toInt / 8) ∧ (m.toInt = 4 → z.toInt = x.toInt / 16) ∧ (m.toInt = 5 → z.toInt = x.toInt / 32) ∧ (m.toInt = 6 → z.toInt = x.toInt / 64) ∧ (m.toInt = 7 → z.toInt = x.toInt / 128) ∧ (m.toInt = 8 → z.toInt = x.toInt / 256) ∧ (m.toInt = 9 → z.toInt = x.toInt / 512) ∧ (m.toInt = 10 → z.toInt = x.toInt / 1024) ∧ (m.toInt = 11 → z.toInt = x.toInt / 2048) ∧ (m.toInt = 12 → z.toInt = x.toInt / 4096) ∧ (m.toInt = 13 → z.toInt = x.toInt / 8192) := sorry
/-- the same as one choice of six, of eleven -/
theorem ti_sh5 {z x m : Int32} (e : z = x >>> (m &&& 31)) (h0 : 0 ≤ m.toInt) (h1 : m.toInt ≤ 5) : m.toInt = 0 ∧ z.toInt = x.toInt ∨ m.toInt = 1 ∧ z.toInt = x.toInt / 2 ∨ m.toInt = 2 ∧ z.toInt = x.toInt / 4 ∨ m.toInt = 3 ∧ z.toInt = x.toInt / 8 ∨ m.toInt = 4 ∧ z.toInt = x.toInt / 16 ∨ m.toInt = 5 ∧ z.toInt = x.toInt / 32 := sorry
theorem ti_sh10 {z x m : Int32} (e : z = x >>> (m &&& 31)) (h0 : 0 ≤ m.toInt) (h1 : m.toInt ≤ 10) : m.toInt = 0 ∧ z.toInt = x.toInt ∨ m.toInt = 1 ∧ z.toInt = x.toInt / 2 ∨ m.toInt = 2 ∧ z.toInt = x.toInt / 4 ∨ m.toInt = 3 ∧ z.toInt = x.toInt / 8 ∨ m.toInt = 4 ∧ z.toInt = x.toInt / 16 ∨ m.toInt = 5 ∧ z.toInt = x.toInt / 32 ∨ m.toInt = 6 ∧ z.toInt = x.toInt / 64 ∨ m.toInt = 7 ∧ z.toInt = x.toInt / 128 ∨ m.toInt = 8 ∧ z.toInt = x.toInt / 256 ∨ m.toInt = 9 ∧ z.toInt = x.toInt / 512 ∨ m.toInt = 10 ∧ z.toInt = x.toInt / 1024 := sorry
theorem la_rng {a : Int → Int32} {n p x v : Int} (h : la_R a n p x v) (hp : 0 ≤ p) : -1 ≤ v ∧ v < p := sorry
theorem la_mx {a : Int → Int32} {n p x v : Int} (h : la_R a n p x v) (hv : 0 ≤ v) : v + 3 ≤ n ∧ mx_ a v = x := sorry
theorem nb_ne {i j A B : Int32} (e1 : i = A) (e2 : j = B) (h : ¬ i.toInt = j.toInt) : ¬ A = B := sorry
theorem nb_eq {i j A B : Int32} (e1 : i = A) (e2 : j = B) (h : i.toInt = j.toInt) : A = B := sorry
theorem nb_st {f : Nat → Int32} {X Y k k2 : Int} (h : ∀ j : Int, 0 ≤ j → j < k → gr f (X + j) = gr f (Y + j)) (e : k2 = k + 1) (hk : gr f (X + k) = gr f (Y + k)) : ∀ j : Int, 0 ≤ j → j < k2 → gr f (X + j) = gr f (Y + j) := sorry
theorem li_sq {f : Nat → Int32} {b n p c : Int} {v i : Int32} (e1 : v = i &&& 255) (e2 : i = gr f (b + p)) (h0 : 0 ≤ p) (h1 : p < n) (h : v.toInt < 144 ∧ c = 8 ∨ 144 ≤ v.toInt ∧ c = 9) : c = li_c (sq f b n p) := sorry
theorem pt_Fi {a : Int → Int32} {n p T z : Int} (h : pt_R a n p T) (e : p = n) (hz : z = (T + 14) / 8) : pt_F a n z := sorry
theorem pt_eq {a : Int → Int32} {n p q T U : Int} (h : pt_R a n p T) (e : q = p) (f : U = T) : pt_R a n q U := sorry
theorem rb_fl2 {a : Int → Int32} {n p i l w : Int} (h : rb_R a n p i l w) (e : i = p) (hl : 3 ≤ l) : lb_S a n p l w := sorry
theorem rb_no2 {a : Int → Int32} {n p i l w : Int} (h : rb_R a n p i l w) (e : i = p) (hl : l < 3) : lb_N a n p := sorry
theorem sm_z {f : Nat → Int32} {b n x y z : Int} {i j : Int32} (e1 : i = gr f (b + x)) (e2 : j = gr f (b + y)) (h : ¬ i.toInt = j.toInt) (hz : z = 0) (hx : 0 ≤ x) (hxy : x ≤ y) (hy : y < n) : sm_R (sq f b n) x y (mm_ n y) z := sorry
theorem sm_ss {f : Nat → Int32} {b n x y r X Y e : Int} (s1 : ∀ j : Int, 0 ≤ j → j < r → gr f (X + j) = gr f (Y + j)) (s2 : r < 258 → Y + r < e → ¬ gr f (X + r) = gr f (Y + r)) (p0 : 0 ≤ r) (p1 : r ≤ 258) (p2 : Y + r ≤ e) (he : e = b + n) (eX : X = b + x) (eY : Y = b + y) (hx : 0 ≤ x) (hxy : x ≤ y) : sm_R (sq f b n) x y (mm_ n y) r := sorry
/-- a shift to the left of a small number, by a number that isn't told ahead -/
theorem ti_slv {z x s : Int32} (e : z = x <<< (s &&& 31)) (x0 : 0 ≤ x.toInt) (x1 : x.toInt ≤ 7) (h0 : 0 ≤ s.toInt) (h1 : s.toInt ≤ 13) : s.toInt = 0 ∧ z.toInt = x.toInt ∨ s.toInt = 1 ∧ z.toInt = x.toInt * 2 ∨ s.toInt = 2 ∧ z.toInt = x.toInt * 4 ∨ s.toInt = 3 ∧ z.toInt = x.toInt * 8 ∨ s.toInt = 4 ∧ z.toInt = x.toInt * 16 ∨ s.toInt = 5 ∧ z.toInt = x.toInt * 32 ∨ s.toInt = 6 ∧ z.toInt = x.toInt * 64 ∨ s.toInt = 7 ∧ z.toInt = x.toInt * 128 ∨ s.toInt = 8 ∧ z.toInt = x.toInt * 256 ∨ s.toInt = 9 ∧ z.toInt = x.toInt * 512 ∨ s.toInt = 10 ∧ z.toInt = x.toInt * 1024 ∨ s.toInt = 11 ∧ z.toInt = x.toInt * 2048 ∨ s.toInt = 12 ∧ z.toInt = x.toInt * 4096 ∨ s.toInt = 13 ∧ z.toInt = x.toInt * 8192 := sorry
theorem pt_Fe {a : Int → Int32} {n z z' : Int} (h : pt_F a n z) (e : z' = z) : pt_F a n z' := sorry
theorem pr_law {f g : Nat → Int32} {s t k th a b : Int} (h : rl_B f g s) (e : s = t) (l : k = 0 → s ≤ 4000 ∧ pt_F (sq f (0 : Int32).toInt s) s a) (m : th = 0 → pt_F (sq g (0 : Int32).toInt t) t b) (th0 : k = 0 → th = 0) : k = 0 → a = b := sorry
