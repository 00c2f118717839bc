/-! THE BITS THAT ARE WRITTEN: S = (how many, which); a byte is told by eight of them -/
def b1_ (S : Int × (Int → Int)) (b : Int) : Int × (Int → Int) := (S.1 + 1, fun k => if k = S.1 then b else S.2 k)
def bw_ (S : Int × (Int → Int)) : Prop := 0 ≤ S.1 ∧ (∀ k : Int, 0 ≤ S.2 k ∧ S.2 k ≤ 1) ∧ ∀ k : Int, S.1 ≤ k → S.2 k = 0
def bz_ : Int × (Int → Int) := (0, fun _ => 0)
theorem bw_0 : bw_ bz_ := sorry
theorem bw_1 {S : Int × (Int → Int)} {b : Int} (h : bw_ S) (h0 : 0 ≤ b ∧ b ≤ 1) : bw_ (b1_ S b) := sorry
def bv_ (B : Int → Int) (j : Int) : Int := B (8 * j + 0) + 2 * B (8 * j + 1) + 4 * B (8 * j + 2) + 8 * B (8 * j + 3) + 16 * B (8 * j + 4) + 32 * B (8 * j + 5) + 64 * B (8 * j + 6) + 128 * B (8 * j + 7)
theorem bv_rg {S : Int × (Int → Int)} (h : bw_ S) (j : Int) : 0 ≤ bv_ S.2 j ∧ bv_ S.2 j ≤ 255 := sorry
theorem bv_z {S : Int × (Int → Int)} {j : Int} (h : bw_ S) (hj : S.1 ≤ 8 * j) : bv_ S.2 j = 0 := sorry
theorem bv_o {S : Int × (Int → Int)} {b j : Int} (hj : ¬ j = S.1 / 8) : bv_ (b1_ S b).2 j = bv_ S.2 j := sorry
theorem bv_n {S : Int × (Int → Int)} {b j : Int} (h : bw_ S) (hj : j = S.1 / 8) : 0 ≤ bv_ S.2 j ∧ bv_ S.2 j < p2 (S.1 % 8) ∧ bv_ (b1_ S b).2 j = bv_ S.2 j + b * p2 (S.1 % 8) := sorry
/-- n bits of a number, the lowest first; of a code, the highest first -/
def bn_ (S : Int × (Int → Int)) (x : Int) : Nat → Int × (Int → Int)
  | 0 => S
  | n + 1 => b1_ (bn_ S x n) (x / p2 (n : Int) % 2)
def bc_ (x : Int) : Nat → Int × (Int → Int) → Int × (Int → Int)
  | 0, S => S
  | n + 1, S => bc_ x n (b1_ S (x / p2 (n : Int) % 2))
theorem bt_rng (x y : Int) : 0 ≤ x / y % 2 ∧ x / y % 2 ≤ 1 := sorry
theorem bn_w {S : Int × (Int → Int)} {x : Int} (h : bw_ S) : ∀ n : Nat, bw_ (bn_ S x n) := sorry
theorem bc_w {x : Int} : ∀ (n : Nat) {S : Int × (Int → Int)}, bw_ S → bw_ (bc_ x n S) := sorry
theorem bn_1 (S : Int × (Int → Int)) (x : Int) : ∀ n : Nat, (bn_ S x n).1 = S.1 + n := sorry
theorem bc_1 (x : Int) : ∀ (n : Nat) (S : Int × (Int → Int)), (bc_ x n S).1 = S.1 + n := sorry
theorem p2_n (n : Nat) : p2 ((n + 1 : Nat) : Int) = 2 * p2 (n : Int) := sorry
theorem bn_lo (S : Int × (Int → Int)) (y b : Int) (hb : 0 ≤ b ∧ b ≤ 1) : ∀ n : Nat, bn_ S (2 * y + b) (n + 1) = bn_ (b1_ S b) y n := sorry
/-- a code turned -/
def tu_ (x : Int) : Nat → Int
  | 0 => 0
  | k + 1 => 2 * tu_ x k + x / p2 (k : Int) % 2
theorem tu_rng (x : Int) : ∀ k : Nat, 0 ≤ tu_ x k ∧ tu_ x k < p2 (k : Int) := sorry
theorem tu_st {x k k2 v v2 b : Int} (h : v = tu_ x k.toNat) (hk : 0 ≤ k) (hk2 : k2 = k + 1) (hb : b = x / p2 k % 2) (hv : v2 = 2 * v + b) : v2 = tu_ x k2.toNat := sorry
theorem bn_tu (x : Int) : ∀ (n : Nat) (S : Int × (Int → Int)), bn_ S (tu_ x n) n = bc_ x n S := sorry
theorem bn_st {S : Int × (Int → Int)} {x k k2 b : Int} (hk : 0 ≤ k) (hk2 : k2 = k + 1) (hb : b = x / p2 k % 2) : b1_ (bn_ S x k.toNat) b = bn_ S x k2.toNat := sorry
theorem bc_st {S R : Int × (Int → Int)} {x k k2 b : Int} (h : bc_ x (k + 1).toNat S = R) (hk : 0 ≤ k) (hk2 : k2 = k - 1) (hb : b = x / p2 k % 2) : bc_ x (k2 + 1).toNat (b1_ S b) = R := sorry
theorem bn_cong (S : Int × (Int → Int)) {x y : Int} : ∀ n : Nat, (∀ k : Nat, k < n → x / p2 (k : Int) % 2 = y / p2 (k : Int) % 2) → bn_ S x n = bn_ S y n := sorry
theorem p2_add (k d : Nat) : p2 ((k + d : Nat) : Int) = p2 (k : Int) * p2 (d : Int) := sorry
theorem bn_mod (S : Int × (Int → Int)) {x y q : Int} {n : Nat} (h : x = y + q * p2 (n : Int)) : bn_ S x n = bn_ S y n := sorry
/-- a symbol, a length, a distance -/
def sb_ (S : Int × (Int → Int)) (s : Int) : Int × (Int → Int) := if s < 144 then bc_ (48 + s) 8 S else if s < 256 then bc_ (256 + s) 9 S else if s < 280 then bc_ (s - 256) 7 S else bc_ (s - 88) 8 S
theorem sb_w {S : Int × (Int → Int)} (s : Int) (h : bw_ S) : bw_ (sb_ S s) := sorry
theorem sb_0 {S : Int × (Int → Int)} {s x : Int} (h : s < 144) (hx : x = 48 + s) : bc_ x 8 S = sb_ S s := sorry
theorem sb_1 {S : Int × (Int → Int)} {s x : Int} (h : ¬ s < 144) (h2 : s < 256) (hx : x = 256 + s) : bc_ x 9 S = sb_ S s := sorry
theorem sb_2 {S : Int × (Int → Int)} {s x : Int} (h : ¬ s < 256) (h2 : s < 280) (hx : x = s - 256) : bc_ x 7 S = sb_ S s := sorry
theorem sb_3 {S : Int × (Int → Int)} {s x : Int} (h : ¬ s < 280) (hx : x = s - 88) : bc_ x 8 S = sb_ S s := sorry
def lm_ (L : Int) : Int := if L ≤ 10 ∨ L = 258 then 0 else if L ≤ 18 then 1 else if L ≤ 34 then 2 else if L ≤ 66 then 3 else if L ≤ 130 then 4 else 5
def lk_ (L : Int) : Int := if L = 258 then 28 else 4 * lm_ L + (L - 3) / p2 (lm_ L)
def lo_ (S : Int × (Int → Int)) (L : Int) : Int × (Int → Int) := bn_ (sb_ S (257 + lk_ L)) (L - 3) (lm_ L).toNat
def dm_ (D : Int) : Int := if D ≤ 4 then 0 else if D ≤ 8 then 1 else if D ≤ 16 then 2 else if D ≤ 32 then 3 else if D ≤ 64 then 4 else if D ≤ 128 then 5 else if D ≤ 256 then 6 else if D ≤ 512 then 7 else if D ≤ 1024 then 8 else if D ≤ 2048 then 9 else 10
def dj_ (D : Int) : Int := 2 * dm_ D + (D - 1) / p2 (dm_ D)
def do_ (S : Int × (Int → Int)) (D : Int) : Int × (Int → Int) := bn_ (bc_ (dj_ D) 5 S) (D - 1) (dm_ D).toNat
theorem lo_w {S : Int × (Int → Int)} (L : Int) (h : bw_ S) : bw_ (lo_ S L) := sorry
theorem do_w {S : Int × (Int → Int)} (D : Int) (h : bw_ S) : bw_ (do_ S D) := sorry
theorem lo_258 {S : Int × (Int → Int)} {L s : Int} (h : L = 258) (hs : s = 285) : sb_ S s = lo_ S L := sorry
/-- as the class finds it: m, and the rest; as the reference does: k -/
theorem lo_E {S : Int × (Int → Int)} {L m s v : Int} (h : ¬ L = 258) (hm : m = lm_ L) (hs : s = 257 + 4 * m + (L - 3) / p2 m) (hv : v = L - 3) : bn_ (sb_ S s) v m.toNat = lo_ S L := sorry
theorem do_E {S : Int × (Int → Int)} {D m s v : Int} (hm : m = dm_ D) (hs : s = 2 * m + (D - 1) / p2 m) (hv : v = D - 1) : bn_ (bc_ s 5 S) v m.toNat = do_ S D := sorry
theorem lo_M {S : Int × (Int → Int)} {L m s v q : Int} (h : ¬ L = 258) (hm : m = lm_ L) (h0 : 0 ≤ m) (hs : s = 257 + 4 * m + (L - 3) / p2 m) (hv : v = L - 3 + q * p2 m) : bn_ (sb_ S s) v m.toNat = lo_ S L := sorry
theorem do_M {S : Int × (Int → Int)} {D m s v q : Int} (hm : m = dm_ D) (h0 : 0 ≤ m) (hs : s = 2 * m + (D - 1) / p2 m) (hv : v = D - 1 + q * p2 m) : bn_ (bc_ s 5 S) v m.toNat = do_ S D := sorry
/-- p2 at a small number -/
theorem p2_of {m : Int} : (m = 0 → p2 m = 1) ∧ (m = 1 → p2 m = 2) ∧ (m = 2 → p2 m = 4) ∧ (m = 3 → p2 m = 8) ∧ (m = 4 → p2 m = 16) ∧ (m = 5 → p2 m = 32) ∧ (m = 6 → p2 m = 64) ∧ (m = 7 → p2 m = 128) ∧ (m = 8 → p2 m = 256) ∧ (m = 9 → p2 m = 512) ∧ (m = 10 → p2 m = 1024) := sorry
/-- a bit of a number -/
theorem sh_all : ∀ k : Nat, k < 32 → ((nI k &&& 31).toBitVec.smod 32).toNat = k := sorry
theorem sh_k {m : Int32} {k : Int} (h : m.toInt = k) (h0 : 0 ≤ k) (h1 : k < 32) : ((m &&& 31).toBitVec.smod 32).toNat = k.toNat := sorry
theorem ti_and1 {x z : Int32} (e : z = x &&& 1) (h : 0 ≤ x.toInt) : z.toInt = x.toInt % 2 := sorry
theorem bt_E {b q v k : Int32} (e1 : b = q &&& 1) (e2 : q = v >>> (k &&& 31)) (hv : 0 ≤ v.toInt) (h0 : 0 ≤ k.toInt) (h1 : k.toInt < 32) : b.toInt = v.toInt / p2 k.toInt % 2 := sorry
/-- a bit set in a byte -/
theorem or_all : ∀ s : Nat, s < 8 → ∀ b : Nat, b < 2 → ∀ x : Nat, x < 128 → x < 2 ^ s → ((nI x).toInt8.toInt32 ||| (nI b <<< (nI s &&& 31)).toInt8.toInt32).toInt8.toInt32 = (nI (x + b * 2 ^ s)).toInt8.toInt32 := sorry
theorem or_E {w old u c b s : Int32} {y : Int} (e1 : w = old ||| u) (e2 : u = c.toInt8.toInt32) (e3 : c = b <<< (s &&& 31)) (hb : 0 ≤ b.toInt ∧ b.toInt ≤ 1) (hs : 0 ≤ s.toInt ∧ s.toInt ≤ 7) (ho : old = by_ y) (y0 : 0 ≤ y) (y1 : y < p2 s.toInt) : w.toInt8.toInt32 = by_ (y + b.toInt * p2 s.toInt) := sorry
theorem by_0 : by_ 0 = 0 := sorry
theorem by_v {y : Int} (h0 : 0 ≤ y) (h1 : y < 128) : (by_ y).toInt = y := sorry
/-- the bytes that the class has, and the reference -/
def pC_ (f : Nat → Int32) (z t : Int) (S : Int × (Int → Int)) : Prop := bw_ S ∧ z = (S.1 + 7) / 8 ∧ (∀ j : Int, 0 ≤ j → j < z → gr f j = by_ (bv_ S.2 j)) ∧ t = S.1
def pD_ (f : Nat → Int32) (z t : Int) (S : Int × (Int → Int)) : Prop := bw_ S ∧ z = (S.1 + 8) / 8 ∧ (∀ j : Int, 0 ≤ j → j < z → gr f j = by_ (bv_ S.2 j)) ∧ t = S.1
def pM_ (f : Nat → Int32) (hb hc z : Int) (S : Int × (Int → Int)) : Prop := bw_ S ∧ S.1 = 8 * z + hc ∧ (0 ≤ hc ∧ hc < 8) ∧ hb = bv_ S.2 z ∧ ∀ j : Int, 0 ≤ j → j < z → gr f j = by_ (bv_ S.2 j)
theorem pC_0 {f : Nat → Int32} {z t : Int} (h : z = 0) (ht : t = 0) : pC_ f z t bz_ := sorry
theorem pM_0 {f : Nat → Int32} {hb hc z : Int} (h : z = 0) (h1 : hc = 0) (h2 : hb = 0) : pM_ f hb hc z bz_ := sorry
/-- the class opens a byte -/
theorem pD_new {f g : Nat → Int32} {z z2 t : Int} {v : Int32} {S : Int × (Int → Int)} (h : pC_ f z t S) (hr : t % 8 = 0) (hz : z2 = z + 1) (hg : ∀ j : Int, 0 ≤ j → gr g j = if j = z then v.toInt8.toInt32 else gr f j) (hv : v = 0) : pD_ g z2 t S := sorry
theorem pD_old {f : Nat → Int32} {z t : Int} {S : Int × (Int → Int)} (h : pC_ f z t S) (hr : ¬ t % 8 = 0) : pD_ f z t S := sorry
/-- and sets a bit in it -/
theorem pC_st {f g : Nat → Int32} {z b t t2 : Int} {W : Int32} {S : Int × (Int → Int)} (h : pD_ f z t S) (hb : 0 ≤ b ∧ b ≤ 1) (hg : ∀ j : Int, 0 ≤ j → gr g j = if j = z - 1 then W else gr f j) (hW : W = by_ (bv_ S.2 (S.1 / 8) + b * p2 (S.1 % 8))) (ht : t2 = t + 1) : pC_ g z t2 (b1_ S b) := sorry
theorem pD_at {f : Nat → Int32} {z j t : Int} {S : Int × (Int → Int)} (h : pD_ f z t S) (hj : j = z - 1) : gr f j = by_ (bv_ S.2 (S.1 / 8)) := sorry
theorem pD_v {f : Nat → Int32} {z t : Int} {S : Int × (Int → Int)} (h : pD_ f z t S) : 0 ≤ bv_ S.2 (S.1 / 8) ∧ bv_ S.2 (S.1 / 8) < p2 (S.1 % 8) := sorry
/-- the reference puts a bit: into what it holds; a byte is full -/
theorem pM_st {f : Nat → Int32} {hb hc z b hb2 hc2 : Int} {S : Int × (Int → Int)} (h : pM_ f hb hc z S) (h0 : 0 ≤ b ∧ b ≤ 1) (h1 : hc + 1 < 8) (e1 : hb2 = hb + b * p2 hc) (e2 : hc2 = hc + 1) : pM_ f hb2 hc2 z (b1_ S b) := sorry
theorem pM_fu {f g : Nat → Int32} {hb hc z b hb2 hc2 z2 : Int} {v : Int32} {S : Int × (Int → Int)} (h : pM_ f hb hc z S) (h0 : 0 ≤ b ∧ b ≤ 1) (h1 : hc + 1 = 8) (hv : v.toInt = hb + b * p2 hc) (hg : ∀ j : Int, 0 ≤ j → gr g j = if j = z then v.toInt8.toInt32 else gr f j) (e1 : hb2 = 0) (e2 : hc2 = 0) (e3 : z2 = z + 1) : pM_ g hb2 hc2 z2 (b1_ S b) := sorry
theorem pM_hb {f : Nat → Int32} {hb hc z : Int} {S : Int × (Int → Int)} (h : pM_ f hb hc z S) : 0 ≤ hb ∧ hb < p2 hc := sorry
/-- bits of 0 behind all others change nothing -/
theorem b1_z {S : Int × (Int → Int)} (h : bw_ S) : (b1_ S 0).2 = S.2 := sorry
def pE_ (f : Nat → Int32) (hb hc z : Int) (S : Int × (Int → Int)) : Prop := ∃ R : Int × (Int → Int), pM_ f hb hc z R ∧ R.2 = S.2 ∧ bw_ S ∧ S.1 ≤ R.1 ∧ R.1 ≤ (S.1 + 7) / 8 * 8
theorem pE_0 {f : Nat → Int32} {hb hc z : Int} {S : Int × (Int → Int)} (h : pM_ f hb hc z S) : pE_ f hb hc z S := sorry
theorem pE_end {f : Nat → Int32} {hb hc z : Int} {S : Int × (Int → Int)} (h : pE_ f hb hc z S) (hc0 : hc = 0) : pC_ f z S.1 S := sorry
/-- what comes out -/
def tk_R (a : Int → Int32) (n p : Int) (S : Int × (Int → Int)) (q : Int) (S2 : Int × (Int → Int)) : Prop := p < n ∧ ((lb_N a n p ∧ q = p + 1 ∧ S2 = sb_ S ((a p) &&& 255).toInt) ∨ ∃ L W : Int, lb_S a n p L W ∧ q = p + L ∧ S2 = do_ (lo_ S L) (p - W))
theorem tk_uniq {a : Int → Int32} {n p q q' : Int} {S R R' : Int × (Int → Int)} (h : tk_R a n p S q R) (k : tk_R a n p S q' R') : q = q' ∧ R = R' := sorry
noncomputable def tk_f (a : Int → Int32) (n : Int) (s : Int × (Int × (Int → Int))) : Int × (Int × (Int → Int)) := @dite (Int × (Int × (Int → Int))) (∃ t : Int × (Int × (Int → Int)), tk_R a n s.1 s.2 t.1 t.2) (Classical.propDecidable _) (fun h => Classical.choose h) (fun _ => s)
noncomputable def tk_i (a : Int → Int32) (n : Int) : Nat → Int × (Int × (Int → Int))
  | 0 => (0, bn_ bz_ 3 3)
  | k + 1 => tk_f a n (tk_i a n k)
theorem tk_pos {a : Int → Int32} {n p q : Int} {S R : Int × (Int → Int)} (h : tk_R a n p S q R) : tk_f a n (p, S) = (q, R) := sorry
theorem tk_neg {a : Int → Int32} {n p : Int} {S : Int × (Int → Int)} (h : n ≤ p) : tk_f a n (p, S) = (p, S) := sorry
def pS_R (a : Int → Int32) (n p : Int) (S : Int × (Int → Int)) : Prop := ∃ k : Nat, tk_i a n k = (p, S)
theorem pS_0 {a : Int → Int32} {n : Int} : pS_R a n 0 (bn_ bz_ 3 3) := sorry
theorem bn_12 : bn_ (bn_ bz_ 1 1) 1 2 = bn_ bz_ 3 3 := sorry
theorem pS_st {a : Int → Int32} {n p q : Int} {S R : Int × (Int → Int)} (h : pS_R a n p S) (k : tk_R a n p S q R) : pS_R a n q R := sorry
theorem pS_stay {a : Int → Int32} {n : Int} {S : Int × (Int → Int)} {k : Nat} (h : tk_i a n k = (n, S)) : ∀ d : Nat, tk_i a n (k + d) = (n, S) := sorry
theorem pS_uniq {a : Int → Int32} {n : Int} {S R : Int × (Int → Int)} (h : pS_R a n n S) (k : pS_R a n n R) : S = R := sorry
theorem pS_eq {a : Int → Int32} {n p q : Int} {S : Int × (Int → Int)} (h : pS_R a n p S) (e : q = p) : pS_R a n q S := sorry
/-- all of it: z bytes f -/
def pF_ (a : Int → Int32) (n : Int) (f : Nat → Int32) (z : Int) : Prop := ∃ (S : Int × (Int → Int)) (t : Int), pS_R a n n S ∧ pC_ f z t (sb_ S 256)
theorem pF_u {a : Int → Int32} {n z y : Int} {f g : Nat → Int32} (h : pF_ a n f z) (k : pF_ a n g y) : z = y ∧ rl_B f g z := sorry
theorem tk_li {a : Int → Int32} {n p q : Int} {S : Int × (Int → Int)} {s : Int} (h : lb_N a n p) (hp : p < n) (hq : q = p + 1) (hs : s = ((a p) &&& 255).toInt) : tk_R a n p S q (sb_ S s) := sorry
theorem tk_ro {a : Int → Int32} {n p q L W D : Int} {S : Int × (Int → Int)} (h : lb_S a n p L W) (hp : p < n) (hq : q = p + L) (hD : D = p - W) : tk_R a n p S q (do_ (lo_ S L) D) := sorry
theorem tk_fl {a : Int → Int32} {n p q l d s : Int} {S : Int × (Int → Int)} (h : fl_R a n p l d) (hl : l < 3) (hp : p < n) (hq : q = p + l) (hs : s = ((a p) &&& 255).toInt) : tk_R a n p S q (sb_ S s) := sorry
theorem tk_fr {a : Int → Int32} {n p q l d : Int} {S : Int × (Int → Int)} (h : fl_R a n p l d) (hl : 3 ≤ l) (hp : p < n) (hq : q = p + l) : tk_R a n p S q (do_ (lo_ S l) d) := sorry
theorem sq_by {f : Nat → Int32} {b n p : Int} {v i : Int32} (e1 : v = i &&& 255) (e2 : i = gr f (b + p)) (h0 : 0 ≤ p) (h1 : p < n) : v.toInt = ((sq f b n p) &&& 255).toInt := sorry
theorem pC_c {f : Nat → Int32} {z y t u : Int} {S R : Int × (Int → Int)} (h : pC_ f z t S) (e : y = z) (e1 : u = t) (e2 : S = R) : pC_ f y u R := sorry
theorem pM_c {f : Nat → Int32} {hb hc z : Int} {S R : Int × (Int → Int)} (h : pM_ f hb hc z S) (e2 : S = R) : pM_ f hb hc z R := sorry
/-- as the walker has it: a bit is put by the class -/
theorem pC_put {g3 g4 : Nat → Int32} {z z2 k k2 x t t2 ix : Int} {S : Int × (Int → Int)} {w w2 old u c b q v s kk : Int32} (h : pD_ g3 z t (bn_ S x k.toNat)) (hk : 0 ≤ k) (hk2 : k2 = k + 1) (hx : x = v.toInt) (hkk : kk.toInt = k) (h31 : k < 32) (v0 : 0 ≤ v.toInt) (e1 : w = old ||| u) (e2 : u = c.toInt8.toInt32) (e3 : c = b <<< (s &&& 31)) (e4 : b = q &&& 1) (e5 : q = v >>> (kk &&& 31)) (eo : old = gr g3 ix) (hix : ix = z - 1) (hs : s.toInt = t % 8) (hg : ∀ j : Int, 0 ≤ j → gr g4 j = if j = z - 1 then w2.toInt8.toInt32 else gr g3 j) (e6 : w2 = w.toInt8.toInt32) (hz : z2 = z) (ht : t2 = t + 1) : pC_ g4 z2 t2 (bn_ S x k2.toNat) := sorry
theorem pC_sy {f : Nat → Int32} {z y x r t u : Int} {S R : Int × (Int → Int)} {n : Nat} (h : pC_ f z t (bn_ S r n)) (hr : r = tu_ x n) (hy : y = z) (hu : u = t) (e : bc_ x n S = R) : pC_ f y u R := sorry
theorem lm_rng (L : Int) : 0 ≤ lm_ L ∧ lm_ L ≤ 5 := sorry
theorem dm_rng (D : Int) : 0 ≤ dm_ D ∧ dm_ D ≤ 10 := sorry
theorem p2_7 {k : Int} (h : k ≤ 7) : p2 k ≤ 128 := sorry
theorem bsl_E {z b s : Int32} (e : z = b <<< (s &&& 31)) (hb : 0 ≤ b.toInt ∧ b.toInt ≤ 1) (h0 : 0 ≤ s.toInt) (h1 : s.toInt ≤ 7) : z.toInt = b.toInt * p2 s.toInt ∧ 0 ≤ z.toInt ∧ z.toInt ≤ 128 := sorry
theorem pM_n {g : Nat → Int32} {hb hc z x k k2 : Int} {S : Int × (Int → Int)} {b q v kk : Int32} (h : pM_ g hb hc z (b1_ (bn_ S x k.toNat) b.toInt)) (e1 : b = q &&& 1) (e2 : q = v >>> (kk &&& 31)) (hx : x = v.toInt) (hv : 0 ≤ v.toInt) (hk : kk.toInt = k) (h0 : 0 ≤ k) (h1 : k < 32) (hk2 : k2 = k + 1) : pM_ g hb hc z (bn_ S x k2.toNat) := sorry
theorem pM_d {g : Nat → Int32} {hb hc z x k k2 : Int} {S R : Int × (Int → Int)} {b q v kk : Int32} (h : pM_ g hb hc z (b1_ S b.toInt)) (eR : bc_ x (k + 1).toNat S = R) (e1 : b = q &&& 1) (e2 : q = v >>> (kk &&& 31)) (hx : x = v.toInt) (hv : 0 ≤ v.toInt) (hk : kk.toInt = k) (h0 : 0 ≤ k) (h1 : k < 32) (hk2 : k2 = k - 1) : ∃ S9 : Int × (Int → Int), pM_ g hb hc z S9 ∧ bc_ x (k2 + 1).toNat S9 = R := sorry
theorem pE_st {f g : Nat → Int32} {hb hc z hb2 hc2 z2 b : Int} {S R : Int × (Int → Int)} (h : pM_ f hb hc z R) (e : R.2 = S.2) (w : bw_ S) (l1 : S.1 ≤ R.1) (l2 : R.1 ≤ (S.1 + 7) / 8 * 8) (hc0 : 0 < hc) (hb0 : b = 0) (k : pM_ g hb2 hc2 z2 (b1_ R b)) : pE_ g hb2 hc2 z2 S := sorry
theorem lo_M2 {S : Int × (Int → Int)} {L m s v : Int} (h : ¬ L = 258) (hm : m = lm_ L) (hd : m = 0 ∧ s = 257 + (L - 3) ∨ m = 1 ∧ s = 261 + (L - 3) / 2 ∧ (v - (L - 3)) % 2 = 0 ∨ m = 2 ∧ s = 265 + (L - 3) / 4 ∧ (v - (L - 3)) % 4 = 0 ∨ m = 3 ∧ s = 269 + (L - 3) / 8 ∧ (v - (L - 3)) % 8 = 0 ∨ m = 4 ∧ s = 273 + (L - 3) / 16 ∧ (v - (L - 3)) % 16 = 0 ∨ m = 5 ∧ s = 277 + (L - 3) / 32 ∧ (v - (L - 3)) % 32 = 0) : bn_ (sb_ S s) v m.toNat = lo_ S L := sorry
theorem do_M2 {S : Int × (Int → Int)} {D m s v : Int} (hm : m = dm_ D) (hd : m = 0 ∧ s = D - 1 ∨ m = 1 ∧ s = 2 + (D - 1) / 2 ∧ (v - (D - 1)) % 2 = 0 ∨ m = 2 ∧ s = 4 + (D - 1) / 4 ∧ (v - (D - 1)) % 4 = 0 ∨ m = 3 ∧ s = 6 + (D - 1) / 8 ∧ (v - (D - 1)) % 8 = 0 ∨ m = 4 ∧ s = 8 + (D - 1) / 16 ∧ (v - (D - 1)) % 16 = 0 ∨ m = 5 ∧ s = 10 + (D - 1) / 32 ∧ (v - (D - 1)) % 32 = 0 ∨ m = 6 ∧ s = 12 + (D - 1) / 64 ∧ (v - (D - 1)) % 64 = 0 ∨ m = 7 ∧ s = 14 + (D - 1) / 128 ∧ (v - (D - 1)) % 128 = 0 ∨ m = 8 ∧ s = 16 + (D - 1) / 256 ∧ (v - (D - 1)) % 256 = 0 ∨ m = 9 ∧ s = 18 + (D - 1) / 512 ∧ (v - (D - 1)) % 512 = 0 ∨ m = 10 ∧ s = 20 + (D - 1) / 1024 ∧ (v - (D - 1)) % 1024 = 0) : bn_ (bc_ s 5 S) v m.toNat = do_ S D := sorry
theorem pF_rl {a : Int → Int32} {n z y : Int} {f g : Nat → Int32} (h : pF_ a n f z) (e : y = z) (r : rl_B f g z) : pF_ a n g y := sorry
theorem po_law {f g cf of cf0 of0 : Nat → Int32} {s t k th c o c0 o0 : Int} (h : rl_B f g s) (e : s = t) (l : k = 0 → pF_ (sq f (0 : Int32).toInt s) s cf c) (l1 : k = 1 → c = c0 ∧ cf = cf0) (kk : k = 0 ∨ k = 1) (m : th = 0 → pF_ (sq g (0 : Int32).toInt t) t of o) (m1 : th = 1 → o = o0 ∧ of = of0) (th0 : k = th) (r0 : c0 = o0) (r1 : rl_B cf0 of0 c0) : c = o ∧ rl_B cf of c := sorry
/-- quotients by a power of two -/
theorem dv_ge {v p k : Int} (h : k ≤ v / p) (hp : 0 < p) : k * p ≤ v := sorry
theorem dv_lt {v p k : Int} (h : v / p < k) (hp : 0 < p) : v < k * p := sorry
theorem p2_nat (m : Int) : p2 m = ((2 ^ m.toNat : Nat) : Int) := sorry
theorem p2_9 {m : Int} (h : p2 m ≤ 1000) : m ≤ 9 := sorry
theorem p2_4 {m : Int} (h : p2 m ≤ 31) : m ≤ 4 := sorry
theorem dm_E {D m : Int} (h0 : 0 ≤ m) (h1 : m ≤ 10) (h2 : m = 0 ∨ 2 * p2 m ≤ D - 1) (h3 : D - 1 < 4 * p2 m) : m = dm_ D := sorry
theorem lm_E {L m : Int} (h0 : 0 ≤ m) (h1 : m ≤ 5) (h2 : m = 0 ∨ 4 * p2 m ≤ L - 3) (h3 : m = 5 ∨ L - 3 < 8 * p2 m) (h4 : L ≤ 257) : m = lm_ L := sorry
theorem di_dm {D : Int} (h : D ≤ 4096) : di_c D = 5 + dm_ D := sorry
theorem le_lm {L m s : Int} (h0 : 3 ≤ L) (h1 : L ≤ 257) (hm : m = lm_ L) (hs : s = 257 + 4 * m + (L - 3) / p2 m) : 257 ≤ s ∧ s ≤ 285 ∧ (s < 280 ∧ le_c L = 7 + m ∨ 280 ≤ s ∧ le_c L = 8 + m) := sorry
