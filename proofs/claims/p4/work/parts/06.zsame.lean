/-- a byte without its sign; n bytes from y on as a number -/
def bv (f : Nat → Int32) (k : Int) : Int := (gr f k &&& 255).toInt
theorem bv_rng (f : Nat → Int32) (k : Int) : 0 ≤ bv f k ∧ bv f k ≤ 255 := sorry
def av (f : Nat → Int32) (y : Int) : Nat → Int
  | 0 => 0
  | n + 1 => 256 * av f (y + 1) n + bv f y
theorem av_rng (f : Nat → Int32) : ∀ (n : Nat) (y : Int), 0 ≤ av f y n ∧ av f y n < ((256 ^ n : Nat) : Int) := sorry
theorem av2 (f : Nat → Int32) (y : Int) : 0 ≤ av f y 2 ∧ av f y 2 ≤ 65535 := sorry
theorem av4 (f : Nat → Int32) (y : Int) : 0 ≤ av f y 4 ∧ av f y 4 < 4294967296 := sorry
theorem av_le (f : Nat → Int32) {n : Nat} (h : n ≤ 4) (y : Int) : 0 ≤ av f y n ∧ av f y n < 4294967296 := sorry
theorem av_s {f : Nat → Int32} {x k n : Int} (h : k < n) (h0 : 0 ≤ k) : av f (x + k) (n - k).toNat = 256 * av f (x + k + 1) (n - k - 1).toNat + bv f (x + k) := sorry
/-- the places of the entries, as the reference steps -/
def dq (f : Nat → Int32) (a : Int) : Nat → Int
  | 0 => a
  | k + 1 => dq f a k + 46 + av f (dq f a k + 28) 2
theorem dq_up (f : Nat → Int32) (a : Int) : ∀ m k : Nat, dq f a k + 46 * m ≤ dq f a (k + m) := sorry
/-- a directory that can be walked from a to e -/
def dq_ok (f : Nat → Int32) (a e : Int) : Prop := 0 ≤ a ∧ a ≤ e ∧ ∃ n : Nat, dq f a n = e ∧ ∀ j : Nat, j < n → dq f a j + 46 ≤ e
theorem dq_next {f : Nat → Int32} {a e p : Int} (h : dq_ok f a e) (hp : ∃ j : Nat, p = dq f a j ∧ p ≤ e) (hl : p < e) : a ≤ p ∧ p + 46 + av f (p + 28) 2 ≤ e ∧ ∃ j : Nat, p + 46 + av f (p + 28) 2 = dq f a j := sorry
/-! bytes that are the same, that differ -/
theorem ie_eq {i j A B : Int32} (e1 : i = A) (e2 : j = B) (h : i.toInt = j.toInt) : A = B := sorry
theorem ie_ne {i j A B : Int32} (e1 : i = A) (e2 : j = B) (h : ¬ i.toInt = j.toInt) : ¬ A = B := sorry
theorem ie_lt {i j A B C D : Int32} (e1 : i = A) (e2 : j = B) (ha : A = C) (hb : B = D) (h : i.toInt < j.toInt) : C.toInt < D.toInt := sorry
theorem lp_st {α : Type} {A B : Int → α} {k k2 : Int} (h : ∀ j : Int, 0 ≤ j → j < k → A j = B j) (e : k2 = k + 1) (h3 : A k = B k) : ∀ j : Int, 0 ≤ j → j < k2 → A j = B j := sorry
theorem ll_st {P : Int → Prop} {k k2 : Int} (h : ∀ j : Int, 0 ≤ j → j < k → P j) (e : k2 = k + 1) (h3 : P k) : ∀ j : Int, 0 ≤ j → j < k2 → P j := sorry
/-! NAMES -/
def ch_ (c : Int) : Prop := 97 ≤ c ∧ c ≤ 122 ∨ 48 ≤ c ∧ c ≤ 57 ∨ c = 46 ∨ c = 95
def pe_ (a : Int → Int) (b e : Int) : Prop := b < e ∧ (∀ k : Int, b ≤ k → k < e → ch_ (a k)) ∧ ¬ (e - b ≤ 2 ∧ ∀ k : Int, b ≤ k → k < e → a k = 46)
def iA_ (a : Int → Int) (x n : Int) : Prop := 1 ≤ n ∧ n ≤ 24 ∧ ∀ b e : Int, x ≤ b → b ≤ e → e ≤ x + n → (b = x ∨ a (b - 1) = 47) → (e = x + n ∨ a e = 47) → (∀ k : Int, b ≤ k → k < e → ¬ a k = 47) → pe_ a b e
def iB_ (a : Int → Int) (x n bg : Int) : Prop := ∀ b e : Int, x ≤ b → b ≤ e → e < bg → (b = x ∨ a (b - 1) = 47) → (e = x + n ∨ a e = 47) → (∀ k : Int, b ≤ k → k < e → ¬ a k = 47) → pe_ a b e
theorem iB_0 {a : Int → Int} {x n bg : Int} (h : bg = x) : iB_ a x n bg := sorry
theorem iB_s {a : Int → Int} {x n bg k bg2 : Int} (h : iB_ a x n bg) (h0 : x ≤ bg) (hb : bg = x ∨ a (bg - 1) = 47) (h1 : bg ≤ k) (h47 : ∀ j : Int, bg ≤ j → j < k → ¬ a j = 47) (hk : k ≤ x + n) (p : pe_ a bg k) (e2 : bg2 = k + 1) : iB_ a x n bg2 := sorry
theorem iA_of {a : Int → Int} {x n bg : Int} (h : iB_ a x n bg) (hb : bg = x + n + 1) (h0 : 1 ≤ n) (h1 : n ≤ 24) : iA_ a x n := sorry
theorem iA_no {a : Int → Int} {x n bg k : Int} (h0 : x ≤ bg) (hb : bg = x ∨ a (bg - 1) = 47) (h1 : bg ≤ k) (hk : k ≤ x + n) (h47 : ∀ j : Int, bg ≤ j → j < k → ¬ a j = 47) (he : k = x + n ∨ a k = 47) (p : ¬ pe_ a bg k) : ¬ iA_ a x n := sorry
theorem nx_ {a : Int → Int} {x n : Int} : ∀ (d : Nat) (k : Int), k + d = x + n → ∃ e : Int, k ≤ e ∧ e ≤ x + n ∧ (e = x + n ∨ a e = 47) ∧ ∀ j : Int, k ≤ j → j < e → ¬ a j = 47 := sorry
/-- a byte that no name has -/
theorem iA_ch {a : Int → Int} {x n bg k : Int} (h0 : x ≤ bg) (hb : bg = x ∨ a (bg - 1) = 47) (h1 : bg ≤ k) (hk : k < x + n) (h47 : ∀ j : Int, bg ≤ j → j < k → ¬ a j = 47) (hc : ¬ ch_ (a k)) (hn : ¬ a k = 47) : ¬ iA_ a x n := sorry
theorem iA_out {a : Int → Int} {x n : Int} (h : ¬ (1 ≤ n ∧ n ≤ 24)) : ¬ iA_ a x n := sorry
theorem iA_cong {a b : Int → Int} {x n : Int} (h : ∀ k : Int, x ≤ k → k < x + n → a k = b k) (q : iA_ a x n) : iA_ b x n := sorry
/-- the class's count of dots -/
theorem pe_y {a : Int → Int} {b e d : Int} (h0 : b < e) (h1 : ∀ k : Int, b ≤ k → k < e → ch_ (a k)) (hd : (∀ k : Int, b ≤ k → k < e → a k = 46) → d = e - b) (h : d < e - b ∨ 2 < d) : pe_ a b e := sorry
theorem pe_n {a : Int → Int} {b e d : Int} (hd : d = e - b → ∀ k : Int, b ≤ k → k < e → a k = 46) (h : ¬ b < e ∨ e - b ≤ d ∧ d ≤ 2) (hle : b < e → d ≤ e - b) : ¬ pe_ a b e := sorry
theorem pe_c {a : Int → Int} {b e k : Int} (h0 : b ≤ k) (h1 : k < e) (hc : ¬ ch_ (a k)) : ¬ pe_ a b e := sorry
theorem lq_st {P : Int → Prop} {b k k2 : Int} (h : ∀ j : Int, b ≤ j → j < k → P j) (e : k2 = k + 1) (h3 : P k) : ∀ j : Int, b ≤ j → j < k2 → P j := sorry
theorem dt_y {a : Int → Int} {b k k2 d d2 : Int} (h : d = k - b → ∀ j : Int, b ≤ j → j < k → a j = 46) (hle : d ≤ k - b) (e : k2 = k + 1) (hs : a k = 46 ∧ d2 = d + 1 ∨ ¬ a k = 46 ∧ d2 = d) : d2 = k2 - b → ∀ j : Int, b ≤ j → j < k2 → a j = 46 := sorry
theorem dt_n {a : Int → Int} {b k k2 d d2 : Int} (h : (∀ j : Int, b ≤ j → j < k → a j = 46) → d = k - b) (hk : b ≤ k) (e : k2 = k + 1) (hs : a k = 46 ∧ d2 = d + 1 ∨ ¬ a k = 46 ∧ d2 = d) : (∀ j : Int, b ≤ j → j < k2 → a j = 46) → d2 = k2 - b := sorry
/-- the reference's: a piece of bytes that names have -/
theorem pe_r {a : Int → Int} {b e : Int} (h0 : b < e) (h1 : ∀ k : Int, b ≤ k → k < e → ch_ (a k)) (hd : ¬ (e - b = 1 ∧ a b = 46 ∨ e - b = 2 ∧ a b = 46 ∧ a (b + 1) = 46)) : pe_ a b e := sorry
theorem pe_q {a : Int → Int} {b e : Int} (h : ¬ b < e ∨ (e - b = 1 ∧ a b = 46 ∨ e - b = 2 ∧ a b = 46 ∧ a (b + 1) = 46)) : ¬ pe_ a b e := sorry
/-! NUMBERS OF A ROW -/
theorem or_nat (x y k : Nat) (h : x < 2 ^ k) : x ||| y * 2 ^ k = x + y * 2 ^ k := sorry
theorem ti_orv {x y z : Int32} {a b c : Int} (k : Nat) (e : z = x ||| y) (hx : x.toInt = a) (hy : y.toInt = b * c) (hk : ((2 ^ k : Nat) : Int) = c) (a0 : 0 ≤ a) (a1 : a < c) (b0 : 0 ≤ b) : z.toInt = a + b * c := sorry
theorem tl_orv {x y z : Int64} {a b c : Int} (k : Nat) (e : z = x ||| y) (hx : x.toInt = a) (hy : y.toInt = b * c) (hk : ((2 ^ k : Nat) : Int) = c) (a0 : 0 ≤ a) (a1 : a < c) (b0 : 0 ≤ b) : z.toInt = a + b * c := sorry
theorem av_2 (f : Nat → Int32) (y : Int) : av f y 2 = bv f y + 256 * bv f (y + 1) := sorry
theorem av4_2 (f : Nat → Int32) (y : Int) : av f y 4 = av f y 2 + 65536 * av f (y + 2) 2 := sorry
theorem tw_avE {f : Nat → Int32} {x : Int} {z a b c d e : Int32} (e1 : z = a ||| b) (e2 : b = c <<< ((8 : Int32) &&& 31)) (e3 : c = d &&& 255) (e4 : d = gr f (x + 1)) (e5 : a = e &&& 255) (e6 : e = gr f x) : z.toInt = av f x 2 := sorry
/-- the sum of bytes -/
def cw_ (d : Int → Int32) : Nat → Int32
  | 0 => -1
  | m + 1 => cr_i 8 (cw_ d m ^^^ (d m &&& 255))
theorem cr_cw {f : Nat → Int32} {d : Int → Int32} {x : Int} : ∀ m : Nat, (∀ j : Int, 0 ≤ j → j < m → gr f (x + j) = d j) → cr_n f x m = cw_ d m := sorry
theorem l2i_E {z : Int64} {w : Int32} {v : Int} (e : w = z.toInt32) (h : z.toInt = v) : w = Int32.ofInt v := sorry
/-! THE FILE: the pure picture -/
def ap_ (f : Nat → Int32) (s : Int) (g : Nat → Int32) (t : Int) (K : List Int32) : Prop := t = s + (K.length : Int) ∧ (∀ j : Int, 0 ≤ j → j < s → gr g j = gr f j) ∧ ∀ k : Nat, k < K.length → K[k]? = some (gr g (s + (k : Int)))
theorem ap_nil {f : Nat → Int32} {s t : Int} (h : t = s) : ap_ f s f t [] := sorry
theorem ap_app {f g h : Nat → Int32} {s t u : Int} {K L : List Int32} (s0 : 0 ≤ s) (a : ap_ f s g t K) (b : ap_ g t h u L) : ap_ f s h u (K ++ L) := sorry
theorem ap_e {f g : Nat → Int32} {s t : Int} {K L : List Int32} (a : ap_ f s g t K) (e : K = L) : ap_ f s g t L := sorry
theorem ap_1 {f g : Nat → Int32} {s t : Int} {v w : Int32} (ht : t = s + 1) (s0 : 0 ≤ s) (hg : ∀ j : Int, 0 ≤ j → gr g j = if j = s then v else gr f j) (e : v = w) : ap_ f s g t [w] := sorry
/-- a run of bytes -/
def bl_ (g : Nat → Int32) (y n : Int) : List Int32 := (List.range n.toNat).map (fun (k : Nat) => gr g (y + (k : Int)))
theorem bl_len (g : Nat → Int32) (y n : Int) : (bl_ g y n).length = n.toNat := sorry
theorem bl_get {g : Nat → Int32} {y n : Int} {k : Nat} (h : k < n.toNat) : (bl_ g y n)[k]? = some (gr g (y + (k : Int))) := sorry
theorem mp_ext {α β : Type} {f g : Nat → β} : ∀ {n : Nat}, (∀ k : Nat, k < n → f k = g k) → (List.range n).map f = (List.range n).map g := sorry
theorem bl_cg {f g : Nat → Int32} {x y n m : Int} (e : n = m) (h : ∀ k : Int, 0 ≤ k → k < n → gr f (x + k) = gr g (y + k)) : bl_ f x n = bl_ g y m := sorry
theorem ap_bl {f g r : Nat → Int32} {s t n y : Int} (ht : t = s + n) (n0 : 0 ≤ n) (s0 : 0 ≤ s) (hg : ∀ j : Int, 0 ≤ j → gr g j = if s ≤ j ∧ j < s + n then gr r (y + (j - s)) else gr f j) : ap_ f s g t (bl_ r y n) := sorry
/-- numbers, their lowest byte first -/
def nk_ (v : Int) : Nat → List Int32
  | 0 => []
  | k + 1 => nk_ v k ++ [by_ (v / ((256 ^ k : Nat) : Int))]
theorem nk_len (v : Int) : ∀ n : Nat, (nk_ v n).length = n := sorry
theorem nk_1 (v : Int) : nk_ v 1 = [by_ v] := sorry
theorem nk_2 (v : Int) : nk_ v 2 = [by_ v] ++ [by_ (v / 256)] := sorry
theorem nk_4 (v : Int) : nk_ v 4 = nk_ v 2 ++ nk_ (v / 65536) 2 := sorry
theorem nk_42 {v : Int} (h0 : 0 ≤ v) (h1 : v < 65536) : nk_ v 4 = nk_ v 2 ++ nk_ 0 2 := sorry
theorem nk_08 : nk_ 0 8 = nk_ 0 2 ++ nk_ 0 2 ++ nk_ 0 2 ++ nk_ 0 2 := sorry
theorem tb_c (w : Int64) {c : Int64} (n : Nat) (hv : (c.toBitVec.smod 64).toNat = n) : (w >>> c).toInt = w.toInt / ((2 ^ n : Nat) : Int) := sorry
theorem tp_by {w : Int64} {k : Nat} (h : k ≤ 7) : tp_b w (k : Int) = by_ (w.toInt / ((256 ^ k : Nat) : Int)) := sorry
theorem ap_nk {f g g2 : Nat → Int32} {s t t2 k k2 : Int} {v : Int32} {w : Int64} (s0 : 0 ≤ s) (h : ap_ f s g t (nk_ w.toInt k.toNat)) (k0 : 0 ≤ k) (k7 : k ≤ 7) (h2 : ∀ j : Int, 0 ≤ j → gr g2 j = if j = t then v.toInt8.toInt32 else gr g j) (hv : v.toInt8.toInt32 = tp_b w k) (ht : t2 = t + 1) (hk : k2 = k + 1) : ap_ f s g2 t2 (nk_ w.toInt k2.toNat) := sorry
