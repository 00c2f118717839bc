/-! ROWS OF NUMBERS -/
theorem omg_377aec9634 {x0 : Int} (a0 : ((0 : Int) ≤ x0)) (a1 : (x0 ≤ (10 : Int))) : ((x0 = (0 : Int)) ∨ ((x0 = (1 : Int)) ∨ ((x0 = (2 : Int)) ∨ ((x0 = (3 : Int)) ∨ ((x0 = (4 : Int)) ∨ ((x0 = (5 : Int)) ∨ ((x0 = (6 : Int)) ∨ ((x0 = (7 : Int)) ∨ ((x0 = (8 : Int)) ∨ ((x0 = (9 : Int)) ∨ (x0 = (10 : Int)))))))))))) := by omega
theorem pb_mmin {l : Launch} {G : pb_G} {M : pb_M} {I : pb_I} {pc : Nat} {lo : List (Nat × Value)} {rest : List Value} {ws : va_W} {ck cn : Nat} {index : Nat} {x y : Int32} (hd : decode (pi_c I) pc = .ok (.invokestatic index, 3)) (w1 : Cond.methodLink (pi_y I).cls index Lib.Math.min.name ∈ uW) (w2 : Cond.static Lib.Math.min.name ∈ uW) (w3 : Cond.initialized "java/lang/Math" ∈ uW) (w4 : Cond.code Lib.Math.min.name Lib.Math.min.code 2 (some .int) ∈ uW) (h6 : 1 ≤ (pi_R I).frames) (h7 : (rest.map fun v => v.category).sum + 13 ≤ (pi_R I).locals) (hc : ck ≤ (pi_R I).cells) (hs : cn ≤ (pi_R I).slots) (kk : ∀ z : Int32, z.toInt ≤ x.toInt → z.toInt ≤ y.toInt → (z.toInt = x.toInt ∨ z.toInt = y.toInt) → pb_P l G M I (pc + 3) lo (.int z :: rest) ws ck cn) : pb_P l G M I pc lo (.int y :: .int x :: rest) ws ck cn := fun E H locs ls hP hD hS hl => by
  refine va_mmin E.1 E.2.1 (E.2.2.1.trans hl.1.symm) E.2.2.2.1 (pb_w E w1) (pb_w E w2) (pb_w E w3) (pb_w E w4) h6 h7 hc hs hd ?_
  by_cases h : y < x
  · have h2 := Int32.lt_iff_toInt_lt.mp h
    rw [if_pos h]
    exact kk y (by omega) (Int.le_refl _) (Or.inr rfl) E H locs ls hP hD hS hl
  · have h2 : ¬ y.toInt < x.toInt := fun z => h (Int32.lt_iff_toInt_lt.mpr z)
    rw [if_neg h]
    exact kk x (Int.le_refl _) (by omega) (Or.inl rfl) E H locs ls hP hD hS hl

/-- a row of bytes as it is: n bytes from place b of an array on -/
def sq (f : Nat → Int32) (b n : Int) : Int → Int32 := fun j => if 0 ≤ j ∧ j < n then gr f (b + j) else 0
theorem sq_at {f : Nat → Int32} {b n j : Int} (h0 : 0 ≤ j) (h1 : j < n) : sq f b n j = gr f (b + j) := if_pos ⟨h0, h1⟩
theorem sq_rl {f g : Nat → Int32} {n : Int} (h : rl_B f g n) : sq f (0 : Int32).toInt n = sq g (0 : Int32).toInt n := by
  funext j
  unfold sq
  by_cases c : 0 ≤ j ∧ j < n
  · rw [if_pos c, if_pos c, show (0 : Int32).toInt = 0 by decide, Int.zero_add]
    exact h j c.1 c.2
  · rw [if_neg c, if_neg c]
/-- r bytes from x on are those from y on, and not one more, but for the most m -/
def sm_R (a : Int → Int32) (x y m r : Int) : Prop := 0 ≤ r ∧ r ≤ m ∧ (∀ j : Int, 0 ≤ j → j < r → a (x + j) = a (y + j)) ∧ (r < m → ¬ a (x + r) = a (y + r))
theorem sm_uniq {a : Int → Int32} {x y m r s : Int} (h : sm_R a x y m r) (k : sm_R a x y m s) : r = s := by
  obtain ⟨h0, h1, h2, h3⟩ := h
  obtain ⟨k0, k1, k2, k3⟩ := k
  rcases Int.lt_trichotomy r s with c | c | c
  · exact absurd (k2 r h0 c) (h3 (by omega))
  · exact c
  · exact absurd (h2 s k0 c) (k3 (by omega))
/-- how many bytes may be alike at place p -/
def mm_ (n p : Int) : Int := if n - p < 258 then n - p else 258
theorem mm_le {n p : Int} : mm_ n p ≤ n - p ∧ mm_ n p ≤ 258 ∧ (mm_ n p = n - p ∨ mm_ n p = 258) := by
  unfold mm_
  split <;> omega
/-- the longest row before place p has L bytes and begins at W; there is none of three bytes -/
def lb_S (a : Int → Int32) (n p L W : Int) : Prop := 3 ≤ L ∧ 0 ≤ W ∧ W < p ∧ sm_R a W p (mm_ n p) L ∧ ∀ i r : Int, 0 ≤ i → i < p → sm_R a i p (mm_ n p) r → r ≤ L ∧ (r = L → i ≤ W)
def lb_N (a : Int → Int32) (n p : Int) : Prop := ∀ i r : Int, 0 ≤ i → i < p → sm_R a i p (mm_ n p) r → r < 3
theorem lb_uniq {a : Int → Int32} {n p L W L' W' : Int} (h : lb_S a n p L W) (k : lb_S a n p L' W') : L = L' ∧ W = W' := by
  obtain ⟨h0, h1, h2, h3, h4⟩ := h
  obtain ⟨k0, k1, k2, k3, k4⟩ := k
  have a1 := h4 W' L' k1 k2 k3
  have a2 := k4 W L h1 h2 h3
  omega
theorem lb_not {a : Int → Int32} {n p L W : Int} (h : lb_S a n p L W) (k : lb_N a n p) : False := by
  obtain ⟨h0, h1, h2, h3, h4⟩ := h
  have := k W L h1 h2 h3
  omega
/-- how many bits a byte, a length, a distance has -/
def li_c (b : Int32) : Int := if (b &&& 255).toInt < 144 then 8 else 9
def le_c (L : Int) : Int := if L ≤ 10 then 7 else if L ≤ 18 then 8 else if L ≤ 34 then 9 else if L ≤ 66 then 10 else if L ≤ 114 then 11 else if L ≤ 130 then 12 else if L ≤ 257 then 13 else 8
def di_c (D : Int) : Int := if D ≤ 4 then 5 else if D ≤ 8 then 6 else if D ≤ 16 then 7 else if D ≤ 32 then 8 else if D ≤ 64 then 9 else if D ≤ 128 then 10 else if D ≤ 256 then 11 else if D ≤ 512 then 12 else if D ≤ 1024 then 13 else if D ≤ 2048 then 14 else 15
theorem li_rng (b : Int32) : 8 ≤ li_c b ∧ li_c b ≤ 9 := by
  unfold li_c
  split <;> omega
theorem li_cE {b v : Int32} {c : Int} (e : v = b &&& 255) (h : v.toInt < 144 ∧ c = 8 ∨ 144 ≤ v.toInt ∧ c = 9) : c = li_c b := by
  unfold li_c
  rw [← e]
  split <;> omega
theorem le_cE {L c : Int} (h : L ≤ 10 ∧ c = 7 ∨ 11 ≤ L ∧ L ≤ 18 ∧ c = 8 ∨ 19 ≤ L ∧ L ≤ 34 ∧ c = 9 ∨ 35 ≤ L ∧ L ≤ 66 ∧ c = 10 ∨ 67 ≤ L ∧ L ≤ 114 ∧ c = 11 ∨ 115 ≤ L ∧ L ≤ 130 ∧ c = 12 ∨ 131 ≤ L ∧ L ≤ 257 ∧ c = 13 ∨ 258 ≤ L ∧ c = 8) : c = le_c L := by
  unfold le_c
  repeat (split; · omega)
  omega
theorem le_cb (L : Int) (h : 3 ≤ L) : 7 ≤ le_c L ∧ le_c L ≤ 13 ∧ le_c L + 15 ≤ 9 * L := by
  unfold le_c
  repeat (split; · omega)
  omega
theorem di_cE {D c : Int} (h : D ≤ 4 ∧ c = 5 ∨ 5 ≤ D ∧ D ≤ 8 ∧ c = 6 ∨ 9 ≤ D ∧ D ≤ 16 ∧ c = 7 ∨ 17 ≤ D ∧ D ≤ 32 ∧ c = 8 ∨ 33 ≤ D ∧ D ≤ 64 ∧ c = 9 ∨ 65 ≤ D ∧ D ≤ 128 ∧ c = 10 ∨ 129 ≤ D ∧ D ≤ 256 ∧ c = 11 ∨ 257 ≤ D ∧ D ≤ 512 ∧ c = 12 ∨ 513 ≤ D ∧ D ≤ 1024 ∧ c = 13 ∨ 1025 ≤ D ∧ D ≤ 2048 ∧ c = 14 ∨ 2049 ≤ D ∧ c = 15) : c = di_c D := by
  unfold di_c
  repeat (split; · omega)
  omega
theorem di_cb (D : Int) : 5 ≤ di_c D ∧ di_c D ≤ 15 := by
  unfold di_c
  repeat (split; · omega)
  omega
/-- one symbol, or one length and distance, from place p to place q, in c bits -/
def ts_R (a : Int → Int32) (n p q c : Int) : Prop := p < n ∧ ((lb_N a n p ∧ q = p + 1 ∧ c = li_c (a p)) ∨ ∃ L W : Int, lb_S a n p L W ∧ q = p + L ∧ c = le_c L + di_c (p - W))
theorem ts_uniq {a : Int → Int32} {n p q c q' c' : Int} (h : ts_R a n p q c) (k : ts_R a n p q' c') : q = q' ∧ c = c' := by
  obtain ⟨h0, h1⟩ := h
  obtain ⟨k0, k1⟩ := k
  rcases h1 with ⟨h2, h3, h4⟩ | ⟨L, W, h2, h3, h4⟩ <;> rcases k1 with ⟨k2, k3, k4⟩ | ⟨L', W', k2, k3, k4⟩
  · exact ⟨by omega, by rw [h4, k4]⟩
  · exact (lb_not k2 h2).elim
  · exact (lb_not h2 k2).elim
  · obtain ⟨e1, e2⟩ := lb_uniq h2 k2
    subst e1 e2
    exact ⟨by omega, by omega⟩
theorem ts_rng {a : Int → Int32} {n p q c : Int} (h : ts_R a n p q c) : p < q ∧ q ≤ n ∧ 0 ≤ c ∧ c ≤ 9 * (q - p) := by
  obtain ⟨h0, h1⟩ := h
  rcases h1 with ⟨h2, h3, h4⟩ | ⟨L, W, h2, h3, h4⟩
  · have := li_rng (a p)
    omega
  · obtain ⟨k0, k1, k2, k3, k4⟩ := h2
    have b1 := k3.2.1
    have b2 := mm_le (n := n) (p := p)
    have b3 := le_cb L k0
    have b4 := di_cb (p - W)
    omega
/-- the place and the bits behind so many of them -/
noncomputable def ts_f (a : Int → Int32) (n : Int) (s : Int × Int) : Int × Int := @dite (Int × Int) (∃ t : Int × Int, ts_R a n s.1 t.1 (t.2 - s.2)) (Classical.propDecidable _) (fun h => Classical.choose h) (fun _ => s)
noncomputable def ts_i (a : Int → Int32) (n : Int) : Nat → Int × Int
  | 0 => (0, 3)
  | k + 1 => ts_f a n (ts_i a n k)
theorem ts_pos {a : Int → Int32} {n p q c T : Int} (h : ts_R a n p q c) : ts_f a n (p, T) = (q, T + c) := by
  have hx : ∃ t : Int × Int, ts_R a n (p, T).1 t.1 (t.2 - (p, T).2) := ⟨(q, T + c), by show ts_R a n p q (T + c - T); rw [show T + c - T = c by omega]; exact h⟩
  have hs := Classical.choose_spec hx
  have e : ts_f a n (p, T) = Classical.choose hx := dif_pos hx
  rw [e]
  have u := ts_uniq hs h
  exact Prod.ext u.1 (by have := u.2; show (Classical.choose hx).2 = T + c; have e2 : (p, T).2 = T := rfl; omega)
theorem ts_neg {a : Int → Int32} {n p T : Int} (h : n ≤ p) : ts_f a n (p, T) = (p, T) := by
  have hx : ¬ ∃ t : Int × Int, ts_R a n (p, T).1 t.1 (t.2 - (p, T).2) := fun ⟨t, ht⟩ => by
    have := ht.1
    have e2 : (p, T).1 = p := rfl
    omega
  exact dif_neg hx
/-- T bits are made when place p is next -/
def pt_R (a : Int → Int32) (n p T : Int) : Prop := ∃ k : Nat, ts_i a n k = (p, T)
theorem pt_00 {a : Int → Int32} {n : Int} : pt_R a n 0 3 := ⟨0, rfl⟩
theorem pt_st {a : Int → Int32} {n p q c T T' : Int} (h : pt_R a n p T) (k : ts_R a n p q c) (e : T' = T + c) : pt_R a n q T' := by
  obtain ⟨j, hj⟩ := h
  refine ⟨j + 1, ?_⟩
  show ts_f a n (ts_i a n j) = (q, T')
  rw [hj, ts_pos k, e]
theorem pt_stay {a : Int → Int32} {n T : Int} {k : Nat} (h : ts_i a n k = (n, T)) : ∀ d : Nat, ts_i a n (k + d) = (n, T)
  | 0 => h
  | d + 1 => by
    show ts_f a n (ts_i a n (k + d)) = (n, T)
    rw [pt_stay h d, ts_neg (Int.le_refl n)]
theorem pt_uniq {a : Int → Int32} {n T T' : Int} (h : pt_R a n n T) (k : pt_R a n n T') : T = T' := by
  obtain ⟨i, hi⟩ := h
  obtain ⟨j, hj⟩ := k
  rcases Nat.le_total i j with c | c
  · have e := pt_stay hi (j - i)
    rw [show i + (j - i) = j by omega, hj] at e
    exact (Prod.mk.inj e).2.symm
  · have e := pt_stay hj (i - j)
    rw [show j + (i - j) = i by omega, hi] at e
    exact (Prod.mk.inj e).2
theorem pt_all {a : Int → Int32} {n : Int} (hn : 0 ≤ n) : ∀ k : Nat, 0 ≤ (ts_i a n k).1 ∧ (ts_i a n k).1 ≤ n ∧ 3 ≤ (ts_i a n k).2 ∧ (ts_i a n k).2 ≤ 3 + 9 * (ts_i a n k).1
  | 0 => by
    show (0 : Int) ≤ 0 ∧ (0 : Int) ≤ n ∧ (3 : Int) ≤ 3 ∧ (3 : Int) ≤ 3 + 9 * 0
    omega
  | k + 1 => by
    have ih := pt_all (a := a) hn k
    generalize hs : ts_i a n k = z at ih
    obtain ⟨p, T⟩ := z
    show 0 ≤ (ts_f a n (ts_i a n k)).1 ∧ (ts_f a n (ts_i a n k)).1 ≤ n ∧ 3 ≤ (ts_f a n (ts_i a n k)).2 ∧ (ts_f a n (ts_i a n k)).2 ≤ 3 + 9 * (ts_f a n (ts_i a n k)).1
    rw [hs]
    by_cases hx : ∃ t : Int × Int, ts_R a n (p, T).1 t.1 (t.2 - (p, T).2)
    · obtain ⟨⟨q, U⟩, ht⟩ := hx
      have ht2 : ts_R a n p q (U - T) := ht
      rw [ts_pos ht2]
      have r := ts_rng ht2
      have i1 : 0 ≤ p ∧ p ≤ n ∧ 3 ≤ T ∧ T ≤ 3 + 9 * p := ih
      show 0 ≤ q ∧ q ≤ n ∧ 3 ≤ T + (U - T) ∧ T + (U - T) ≤ 3 + 9 * q
      omega
    · have e : ts_f a n (p, T) = (p, T) := dif_neg hx
      rw [e]
      exact ih
theorem pt_rng {a : Int → Int32} {n p T : Int} (hn : 0 ≤ n) (h : pt_R a n p T) : 0 ≤ p ∧ p ≤ n ∧ 3 ≤ T ∧ T ≤ 3 + 9 * p := by
  obtain ⟨k, hk⟩ := h
  have := pt_all (a := a) hn k
  rw [hk] at this
  exact this
/-- the size of all: the bits, seven more, and zeros to the end of the byte -/
def pt_F (a : Int → Int32) (n z : Int) : Prop := ∃ T : Int, pt_R a n n T ∧ z = (T + 14) / 8
theorem pt_Fu {a : Int → Int32} {n z z' : Int} (h : pt_F a n z) (k : pt_F a n z') : z = z' := by
  obtain ⟨T, h1, h2⟩ := h
  obtain ⟨T', k1, k2⟩ := k
  have := pt_uniq h1 k1
  omega
/-- the mix of three bytes -/
def mx_ (a : Int → Int32) (p : Int) : Int := ((((a p) <<< ((6 : Int32) &&& 31)) ^^^ ((a (p + 1)) <<< ((3 : Int32) &&& 31)) ^^^ (a (p + 2))) &&& 1023).toInt
theorem mx_sm {a : Int → Int32} {x y m r : Int} (h : sm_R a x y m r) (hr : 3 ≤ r) : mx_ a x = mx_ a y := by
  have e0 := h.2.2.1 0 (by omega) (by omega)
  have e1 := h.2.2.1 1 (by omega) (by omega)
  have e2 := h.2.2.1 2 (by omega) (by omega)
  rw [Int.add_zero, Int.add_zero] at e0
  unfold mx_
  rw [e0, e1, e2]
/-- v is the nearest place before p of the mix x, or -1 -/
def la_R (a : Int → Int32) (n p x v : Int) : Prop := (v = -1 ∨ (0 ≤ v ∧ v < p ∧ v + 3 ≤ n ∧ mx_ a v = x)) ∧ ∀ q : Int, v < q → 0 ≤ q → q < p → q + 3 ≤ n → ¬ mx_ a q = x
def ch_I (a : Int → Int32) (n p : Int) (fl fe : Nat → Int32) : Prop := (∀ x : Int, 0 ≤ x → x < 1024 → la_R a n p x (gx fl x)) ∧ ∀ k : Int, 0 ≤ k → k < p → k + 3 ≤ n → la_R a n k (mx_ a k) (gx fe k)
theorem ch_0 {a : Int → Int32} {n : Int} {fl fe : Nat → Int32} (h : ∀ x : Int, 0 ≤ x → x < 1024 → gx fl x = -1) : ch_I a n 0 fl fe := ⟨fun x h0 h1 => ⟨Or.inl (h x h0 h1), fun q _ q1 q2 => absurd q2 (by omega)⟩, fun k k0 k1 => absurd k1 (by omega)⟩
theorem ch_skip {a : Int → Int32} {n p q : Int} {fl fe : Nat → Int32} (h : ch_I a n p fl fe) (hs : ¬ p + 3 ≤ n) (hq : q = p + 1) : ch_I a n q fl fe := by
  subst hq
  refine ⟨fun x h0 h1 => ?_, fun k k0 k1 k2 => h.2 k k0 (by omega) k2⟩
  have b := h.1 x h0 h1
  exact ⟨b.1.imp id (fun c => ⟨c.1, by omega, c.2.2⟩), fun r r0 r1 r2 r3 => b.2 r r0 r1 (by omega) r3⟩
theorem ch_step {a : Int → Int32} {n p q m : Int} {fl fe : Nat → Int32} {pi mi pv v : Int32} (h : ch_I a n p fl fe) (h0 : 0 ≤ p) (h3 : p + 3 ≤ n) (hm : m = mx_ a p) (hp : pi.toInt = p) (hmi : mi.toInt = m) (hm0 : 0 ≤ m) (hm1 : m < 1024) (hv : v.toInt = gx fl m) (hpv : pv.toInt = p) (hq : q = p + 1) : ch_I a n q (upd fl mi.toNatClampNeg pv) (upd fe pi.toNatClampNeg v) := by
  subst hq
  refine ⟨fun x x0 x1 => ?_, fun k k0 k1 k2 => ?_⟩
  · rw [gx_upd hmi x hm0 x0]
    by_cases w : x = m
    · rw [if_pos w, hpv]
      exact ⟨Or.inr ⟨h0, by omega, h3, by rw [w, hm]⟩, fun r r0 r1 r2 => absurd r2 (by omega)⟩
    · rw [if_neg w]
      have b := h.1 x x0 x1
      refine ⟨b.1.imp id (fun c => ⟨c.1, by omega, c.2.2⟩), fun r r0 r1 r2 r3 => ?_⟩
      by_cases w2 : r = p
      · subst w2
        exact fun z => w (by rw [← z, hm])
      · exact b.2 r r0 r1 (by omega) r3
  · rw [gx_upd hp k h0 k0]
    by_cases w : k = p
    · rw [if_pos w, hv, w, ← hm]
      exact h.1 m hm0 hm1
    · rw [if_neg w]
      exact h.2 k k0 (by omega) k2
/-- what the search along the chain knows: places behind o have been looked at -/
def bs_R (a : Int → Int32) (n p o l d : Int) : Prop := (l = 1 ∧ ∀ i r : Int, o < i → 0 ≤ i → i < p → sm_R a i p (mm_ n p) r → r < 3) ∨ (3 ≤ l ∧ o < p - d ∧ 0 ≤ p - d ∧ p - d < p ∧ sm_R a (p - d) p (mm_ n p) l ∧ ∀ i r : Int, o < i → 0 ≤ i → i < p → sm_R a i p (mm_ n p) r → r ≤ l ∧ (r = l → i ≤ p - d))
theorem bs_0 {a : Int → Int32} {n p o d : Int} (h3 : p + 3 ≤ n) (h : la_R a n p (mx_ a p) o) : bs_R a n p o 1 d := by
  refine Or.inl ⟨rfl, fun i r i0 i1 i2 hr => ?_⟩
  by_cases c : r < 3
  · exact c
  · exact absurd (mx_sm hr (by omega)) (h.2 i i0 i1 i2 (by omega))
theorem bs_keep {a : Int → Int32} {n p o o' l d s : Int} (h : bs_R a n p o l d) (h3 : p + 3 ≤ n) (ho : 0 ≤ o) (hp : o < p) (hm : mx_ a o = mx_ a p) (hc : la_R a n o (mx_ a o) o') (hs : sm_R a o p (mm_ n p) s) (hl : s < 3 ∨ s ≤ l) : bs_R a n p o' l d := by
  have far : ∀ i r : Int, o' < i → 0 ≤ i → i < o → sm_R a i p (mm_ n p) r → r < 3 := fun i r i0 i1 i2 hr => by
    by_cases c : r < 3
    · exact c
    · exact absurd ((mx_sm hr (by omega)).trans hm.symm) (hc.2 i i0 i1 i2 (by omega))
  have ho' : o' < o := by
    rcases hc.1 with c | c <;> omega
  rcases h with ⟨h1, h2⟩ | ⟨h1, h2, h4, h5, h6, h7⟩
  · refine Or.inl ⟨h1, fun i r i0 i1 i2 hr => ?_⟩
    rcases Int.lt_trichotomy i o with c | c | c
    · exact far i r i0 i1 c hr
    · subst c
      have := sm_uniq hr hs
      omega
    · exact h2 i r c i1 i2 hr
  · refine Or.inr ⟨h1, by omega, h4, h5, h6, fun i r i0 i1 i2 hr => ?_⟩
    rcases Int.lt_trichotomy i o with c | c | c
    · have := far i r i0 i1 c hr
      omega
    · subst c
      have := sm_uniq hr hs
      omega
    · exact h7 i r c i1 i2 hr
theorem bs_take {a : Int → Int32} {n p o o' l d d' s : Int} (h : bs_R a n p o l d) (h3 : p + 3 ≤ n) (ho : 0 ≤ o) (hp : o < p) (hm : mx_ a o = mx_ a p) (hc : la_R a n o (mx_ a o) o') (hs : sm_R a o p (mm_ n p) s) (hl : 3 ≤ s) (hl2 : l < s) (hd : d' = p - o) : bs_R a n p o' s d' := by
  have far : ∀ i r : Int, o' < i → 0 ≤ i → i < o → sm_R a i p (mm_ n p) r → r < 3 := fun i r i0 i1 i2 hr => by
    by_cases c : r < 3
    · exact c
    · exact absurd ((mx_sm hr (by omega)).trans hm.symm) (hc.2 i i0 i1 i2 (by omega))
  have ho' : o' < o := by
    rcases hc.1 with c | c <;> omega
  have e : p - d' = o := by omega
  refine Or.inr ⟨hl, by omega, by omega, by omega, by rw [e]; exact hs, fun i r i0 i1 i2 hr => ?_⟩
  rcases Int.lt_trichotomy i o with c | c | c
  · have := far i r i0 i1 c hr
    omega
  · subst c
    have := sm_uniq hr hs
    omega
  · rcases h with ⟨h1, h2⟩ | ⟨h1, h2, h4, h5, h6, h7⟩
    · have := h2 i r c i1 i2 hr
      omega
    · have := h7 i r c i1 i2 hr
      omega
/-- what the search finds -/
def fl_R (a : Int → Int32) (n p l d : Int) : Prop := (lb_N a n p ∧ l = 1) ∨ lb_S a n p l (p - d)
theorem fl_bs {a : Int → Int32} {n p o l d : Int} (h : bs_R a n p o l d) (he : o < 0 ∨ mm_ n p ≤ l) (hm : 3 ≤ mm_ n p) : fl_R a n p l d := by
  rcases h with ⟨h1, h2⟩ | ⟨h1, h2, h4, h5, h6, h7⟩
  · exact Or.inl ⟨fun i r i0 i1 hr => h2 i r (by omega) i0 i1 hr, h1⟩
  · refine Or.inr ⟨h1, h4, h5, h6, fun i r i0 i1 hr => ?_⟩
    by_cases c : o < i
    · exact h7 i r c i0 i1 hr
    · have b1 := hr.2.1
      have b2 := h6.2.1
      omega
theorem fl_few {a : Int → Int32} {n p d : Int} (hm : mm_ n p < 3) : fl_R a n p 1 d := Or.inl ⟨fun i r _ _ hr => by have := hr.2.1; omega, rfl⟩
theorem fl_lit {a : Int → Int32} {n p q l d c : Int} (h : fl_R a n p l d) (hl : l < 3) (hp : p < n) (hq : q = p + l) (hc : c = li_c (a p)) : ts_R a n p q c := by
  rcases h with ⟨h1, h2⟩ | h1
  · exact ⟨hp, Or.inl ⟨h1, by omega, hc⟩⟩
  · have := h1.1
    omega
theorem fl_rng {a : Int → Int32} {n p l d : Int} (h : fl_R a n p l d) (hp : p < n) : 1 ≤ l ∧ l ≤ 258 ∧ p + l ≤ n ∧ (3 ≤ l → 1 ≤ d ∧ d ≤ p) ∧ (l < 3 → l = 1) := by
  rcases h with ⟨h1, h2⟩ | h1
  · omega
  · obtain ⟨k0, k1, k2, k3, k4⟩ := h1
    have b1 := k3.2.1
    have b2 := mm_le (n := n) (p := p)
    omega
theorem fl_row {a : Int → Int32} {n p q l d c : Int} (h : fl_R a n p l d) (hl : 3 ≤ l) (hp : p < n) (hq : q = p + l) (hc : c = le_c l + di_c d) : ts_R a n p q c := by
  rcases h with ⟨h1, h2⟩ | h1
  · omega
  · exact ⟨hp, Or.inr ⟨l, p - d, h1, hq, by rw [show p - (p - d) = d by omega]; exact hc⟩⟩
/-- what the reference's search knows: places before i have been looked at -/
def rb_R (a : Int → Int32) (n p i l w : Int) : Prop := (i = 0 ∧ l = 0) ∨ (0 < i ∧ 0 ≤ w ∧ w < i ∧ sm_R a w p (mm_ n p) l ∧ ∀ j r : Int, 0 ≤ j → j < i → sm_R a j p (mm_ n p) r → r ≤ l ∧ (r = l → j ≤ w))
theorem rb_st {a : Int → Int32} {n p i i' l l' w w' m : Int} (h : rb_R a n p i l w) (hi : 0 ≤ i) (hm : sm_R a i p (mm_ n p) m) (hi' : i' = i + 1) (hc : l ≤ m ∧ l' = m ∧ w' = i ∨ m < l ∧ l' = l ∧ w' = w) : rb_R a n p i' l' w' := by
  subst hi'
  have m0 := hm.1
  rcases h with ⟨h1, h2⟩ | ⟨h1, h2, h3, h4, h5⟩
  · rcases hc with ⟨c1, c2, c3⟩ | c
    · subst c2 c3 h1
      refine Or.inr ⟨by omega, by omega, by omega, hm, fun j r j0 j1 hr => ?_⟩
      obtain rfl : j = 0 := by omega
      have := sm_uniq hr hm
      omega
    · omega
  · rcases hc with ⟨c1, c2, c3⟩ | ⟨c1, c2, c3⟩
    · subst c2 c3
      refine Or.inr ⟨by omega, hi, by omega, hm, fun j r j0 j1 hr => ?_⟩
      by_cases e : j = w'
      · subst e
        have := sm_uniq hr hm
        omega
      · have := h5 j r j0 (by omega) hr
        omega
    · subst c2 c3
      refine Or.inr ⟨by omega, h2, by omega, h4, fun j r j0 j1 hr => ?_⟩
      by_cases e : j = i
      · subst e
        have := sm_uniq hr hm
        omega
      · exact h5 j r j0 (by omega) hr
theorem rb_fl {a : Int → Int32} {n p l w : Int} (h : rb_R a n p p l w) (hl : 3 ≤ l) : lb_S a n p l w := by
  rcases h with ⟨h1, h2⟩ | ⟨h1, h2, h3, h4, h5⟩
  · omega
  · exact ⟨hl, h2, h3, h4, h5⟩
theorem rb_no {a : Int → Int32} {n p l w : Int} (h : rb_R a n p p l w) (hl : l < 3) : lb_N a n p := by
  rcases h with ⟨h1, h2⟩ | ⟨h1, h2, h3, h4, h5⟩
  · exact fun i r i0 i1 _ => absurd i1 (by omega)
  · exact fun i r i0 i1 hr => by have := h5 i r i0 i1 hr; omega
theorem ts_lit {a : Int → Int32} {n p q c : Int} (h : lb_N a n p) (hp : p < n) (hq : q = p + 1) (hc : c = li_c (a p)) : ts_R a n p q c := ⟨hp, Or.inl ⟨h, hq, hc⟩⟩
theorem ts_row {a : Int → Int32} {n p q c L W D : Int} (h : lb_S a n p L W) (hp : p < n) (hq : q = p + L) (hD : D = p - W) (hc : c = le_c L + di_c D) : ts_R a n p q c := ⟨hp, Or.inr ⟨L, W, h, hq, by rw [hc, hD]⟩⟩
/-- the two searches' rows of like bytes, by the arrays -/
theorem sm_of {f : Nat → Int32} {b n x y m r X Y : Int} (h0 : 0 ≤ r) (h1 : r ≤ m) (hx : 0 ≤ x) (hxy : x ≤ y) (hy : y + m ≤ n) (eX : X = b + x) (eY : Y = b + y) (h2 : ∀ j : Int, 0 ≤ j → j < r → gr f (X + j) = gr f (Y + j)) (h3 : r < m → ¬ gr f (X + r) = gr f (Y + r)) : sm_R (sq f b n) x y m r := by
  subst eX eY
  refine ⟨h0, h1, fun j j0 j1 => ?_, fun k => ?_⟩
  · rw [sq_at (by omega) (by omega), sq_at (by omega) (by omega), ← Int.add_assoc, ← Int.add_assoc]
    exact h2 j j0 j1
  · rw [sq_at (by omega) (by omega), sq_at (by omega) (by omega), ← Int.add_assoc, ← Int.add_assoc]
    exact h3 k
/-- a shift by a number that isn't told ahead -/
theorem ti_shv {z x m : Int32} (e : z = x >>> (m &&& 31)) (h0 : 0 ≤ m.toInt) (h1 : m.toInt ≤ 13) : (m.toInt = 0 → z.toInt = x.toInt) ∧ (m.toInt = 1 → z.toInt = x.toInt / 2) ∧ (m.toInt = 2 → z.toInt = x.toInt / 4) ∧ (m.toInt = 3 → z.toInt = x.toInt / 8) ∧ (m.toInt = 4 → z.toInt = x.toInt / 16) ∧ (m.toInt = 5 → z.toInt = x.toInt / 32) ∧ (m.toInt = 6 → z.toInt = x.toInt / 64) ∧ (m.toInt = 7 → z.toInt = x.toInt / 128) ∧ (m.toInt = 8 → z.toInt = x.toInt / 256) ∧ (m.toInt = 9 → z.toInt = x.toInt / 512) ∧ (m.toInt = 10 → z.toInt = x.toInt / 1024) ∧ (m.toInt = 11 → z.toInt = x.toInt / 2048) ∧ (m.toInt = 12 → z.toInt = x.toInt / 4096) ∧ (m.toInt = 13 → z.toInt = x.toInt / 8192) := by
  refine ⟨fun h => ?_, fun h => ?_, fun h => ?_, fun h => ?_, fun h => ?_, fun h => ?_, fun h => ?_, fun h => ?_, fun h => ?_, fun h => ?_, fun h => ?_, fun h => ?_, fun h => ?_, fun h => ?_⟩
  · obtain rfl : m = 0 := Int32.toInt_inj.mp (h.trans (by decide))
    have := ti_shr (b := 1) e rfl 0 (by decide) (by decide)
    omega
  · obtain rfl : m = 1 := Int32.toInt_inj.mp (h.trans (by decide))
    exact ti_shr e rfl 1 (by decide) (by decide)
  · obtain rfl : m = 2 := Int32.toInt_inj.mp (h.trans (by decide))
    exact ti_shr e rfl 2 (by decide) (by decide)
  · obtain rfl : m = 3 := Int32.toInt_inj.mp (h.trans (by decide))
    exact ti_shr e rfl 3 (by decide) (by decide)
  · obtain rfl : m = 4 := Int32.toInt_inj.mp (h.trans (by decide))
    exact ti_shr e rfl 4 (by decide) (by decide)
  · obtain rfl : m = 5 := Int32.toInt_inj.mp (h.trans (by decide))
    exact ti_shr e rfl 5 (by decide) (by decide)
  · obtain rfl : m = 6 := Int32.toInt_inj.mp (h.trans (by decide))
    exact ti_shr e rfl 6 (by decide) (by decide)
  · obtain rfl : m = 7 := Int32.toInt_inj.mp (h.trans (by decide))
    exact ti_shr e rfl 7 (by decide) (by decide)
  · obtain rfl : m = 8 := Int32.toInt_inj.mp (h.trans (by decide))
    exact ti_shr e rfl 8 (by decide) (by decide)
  · obtain rfl : m = 9 := Int32.toInt_inj.mp (h.trans (by decide))
    exact ti_shr e rfl 9 (by decide) (by decide)
  · obtain rfl : m = 10 := Int32.toInt_inj.mp (h.trans (by decide))
    exact ti_shr e rfl 10 (by decide) (by decide)
  · obtain rfl : m = 11 := Int32.toInt_inj.mp (h.trans (by decide))
    exact ti_shr e rfl 11 (by decide) (by decide)
  · obtain rfl : m = 12 := Int32.toInt_inj.mp (h.trans (by decide))
    exact ti_shr e rfl 12 (by decide) (by decide)
  · obtain rfl : m = 13 := Int32.toInt_inj.mp (h.trans (by decide))
    exact ti_shr e rfl 13 (by decide) (by decide)
/-- the same as one choice of six, of eleven -/
theorem ti_sh5 {z x m : Int32} (e : z = x >>> (m &&& 31)) (h0 : 0 ≤ m.toInt) (h1 : m.toInt ≤ 5) : m.toInt = 0 ∧ z.toInt = x.toInt ∨ m.toInt = 1 ∧ z.toInt = x.toInt / 2 ∨ m.toInt = 2 ∧ z.toInt = x.toInt / 4 ∨ m.toInt = 3 ∧ z.toInt = x.toInt / 8 ∨ m.toInt = 4 ∧ z.toInt = x.toInt / 16 ∨ m.toInt = 5 ∧ z.toInt = x.toInt / 32 := by
  have t := ti_shv e h0 (by omega)
  rcases (show m.toInt = 0 ∨ m.toInt = 1 ∨ m.toInt = 2 ∨ m.toInt = 3 ∨ m.toInt = 4 ∨ m.toInt = 5 by omega) with h | h | h | h | h | h
  · exact Or.inl ⟨h, t.1 h⟩
  · exact Or.inr (Or.inl ⟨h, t.2.1 h⟩)
  · exact Or.inr (Or.inr (Or.inl ⟨h, t.2.2.1 h⟩))
  · exact Or.inr (Or.inr (Or.inr (Or.inl ⟨h, t.2.2.2.1 h⟩)))
  · exact Or.inr (Or.inr (Or.inr (Or.inr (Or.inl ⟨h, t.2.2.2.2.1 h⟩))))
  · exact Or.inr (Or.inr (Or.inr (Or.inr (Or.inr (⟨h, t.2.2.2.2.2.1 h⟩)))))
theorem ti_sh10 {z x m : Int32} (e : z = x >>> (m &&& 31)) (h0 : 0 ≤ m.toInt) (h1 : m.toInt ≤ 10) : m.toInt = 0 ∧ z.toInt = x.toInt ∨ m.toInt = 1 ∧ z.toInt = x.toInt / 2 ∨ m.toInt = 2 ∧ z.toInt = x.toInt / 4 ∨ m.toInt = 3 ∧ z.toInt = x.toInt / 8 ∨ m.toInt = 4 ∧ z.toInt = x.toInt / 16 ∨ m.toInt = 5 ∧ z.toInt = x.toInt / 32 ∨ m.toInt = 6 ∧ z.toInt = x.toInt / 64 ∨ m.toInt = 7 ∧ z.toInt = x.toInt / 128 ∨ m.toInt = 8 ∧ z.toInt = x.toInt / 256 ∨ m.toInt = 9 ∧ z.toInt = x.toInt / 512 ∨ m.toInt = 10 ∧ z.toInt = x.toInt / 1024 := by
  have t := ti_shv e h0 (by omega)
  rcases (show m.toInt = 0 ∨ m.toInt = 1 ∨ m.toInt = 2 ∨ m.toInt = 3 ∨ m.toInt = 4 ∨ m.toInt = 5 ∨ m.toInt = 6 ∨ m.toInt = 7 ∨ m.toInt = 8 ∨ m.toInt = 9 ∨ m.toInt = 10 by (exact omg_377aec9634 h0 h1)) with h | h | h | h | h | h | h | h | h | h | h
  · exact Or.inl ⟨h, t.1 h⟩
  · exact Or.inr (Or.inl ⟨h, t.2.1 h⟩)
  · exact Or.inr (Or.inr (Or.inl ⟨h, t.2.2.1 h⟩))
  · exact Or.inr (Or.inr (Or.inr (Or.inl ⟨h, t.2.2.2.1 h⟩)))
  · exact Or.inr (Or.inr (Or.inr (Or.inr (Or.inl ⟨h, t.2.2.2.2.1 h⟩))))
  · exact Or.inr (Or.inr (Or.inr (Or.inr (Or.inr (Or.inl ⟨h, t.2.2.2.2.2.1 h⟩)))))
  · exact Or.inr (Or.inr (Or.inr (Or.inr (Or.inr (Or.inr (Or.inl ⟨h, t.2.2.2.2.2.2.1 h⟩))))))
  · exact Or.inr (Or.inr (Or.inr (Or.inr (Or.inr (Or.inr (Or.inr (Or.inl ⟨h, t.2.2.2.2.2.2.2.1 h⟩)))))))
  · exact Or.inr (Or.inr (Or.inr (Or.inr (Or.inr (Or.inr (Or.inr (Or.inr (Or.inl ⟨h, t.2.2.2.2.2.2.2.2.1 h⟩))))))))
  · exact Or.inr (Or.inr (Or.inr (Or.inr (Or.inr (Or.inr (Or.inr (Or.inr (Or.inr (Or.inl ⟨h, t.2.2.2.2.2.2.2.2.2.1 h⟩)))))))))
  · exact Or.inr (Or.inr (Or.inr (Or.inr (Or.inr (Or.inr (Or.inr (Or.inr (Or.inr (Or.inr ⟨h, t.2.2.2.2.2.2.2.2.2.2.1 h⟩)))))))))
theorem la_rng {a : Int → Int32} {n p x v : Int} (h : la_R a n p x v) (hp : 0 ≤ p) : -1 ≤ v ∧ v < p := by
  rcases h.1 with c | c <;> omega
theorem la_mx {a : Int → Int32} {n p x v : Int} (h : la_R a n p x v) (hv : 0 ≤ v) : v + 3 ≤ n ∧ mx_ a v = x := by
  rcases h.1 with c | c
  · omega
  · exact ⟨c.2.2.1, c.2.2.2⟩
theorem nb_ne {i j A B : Int32} (e1 : i = A) (e2 : j = B) (h : ¬ i.toInt = j.toInt) : ¬ A = B := fun z => h (by rw [e1, e2, z])
theorem nb_eq {i j A B : Int32} (e1 : i = A) (e2 : j = B) (h : i.toInt = j.toInt) : A = B := by
  rw [← e1, ← e2]
  exact Int32.toInt_inj.mp h
theorem nb_st {f : Nat → Int32} {X Y k k2 : Int} (h : ∀ j : Int, 0 ≤ j → j < k → gr f (X + j) = gr f (Y + j)) (e : k2 = k + 1) (hk : gr f (X + k) = gr f (Y + k)) : ∀ j : Int, 0 ≤ j → j < k2 → gr f (X + j) = gr f (Y + j) := fun j h0 h1 => by
  by_cases c : j = k
  · rw [c]
    exact hk
  · exact h j h0 (by omega)
theorem li_sq {f : Nat → Int32} {b n p c : Int} {v i : Int32} (e1 : v = i &&& 255) (e2 : i = gr f (b + p)) (h0 : 0 ≤ p) (h1 : p < n) (h : v.toInt < 144 ∧ c = 8 ∨ 144 ≤ v.toInt ∧ c = 9) : c = li_c (sq f b n p) := by
  rw [sq_at h0 h1]
  exact li_cE (e1.trans (by rw [e2])) h
theorem pt_Fi {a : Int → Int32} {n p T z : Int} (h : pt_R a n p T) (e : p = n) (hz : z = (T + 14) / 8) : pt_F a n z := by
  subst e
  exact ⟨T, h, hz⟩
theorem pt_eq {a : Int → Int32} {n p q T U : Int} (h : pt_R a n p T) (e : q = p) (f : U = T) : pt_R a n q U := by
  subst e f
  exact h
theorem rb_fl2 {a : Int → Int32} {n p i l w : Int} (h : rb_R a n p i l w) (e : i = p) (hl : 3 ≤ l) : lb_S a n p l w := by
  subst e
  exact rb_fl h hl
theorem rb_no2 {a : Int → Int32} {n p i l w : Int} (h : rb_R a n p i l w) (e : i = p) (hl : l < 3) : lb_N a n p := by
  subst e
  exact rb_no h hl
theorem sm_z {f : Nat → Int32} {b n x y z : Int} {i j : Int32} (e1 : i = gr f (b + x)) (e2 : j = gr f (b + y)) (h : ¬ i.toInt = j.toInt) (hz : z = 0) (hx : 0 ≤ x) (hxy : x ≤ y) (hy : y < n) : sm_R (sq f b n) x y (mm_ n y) z := by
  have b1 := mm_le (n := n) (p := y)
  refine sm_of (X := b + x) (Y := b + y) (by omega) (by omega) hx hxy (by omega) rfl rfl (fun j j0 j1 => absurd j1 (by omega)) (fun _ => ?_)
  rw [hz, Int.add_zero, Int.add_zero]
  exact nb_ne e1 e2 h
theorem sm_ss {f : Nat → Int32} {b n x y r X Y e : Int} (s1 : ∀ j : Int, 0 ≤ j → j < r → gr f (X + j) = gr f (Y + j)) (s2 : r < 258 → Y + r < e → ¬ gr f (X + r) = gr f (Y + r)) (p0 : 0 ≤ r) (p1 : r ≤ 258) (p2 : Y + r ≤ e) (he : e = b + n) (eX : X = b + x) (eY : Y = b + y) (hx : 0 ≤ x) (hxy : x ≤ y) : sm_R (sq f b n) x y (mm_ n y) r := by
  have b1 := mm_le (n := n) (p := y)
  exact sm_of (X := X) (Y := Y) p0 (by omega) hx hxy (by omega) eX eY s1 (fun q => s2 (by omega) (by omega))
/-- a shift to the left of a small number, by a number that isn't told ahead -/
theorem ti_slv {z x s : Int32} (e : z = x <<< (s &&& 31)) (x0 : 0 ≤ x.toInt) (x1 : x.toInt ≤ 7) (h0 : 0 ≤ s.toInt) (h1 : s.toInt ≤ 13) : s.toInt = 0 ∧ z.toInt = x.toInt ∨ s.toInt = 1 ∧ z.toInt = x.toInt * 2 ∨ s.toInt = 2 ∧ z.toInt = x.toInt * 4 ∨ s.toInt = 3 ∧ z.toInt = x.toInt * 8 ∨ s.toInt = 4 ∧ z.toInt = x.toInt * 16 ∨ s.toInt = 5 ∧ z.toInt = x.toInt * 32 ∨ s.toInt = 6 ∧ z.toInt = x.toInt * 64 ∨ s.toInt = 7 ∧ z.toInt = x.toInt * 128 ∨ s.toInt = 8 ∧ z.toInt = x.toInt * 256 ∨ s.toInt = 9 ∧ z.toInt = x.toInt * 512 ∨ s.toInt = 10 ∧ z.toInt = x.toInt * 1024 ∨ s.toInt = 11 ∧ z.toInt = x.toInt * 2048 ∨ s.toInt = 12 ∧ z.toInt = x.toInt * 4096 ∨ s.toInt = 13 ∧ z.toInt = x.toInt * 8192 := by
  rcases (show s.toInt = 0 ∨ s.toInt = 1 ∨ s.toInt = 2 ∨ s.toInt = 3 ∨ s.toInt = 4 ∨ s.toInt = 5 ∨ s.toInt = 6 ∨ s.toInt = 7 ∨ s.toInt = 8 ∨ s.toInt = 9 ∨ s.toInt = 10 ∨ s.toInt = 11 ∨ s.toInt = 12 ∨ s.toInt = 13 by omega) with h | h | h | h | h | h | h | h | h | h | h | h | h | h
  · obtain rfl : s = 0 := Int32.toInt_inj.mp (h.trans (by decide))
    exact Or.inl ⟨h, by have := ti_shl (b := 1) e rfl 0 (by decide) (by decide) x0 (by omega); omega⟩
  · obtain rfl : s = 1 := Int32.toInt_inj.mp (h.trans (by decide))
    exact Or.inr (Or.inl ⟨h, ti_shl e rfl 1 (by decide) (by decide) x0 (by omega)⟩)
  · obtain rfl : s = 2 := Int32.toInt_inj.mp (h.trans (by decide))
    exact Or.inr (Or.inr (Or.inl ⟨h, ti_shl e rfl 2 (by decide) (by decide) x0 (by omega)⟩))
  · obtain rfl : s = 3 := Int32.toInt_inj.mp (h.trans (by decide))
    exact Or.inr (Or.inr (Or.inr (Or.inl ⟨h, ti_shl e rfl 3 (by decide) (by decide) x0 (by omega)⟩)))
  · obtain rfl : s = 4 := Int32.toInt_inj.mp (h.trans (by decide))
    exact Or.inr (Or.inr (Or.inr (Or.inr (Or.inl ⟨h, ti_shl e rfl 4 (by decide) (by decide) x0 (by omega)⟩))))
  · obtain rfl : s = 5 := Int32.toInt_inj.mp (h.trans (by decide))
    exact Or.inr (Or.inr (Or.inr (Or.inr (Or.inr (Or.inl ⟨h, ti_shl e rfl 5 (by decide) (by decide) x0 (by omega)⟩)))))
  · obtain rfl : s = 6 := Int32.toInt_inj.mp (h.trans (by decide))
    exact Or.inr (Or.inr (Or.inr (Or.inr (Or.inr (Or.inr (Or.inl ⟨h, ti_shl e rfl 6 (by decide) (by decide) x0 (by omega)⟩))))))
  · obtain rfl : s = 7 := Int32.toInt_inj.mp (h.trans (by decide))
    exact Or.inr (Or.inr (Or.inr (Or.inr (Or.inr (Or.inr (Or.inr (Or.inl ⟨h, ti_shl e rfl 7 (by decide) (by decide) x0 (by omega)⟩)))))))
  · obtain rfl : s = 8 := Int32.toInt_inj.mp (h.trans (by decide))
    exact Or.inr (Or.inr (Or.inr (Or.inr (Or.inr (Or.inr (Or.inr (Or.inr (Or.inl ⟨h, ti_shl e rfl 8 (by decide) (by decide) x0 (by omega)⟩))))))))
  · obtain rfl : s = 9 := Int32.toInt_inj.mp (h.trans (by decide))
    exact Or.inr (Or.inr (Or.inr (Or.inr (Or.inr (Or.inr (Or.inr (Or.inr (Or.inr (Or.inl ⟨h, ti_shl e rfl 9 (by decide) (by decide) x0 (by omega)⟩)))))))))
  · obtain rfl : s = 10 := Int32.toInt_inj.mp (h.trans (by decide))
    exact Or.inr (Or.inr (Or.inr (Or.inr (Or.inr (Or.inr (Or.inr (Or.inr (Or.inr (Or.inr (Or.inl ⟨h, ti_shl e rfl 10 (by decide) (by decide) x0 (by omega)⟩))))))))))
  · obtain rfl : s = 11 := Int32.toInt_inj.mp (h.trans (by decide))
    exact Or.inr (Or.inr (Or.inr (Or.inr (Or.inr (Or.inr (Or.inr (Or.inr (Or.inr (Or.inr (Or.inr (Or.inl ⟨h, ti_shl e rfl 11 (by decide) (by decide) x0 (by omega)⟩)))))))))))
  · obtain rfl : s = 12 := Int32.toInt_inj.mp (h.trans (by decide))
    exact Or.inr (Or.inr (Or.inr (Or.inr (Or.inr (Or.inr (Or.inr (Or.inr (Or.inr (Or.inr (Or.inr (Or.inr (Or.inl ⟨h, ti_shl e rfl 12 (by decide) (by decide) x0 (by omega)⟩))))))))))))
  · obtain rfl : s = 13 := Int32.toInt_inj.mp (h.trans (by decide))
    exact Or.inr (Or.inr (Or.inr (Or.inr (Or.inr (Or.inr (Or.inr (Or.inr (Or.inr (Or.inr (Or.inr (Or.inr (Or.inr (⟨h, ti_shl e rfl 13 (by decide) (by decide) x0 (by omega)⟩)))))))))))))
theorem pt_Fe {a : Int → Int32} {n z z' : Int} (h : pt_F a n z) (e : z' = z) : pt_F a n z' := by
  subst e
  exact h
theorem pr_law {f g : Nat → Int32} {s t k th a b : Int} (h : rl_B f g s) (e : s = t) (l : k = 0 → s ≤ 4000 ∧ pt_F (sq f (0 : Int32).toInt s) s a) (m : th = 0 → pt_F (sq g (0 : Int32).toInt t) t b) (th0 : k = 0 → th = 0) : k = 0 → a = b := fun hk => by
  subst e
  have l1 := (l hk).2
  rw [sq_rl h] at l1
  exact pt_Fu l1 (m (th0 hk))
