/-! ROWS OF NUMBERS -/
theorem omg_c813e6ba82 {x0 : Int} {x1 : Int} {x2 : Int} {x3 : Int} {x4 : Int} (a0 : ((¬ (((1 : Int) ≤ x0) ∧ (x0 ≤ (8 : Int)))) → (x1 = (1 : Int)))) (a1 : (x2 = (x3 + x4))) (a2 : ((x1 ≠ (0 : Int)) → (x4 = (0 : Int)))) : ((¬ (((1 : Int) ≤ x0) ∧ (x0 ≤ (8 : Int)))) → ((x1 = (1 : Int)) ∧ (x2 = x3))) := by omega
theorem omg_ca4caf1023 {x0 : Int} {x1 : Int} {x2 : Int} {x3 : Int} {x4 : Int} (a0 : ((((1 : Int) ≤ x0) ∧ (x0 ≤ (8 : Int))) → (((8000 : Int) < (x1 + x0)) → (x2 = (2 : Int))))) (a1 : (x3 = (x1 + x4))) (a2 : ((x2 ≠ (0 : Int)) → (x4 = (0 : Int)))) : ((((1 : Int) ≤ x0) ∧ (x0 ≤ (8 : Int))) → (((8000 : Int) < (x1 + x0)) → ((x2 = (2 : Int)) ∧ (x3 = x1)))) := by omega
theorem omg_aed0d06cc9 {x0 : Int} {x1 : Int} {x2 : Int} {x3 : Int} {x4 : Int} (a0 : ((0 : Int) ≤ x0)) (a1 : ((¬ (((1 : Int) ≤ x1) ∧ (x1 ≤ (8 : Int)))) → (x2 = (1 : Int)))) (a2 : ((((1 : Int) ≤ x1) ∧ (x1 ≤ (8 : Int))) → (((8000 : Int) < (x0 + x1)) → (x2 = (2 : Int))))) (a3 : ((0 : Int) ≤ x3)) (a4 : (x4 = (x0 + x3))) (a5 : (¬ (x1 ≤ x3))) (a6 : (x2 = (0 : Int))) : (((0 : Int) ≤ x4) ∧ (x4 < (((8000 : Nat) : Nat) : Int))) := by omega
theorem omg_6672641528 {x0 : Int} {x1 : Int} {x2 : Int} {x3 : Int} {x4 : Int} (a0 : ((0 : Int) ≤ x0)) (a1 : (x0 ≤ (8000 : Int))) (a2 : ((¬ (((1 : Int) ≤ x1) ∧ (x1 ≤ (8 : Int)))) → (x2 = (1 : Int)))) (a3 : ((0 : Int) ≤ x3)) (a4 : (x4 = (x0 + x3))) (a5 : ((x2 ≠ (0 : Int)) → (x3 = (0 : Int)))) (a6 : ((x2 = (0 : Int)) → (x3 ≤ x1))) : (((-(2147483648 : Int)) ≤ (x4 + (1 : Int))) ∧ ((x4 + (1 : Int)) < (2147483648 : Int))) := by omega
theorem omg_d321a9c746 {x0 : Int} {x1 : Int} {x2 : Int} {x3 : Int} (a0 : ((¬ (((0 : Int) ≤ x0) ∧ (x0 ≤ x1))) → (x2 = (1 : Int)))) (a1 : (x2 ≤ (0 : Int))) : ((¬ (((0 : Int) ≤ x0) ∧ (x0 ≤ x1))) → ((x2 = (1 : Int)) ∧ (x3 = x1))) := by omega
theorem omg_388f7e8491 {x0 : Int} {x1 : Int} {x2 : Int} {x3 : Int} {x4 : Int} (a0 : ((¬ (((0 : Int) ≤ x0) ∧ (x0 ≤ x1))) → (x2 = (1 : Int)))) (a1 : (x3 = (x1 + x4))) (a2 : ((x2 ≠ (0 : Int)) → (x4 = (0 : Int)))) : ((¬ (((0 : Int) ≤ x0) ∧ (x0 ≤ x1))) → ((x2 = (1 : Int)) ∧ (x3 = x1))) := by omega
theorem omg_6d7946ec33 {x0 : Int} {x1 : Int} {x2 : Int} {x3 : Int} {x4 : Int} (a0 : ((((0 : Int) ≤ x0) ∧ (x0 ≤ x1)) → (((8000 : Int) < (x1 + x0)) → (x2 = (2 : Int))))) (a1 : (x3 = (x1 + x4))) (a2 : ((x2 ≠ (0 : Int)) → (x4 = (0 : Int)))) : ((((0 : Int) ≤ x0) ∧ (x0 ≤ x1)) → (((8000 : Int) < (x1 + x0)) → ((x2 = (2 : Int)) ∧ (x3 = x1)))) := by omega
theorem omg_6d60a80598 {x0 : Int} {x1 : Int} {x2 : Int} {x3 : Int} {x4 : Int} (a0 : ((¬ (((0 : Int) ≤ x0) ∧ (x0 ≤ x1))) → (x2 = (1 : Int)))) (a1 : ((((0 : Int) ≤ x0) ∧ (x0 ≤ x1)) → (((8000 : Int) < (x1 + x0)) → (x2 = (2 : Int))))) (a2 : ((0 : Int) ≤ x3)) (a3 : (x4 = (x1 + x3))) (a4 : (¬ (x0 ≤ x3))) (a5 : (x2 = (0 : Int))) : (((-(2147483648 : Int)) ≤ (x4 - x0)) ∧ ((x4 - x0) < (2147483648 : Int))) := by omega
theorem omg_039cf4798d {x0 : Int} {x1 : Int} {x2 : Int} {x3 : Int} {x4 : Int} {x5 : Int} (a0 : ((¬ (((0 : Int) ≤ x0) ∧ (x0 ≤ x1))) → (x2 = (1 : Int)))) (a1 : ((((0 : Int) ≤ x0) ∧ (x0 ≤ x1)) → (((8000 : Int) < (x1 + x0)) → (x2 = (2 : Int))))) (a2 : ((0 : Int) ≤ x3)) (a3 : (x4 = (x1 + x3))) (a4 : (¬ (x0 ≤ x3))) (a5 : (x2 = (0 : Int))) (a6 : (x5 = (x4 - x0))) : (((0 : Int) ≤ x5) ∧ (x5 < (((8000 : Nat) : Nat) : Int))) := by omega
theorem omg_fadb9d6be2 {x0 : Int} {x1 : Int} {x2 : Int} {x3 : Int} {x4 : Int} (a0 : ((¬ (((0 : Int) ≤ x0) ∧ (x0 ≤ x1))) → (x2 = (1 : Int)))) (a1 : ((((0 : Int) ≤ x0) ∧ (x0 ≤ x1)) → (((8000 : Int) < (x1 + x0)) → (x2 = (2 : Int))))) (a2 : ((0 : Int) ≤ x3)) (a3 : (x4 = (x1 + x3))) (a4 : (¬ (x0 ≤ x3))) (a5 : (x2 = (0 : Int))) : (((0 : Int) ≤ x4) ∧ (x4 < (((8000 : Nat) : Nat) : Int))) := by omega
theorem omg_8f6e57f075 {x0 : Int} {x1 : Int} {x2 : Int} {x3 : Int} {x4 : Int} (a0 : ((0 : Int) ≤ x0)) (a1 : (x0 ≤ (8000 : Int))) (a2 : ((¬ (((0 : Int) ≤ x1) ∧ (x1 ≤ x0))) → (x2 = (1 : Int)))) (a3 : ((0 : Int) ≤ x3)) (a4 : (x4 = (x0 + x3))) (a5 : ((x2 ≠ (0 : Int)) → (x3 = (0 : Int)))) (a6 : ((x2 = (0 : Int)) → (x3 ≤ x1))) : (((-(2147483648 : Int)) ≤ (x4 + (1 : Int))) ∧ ((x4 + (1 : Int)) < (2147483648 : Int))) := by omega
theorem omg_5832c60f79 {x0 : Int} {x1 : Int} {x2 : Int} {x3 : Int} (a0 : ((¬ (((0 : Int) ≤ x0) ∧ (x0 ≤ x1))) → (x2 = (1 : Int)))) (a1 : ((((0 : Int) ≤ x0) ∧ (x0 ≤ x1)) → (((8000 : Int) < (x1 + x0)) → (x2 = (2 : Int))))) (a2 : ((0 : Int) ≤ x3)) (a3 : (¬ (x0 ≤ x3))) (a4 : (x2 = (0 : Int))) : (((-(2147483648 : Int)) ≤ (x3 + (1 : Int))) ∧ ((x3 + (1 : Int)) < (2147483648 : Int))) := by omega
theorem omg_aa7f8951d7 {x0 : Int} {x1 : Int} {x2 : Int} {x3 : Int} {x4 : Int} (a0 : ((¬ (((0 : Int) ≤ x0) ∧ (x0 ≤ x1))) → (x2 = (1 : Int)))) (a1 : ((0 : Int) ≤ x3)) (a2 : (x4 = (x1 + x3))) (a3 : (x2 = (0 : Int))) : ((0 : Int) ≤ (x4 - x0)) := by omega
/-- the name at place p is the one that is looked for -/
def nl_eq (z n : Nat → Int32) (p ls : Int) (lf : Nat → Int32) : Prop := gx z p = ls ∧ ∀ k : Int, 0 ≤ k → k < ls → gx n (24 * p + k) = gx lf k
/-- two places have one name -/
def nm_eq (z n : Nat → Int32) (p q : Int) : Prop := gx z p = gx z q ∧ ∀ k : Int, 0 ≤ k → k < gx z p → gx n (24 * p + k) = gx n (24 * q + k)
/-- the sum of n sizes from b on -/
def sm (f : Nat → Int32) (b : Int) : Nat → Int
  | 0 => 0
  | n + 1 => sm f b n + gx f (b + n)
def ms_I (b c : Int) (z s n : Nat → Int32) : Prop := 0 ≤ c ∧ c ≤ 16 ∧ (∀ i : Int, 0 ≤ i → i < c → 1 ≤ gx z (b + i) ∧ gx z (b + i) ≤ 24 ∧ 0 ≤ gx s (b + i) ∧ gx s (b + i) ≤ 4000) ∧ sm s b c.toNat ≤ 12000 ∧ ∀ i j : Int, 0 ≤ i → i < j → j < c → ¬ nm_eq z n (b + i) (b + j)
theorem sm_s {f : Nat → Int32} {b c d : Int} (h : 0 ≤ c) (hd : d = c + 1) : sm f b d.toNat = sm f b c.toNat + gx f (b + c) := by
  subst hd
  rw [show (c + 1).toNat = c.toNat + 1 by omega, sm, show b + ((c.toNat : Nat) : Int) = b + c by omega]
theorem sm_same {f g : Nat → Int32} {b : Int} : ∀ n : Nat, (∀ j : Int, 0 ≤ j → j < n → gx f (b + j) = gx g (b + j)) → sm f b n = sm g b n
  | 0, _ => rfl
  | n + 1, h => by
    rw [sm, sm, sm_same n (fun j h0 h1 => h j h0 (by omega)), h n (by omega) (by omega)]
theorem sm_nn {f : Nat → Int32} {b : Int} : ∀ n : Nat, (∀ j : Int, 0 ≤ j → j < n → 0 ≤ gx f (b + j)) → 0 ≤ sm f b n
  | 0, _ => by rw [sm]; omega
  | n + 1, h => by
    have a := sm_nn n (fun j h0 h1 => h j h0 (by omega))
    have c := h n (by omega) (by omega)
    rw [sm]
    omega
theorem sm_le {f : Nat → Int32} {b m : Int} : ∀ n : Nat, (∀ j : Int, 0 ≤ j → j < n → gx f (b + j) ≤ m) → sm f b n ≤ n * m
  | 0, _ => by rw [sm]; omega
  | n + 1, h => by
    have a := sm_le n (fun j h0 h1 => h j h0 (by omega))
    have c := h n (by omega) (by omega)
    rw [sm, show ((n + 1 : Nat) : Int) * m = n * m + m by rw [Int.natCast_add, Int.add_mul]; omega]
    omega
/-- one of them is another -/
theorem sm_upd {f g : Nat → Int32} {b i v : Int} (h0 : 0 ≤ i) (hi : gx g (b + i) = v) : ∀ n : Nat, i < n → (∀ j : Int, 0 ≤ j → j < n → j ≠ i → gx g (b + j) = gx f (b + j)) → sm g b n = sm f b n - gx f (b + i) + v
  | 0, h, _ => absurd h (by omega)
  | n + 1, h, hj => by
    rw [sm, sm]
    by_cases w : i = n
    · have a := sm_same (f := g) (g := f) (b := b) n (fun j a0 a1 => hj j a0 (by omega) (by omega))
      rw [← w, hi, a]
      omega
    · have a := sm_upd h0 hi n (by omega) (fun j a0 a1 => hj j a0 (by omega))
      have c := hj n (by omega) (by omega) (by omega)
      rw [a, c]
      omega
/-- one more is put in at i: those from i on go up -/
theorem sm_in {f g : Nat → Int32} {b i v : Int} (h0 : 0 ≤ i) (hi : gx g (b + i) = v) (hl : ∀ j : Int, 0 ≤ j → j < i → gx g (b + j) = gx f (b + j)) : ∀ n : Nat, i ≤ n → (∀ j : Int, i < j → j ≤ n → gx g (b + j) = gx f (b + j - 1)) → sm g b (n + 1) = sm f b n + v
  | 0, h, hj => by
    obtain rfl : i = 0 := by omega
    rw [sm, sm, sm]
    rw [show b + ((0 : Nat) : Int) = b + 0 by omega, hi]
  | n + 1, h, hj => by
    rw [sm]
    by_cases w : i = ((n + 1 : Nat) : Int)
    · have a := sm_same (f := g) (g := f) (b := b) (n + 1) (fun j a0 a1 => hl j a0 (by omega))
      rw [a, ← w, hi]
    · have a := sm_in h0 hi hl n (by omega) (fun j a0 a1 => hj j a0 (by omega))
      have c := hj ((n + 1 : Nat) : Int) (by omega) (by omega)
      rw [a, c, sm, show b + ((n + 1 : Nat) : Int) - 1 = b + n by omega]
      omega
/-- one is taken out at i: those behind it go down -/
theorem sm_out {f g : Nat → Int32} {b i : Int} (h0 : 0 ≤ i) (hl : ∀ j : Int, 0 ≤ j → j < i → gx g (b + j) = gx f (b + j)) : ∀ n : Nat, i ≤ n → (∀ j : Int, i ≤ j → j < n → gx g (b + j) = gx f (b + j + 1)) → sm g b n = sm f b (n + 1) - gx f (b + i)
  | 0, h, hj => by
    obtain rfl : i = 0 := by omega
    rw [sm, sm, sm]
    rw [show b + ((0 : Nat) : Int) = b + 0 by omega]
    omega
  | n + 1, h, hj => by
    rw [sm, sm]
    by_cases w : i = ((n + 1 : Nat) : Int)
    · have a := sm_same (f := g) (g := f) (b := b) (n + 1) (fun j a0 a1 => hl j a0 (by omega))
      rw [sm] at a
      rw [a, ← w, sm]
      omega
    · have a := sm_out h0 hl n (by omega) (fun j a0 a1 => hj j a0 (by omega))
      have c := hj n (by omega) (by omega)
      rw [a, c, show b + (n : Int) + 1 = b + ((n + 1 : Nat) : Int) by omega]
      omega
/-- part `to` becomes part `fr` -/
def mv_Z (z z2 : Nat → Int32) (fr to : Int) : Prop := ∀ j : Int, 0 ≤ j → gx z2 j = if j = to then gx z fr else gx z j
def mv_N (n n2 : Nat → Int32) (fr to : Int) : Prop := (∀ k : Int, 0 ≤ k → k < 24 → gx n2 (24 * to + k) = gx n (24 * fr + k)) ∧ ∀ x : Int, 0 ≤ x → (x < 24 * to ∨ 24 * to + 24 ≤ x) → gx n2 x = gx n x
/-- one is in between: up to place i the old ones, from i + 1 to c the old ones before -/
def up_Z (z z2 : Nat → Int32) (b i c : Int) : Prop := (∀ j : Int, 0 ≤ j → j ≤ i → gx z2 (b + j) = gx z (b + j)) ∧ ∀ j : Int, i < j → j ≤ c → gx z2 (b + j) = gx z (b + j - 1)
def up_N (n n2 : Nat → Int32) (b i c : Int) : Prop := (∀ j : Int, 0 ≤ j → j < i → ∀ k : Int, 0 ≤ k → k < 24 → gx n2 (24 * (b + j) + k) = gx n (24 * (b + j) + k)) ∧ ∀ j : Int, i < j → j ≤ c → ∀ k : Int, 0 ≤ k → k < 24 → gx n2 (24 * (b + j) + k) = gx n (24 * (b + j - 1) + k)
theorem up_Z0 {z : Nat → Int32} {b c : Int} : up_Z z z b c c := ⟨fun _ _ _ => rfl, fun j h0 h1 => absurd h1 (by omega)⟩
theorem up_N0 {n : Nat → Int32} {b c : Int} : up_N n n b c c := ⟨fun _ _ _ _ _ _ => rfl, fun j h0 h1 => absurd h1 (by omega)⟩
theorem up_Zs {z z1 z2 : Nat → Int32} {b i i2 c fr to : Int} (h : up_Z z z1 b i c) (hb : 0 ≤ b) (hi : 0 < i) (hf : fr = b + i - 1) (ht : to = b + i) (hm : mv_Z z1 z2 fr to) (h2 : i2 = i - 1) : up_Z z z2 b i2 c := by
  subst hf ht h2
  refine ⟨fun j h0 h1 => ?_, fun j h0 h1 => ?_⟩
  · rw [hm _ (by omega), if_neg (by omega)]
    exact h.1 j h0 (by omega)
  · rw [hm _ (by omega)]
    by_cases w : b + j = b + i
    · rw [if_pos w, show b + i - 1 = b + (i - 1) by omega, h.1 _ (by omega) (by omega), show b + j - 1 = b + (i - 1) by omega]
    · rw [if_neg w]
      exact h.2 j (by omega) h1
theorem up_Ns {n n1 n2 : Nat → Int32} {b i i2 c fr to : Int} (h : up_N n n1 b i c) (hb : 0 ≤ b) (hi : 0 < i) (hf : fr = b + i - 1) (ht : to = b + i) (hm : mv_N n1 n2 fr to) (h2 : i2 = i - 1) : up_N n n2 b i2 c := by
  subst hf ht h2
  refine ⟨fun j h0 h1 k k0 k1 => ?_, fun j h0 h1 k k0 k1 => ?_⟩
  · rw [hm.2 _ (by omega) (by omega)]
    exact h.1 j h0 (by omega) k k0 k1
  · by_cases w : j = i
    · subst w
      have h9 := h.1 (j - 1) (by omega) (by omega) k k0 k1
      rw [hm.1 k k0 k1, show b + j - 1 = b + (j - 1) by omega]
      exact h9
    · rw [hm.2 _ (by omega) (by omega)]
      exact h.2 j (by omega) h1 k k0 k1
/-- a new part stands at i -/
theorem ms_in {b c i ls sz : Int} {z s n z2 s2 n2 lf : Nat → Int32} (h : ms_I b c z s n) (hb : 0 ≤ b) (hi : 0 ≤ i) (hic : i ≤ c) (hc : c < 16) (hl : 1 ≤ ls ∧ ls ≤ 24) (hs : 0 ≤ sz ∧ sz ≤ 4000) (hsum : sm s b c.toNat + sz ≤ 12000)
    (hno : ∀ j : Int, 0 ≤ j → j < c → ¬ nl_eq z n (b + j) ls lf)
    (hz1 : ∀ j : Int, 0 ≤ j → j < i → gx z2 (b + j) = gx z (b + j)) (hz2 : ∀ j : Int, i < j → j ≤ c → gx z2 (b + j) = gx z (b + j - 1)) (hz3 : gx z2 (b + i) = ls)
    (hs1 : ∀ j : Int, 0 ≤ j → j < i → gx s2 (b + j) = gx s (b + j)) (hs2 : ∀ j : Int, i < j → j ≤ c → gx s2 (b + j) = gx s (b + j - 1)) (hs3 : gx s2 (b + i) = sz)
    (hn1 : ∀ j : Int, 0 ≤ j → j < i → ∀ k : Int, 0 ≤ k → k < 24 → gx n2 (24 * (b + j) + k) = gx n (24 * (b + j) + k)) (hn2 : ∀ j : Int, i < j → j ≤ c → ∀ k : Int, 0 ≤ k → k < 24 → gx n2 (24 * (b + j) + k) = gx n (24 * (b + j - 1) + k)) (hn3 : ∀ k : Int, 0 ≤ k → k < ls → gx n2 (24 * (b + i) + k) = gx lf k) : ms_I b (c + 1) z2 s2 n2 := by
  obtain ⟨g1, g2, g3, g4, g5⟩ := h
  -- where an old one went to
  have old : ∀ j : Int, 0 ≤ j → j < c + 1 → j ≠ i → ∃ q : Int, 0 ≤ q ∧ q < c ∧ (j < i ∧ q = j ∨ i < j ∧ q = j - 1) ∧ gx z2 (b + j) = gx z (b + q) ∧ gx s2 (b + j) = gx s (b + q) ∧ ∀ k : Int, 0 ≤ k → k < 24 → gx n2 (24 * (b + j) + k) = gx n (24 * (b + q) + k) := by
    intro j h0 h1 h2
    by_cases w : j < i
    · exact ⟨j, h0, by omega, Or.inl ⟨w, rfl⟩, hz1 j h0 w, hs1 j h0 w, hn1 j h0 w⟩
    · refine ⟨j - 1, by omega, by omega, Or.inr ⟨by omega, rfl⟩, ?_, ?_, fun k k0 k1 => ?_⟩
      · rw [hz2 j (by omega) (by omega), show b + j - 1 = b + (j - 1) by omega]
      · rw [hs2 j (by omega) (by omega), show b + j - 1 = b + (j - 1) by omega]
      · rw [hn2 j (by omega) (by omega) k k0 k1, show b + j - 1 = b + (j - 1) by omega]
  refine ⟨by omega, by omega, fun j h0 h1 => ?_, ?_, fun p q p0 pq qc hnm => ?_⟩
  · by_cases w : j = i
    · subst w
      rw [hz3, hs3]
      omega
    · obtain ⟨q, q0, q1, -, e1, e2, -⟩ := old j h0 h1 w
      rw [e1, e2]
      exact g3 q q0 q1
  · rw [show (c + 1).toNat = c.toNat + 1 by omega, sm_in hi hs3 hs1 c.toNat (by omega) (fun j a0 a1 => hs2 j a0 (by omega))]
    exact hsum
  · by_cases w1 : p = i
    · subst w1
      obtain ⟨r, r0, r1, -, e1, -, e3⟩ := old q (by omega) (by omega) (by omega)
      refine hno r r0 r1 ⟨by rw [← e1, ← hnm.1, hz3], fun k k0 k1 => ?_⟩
      have e4 := hnm.2 k k0 (by rw [hz3]; exact k1)
      rw [hn3 k k0 k1] at e4
      rw [e4, e3 k k0 (by omega)]
    · obtain ⟨r, r0, r1, rr, e1, -, e3⟩ := old p p0 (by omega) w1
      have hr := g3 r r0 r1
      by_cases w2 : q = i
      · subst w2
        refine hno r r0 r1 ⟨by rw [← e1, hnm.1, hz3], fun k k0 k1 => ?_⟩
        have e5 : gx z2 (b + p) = ls := by rw [hnm.1, hz3]
        have e4 := hnm.2 k k0 (by rw [e5]; exact k1)
        rw [hn3 k k0 k1, e3 k k0 (by omega)] at e4
        exact e4
      · obtain ⟨t, t0, t1, tt, d1, -, d3⟩ := old q (by omega) (by omega) w2
        refine g5 r t r0 (by omega) t1 ⟨by rw [← e1, ← d1]; exact hnm.1, fun k k0 k1 => ?_⟩
        have e4 := hnm.2 k k0 (by rw [e1]; exact k1)
        rw [e3 k k0 (by omega), d3 k k0 (by omega)] at e4
        exact e4
/-- part i is told anew, with its own name -/
theorem ms_re {b c i ls sz : Int} {z s n z2 s2 n2 lf : Nat → Int32} (h : ms_I b c z s n) (hb : 0 ≤ b) (hi : 0 ≤ i) (hic : i < c) (hs : 0 ≤ sz ∧ sz ≤ 4000) (hsum : sm s b c.toNat - gx s (b + i) + sz ≤ 12000) (he : nl_eq z n (b + i) ls lf)
    (hz : ∀ j : Int, 0 ≤ j → gx z2 j = if j = b + i then ls else gx z j) (hs2 : ∀ j : Int, 0 ≤ j → gx s2 j = if j = b + i then sz else gx s j)
    (hn : ∀ x : Int, 0 ≤ x → gx n2 x = if 24 * (b + i) ≤ x ∧ x < 24 * (b + i) + ls then gx lf (x - 24 * (b + i)) else gx n x) : ms_I b c z2 s2 n2 := by
  obtain ⟨g1, g2, g3, g4, g5⟩ := h
  have ez : ∀ j : Int, 0 ≤ j → gx z2 j = gx z j := fun j h0 => by
    rw [hz j h0]
    split
    · rename_i w
      rw [w, he.1]
    · rfl
  have en : ∀ x : Int, 0 ≤ x → gx n2 x = gx n x := fun x h0 => by
    rw [hn x h0]
    split
    · rename_i w
      have a := he.2 (x - 24 * (b + i)) (by omega) (by omega)
      rw [← a, show 24 * (b + i) + (x - 24 * (b + i)) = x by omega]
    · rfl
  refine ⟨g1, g2, fun j h0 h1 => ?_, ?_, fun p q p0 pq qc hnm => ?_⟩
  · have a := g3 j h0 h1
    rw [ez _ (by omega), hs2 _ (by omega)]
    split <;> omega
  · rw [sm_upd (f := s) (i := i) (v := sz) hi (by rw [hs2 _ (by omega), if_pos rfl]) c.toNat (by omega) (fun j a0 a1 a2 => by rw [hs2 _ (by omega), if_neg (by omega)])]
    exact hsum
  · refine g5 p q p0 pq qc ⟨by rw [← ez _ (by omega), ← ez _ (by omega)]; exact hnm.1, fun k k0 k1 => ?_⟩
    rw [← en _ (by omega), ← en _ (by omega)]
    exact hnm.2 k k0 (by rw [ez _ (by omega)]; exact k1)
/-- part i is taken out -/
theorem ms_out {b c i : Int} {z s n z2 s2 n2 : Nat → Int32} (h : ms_I b c z s n) (hb : 0 ≤ b) (hi : 0 ≤ i) (hic : i < c)
    (hz1 : ∀ j : Int, 0 ≤ j → j < i → gx z2 (b + j) = gx z (b + j)) (hz2 : ∀ j : Int, i ≤ j → j < c - 1 → gx z2 (b + j) = gx z (b + j + 1))
    (hs1 : ∀ j : Int, 0 ≤ j → j < i → gx s2 (b + j) = gx s (b + j)) (hs2 : ∀ j : Int, i ≤ j → j < c - 1 → gx s2 (b + j) = gx s (b + j + 1))
    (hn1 : ∀ j : Int, 0 ≤ j → j < i → ∀ k : Int, 0 ≤ k → k < 24 → gx n2 (24 * (b + j) + k) = gx n (24 * (b + j) + k)) (hn2 : ∀ j : Int, i ≤ j → j < c - 1 → ∀ k : Int, 0 ≤ k → k < 24 → gx n2 (24 * (b + j) + k) = gx n (24 * (b + j + 1) + k)) : ms_I b (c - 1) z2 s2 n2 := by
  obtain ⟨g1, g2, g3, g4, g5⟩ := h
  have old : ∀ j : Int, 0 ≤ j → j < c - 1 → ∃ q : Int, 0 ≤ q ∧ q < c ∧ (j < i ∧ q = j ∨ i ≤ j ∧ q = j + 1) ∧ gx z2 (b + j) = gx z (b + q) ∧ gx s2 (b + j) = gx s (b + q) ∧ ∀ k : Int, 0 ≤ k → k < 24 → gx n2 (24 * (b + j) + k) = gx n (24 * (b + q) + k) := by
    intro j h0 h1
    by_cases w : j < i
    · exact ⟨j, h0, by omega, Or.inl ⟨w, rfl⟩, hz1 j h0 w, hs1 j h0 w, hn1 j h0 w⟩
    · refine ⟨j + 1, by omega, by omega, Or.inr ⟨by omega, rfl⟩, ?_, ?_, fun k k0 k1 => ?_⟩
      · rw [hz2 j (by omega) h1, show b + j + 1 = b + (j + 1) by omega]
      · rw [hs2 j (by omega) h1, show b + j + 1 = b + (j + 1) by omega]
      · rw [hn2 j (by omega) h1 k k0 k1, show b + j + 1 = b + (j + 1) by omega]
  refine ⟨by omega, by omega, fun j h0 h1 => ?_, ?_, fun p q p0 pq qc hnm => ?_⟩
  · obtain ⟨q, q0, q1, -, e1, e2, -⟩ := old j h0 h1
    rw [e1, e2]
    exact g3 q q0 q1
  · have a := sm_out hi hs1 (c - 1).toNat (by omega) (fun j a0 a1 => hs2 j a0 (by omega))
    rw [show (c - 1).toNat + 1 = c.toNat by omega] at a
    have d := g3 i hi hic
    omega
  · obtain ⟨r, r0, r1, rr, e1, -, e3⟩ := old p p0 (by omega)
    obtain ⟨t, t0, t1, tt, d1, -, d3⟩ := old q (by omega) (by omega)
    have hr := g3 r r0 r1
    refine g5 r t r0 (by omega) t1 ⟨by rw [← e1, ← d1]; exact hnm.1, fun k k0 k1 => ?_⟩
    have e4 := hnm.2 k k0 (by rw [e1]; exact k1)
    rw [e3 k k0 (by omega), d3 k k0 (by omega)] at e4
    exact e4
theorem nl_uniq {b c i j ls : Int} {z s n lf : Nat → Int32} (h : ms_I b c z s n) (hi : 0 ≤ i) (hic : i < c) (hj : 0 ≤ j) (hjc : j < c) (h1 : nl_eq z n (b + i) ls lf) (h2 : nl_eq z n (b + j) ls lf) : i = j := by
  have key : ∀ p q : Int, 0 ≤ p → p < q → q < c → nl_eq z n (b + p) ls lf → nl_eq z n (b + q) ls lf → False := fun p q p0 pq qc a d =>
    h.2.2.2.2 p q p0 pq qc ⟨by rw [a.1, d.1], fun k k0 k1 => by rw [a.2 k k0 (by rw [← a.1]; exact k1), d.2 k k0 (by rw [← a.1]; exact k1)]⟩
  rcases Int.lt_trichotomy i j with w | w | w
  · exact (key i j hi w hjc h1 h2).elim
  · exact w
  · exact (key j i hj w hic h2 h1).elim
/-- the same outside of a set -/
def ot_Z (z z2 : Nat → Int32) (b : Int) : Prop := ∀ j : Int, 0 ≤ j → (j < b ∨ b + 17 ≤ j) → gx z2 j = gx z j
def ot_N (n n2 : Nat → Int32) (b : Int) : Prop := ∀ x : Int, 0 ≤ x → (x < 24 * b ∨ 24 * (b + 17) ≤ x) → gx n2 x = gx n x
theorem ms_ext {b d c : Int} {z s n z2 s2 n2 : Nat → Int32} (h : ms_I d c z s n) (hd : 0 ≤ d) (hbd : d + 17 ≤ b ∨ b + 17 ≤ d) (hz : ot_Z z z2 b) (hs : ot_Z s s2 b) (hn : ot_N n n2 b) : ms_I d c z2 s2 n2 := by
  obtain ⟨g1, g2, g3, g4, g5⟩ := h
  refine ⟨g1, g2, fun j h0 h1 => ?_, ?_, fun p q p0 pq qc hnm => ?_⟩
  · rw [hz _ (by omega) (by omega), hs _ (by omega) (by omega)]
    exact g3 j h0 h1
  · rw [sm_same (f := s2) (g := s) (b := d) c.toNat (fun j a0 a1 => hs _ (by omega) (by omega))]
    exact g4
  · have e1 := hz (d + p) (by omega) (by omega)
    have e2 := hz (d + q) (by omega) (by omega)
    have hp := g3 p p0 (by omega)
    refine g5 p q p0 pq qc ⟨by rw [← e1, ← e2]; exact hnm.1, fun k k0 k1 => ?_⟩
    have a := hnm.2 k k0 (by rw [e1]; exact k1)
    rw [hn _ (by omega) (by omega), hn _ (by omega) (by omega)] at a
    exact a
theorem md_all : ∀ j : Nat, j < 30 → 4 ≤ j → 1 ≤ (1 + ((2 + (nI j - nI j / 2 * 2)) <<< ((nI j / 2 - 1) &&& 31))).toInt ∧ (24 ≤ j → 4097 ≤ (1 + ((2 + (nI j - nI j / 2 * 2)) <<< ((nI j / 2 - 1) &&& 31))).toInt) ∧ (1 + ((2 + (nI j - nI j / 2 * 2)) <<< ((nI j / 2 - 1) &&& 31))).toInt ≤ 65536 := by decide +kernel
theorem md_pos {d r : Int32} (h0 : 4 ≤ d.toInt) (h1 : d.toInt ≤ 29) (e : r = 1 + ((2 + (d - d / 2 * 2)) <<< ((d / 2 - 1) &&& 31))) : 1 ≤ r.toInt ∧ (24 ≤ d.toInt → 4097 ≤ r.toInt) ∧ r.toInt ≤ 65536 := by
  subst e
  obtain ⟨j, hj, rfl⟩ := ti_nat (x := d) (by omega)
  have e1 := nI_toInt hj
  have h := md_all j (by omega) (by omega)
  exact ⟨h.1, fun w => h.2.1 (by omega), h.2.2⟩
/-- behind the shifts of put: the new part's own place is free -/
def pt_I (b i c : Int) (z s n z2 s2 n2 : Nat → Int32) : Prop := up_Z z z2 b i c ∧ up_Z s s2 b i c ∧ up_N n n2 b i c ∧ ot_Z z z2 b ∧ ot_Z s s2 b ∧ ot_N n n2 b
theorem pt_0 {b c : Int} {z s n : Nat → Int32} : pt_I b c c z s n z s n := ⟨up_Z0, up_Z0, up_N0, fun _ _ _ => rfl, fun _ _ _ => rfl, fun _ _ _ => rfl⟩
theorem ot_mvZ {z z1 z2 : Nat → Int32} {b fr to : Int} (h : ot_Z z z1 b) (hm : mv_Z z1 z2 fr to) (h0 : b ≤ to) (h1 : to < b + 17) : ot_Z z z2 b := fun j j0 j1 => by
  rw [hm j j0, if_neg (by omega)]
  exact h j j0 j1
theorem ot_mvN {n n1 n2 : Nat → Int32} {b fr to : Int} (h : ot_N n n1 b) (hm : mv_N n1 n2 fr to) (h0 : b ≤ to) (h1 : to < b + 17) : ot_N n n2 b := fun x x0 x1 => by
  rw [hm.2 x x0 (by omega)]
  exact h x x0 x1
theorem pt_s {b i i2 c fr to : Int} {z s n z1 s1 n1 z2 s2 n2 : Nat → Int32} (h : pt_I b i c z s n z1 s1 n1) (hb : 0 ≤ b) (hi : 0 < i) (hc : i ≤ c) (hc6 : c ≤ 16) (hf : fr = b + i - 1) (ht : to = b + i) (hz : mv_Z z1 z2 fr to) (hs : mv_Z s1 s2 fr to) (hn : mv_N n1 n2 fr to) (h2 : i2 = i - 1) : pt_I b i2 c z s n z2 s2 n2 :=
  ⟨up_Zs h.1 hb hi hf ht hz h2, up_Zs h.2.1 hb hi hf ht hs h2, up_Ns h.2.2.1 hb hi hf ht hn h2, ot_mvZ h.2.2.2.1 hz (by omega) (by omega), ot_mvZ h.2.2.2.2.1 hs (by omega) (by omega), ot_mvN h.2.2.2.2.2 hn (by omega) (by omega)⟩
/-- the new name is written -/
def wn_I (n n2 : Nat → Int32) (q k : Int) (lf : Nat → Int32) : Prop := ∀ x : Int, 0 ≤ x → gx n2 x = if 24 * q ≤ x ∧ x < 24 * q + k then gx lf (x - 24 * q) else gx n x
theorem wn_0 {n lf : Nat → Int32} {q : Int} : wn_I n n q 0 lf := fun x _ => by rw [if_neg (by omega)]
theorem wn_s {n n1 lf : Nat → Int32} {q k k2 : Int} {ix v : Int32} (h : wn_I n n1 q k lf) (h0 : 0 ≤ k) (hq : 0 ≤ q) (hx : ix.toInt = 24 * q + k) (hv : v.toInt = gx lf k) (hr : -128 ≤ v.toInt ∧ v.toInt ≤ 127) (h2 : k2 = k + 1) : wn_I n (upd n1 ix.toNatClampNeg (vp_nar .byte v)) q k2 lf := fun x x0 => by
  rw [gx_updb hx x (by omega) x0 hr]
  by_cases w : x = 24 * q + k
  · rw [if_pos w, if_pos (by omega), hv, show x - 24 * q = k by omega]
  · rw [if_neg w, h x x0]
    by_cases w2 : 24 * q ≤ x ∧ x < 24 * q + k
    · rw [if_pos w2, if_pos (by omega)]
    · rw [if_neg w2, if_neg (by omega)]
/-- all of put: a new part -/
theorem pt_new {b i c ls sz : Int} {z s n z1 s1 n1 n2 lf : Nat → Int32} {qi lv sv : Int32} (h : ms_I b c z s n) (hb : 0 ≤ b) (hp : pt_I b i c z s n z1 s1 n1) (hi : 0 ≤ i) (hic : i ≤ c) (hc : c < 16) (hl : 1 ≤ ls ∧ ls ≤ 24) (hs : 0 ≤ sz ∧ sz ≤ 4000) (hsum : sm s b c.toNat + sz ≤ 12000) (hno : ∀ j : Int, 0 ≤ j → j < c → ¬ nl_eq z n (b + j) ls lf)
    (hq : qi.toInt = b + i) (hlv : lv.toInt = ls) (hsv : sv.toInt = sz) (hw : wn_I n1 n2 (b + i) ls lf) : ms_I b (c + 1) (upd z1 qi.toNatClampNeg lv) (upd s1 qi.toNatClampNeg sv) n2 ∧ ot_Z z (upd z1 qi.toNatClampNeg lv) b ∧ ot_Z s (upd s1 qi.toNatClampNeg sv) b ∧ ot_N n n2 b := by
  obtain ⟨u1, u2, u3, o1, o2, o3⟩ := hp
  refine ⟨ms_in h hb hi hic hc hl hs hsum hno ?_ ?_ ?_ ?_ ?_ ?_ ?_ ?_ ?_, ?_, ?_, ?_⟩
  · intro j h0 h1; rw [gx_upd hq _ (by omega) (by omega), if_neg (by omega)]; exact u1.1 j h0 (by omega)
  · intro j h0 h1; rw [gx_upd hq _ (by omega) (by omega), if_neg (by omega)]; exact u1.2 j h0 h1
  · rw [gx_upd hq _ (by omega) (by omega), if_pos rfl]; exact hlv
  · intro j h0 h1; rw [gx_upd hq _ (by omega) (by omega), if_neg (by omega)]; exact u2.1 j h0 (by omega)
  · intro j h0 h1; rw [gx_upd hq _ (by omega) (by omega), if_neg (by omega)]; exact u2.2 j h0 h1
  · rw [gx_upd hq _ (by omega) (by omega), if_pos rfl]; exact hsv
  · intro j h0 h1 k k0 k1; rw [hw _ (by omega), if_neg (by omega)]; exact u3.1 j h0 h1 k k0 k1
  · intro j h0 h1 k k0 k1; rw [hw _ (by omega), if_neg (by omega)]; exact u3.2 j h0 h1 k k0 k1
  · intro k k0 k1; rw [hw _ (by omega), if_pos (by omega), show 24 * (b + i) + k - 24 * (b + i) = k by omega]
  · intro j j0 j1; rw [gx_upd hq _ (by omega) j0, if_neg (by omega)]; exact o1 j j0 j1
  · intro j j0 j1; rw [gx_upd hq _ (by omega) j0, if_neg (by omega)]; exact o2 j j0 j1
  · intro x x0 x1; rw [hw x x0, if_neg (by omega)]; exact o3 x x0 x1
/-- all of put: a part told anew -/
theorem pt_old {b i c ls sz : Int} {z s n n2 lf : Nat → Int32} {qi lv sv : Int32} (h : ms_I b c z s n) (hb : 0 ≤ b) (hi : 0 ≤ i) (hic : i < c) (hl : ls ≤ 24) (hs : 0 ≤ sz ∧ sz ≤ 4000) (hsum : sm s b c.toNat - gx s (b + i) + sz ≤ 12000) (he : nl_eq z n (b + i) ls lf)
    (hq : qi.toInt = b + i) (hlv : lv.toInt = ls) (hsv : sv.toInt = sz) (hw : wn_I n n2 (b + i) ls lf) : ms_I b c (upd z qi.toNatClampNeg lv) (upd s qi.toNatClampNeg sv) n2 ∧ ot_Z z (upd z qi.toNatClampNeg lv) b ∧ ot_Z s (upd s qi.toNatClampNeg sv) b ∧ ot_N n n2 b := by
  have hc6 := h.2.1
  refine ⟨ms_re h hb hi hic hs hsum he (fun j h0 => by rw [gx_upd hq j (by omega) h0, hlv]) (fun j h0 => by rw [gx_upd hq j (by omega) h0, hsv]) hw, ?_, ?_, ?_⟩
  · intro j j0 j1; rw [gx_upd hq _ (by omega) j0, if_neg (by omega)]
  · intro j j0 j1; rw [gx_upd hq _ (by omega) j0, if_neg (by omega)]
  · intro x x0 x1; rw [hw x x0, if_neg (by omega)]
/-- those from i to k came down -/
def dn_Z (z z2 : Nat → Int32) (b i k : Int) : Prop := ∀ j : Int, 0 ≤ j → gx z2 (b + j) = if i ≤ j ∧ j < k then gx z (b + j + 1) else gx z (b + j)
def dn_N (n n2 : Nat → Int32) (b i k : Int) : Prop := ∀ j : Int, 0 ≤ j → ∀ q : Int, 0 ≤ q → q < 24 → gx n2 (24 * (b + j) + q) = if i ≤ j ∧ j < k then gx n (24 * (b + j + 1) + q) else gx n (24 * (b + j) + q)
theorem dn_Z0 {z : Nat → Int32} {b i : Int} : dn_Z z z b i i := fun j _ => by rw [if_neg (by omega)]
theorem dn_N0 {n : Nat → Int32} {b i : Int} : dn_N n n b i i := fun j _ q _ _ => by rw [if_neg (by omega)]
theorem dn_Zs {z z1 z2 : Nat → Int32} {b i k k2 fr to : Int} (h : dn_Z z z1 b i k) (hb : 0 ≤ b) (hi : 0 ≤ i) (hk : i ≤ k) (hf : fr = b + k + 1) (ht : to = b + k) (hm : mv_Z z1 z2 fr to) (h2 : k2 = k + 1) : dn_Z z z2 b i k2 := by
  subst hf ht h2
  intro j h0
  rw [hm _ (by omega)]
  by_cases w : b + j = b + k
  · rw [if_pos w, if_pos (by omega)]
    have a := h (k + 1) (by omega)
    rw [if_neg (by omega)] at a
    rw [show b + k + 1 = b + (k + 1) by omega, a, show b + j + 1 = b + (k + 1) by omega]
  · rw [if_neg w, h j h0]
    by_cases w2 : i ≤ j ∧ j < k
    · rw [if_pos w2, if_pos (by omega)]
    · rw [if_neg w2, if_neg (by omega)]
theorem dn_Ns {n n1 n2 : Nat → Int32} {b i k k2 fr to : Int} (h : dn_N n n1 b i k) (hb : 0 ≤ b) (hi : 0 ≤ i) (hk : i ≤ k) (hf : fr = b + k + 1) (ht : to = b + k) (hm : mv_N n1 n2 fr to) (h2 : k2 = k + 1) : dn_N n n2 b i k2 := by
  subst hf ht h2
  intro j h0 q q0 q1
  by_cases w : j = k
  · subst w
    rw [hm.1 q q0 q1, if_pos (by omega)]
    have a := h (j + 1) (by omega) q q0 q1
    rw [if_neg (by omega)] at a
    rw [show b + j + 1 = b + (j + 1) by omega]
    exact a
  · rw [hm.2 _ (by omega) (by omega), h j h0 q q0 q1]
    by_cases w2 : i ≤ j ∧ j < k
    · rw [if_pos w2, if_pos (by omega)]
    · rw [if_neg w2, if_neg (by omega)]
theorem dn_out {b c i : Int} {z s n z2 s2 n2 : Nat → Int32} (h : ms_I b c z s n) (hb : 0 ≤ b) (hi : 0 ≤ i) (hic : i < c) (hz : dn_Z z z2 b i (c - 1)) (hs : dn_Z s s2 b i (c - 1)) (hn : dn_N n n2 b i (c - 1)) : ms_I b (c - 1) z2 s2 n2 :=
  ms_out h hb hi hic (fun j h0 h1 => by rw [hz j h0, if_neg (by omega)]) (fun j h0 h1 => by rw [hz j (by omega), if_pos ⟨h0, h1⟩]) (fun j h0 h1 => by rw [hs j h0, if_neg (by omega)]) (fun j h0 h1 => by rw [hs j (by omega), if_pos ⟨h0, h1⟩])
    (fun j h0 h1 k k0 k1 => by rw [hn j h0 k k0 k1, if_neg (by omega)]) (fun j h0 h1 k k0 k1 => by rw [hn j (by omega) k k0 k1, if_pos ⟨h0, h1⟩])
theorem sm_upN {f : Nat → Int32} {b : Int} : ∀ m n : Nat, (∀ j : Int, 0 ≤ j → j < (n + m : Nat) → 0 ≤ gx f (b + j)) → sm f b n ≤ sm f b (n + m)
  | 0, n, _ => Int.le_refl _
  | m + 1, n, h => by
    have a := sm_upN m n (fun j h0 h1 => h j h0 (by omega))
    have c := h ((n + m : Nat) : Int) (by omega) (by omega)
    rw [show n + (m + 1) = (n + m) + 1 by omega, sm]
    omega
theorem sm_up {b c k : Int} {z s n : Nat → Int32} (h : ms_I b c z s n) (h0 : 0 ≤ k) (h1 : k ≤ c) : 0 ≤ sm s b k.toNat ∧ sm s b k.toNat ≤ 12000 := by
  have a := sm_upN (f := s) (b := b) (c - k).toNat k.toNat (fun j a0 a1 => (h.2.2.1 j a0 (by omega)).2.2.1)
  rw [show k.toNat + (c - k).toNat = c.toNat by omega] at a
  have d := sm_nn (f := s) (b := b) k.toNat (fun j a0 a1 => (h.2.2.1 j a0 (by omega)).2.2.1)
  have e := h.2.2.2.1
  exact ⟨d, by omega⟩
/-! THE REFERENCE'S PARTS -/
theorem nl_nE {b c i ls : Int} {z n s d lf : Nat → Int32} {V : VW_} (R : rM_ b c z n s d V) (i0 : 0 ≤ i) (i1 : i < c) : nl_eq z n (b + i) ls lf ↔ nE_ V i ls (gx lf) := by
  obtain ⟨a1, a2, a3, a4⟩ := R.2 i i0 i1
  constructor
  · rintro ⟨h1, h2⟩
    refine ⟨by omega, fun k k0 k1 => ?_⟩
    rw [← a3 k k0 (by omega)]
    exact h2 k k0 k1
  · rintro ⟨h1, h2⟩
    refine ⟨by omega, fun k k0 k1 => ?_⟩
    rw [a3 k k0 (by omega)]
    exact h2 k k0 k1
theorem rM_F {b c r ls : Int} {z n s d lf : Nat → Int32} {V : VW_} (R : rM_ b c z n s d V) (p0 : -1 ≤ r) (p1 : r < c) (p2 : 0 ≤ r → nl_eq z n (b + r) ls lf) (p3 : r = -1 → ∀ i : Int, 0 ≤ i → i < c → ¬ nl_eq z n (b + i) ls lf) : isF_ V ls (gx lf) r := by
  have e : c = vC V := R.1
  by_cases h : 0 ≤ r
  · exact Or.inl ⟨h, by omega, (nl_nE R h p1).mp (p2 h)⟩
  · exact Or.inr ⟨by omega, fun i i0 i1 q => p3 (by omega) i i0 (by omega) ((nl_nE R i0 (by omega)).mpr q)⟩
theorem rM_sm {b c : Int} {z n s d : Nat → Int32} {V : VW_} (R : rM_ b c z n s d V) : ∀ m : Nat, (m : Int) ≤ c → sm s b m = sv_ V.2.2.2.1 m
  | 0, _ => rfl
  | m + 1, h => by
    have ih := rM_sm R m (by omega)
    have e := (R.2 (m : Int) (by omega) (by omega)).2.1
    have e2 : vS V (m : Int) = V.2.2.2.1 (m : Int) := rfl
    rw [sm, sv_, ih, e, e2]
theorem rM_all {b c : Int} {z n s d : Nat → Int32} {V : VW_} (R : rM_ b c z n s d V) (h : 0 ≤ c) : sm s b c.toNat = vT V := by
  have e := rM_sm R c.toNat (by omega)
  have e1 : c = V.1 := R.1
  unfold vT
  rw [← e1, ← e]
def mv_D (d d2 : Nat → Int32) (fr to m : Int) : Prop := (∀ k : Int, 0 ≤ k → k < m → gr d2 (4000 * to + k) = gr d (4000 * fr + k)) ∧ ∀ x : Int, 0 ≤ x → (x < 4000 * to ∨ 4000 * to + 4000 ≤ x) → gr d2 x = gr d x
def up_D (s d d2 : Nat → Int32) (b i c : Int) : Prop := (∀ j : Int, 0 ≤ j → j < i → ∀ k : Int, 0 ≤ k → k < 4000 → gr d2 (4000 * (b + j) + k) = gr d (4000 * (b + j) + k)) ∧ ∀ j : Int, i < j → j ≤ c → ∀ k : Int, 0 ≤ k → k < gx s (b + j - 1) → gr d2 (4000 * (b + j) + k) = gr d (4000 * (b + j - 1) + k)
def ot_D (d d2 : Nat → Int32) (b : Int) : Prop := ∀ x : Int, 0 ≤ x → (x < 4000 * b ∨ 4000 * (b + 17) ≤ x) → gr d2 x = gr d x
theorem up_D0 {s d : Nat → Int32} {b c : Int} : up_D s d d b c c := ⟨fun _ _ _ _ _ _ => rfl, fun j h0 h1 => absurd h1 (by omega)⟩
theorem up_Ds {s d d1 d2 : Nat → Int32} {b i i2 c fr to m : Int} (h : up_D s d d1 b i c) (hb : 0 ≤ b) (hi : 0 < i) (hf : fr = b + i - 1) (ht : to = b + i) (hm : mv_D d1 d2 fr to m) (em : m = gx s (b + i - 1)) (m4 : m ≤ 4000) (hs : ∀ j : Int, i < j → j ≤ c → gx s (b + j - 1) ≤ 4000) (h2 : i2 = i - 1) : up_D s d d2 b i2 c := by
  subst hf ht h2 em
  refine ⟨fun j j0 j1 k k0 k1 => ?_, fun j j0 j1 k k0 k1 => ?_⟩
  · rw [hm.2 _ (by omega) (by omega)]
    exact h.1 j j0 (by omega) k k0 k1
  · by_cases c1 : j = i
    · subst c1
      rw [hm.1 k k0 k1, show b + j - 1 = b + (j - 1) by omega]
      exact h.1 (j - 1) (by omega) (by omega) k k0 (by omega)
    · have := hs j (by omega) j1
      rw [hm.2 _ (by omega) (by omega)]
      exact h.2 j (by omega) j1 k k0 k1
theorem ot_mvD {d d1 d2 : Nat → Int32} {b fr to m : Int} (h : ot_D d d1 b) (hm : mv_D d1 d2 fr to m) (h0 : b ≤ to) (h1 : to < b + 17) : ot_D d d2 b := fun x x0 x1 => by
  rw [hm.2 x x0 (by omega)]
  exact h x x0 x1
def wd_I (d d2 : Nat → Int32) (q k : Int) (f : Nat → Int32) (y : Int) : Prop := ∀ x : Int, 0 ≤ x → gr d2 x = if 4000 * q ≤ x ∧ x < 4000 * q + k then gr f (y + (x - 4000 * q)) else gr d x
theorem wd_0 {d f : Nat → Int32} {q y : Int} : wd_I d d q 0 f y := fun x _ => by rw [if_neg (by omega)]
theorem wd_s {d d1 f : Nat → Int32} {q k k2 y : Int} {ix v : Int32} (h : wd_I d d1 q k f y) (h0 : 0 ≤ k) (hq : 0 ≤ q) (hx : ix.toInt = 4000 * q + k) (hv : v = gr f (y + k)) (hr : -128 ≤ v.toInt ∧ v.toInt ≤ 127) (h2 : k2 = k + 1) : wd_I d (upd d1 ix.toNatClampNeg (vp_nar .byte v)) q k2 f y := fun x x0 => by
  subst h2
  rw [gr_updb hx x (by omega) x0]
  by_cases c : x = 4000 * q + k
  · rw [if_pos c, if_pos (by omega), bz_fit hr, hv, show x - 4000 * q = k by omega]
  · rw [if_neg c, h x x0]
    by_cases c2 : 4000 * q ≤ x ∧ x < 4000 * q + k
    · rw [if_pos c2, if_pos (by omega)]
    · rw [if_neg c2, if_neg (by omega)]
/-- a part is put to its place: the others stand where they stood, or one further -/
theorem rM_new {b c i ls m y : Int} {z s n d z1 s1 n1 d1 z2 s2 n2 d2 lf f : Nat → Int32} {V : VW_} (R : rM_ b c z n s d V) (I : ms_I b c z s n) (hb : 0 ≤ b) (i0 : 0 ≤ i) (i1 : i ≤ c) (hp : pt_I b i c z s n z1 s1 n1) (hd : up_D s d d1 b i c) (hl : 0 ≤ ls ∧ ls ≤ 24) (hm : 0 ≤ m ∧ m ≤ 4000) (ez : ∀ j : Int, 0 ≤ j → gx z2 j = if j = b + i then ls else gx z1 j) (es : ∀ j : Int, 0 ≤ j → gx s2 j = if j = b + i then m else gx s1 j) (en : wn_I n1 n2 (b + i) ls lf) (ed : wd_I d1 d2 (b + i) m f y) : rM_ b (c + 1) z2 n2 s2 d2 (vin_ V i ls (gx lf) m (fun k => gr f (y + k))) := by
  obtain ⟨e, h⟩ := R
  have e' : c = V.1 := e
  obtain ⟨⟨pz1, pz2⟩, ⟨ps1, ps2⟩, ⟨pn1, pn2⟩, -⟩ := hp
  refine ⟨by show c + 1 = V.1 + 1; omega, fun j j0 j1 => ?_⟩
  rcases Int.lt_trichotomy j i with w | w | w
  · obtain ⟨a1, a2, a3, a4⟩ := h j j0 (by omega)
    have q5 := I.2.2.1 j j0 (by omega)
    have q1 : vZ (vin_ V i ls (gx lf) m (fun k => gr f (y + k))) j = vZ V j := vi_lo (α := Int) w
    have q2 : vS (vin_ V i ls (gx lf) m (fun k => gr f (y + k))) j = vS V j := vi_lo (α := Int) w
    have q3 : vN (vin_ V i ls (gx lf) m (fun k => gr f (y + k))) j = vN V j := vi_lo (α := Int → Int) w
    have q4 : vD (vin_ V i ls (gx lf) m (fun k => gr f (y + k))) j = vD V j := vi_lo (α := Int → Int32) w
    rw [q1, q2, q3, q4]
    refine ⟨?_, ?_, fun k k0 k1 => ?_, fun k k0 k1 => ?_⟩
    · rw [ez _ (by omega), if_neg (by omega), pz1 j j0 (by omega)]
      exact a1
    · rw [es _ (by omega), if_neg (by omega), ps1 j j0 (by omega)]
      exact a2
    · rw [en _ (by omega), if_neg (by omega), pn1 j j0 w k k0 (by omega)]
      exact a3 k k0 k1
    · rw [ed _ (by omega), if_neg (by omega), hd.1 j j0 w k k0 (by omega)]
      exact a4 k k0 k1
  · subst w
    have q1 : vZ (vin_ V j ls (gx lf) m (fun k => gr f (y + k))) j = ls := vi_at (α := Int) rfl
    have q2 : vS (vin_ V j ls (gx lf) m (fun k => gr f (y + k))) j = m := vi_at (α := Int) rfl
    have q3 : vN (vin_ V j ls (gx lf) m (fun k => gr f (y + k))) j = gx lf := vi_at (α := Int → Int) rfl
    have q4 : vD (vin_ V j ls (gx lf) m (fun k => gr f (y + k))) j = fun k => gr f (y + k) := vi_at (α := Int → Int32) rfl
    rw [q1, q2, q3, q4]
    refine ⟨?_, ?_, fun k k0 k1 => ?_, fun k k0 k1 => ?_⟩
    · rw [ez _ (by omega), if_pos rfl]
    · rw [es _ (by omega), if_pos rfl]
    · rw [en _ (by omega), if_pos (by omega), show 24 * (b + j) + k - 24 * (b + j) = k by omega]
    · rw [ed _ (by omega), if_pos (by omega), show 4000 * (b + j) + k - 4000 * (b + j) = k by omega]
  · obtain ⟨a1, a2, a3, a4⟩ := h (j - 1) (by omega) (by omega)
    have q5 := I.2.2.1 (j - 1) (by omega) (by omega)
    rw [show b + (j - 1) = b + j - 1 by omega] at a1 a2 a3 a4 q5
    have q1 : vZ (vin_ V i ls (gx lf) m (fun k => gr f (y + k))) j = vZ V (j - 1) := vi_hi (α := Int) w
    have q2 : vS (vin_ V i ls (gx lf) m (fun k => gr f (y + k))) j = vS V (j - 1) := vi_hi (α := Int) w
    have q3 : vN (vin_ V i ls (gx lf) m (fun k => gr f (y + k))) j = vN V (j - 1) := vi_hi (α := Int → Int) w
    have q4 : vD (vin_ V i ls (gx lf) m (fun k => gr f (y + k))) j = vD V (j - 1) := vi_hi (α := Int → Int32) w
    rw [q1, q2, q3, q4]
    refine ⟨?_, ?_, fun k k0 k1 => ?_, fun k k0 k1 => ?_⟩
    · rw [ez _ (by omega), if_neg (by omega), pz2 j w (by omega)]
      exact a1
    · rw [es _ (by omega), if_neg (by omega), ps2 j w (by omega)]
      exact a2
    · rw [en _ (by omega), if_neg (by omega), pn2 j w (by omega) k k0 (by omega)]
      exact a3 k k0 k1
    · rw [ed _ (by omega), if_neg (by omega), hd.2 j w (by omega) k k0 (by omega)]
      exact a4 k k0 k1
/-- a part is put in the place of the one that had its name -/
theorem rM_old {b c i ls m y : Int} {z s n d z2 s2 n2 d2 lf f : Nat → Int32} {V : VW_} (R : rM_ b c z n s d V) (I : ms_I b c z s n) (hb : 0 ≤ b) (i0 : 0 ≤ i) (i1 : i < c) (hl : 0 ≤ ls ∧ ls ≤ 24) (hm : 0 ≤ m ∧ m ≤ 4000) (ez : ∀ j : Int, 0 ≤ j → gx z2 j = if j = b + i then ls else gx z j) (es : ∀ j : Int, 0 ≤ j → gx s2 j = if j = b + i then m else gx s j) (en : wn_I n n2 (b + i) ls lf) (ed : wd_I d d2 (b + i) m f y) : rM_ b c z2 n2 s2 d2 (vse_ V i ls (gx lf) m (fun k => gr f (y + k))) := by
  obtain ⟨e, h⟩ := R
  refine ⟨e, fun j j0 j1 => ?_⟩
  by_cases w : j = i
  · subst w
    have q1 : vZ (vse_ V j ls (gx lf) m (fun k => gr f (y + k))) j = ls := if_pos rfl
    have q2 : vS (vse_ V j ls (gx lf) m (fun k => gr f (y + k))) j = m := if_pos rfl
    have q3 : vN (vse_ V j ls (gx lf) m (fun k => gr f (y + k))) j = gx lf := if_pos (α := Int → Int) rfl
    have q4 : vD (vse_ V j ls (gx lf) m (fun k => gr f (y + k))) j = fun k => gr f (y + k) := if_pos (α := Int → Int32) rfl
    rw [q1, q2, q3, q4]
    refine ⟨?_, ?_, fun k k0 k1 => ?_, fun k k0 k1 => ?_⟩
    · rw [ez _ (by omega), if_pos rfl]
    · rw [es _ (by omega), if_pos rfl]
    · rw [en _ (by omega), if_pos (by omega), show 24 * (b + j) + k - 24 * (b + j) = k by omega]
    · rw [ed _ (by omega), if_pos (by omega), show 4000 * (b + j) + k - 4000 * (b + j) = k by omega]
  · obtain ⟨a1, a2, a3, a4⟩ := h j j0 j1
    have q5 := I.2.2.1 j j0 j1
    have q1 : vZ (vse_ V i ls (gx lf) m (fun k => gr f (y + k))) j = vZ V j := if_neg w
    have q2 : vS (vse_ V i ls (gx lf) m (fun k => gr f (y + k))) j = vS V j := if_neg w
    have q3 : vN (vse_ V i ls (gx lf) m (fun k => gr f (y + k))) j = vN V j := if_neg (α := Int → Int) w
    have q4 : vD (vse_ V i ls (gx lf) m (fun k => gr f (y + k))) j = vD V j := if_neg (α := Int → Int32) w
    rw [q1, q2, q3, q4]
    refine ⟨?_, ?_, fun k k0 k1 => ?_, fun k k0 k1 => ?_⟩
    · rw [ez _ (by omega), if_neg (by omega)]
      exact a1
    · rw [es _ (by omega), if_neg (by omega)]
      exact a2
    · rw [en _ (by omega), if_neg (by omega)]
      exact a3 k k0 k1
    · rw [ed _ (by omega), if_neg (by omega)]
      exact a4 k k0 k1
/-- parts further down -/
def dn_D (s d d2 : Nat → Int32) (b i k : Int) : Prop := (∀ j : Int, 0 ≤ j → ¬ (i ≤ j ∧ j < k) → ∀ q : Int, 0 ≤ q → q < 4000 → gr d2 (4000 * (b + j) + q) = gr d (4000 * (b + j) + q)) ∧ ∀ j : Int, i ≤ j → j < k → ∀ q : Int, 0 ≤ q → q < gx s (b + j + 1) → gr d2 (4000 * (b + j) + q) = gr d (4000 * (b + j + 1) + q)
theorem dn_D0 {s d : Nat → Int32} {b i : Int} : dn_D s d d b i i := ⟨fun _ _ _ _ _ _ => rfl, fun j h0 h1 => absurd h1 (by omega)⟩
theorem dn_Ds {s d d1 d2 : Nat → Int32} {b i k k2 fr to m : Int} (h : dn_D s d d1 b i k) (hb : 0 ≤ b) (hi : 0 ≤ i) (hk : i ≤ k) (hf : fr = b + k + 1) (ht : to = b + k) (hm : mv_D d1 d2 fr to m) (em : m = gx s (b + k + 1)) (m4 : m ≤ 4000) (hs : ∀ j : Int, i ≤ j → j < k → gx s (b + j + 1) ≤ 4000) (h2 : k2 = k + 1) : dn_D s d d2 b i k2 := by
  subst hf ht h2 em
  refine ⟨fun j j0 j1 q q0 q1 => ?_, fun j j0 j1 q q0 q1 => ?_⟩
  · rw [hm.2 _ (by omega) (by omega)]
    exact h.1 j j0 (by omega) q q0 q1
  · by_cases c1 : j = k
    · subst c1
      rw [hm.1 q q0 q1, show b + j + 1 = b + (j + 1) by omega]
      exact h.1 (j + 1) (by omega) (by omega) q q0 (by omega)
    · have := hs j j0 (by omega)
      rw [hm.2 _ (by omega) (by omega)]
      exact h.2 j j0 (by omega) q q0 q1
theorem rM_out {b c i : Int} {z s n d z2 s2 n2 d2 : Nat → Int32} {V : VW_} (R : rM_ b c z n s d V) (I : ms_I b c z s n) (hb : 0 ≤ b) (i0 : 0 ≤ i) (i1 : i < c) (hz : dn_Z z z2 b i (c - 1)) (hs : dn_Z s s2 b i (c - 1)) (hn : dn_N n n2 b i (c - 1)) (hd : dn_D s d d2 b i (c - 1)) : rM_ b (c - 1) z2 n2 s2 d2 (vou_ V i) := by
  obtain ⟨e, h⟩ := R
  have e' : c = V.1 := e
  refine ⟨by show c - 1 = V.1 - 1; omega, fun j j0 j1 => ?_⟩
  by_cases w : j < i
  · obtain ⟨a1, a2, a3, a4⟩ := h j j0 (by omega)
    have q5 := I.2.2.1 j j0 (by omega)
    have q1 : vZ (vou_ V i) j = vZ V j := vo_lo (α := Int) w
    have q2 : vS (vou_ V i) j = vS V j := vo_lo (α := Int) w
    have q3 : vN (vou_ V i) j = vN V j := vo_lo (α := Int → Int) w
    have q4 : vD (vou_ V i) j = vD V j := vo_lo (α := Int → Int32) w
    rw [q1, q2, q3, q4]
    refine ⟨?_, ?_, fun k k0 k1 => ?_, fun k k0 k1 => ?_⟩
    · rw [hz j j0, if_neg (by omega)]
      exact a1
    · rw [hs j j0, if_neg (by omega)]
      exact a2
    · rw [hn j j0 k k0 (by omega), if_neg (by omega)]
      exact a3 k k0 k1
    · rw [hd.1 j j0 (by omega) k k0 (by omega)]
      exact a4 k k0 k1
  · obtain ⟨a1, a2, a3, a4⟩ := h (j + 1) (by omega) (by omega)
    have q5 := I.2.2.1 (j + 1) (by omega) (by omega)
    rw [show b + (j + 1) = b + j + 1 by omega] at a1 a2 a3 a4 q5
    have q1 : vZ (vou_ V i) j = vZ V (j + 1) := vo_hi (α := Int) (by omega)
    have q2 : vS (vou_ V i) j = vS V (j + 1) := vo_hi (α := Int) (by omega)
    have q3 : vN (vou_ V i) j = vN V (j + 1) := vo_hi (α := Int → Int) (by omega)
    have q4 : vD (vou_ V i) j = vD V (j + 1) := vo_hi (α := Int → Int32) (by omega)
    rw [q1, q2, q3, q4]
    refine ⟨?_, ?_, fun k k0 k1 => ?_, fun k k0 k1 => ?_⟩
    · rw [hz j j0, if_pos (by omega)]
      exact a1
    · rw [hs j j0, if_pos (by omega)]
      exact a2
    · rw [hn j j0 k k0 (by omega), if_pos (by omega)]
      exact a3 k k0 k1
    · rw [hd.2 j (by omega) (by omega) k k0 (by omega)]
      exact a4 k k0 k1
/-- the other set is left alone -/
theorem rM_ext {b e c : Int} {z s n d z2 s2 n2 d2 : Nat → Int32} {V : VW_} (R : rM_ e c z n s d V) (I : ms_I e c z s n) (he : 0 ≤ e) (hbd : e + 17 ≤ b ∨ b + 17 ≤ e) (hz : ot_Z z z2 b) (hs : ot_Z s s2 b) (hn : ot_N n n2 b) (hd : ot_D d d2 b) : rM_ e c z2 n2 s2 d2 V := by
  refine ⟨R.1, fun j j0 j1 => ?_⟩
  obtain ⟨a1, a2, a3, a4⟩ := R.2 j j0 j1
  have q5 := I.2.2.1 j j0 j1
  have q6 := I.2.1
  refine ⟨?_, ?_, fun k k0 k1 => ?_, fun k k0 k1 => ?_⟩
  · rw [hz _ (by omega) (by omega)]
    exact a1
  · rw [hs _ (by omega) (by omega)]
    exact a2
  · rw [hn _ (by omega) (by omega)]
    exact a3 k k0 k1
  · rw [hd _ (by omega) (by omega)]
    exact a4 k k0 k1
theorem vse_cg {b c q m s : Int} {z n sz d : Nat → Int32} {V : VW_} {a a' : Int → Int} {dd : Int → Int32} (h : rM_ b c z n sz d (vse_ V q m a s dd)) (e : ∀ k : Int, 0 ≤ k → k < m → a k = a' k) : rM_ b c z n sz d (vse_ V q m a' s dd) := by
  refine ⟨h.1, fun i i0 i1 => ?_⟩
  obtain ⟨h1, h2, h3, h4⟩ := h.2 i i0 i1
  refine ⟨h1, h2, fun k k0 k1 => ?_, h4⟩
  rw [h3 k k0 k1]
  show vs_ q a V.2.2.1 i k = vs_ q a' V.2.2.1 i k
  unfold vs_
  by_cases c1 : i = q
  · rw [if_pos c1, if_pos c1]
    have k1' : k < vs_ q m V.2.1 i := k1
    unfold vs_ at k1'
    rw [if_pos c1] at k1'
    exact e k k0 k1'
  · rw [if_neg c1, if_neg c1]
theorem vin_cg {b c r m s : Int} {z n sz d : Nat → Int32} {V : VW_} {a a' : Int → Int} {dd : Int → Int32} (h : rM_ b c z n sz d (vin_ V r m a s dd)) (e : ∀ k : Int, 0 ≤ k → k < m → a k = a' k) : rM_ b c z n sz d (vin_ V r m a' s dd) := by
  refine ⟨h.1, fun i i0 i1 => ?_⟩
  obtain ⟨h1, h2, h3, h4⟩ := h.2 i i0 i1
  refine ⟨h1, h2, fun k k0 k1 => ?_, h4⟩
  rw [h3 k k0 k1]
  show vi_ r a V.2.2.1 i k = vi_ r a' V.2.2.1 i k
  have k1' : k < vi_ r m V.2.1 i := k1
  rcases Int.lt_trichotomy i r with w | w | w
  · rw [vi_lo w, vi_lo w]
  · rw [vi_at w] at k1'
    rw [vi_at w, vi_at w]
    exact e k k0 k1'
  · rw [vi_hi w, vi_hi w]
/-- the reference's room, and what its put makes, told by the parts alone -/
theorem RM_of {b c ls m : Int} {z n s d lf : Nat → Int32} {V : VW_} {a : Int → Int} (R : rM_ b c z n s d V) (c0 : 0 ≤ c) (e : ∀ k : Int, 0 ≤ k → k < ls → gx lf k = a k) (h : m ≤ 4000 ∧ (∀ i : Int, 0 ≤ i → i < c → nl_eq z n (b + i) ls lf → sm s b c.toNat - gx s (b + i) + m ≤ 12000) ∧ ((∀ i : Int, 0 ≤ i → i < c → ¬ nl_eq z n (b + i) ls lf) → sm s b c.toNat + m ≤ 12000 ∧ c < 16)) : RM_ V a ls m := by
  have ec : c = vC V := R.1
  have es := rM_all R c0
  refine ⟨h.1, fun q q0 q1 q2 => ?_, fun hn => ?_⟩
  · have x := h.2.1 q q0 (by omega) ((nl_nE R q0 (by omega)).mpr (nE_cg q2 (fun k k0 k1 => (e k k0 k1).symm)))
    have y := (R.2 q q0 (by omega)).2.1
    omega
  · have x := h.2.2 (fun i i0 i1 q => hn i i0 (by omega) (nE_cg ((nl_nE R i0 i1).mp q) e))
    omega
theorem RM_no {b c ls m : Int} {z n s d lf : Nat → Int32} {V : VW_} {a : Int → Int} (R : rM_ b c z n s d V) (c0 : 0 ≤ c) (e : ∀ k : Int, 0 ≤ k → k < ls → gx lf k = a k) (h : ¬ (m ≤ 4000 ∧ (∀ i : Int, 0 ≤ i → i < c → nl_eq z n (b + i) ls lf → sm s b c.toNat - gx s (b + i) + m ≤ 12000) ∧ ((∀ i : Int, 0 ≤ i → i < c → ¬ nl_eq z n (b + i) ls lf) → sm s b c.toNat + m ≤ 12000 ∧ c < 16))) : ¬ RM_ V a ls m := fun q => h (by
  have ec : c = vC V := R.1
  have es := rM_all R c0
  refine ⟨q.1, fun i i0 i1 i2 => ?_, fun hn => ?_⟩
  · have x := q.2.1 i i0 (by omega) (nE_cg ((nl_nE R i0 i1).mp i2) e)
    have y := (R.2 i i0 i1).2.1
    omega
  · have x := q.2.2 (fun i i0 i1 p => hn i i0 (by omega) ((nl_nE R i0 (by omega)).mpr (nE_cg p (fun k k0 k1 => (e k k0 k1).symm))))
    omega)
theorem AD_M {b c c2 ls m : Int} {z n s d z2 n2 s2 d2 lf : Nat → Int32} {V : VW_} {a : Int → Int} {dd : Int → Int32} (R : rM_ b c z n s d V) (I : ms_I b c z s n) (hs : srt_ V) (hl : 0 ≤ ls) (e : ∀ k : Int, 0 ≤ k → k < ls → gx lf k = a k) (h : (∃ q : Int, 0 ≤ q ∧ q < c ∧ nE_ V q ls (gx lf) ∧ rM_ b c2 z2 n2 s2 d2 (vse_ V q ls (gx lf) m dd)) ∨ ((∀ i : Int, 0 ≤ i → i < c → ¬ nE_ V i ls (gx lf)) ∧ ∃ r : Int, 0 ≤ r ∧ r ≤ c ∧ (∀ j : Int, r ≤ j → j < c → lx_ (gx lf) ls (vN V j) (vZ V j)) ∧ (0 < r → ¬ lx_ (gx lf) ls (vN V (r - 1)) (vZ V (r - 1))) ∧ rM_ b c2 z2 n2 s2 d2 (vin_ V r ls (gx lf) m dd))) : ∃ W : VW_, AD_ V a ls m dd W ∧ rM_ b c2 z2 n2 s2 d2 W := by
  have ec : c = vC V := R.1
  have hz : ∀ i : Int, 0 ≤ i → i < vC V → 0 ≤ vZ V i := fun i i0 i1 => by
    have x := (R.2 i i0 (by omega)).1
    have y := I.2.2.1 i i0 (by omega)
    omega
  rcases h with ⟨q, q0, q1, q2, q3⟩ | ⟨hn, r, r0, r1, r2, r3, r4⟩
  · exact ⟨_, Or.inl ⟨q, q0, by omega, nE_cg q2 e, rfl⟩, vse_cg q3 e⟩
  · have p := isP_M hs hz hl (fun i i0 i1 => hn i i0 (by omega)) r0 (by omega) (fun j j0 j1 => r2 j j0 (by omega)) r3
    exact ⟨_, Or.inr ⟨fun i i0 i1 q => hn i i0 (by omega) (nE_cg q (fun k k0 k1 => (e k k0 k1).symm)), r, isP_cg p e, rfl⟩, vin_cg r4 e⟩

theorem d_Mod_thrown_0 : decode prog_12_method_2_code 0 = .ok (.aload_n 0, 1) := by decide +kernel
theorem d_Mod_thrown_1 : decode prog_12_method_2_code 1 = .ok (.getfield 103, 3) := by decide +kernel
theorem k_1154 : (Jvm.Cond.fieldLink "PackageBookModel" (103 : Nat) "PackageBookModel" "thrown" "I") ∈ uW := uW_of 1154 (by decide +kernel) (by decide +kernel)
theorem d_Mod_thrown_4 : decode prog_12_method_2_code 4 = .ok (.ireturn, 1) := by decide +kernel
abbrev y_Mod_thrown : MethodName := ⟨"PackageBookModel", "thrown", "()I"⟩
abbrev i_Mod_thrown : pb_I := (y_Mod_thrown, prog_12_method_2_code, 1, (some Jvm.ClassFile.FieldType.int), [], { frames := 0, cells := 0, slots := 0, locals := 0 })
set_option maxRecDepth 100000 in
set_option maxHeartbeats 4000000 in
theorem g_Mod_thrown {l : Launch} (hl : l.stackTraces = false) (G : pb_G) (h : Nat) (m_rels : Nat) (m_openRels : Nat) (m_closeRels : Nat) (m_openRel : Nat) (m_closeRel : Nat) (m_comment : Nat) (m_ends : Nat) (m_order : Nat) (m_tape : Nat) (m_count : Nat) (m_nameSize : Nat) (m_names : Nat) (m_size : Nat) (m_data : Nat) (m_looked : Nat) (m_file : Nat) (m_directory : Nat) (m_out : Nat) (m_row : Nat) (m_made : Nat) (m_length : Nat) (m_pressed : Nat) (m_mark : Nat) (m_idSize : Nat) (m_ids : Nat) (m_goalSize : Nat) (m_goals : Nat) (m_value : Nat) (m_faults : Nat) (m_reached : Nat) (v_thrown : Int32) (v_taped : Int32) (v_lookedSize : Int32) (v_fileSize : Int32) (v_directorySize : Int32) (v_outSize : Int32) (v_rowSize : Int32) (v_bitAt : Int32) (v_bitEnd : Int32) (v_why : Int32) (v_madeSize : Int32) (v_firstCount : Int32) (v_secondCount : Int32) (v_heldBits : Int32) (v_heldCount : Int32) (v_pressedSize : Int32) (v_at : Int32) (v_bad : Int32) (v_markSize : Int32) (v_relationCount : Int32) (v_valueSize : Int32) (v_faultCount : Int32) : Cn l G i_Mod_thrown [.ref h] [(h, .inr (10, [.ref m_rels, .ref m_openRels, .ref m_closeRels, .ref m_openRel, .ref m_closeRel, .ref m_comment, .ref m_ends, .ref m_order, .int v_thrown, .int v_taped, .ref m_tape, .ref m_count, .ref m_nameSize, .ref m_names, .ref m_size, .ref m_data, .int v_lookedSize, .ref m_looked, .int v_fileSize, .ref m_file, .int v_directorySize, .ref m_directory, .int v_outSize, .ref m_out, .int v_rowSize, .ref m_row, .int v_bitAt, .int v_bitEnd, .int v_why, .int v_madeSize, .ref m_made, .ref m_length, .int v_firstCount, .int v_secondCount, .int v_heldBits, .int v_heldCount, .int v_pressedSize, .ref m_pressed, .int v_at, .int v_bad, .int v_markSize, .ref m_mark, .int v_relationCount, .ref m_idSize, .ref m_ids, .ref m_goalSize, .ref m_goals, .int v_valueSize, .ref m_value, .int v_faultCount, .ref m_faults, .ref m_reached]))] (S := Unit) (fun rv_ u => rv_ = some (.int v_thrown)) (fun u => [(h, .inr (10, [.ref m_rels, .ref m_openRels, .ref m_closeRels, .ref m_openRel, .ref m_closeRel, .ref m_comment, .ref m_ends, .ref m_order, .int v_thrown, .int v_taped, .ref m_tape, .ref m_count, .ref m_nameSize, .ref m_names, .ref m_size, .ref m_data, .int v_lookedSize, .ref m_looked, .int v_fileSize, .ref m_file, .int v_directorySize, .ref m_directory, .int v_outSize, .ref m_out, .int v_rowSize, .ref m_row, .int v_bitAt, .int v_bitEnd, .int v_why, .int v_madeSize, .ref m_made, .ref m_length, .int v_firstCount, .int v_secondCount, .int v_heldBits, .int v_heldCount, .int v_pressedSize, .ref m_pressed, .int v_at, .int v_bad, .int v_markSize, .ref m_mark, .int v_relationCount, .ref m_idSize, .ref m_ids, .ref m_goalSize, .ref m_goals, .int v_valueSize, .ref m_value, .int v_faultCount, .ref m_faults, .ref m_reached]))]) := by
  refine Cn.of hl (by decide +kernel) rfl (Nat.le_of_ble_eq_true rfl) (fun M hQ => ?_)
  refine pb_eq (pc' := 0) (lo' := [(0, .ref h)]) (rest' := []) (ws' := [(h, .inr (10, [.ref m_rels, .ref m_openRels, .ref m_closeRels, .ref m_openRel, .ref m_closeRel, .ref m_comment, .ref m_ends, .ref m_order, .int v_thrown, .int v_taped, .ref m_tape, .ref m_count, .ref m_nameSize, .ref m_names, .ref m_size, .ref m_data, .int v_lookedSize, .ref m_looked, .int v_fileSize, .ref m_file, .int v_directorySize, .ref m_directory, .int v_outSize, .ref m_out, .int v_rowSize, .ref m_row, .int v_bitAt, .int v_bitEnd, .int v_why, .int v_madeSize, .ref m_made, .ref m_length, .int v_firstCount, .int v_secondCount, .int v_heldBits, .int v_heldCount, .int v_pressedSize, .ref m_pressed, .int v_at, .int v_bad, .int v_markSize, .ref m_mark, .int v_relationCount, .ref m_idSize, .ref m_ids, .ref m_goalSize, .ref m_goals, .int v_valueSize, .ref m_value, .int v_faultCount, .ref m_faults, .ref m_reached]))]) ?_
  have zl0 : (0 : Int32).toInt = 0 := by decide
  have zl1 : (1 : Int32).toInt = 1 := by decide
  refine pb_aload_n (pc := 0) d_Mod_thrown_0 0 rfl rfl ?_
  refine pb_get (pc := 1) d_Mod_thrown_1 0 8 rfl rfl (by decide) in_Mod k_1154 rfl ?_
  exact pb_iret (pc := 4) hQ d_Mod_thrown_4 rfl rfl () rfl [0] (by decide) rfl rfl (by decide) (by decide)

theorem d_Mod_type_36 : decode prog_12_method_3_code 36 = .ok (.iconst 0, 1) := by decide +kernel
theorem d_Mod_type_37 : decode prog_12_method_3_code 37 = .ok (.istore 4, 2) := by decide +kernel
theorem d_Mod_type_39 : decode prog_12_method_3_code 39 = .ok (.iload 4, 2) := by decide +kernel
theorem d_Mod_type_41 : decode prog_12_method_3_code 41 = .ok (.iload_n 3, 1) := by decide +kernel
theorem d_Mod_type_42 : decode prog_12_method_3_code 42 = .ok (.if_icmp .ge 44, 3) := by decide +kernel
theorem d_Mod_type_86 : decode prog_12_method_3_code 86 = .ok (.aload_n 0, 1) := by decide +kernel
theorem d_Mod_type_87 : decode prog_12_method_3_code 87 = .ok (.getfield 103, 3) := by decide +kernel
theorem d_Mod_type_90 : decode prog_12_method_3_code 90 = .ok (.ifCond .le 7, 3) := by decide +kernel
theorem d_Mod_type_97 : decode prog_12_method_3_code 97 = .ok (.aload_n 0, 1) := by decide +kernel
theorem d_Mod_type_98 : decode prog_12_method_3_code 98 = .ok (.getfield 107, 3) := by decide +kernel
theorem k_1155 : (Jvm.Cond.fieldLink "PackageBookModel" (107 : Nat) "PackageBookModel" "taped" "I") ∈ uW := uW_of 1155 (by decide +kernel) (by decide +kernel)
theorem d_Mod_type_101 : decode prog_12_method_3_code 101 = .ok (.ireturn, 1) := by decide +kernel
theorem d_Mod_type_93 : decode prog_12_method_3_code 93 = .ok (.iconst 0, 1) := by decide +kernel
theorem d_Mod_type_94 : decode prog_12_method_3_code 94 = .ok (.goto 7, 3) := by decide +kernel
theorem d_Mod_type_45 : decode prog_12_method_3_code 45 = .ok (.aload_n 0, 1) := by decide +kernel
theorem d_Mod_type_46 : decode prog_12_method_3_code 46 = .ok (.getfield 103, 3) := by decide +kernel
theorem d_Mod_type_49 : decode prog_12_method_3_code 49 = .ok (.ifCond .ne 37, 3) := by decide +kernel
theorem d_Mod_type_52 : decode prog_12_method_3_code 52 = .ok (.aload_n 0, 1) := by decide +kernel
theorem d_Mod_type_53 : decode prog_12_method_3_code 53 = .ok (.getfield 34, 3) := by decide +kernel
theorem k_1156 : (Jvm.Cond.fieldLink "PackageBookModel" (34 : Nat) "PackageBookModel" "tape" "[B") ∈ uW := uW_of 1156 (by decide +kernel) (by decide +kernel)
theorem d_Mod_type_56 : decode prog_12_method_3_code 56 = .ok (.aload_n 0, 1) := by decide +kernel
theorem d_Mod_type_57 : decode prog_12_method_3_code 57 = .ok (.getfield 107, 3) := by decide +kernel
theorem d_Mod_type_60 : decode prog_12_method_3_code 60 = .ok (.lload_n 1, 1) := by decide +kernel
theorem d_Mod_type_61 : decode prog_12_method_3_code 61 = .ok (.bipush 8, 2) := by decide +kernel
theorem d_Mod_type_63 : decode prog_12_method_3_code 63 = .ok (.iload 4, 2) := by decide +kernel
theorem d_Mod_type_65 : decode prog_12_method_3_code 65 = .ok (.imul, 1) := by decide +kernel
theorem d_Mod_type_66 : decode prog_12_method_3_code 66 = .ok (.lshr, 1) := by decide +kernel
theorem d_Mod_type_67 : decode prog_12_method_3_code 67 = .ok (.l2i, 1) := by decide +kernel
theorem d_Mod_type_68 : decode prog_12_method_3_code 68 = .ok (.i2b, 1) := by decide +kernel
theorem d_Mod_type_69 : decode prog_12_method_3_code 69 = .ok (.bastore, 1) := by decide +kernel
theorem d_Mod_type_70 : decode prog_12_method_3_code 70 = .ok (.aload_n 0, 1) := by decide +kernel
theorem d_Mod_type_71 : decode prog_12_method_3_code 71 = .ok (.dup, 1) := by decide +kernel
theorem d_Mod_type_72 : decode prog_12_method_3_code 72 = .ok (.getfield 107, 3) := by decide +kernel
theorem d_Mod_type_75 : decode prog_12_method_3_code 75 = .ok (.iconst 1, 1) := by decide +kernel
theorem d_Mod_type_76 : decode prog_12_method_3_code 76 = .ok (.iadd, 1) := by decide +kernel
theorem d_Mod_type_77 : decode prog_12_method_3_code 77 = .ok (.putfield 107, 3) := by decide +kernel
theorem d_Mod_type_80 : decode prog_12_method_3_code 80 = .ok (.iinc 4 1, 3) := by decide +kernel
theorem d_Mod_type_83 : decode prog_12_method_3_code 83 = .ok (.goto (-44), 3) := by decide +kernel
theorem d_Mod_type_0 : decode prog_12_method_3_code 0 = .ok (.aload_n 0, 1) := by decide +kernel
theorem d_Mod_type_1 : decode prog_12_method_3_code 1 = .ok (.iload_n 3, 1) := by decide +kernel
theorem d_Mod_type_2 : decode prog_12_method_3_code 2 = .ok (.iconst 1, 1) := by decide +kernel
theorem d_Mod_type_3 : decode prog_12_method_3_code 3 = .ok (.if_icmp .lt 9, 3) := by decide +kernel
theorem d_Mod_type_12 : decode prog_12_method_3_code 12 = .ok (.iconst 1, 1) := by decide +kernel
theorem d_Mod_type_13 : decode prog_12_method_3_code 13 = .ok (.goto 20, 3) := by decide +kernel
theorem d_Mod_type_33 : decode prog_12_method_3_code 33 = .ok (.putfield 103, 3) := by decide +kernel
theorem d_Mod_type_6 : decode prog_12_method_3_code 6 = .ok (.iload_n 3, 1) := by decide +kernel
theorem d_Mod_type_7 : decode prog_12_method_3_code 7 = .ok (.bipush 8, 2) := by decide +kernel
theorem d_Mod_type_9 : decode prog_12_method_3_code 9 = .ok (.if_icmp .le 7, 3) := by decide +kernel
theorem d_Mod_type_16 : decode prog_12_method_3_code 16 = .ok (.aload_n 0, 1) := by decide +kernel
theorem d_Mod_type_17 : decode prog_12_method_3_code 17 = .ok (.getfield 107, 3) := by decide +kernel
theorem d_Mod_type_20 : decode prog_12_method_3_code 20 = .ok (.iload_n 3, 1) := by decide +kernel
theorem d_Mod_type_21 : decode prog_12_method_3_code 21 = .ok (.iadd, 1) := by decide +kernel
theorem d_Mod_type_22 : decode prog_12_method_3_code 22 = .ok (.sipush 8000, 3) := by decide +kernel
theorem d_Mod_type_25 : decode prog_12_method_3_code 25 = .ok (.if_icmp .le 7, 3) := by decide +kernel
theorem d_Mod_type_32 : decode prog_12_method_3_code 32 = .ok (.iconst 0, 1) := by decide +kernel
theorem d_Mod_type_28 : decode prog_12_method_3_code 28 = .ok (.iconst 2, 1) := by decide +kernel
theorem d_Mod_type_29 : decode prog_12_method_3_code 29 = .ok (.goto 4, 3) := by decide +kernel
abbrev y_Mod_type : MethodName := ⟨"PackageBookModel", "type", "(JI)I"⟩
abbrev i_Mod_type : pb_I := (y_Mod_type, prog_12_method_3_code, 5, (some Jvm.ClassFile.FieldType.int), [], { frames := 0, cells := 0, slots := 0, locals := 0 })
set_option maxRecDepth 100000 in
set_option maxHeartbeats 4000000 in
theorem g_Mod_type {l : Launch} (hl : l.stackTraces = false) (G : pb_G) (h : Nat) (m_rels : Nat) (m_openRels : Nat) (m_closeRels : Nat) (m_openRel : Nat) (m_closeRel : Nat) (m_comment : Nat) (m_ends : Nat) (m_order : Nat) (m_tape : Nat) (m_count : Nat) (m_nameSize : Nat) (m_names : Nat) (m_size : Nat) (m_data : Nat) (m_looked : Nat) (m_file : Nat) (m_directory : Nat) (m_out : Nat) (m_row : Nat) (m_made : Nat) (m_length : Nat) (m_pressed : Nat) (m_mark : Nat) (m_idSize : Nat) (m_ids : Nat) (m_goalSize : Nat) (m_goals : Nat) (m_value : Nat) (m_faults : Nat) (m_reached : Nat) (v_thrown : Int32) (v_taped : Int32) (v_lookedSize : Int32) (v_fileSize : Int32) (v_directorySize : Int32) (v_outSize : Int32) (v_rowSize : Int32) (v_bitAt : Int32) (v_bitEnd : Int32) (v_why : Int32) (v_madeSize : Int32) (v_firstCount : Int32) (v_secondCount : Int32) (v_heldBits : Int32) (v_heldCount : Int32) (v_pressedSize : Int32) (v_at : Int32) (v_bad : Int32) (v_markSize : Int32) (v_relationCount : Int32) (v_valueSize : Int32) (v_faultCount : Int32) (a_tape : Nat → Int32) (w : Int64) (n : Int32) (t0 : 0 ≤ v_taped.toInt) (t1 : v_taped.toInt ≤ 8000) (F_a_tape : sb_Fit a_tape) : Cn l G i_Mod_type [.ref h, .long w, .int n] [(h, .inr (10, [.ref m_rels, .ref m_openRels, .ref m_closeRels, .ref m_openRel, .ref m_closeRel, .ref m_comment, .ref m_ends, .ref m_order, .int v_thrown, .int v_taped, .ref m_tape, .ref m_count, .ref m_nameSize, .ref m_names, .ref m_size, .ref m_data, .int v_lookedSize, .ref m_looked, .int v_fileSize, .ref m_file, .int v_directorySize, .ref m_directory, .int v_outSize, .ref m_out, .int v_rowSize, .ref m_row, .int v_bitAt, .int v_bitEnd, .int v_why, .int v_madeSize, .ref m_made, .ref m_length, .int v_firstCount, .int v_secondCount, .int v_heldBits, .int v_heldCount, .int v_pressedSize, .ref m_pressed, .int v_at, .int v_bad, .int v_markSize, .ref m_mark, .int v_relationCount, .ref m_idSize, .ref m_ids, .ref m_goalSize, .ref m_goals, .int v_valueSize, .ref m_value, .int v_faultCount, .ref m_faults, .ref m_reached])), (m_tape, .inl (G.2.1, 8000, .inl a_tape))] (S := Int32 × Int32 × Int32 × (Nat → Int32)) (fun rv_ u => rv_ = some (.int u.1) ∧ (¬ (1 ≤ n.toInt ∧ n.toInt ≤ 8) → u.2.1.toInt = 1 ∧ u.2.2.1.toInt = v_taped.toInt) ∧ (1 ≤ n.toInt ∧ n.toInt ≤ 8 → 8000 < v_taped.toInt + n.toInt → u.2.1.toInt = 2 ∧ u.2.2.1.toInt = v_taped.toInt) ∧ (1 ≤ n.toInt ∧ n.toInt ≤ 8 → v_taped.toInt + n.toInt ≤ 8000 → u.2.1.toInt = 0 ∧ u.2.2.1.toInt = v_taped.toInt + n.toInt ∧ u.1.toInt = u.2.2.1.toInt) ∧ (tp_T a_tape u.2.2.2 v_taped.toInt u.2.2.1.toInt w) ∧ (sb_Fit u.2.2.2)) (fun u => [(h, .inr (10, [.ref m_rels, .ref m_openRels, .ref m_closeRels, .ref m_openRel, .ref m_closeRel, .ref m_comment, .ref m_ends, .ref m_order, .int u.2.1, .int u.2.2.1, .ref m_tape, .ref m_count, .ref m_nameSize, .ref m_names, .ref m_size, .ref m_data, .int v_lookedSize, .ref m_looked, .int v_fileSize, .ref m_file, .int v_directorySize, .ref m_directory, .int v_outSize, .ref m_out, .int v_rowSize, .ref m_row, .int v_bitAt, .int v_bitEnd, .int v_why, .int v_madeSize, .ref m_made, .ref m_length, .int v_firstCount, .int v_secondCount, .int v_heldBits, .int v_heldCount, .int v_pressedSize, .ref m_pressed, .int v_at, .int v_bad, .int v_markSize, .ref m_mark, .int v_relationCount, .ref m_idSize, .ref m_ids, .ref m_goalSize, .ref m_goals, .int v_valueSize, .ref m_value, .int v_faultCount, .ref m_faults, .ref m_reached])), (m_tape, .inl (G.2.1, 8000, .inl u.2.2.2))]) := by
  refine Cn.of hl (by decide +kernel) rfl (Nat.le_of_ble_eq_true rfl) (fun M hQ => ?_)
  refine pb_eq (pc' := 0) (lo' := [(0, .ref h), (1, .long w), (3, .int n)]) (rest' := []) (ws' := [(h, .inr (10, [.ref m_rels, .ref m_openRels, .ref m_closeRels, .ref m_openRel, .ref m_closeRel, .ref m_comment, .ref m_ends, .ref m_order, .int v_thrown, .int v_taped, .ref m_tape, .ref m_count, .ref m_nameSize, .ref m_names, .ref m_size, .ref m_data, .int v_lookedSize, .ref m_looked, .int v_fileSize, .ref m_file, .int v_directorySize, .ref m_directory, .int v_outSize, .ref m_out, .int v_rowSize, .ref m_row, .int v_bitAt, .int v_bitEnd, .int v_why, .int v_madeSize, .ref m_made, .ref m_length, .int v_firstCount, .int v_secondCount, .int v_heldBits, .int v_heldCount, .int v_pressedSize, .ref m_pressed, .int v_at, .int v_bad, .int v_markSize, .ref m_mark, .int v_relationCount, .ref m_idSize, .ref m_ids, .ref m_goalSize, .ref m_goals, .int v_valueSize, .ref m_value, .int v_faultCount, .ref m_faults, .ref m_reached])), (m_tape, .inl (G.2.1, 8000, .inl a_tape))]) ?_
  have zl0 : (0 : Int32).toInt = 0 := by decide
  have zl1 : (1 : Int32).toInt = 1 := by decide
  have zl2 : (2 : Int32).toInt = 2 := by decide
  have zl8 : (8 : Int32).toInt = 8 := by decide
  have hJ36_1 : ∀ (th_ : Int32), (¬ (1 ≤ n.toInt ∧ n.toInt ≤ 8) → th_.toInt = 1) → (1 ≤ n.toInt ∧ n.toInt ≤ 8 → 8000 < v_taped.toInt + n.toInt → th_.toInt = 2) → (1 ≤ n.toInt ∧ n.toInt ≤ 8 → v_taped.toInt + n.toInt ≤ 8000 → th_.toInt = 0) → pb_P l G M i_Mod_type 36 [(0, .ref h), (1, .long w), (3, .int n)] [] [(h, .inr (10, [.ref m_rels, .ref m_openRels, .ref m_closeRels, .ref m_openRel, .ref m_closeRel, .ref m_comment, .ref m_ends, .ref m_order, .int th_, .int v_taped, .ref m_tape, .ref m_count, .ref m_nameSize, .ref m_names, .ref m_size, .ref m_data, .int v_lookedSize, .ref m_looked, .int v_fileSize, .ref m_file, .int v_directorySize, .ref m_directory, .int v_outSize, .ref m_out, .int v_rowSize, .ref m_row, .int v_bitAt, .int v_bitEnd, .int v_why, .int v_madeSize, .ref m_made, .ref m_length, .int v_firstCount, .int v_secondCount, .int v_heldBits, .int v_heldCount, .int v_pressedSize, .ref m_pressed, .int v_at, .int v_bad, .int v_markSize, .ref m_mark, .int v_relationCount, .ref m_idSize, .ref m_ids, .ref m_goalSize, .ref m_goals, .int v_valueSize, .ref m_value, .int v_faultCount, .ref m_faults, .ref m_reached])), (m_tape, .inl (G.2.1, 8000, .inl a_tape))] 0 0 := by
    intro th_ j0 j1 j2
    refine pb_iconst (pc := 36) (v := 0) d_Mod_type_36 (by decide) ?_
    refine pb_istore (pc := 37) (lo' := [(4, .int 0), (0, .ref h), (1, .long w), (3, .int n)]) d_Mod_type_37 (by decide) rfl ?_
    have hL39_2 : ∀ (N9 : Nat) (k : Int32) (t : Int32) (g : Nat → Int32), (sb_Fit g) → (0 ≤ k.toInt) → (t.toInt = v_taped.toInt + k.toInt) → (th_.toInt ≠ 0 → k.toInt = 0) → (th_.toInt = 0 → k.toInt ≤ n.toInt) → (tp_T a_tape g v_taped.toInt t.toInt w) → ((n.toInt - k.toInt).toNat) < N9 → pb_P l G M i_Mod_type 39 [(4, .int k), (0, .ref h), (1, .long w), (3, .int n)] [] [(h, .inr (10, [.ref m_rels, .ref m_openRels, .ref m_closeRels, .ref m_openRel, .ref m_closeRel, .ref m_comment, .ref m_ends, .ref m_order, .int th_, .int t, .ref m_tape, .ref m_count, .ref m_nameSize, .ref m_names, .ref m_size, .ref m_data, .int v_lookedSize, .ref m_looked, .int v_fileSize, .ref m_file, .int v_directorySize, .ref m_directory, .int v_outSize, .ref m_out, .int v_rowSize, .ref m_row, .int v_bitAt, .int v_bitEnd, .int v_why, .int v_madeSize, .ref m_made, .ref m_length, .int v_firstCount, .int v_secondCount, .int v_heldBits, .int v_heldCount, .int v_pressedSize, .ref m_pressed, .int v_at, .int v_bad, .int v_markSize, .ref m_mark, .int v_relationCount, .ref m_idSize, .ref m_ids, .ref m_goalSize, .ref m_goals, .int v_valueSize, .ref m_value, .int v_faultCount, .ref m_faults, .ref m_reached])), (m_tape, .inl (G.2.1, 8000, .inl g))] 0 0 := by
      intro N9
      induction N9 with
      | zero => intro k t g F_g k0 k1 k2 k3 kt hm9; exact absurd hm9 (Nat.not_lt_zero _)
      | succ N9 ih39 =>
        intro k t g F_g k0 k1 k2 k3 kt hm9
        refine pb_iload (pc := 39) d_Mod_type_39 0 rfl ?_
        refine pb_iload_n (pc := 41) d_Mod_type_41 3 rfl rfl ?_
        refine pb_icmp_ge (pc := 42) (tgt := 86) d_Mod_type_42 (by decide) (fun w3 => ?_) (fun w3 => ?_)
        · have tw3 : n.toInt ≤ k.toInt := (ti_le rfl rfl).mp w3
          refine pb_aload_n (pc := 86) d_Mod_type_86 1 rfl rfl ?_
          refine pb_get (pc := 87) d_Mod_type_87 0 8 rfl rfl (by decide) in_Mod k_1154 rfl ?_
          refine pb_if_le (pc := 90) (tgt := 97) d_Mod_type_90 (by decide) (fun w4 => ?_) (fun w4 => ?_)
          · have tw4 : th_.toInt ≤ 0 := (ti_le rfl (by decide)).mp w4
            refine pb_aload_n (pc := 97) d_Mod_type_97 1 rfl rfl ?_
            refine pb_get (pc := 98) d_Mod_type_98 0 9 rfl rfl (by decide) in_Mod k_1155 rfl ?_
            exact pb_iret (pc := 101) hQ d_Mod_type_101 rfl rfl (t, th_, t, g) ⟨rfl, (by (try dsimp only); first | done | (with_reducible assumption) | omega (splitDisjunctions := false) | assumption | (clear j1 j2 k2 k3 hm9; first | omega (splitDisjunctions := false) | omega) | omega | decide), (by (try dsimp only); first | done | (with_reducible assumption) | omega (splitDisjunctions := false) | assumption | exact fun q90 q91 => (by have y90 := j1 q90; have y91 := j2 q90; have y92 := y90 q91; clear j1 j2 k2 k3 hm9 y90 y91; first | omega (splitDisjunctions := false) | omega) | omega | decide), (by (try dsimp only); first | done | (with_reducible assumption) | omega (splitDisjunctions := false) | assumption | exact fun q90 q91 => (by have y90 := j1 q90; have y91 := j2 q90; have y92 := y91 q91; have y93 := k3 y92; clear j1 j2 k2 k3 hm9 y90 y91; first | omega (splitDisjunctions := false) | omega) | omega | decide), (by (try dsimp only); first | done | assumption | decide | omega), F_g⟩ [0, 1] (by decide) rfl rfl (by decide) (by decide)
          · have tw4 : ¬ th_.toInt ≤ 0 := fun z9 => w4 ((ti_le rfl (by decide)).mpr z9)
            refine pb_iconst (pc := 93) (v := 0) d_Mod_type_93 (by decide) ?_
            refine pb_goto (pc := 94) (tgt := 101) d_Mod_type_94 (by decide) ?_
            exact pb_iret (pc := 101) hQ d_Mod_type_101 rfl rfl (0, th_, t, g) ⟨rfl, (by (try dsimp only); first | done | (with_reducible assumption) | omega (splitDisjunctions := false) | assumption | (clear j1 j2 k2 k3 hm9; first | omega (splitDisjunctions := false) | omega) | (exact omg_c813e6ba82 j0 k1 k2) | decide), (by (try dsimp only); first | done | (with_reducible assumption) | omega (splitDisjunctions := false) | assumption | exact fun q90 q91 => (by have y90 := j1 q90; have y91 := j2 q90; have y92 := y90 q91; clear j1 j2 k2 k3 hm9 y90 y91; first | omega (splitDisjunctions := false) | omega) | omega | decide), (by (try dsimp only); first | done | (with_reducible assumption) | omega (splitDisjunctions := false) | assumption | exact fun q90 q91 => (by have y90 := j1 q90; have y91 := j2 q90; have y92 := y91 q91; have y93 := k3 y92; clear j1 j2 k2 k3 hm9 y90 y91; first | omega (splitDisjunctions := false) | omega) | omega | decide), (by (try dsimp only); first | done | assumption | decide | omega), F_g⟩ [0, 1] (by decide) rfl rfl (by decide) (by decide)
        · have tw3 : ¬ n.toInt ≤ k.toInt := fun z9 => w3 ((ti_le rfl rfl).mpr z9)
          refine pb_aload_n (pc := 45) d_Mod_type_45 1 rfl rfl ?_
          refine pb_get (pc := 46) d_Mod_type_46 0 8 rfl rfl (by decide) in_Mod k_1154 rfl ?_
          refine pb_if_ne (pc := 49) (tgt := 86) d_Mod_type_49 (by decide) (fun w5 => ?_) (fun w5 => ?_)
          · have tw5 : ¬ th_.toInt = 0 := fun z9 => w5 ((ti_eq rfl (by decide)).mpr z9)
            refine pb_aload_n (pc := 86) d_Mod_type_86 1 rfl rfl ?_
            refine pb_get (pc := 87) d_Mod_type_87 0 8 rfl rfl (by decide) in_Mod k_1154 rfl ?_
            refine pb_if_le (pc := 90) (tgt := 97) d_Mod_type_90 (by decide) (fun w6 => ?_) (fun w6 => ?_)
            · have tw6 : th_.toInt ≤ 0 := (ti_le rfl (by decide)).mp w6
              refine pb_aload_n (pc := 97) d_Mod_type_97 1 rfl rfl ?_
              refine pb_get (pc := 98) d_Mod_type_98 0 9 rfl rfl (by decide) in_Mod k_1155 rfl ?_
              exact pb_iret (pc := 101) hQ d_Mod_type_101 rfl rfl (t, th_, t, g) ⟨rfl, (by (try dsimp only); first | done | (with_reducible assumption) | omega (splitDisjunctions := false) | assumption | (clear j1 j2 k2 k3 hm9; first | omega (splitDisjunctions := false) | omega) | omega | decide), (by (try dsimp only); first | done | (with_reducible assumption) | omega (splitDisjunctions := false) | assumption | exact fun q90 q91 => (by have y90 := j1 q90; have y91 := j2 q90; have y92 := y90 q91; clear j1 j2 k2 k3 hm9 y90 y91; first | omega (splitDisjunctions := false) | omega) | omega | decide), (by (try dsimp only); first | done | (with_reducible assumption) | omega (splitDisjunctions := false) | assumption | exact fun q90 q91 => (by have y90 := j1 q90; have y91 := j2 q90; have y92 := y91 q91; have y93 := k3 y92; clear j1 j2 k2 k3 hm9 y90 y91; first | omega (splitDisjunctions := false) | omega) | omega | decide), (by (try dsimp only); first | done | assumption | decide | omega), F_g⟩ [0, 1] (by decide) rfl rfl (by decide) (by decide)
            · have tw6 : ¬ th_.toInt ≤ 0 := fun z9 => w6 ((ti_le rfl (by decide)).mpr z9)
              refine pb_iconst (pc := 93) (v := 0) d_Mod_type_93 (by decide) ?_
              refine pb_goto (pc := 94) (tgt := 101) d_Mod_type_94 (by decide) ?_
              exact pb_iret (pc := 101) hQ d_Mod_type_101 rfl rfl (0, th_, t, g) ⟨rfl, (by (try dsimp only); first | done | (with_reducible assumption) | omega (splitDisjunctions := false) | assumption | (clear j1 j2 k2 k3 hm9; first | omega (splitDisjunctions := false) | omega) | (exact omg_c813e6ba82 j0 k1 k2) | decide), (by (try dsimp only); first | done | (with_reducible assumption) | omega (splitDisjunctions := false) | assumption | exact fun q90 q91 => (by have y90 := j1 q90; have y91 := j2 q90; have y92 := y90 q91; clear j1 j2 k2 k3 hm9 y90 y91; first | omega (splitDisjunctions := false) | omega) | (exact omg_ca4caf1023 j1 k1 k2) | decide), (by (try dsimp only); first | done | (with_reducible assumption) | omega (splitDisjunctions := false) | assumption | exact fun q90 q91 => (by have y90 := j1 q90; have y91 := j2 q90; have y92 := y91 q91; have y93 := k3 y92; clear j1 j2 k2 k3 hm9 y90 y91; first | omega (splitDisjunctions := false) | omega) | omega | decide), (by (try dsimp only); first | done | assumption | decide | omega), F_g⟩ [0, 1] (by decide) rfl rfl (by decide) (by decide)
          · have tw5 : th_.toInt = 0 := (ti_eq rfl (by decide)).mp w5
            refine pb_aload_n (pc := 52) d_Mod_type_52 1 rfl rfl ?_
            refine pb_get (pc := 53) d_Mod_type_53 0 10 rfl rfl (by decide) in_Mod k_1156 rfl ?_
            refine pb_aload_n (pc := 56) d_Mod_type_56 1 rfl rfl ?_
            refine pb_get (pc := 57) d_Mod_type_57 0 9 rfl rfl (by decide) in_Mod k_1155 rfl ?_
            refine pb_lload_n (pc := 60) d_Mod_type_60 2 rfl rfl ?_
            refine pb_bipush (pc := 61) (v := 8) d_Mod_type_61 (by decide) ?_
            refine pb_iload (pc := 63) d_Mod_type_63 0 rfl ?_
            refine pb_imul (pc := 65) d_Mod_type_65 ?_
            refine pb_topi (fun i7 ei7 => ?_)
            try have ti7 : i7.toInt = 8 * k.toInt := ti_mul ei7 (by decide) rfl (by omega) (by omega)
            refine pb_lshr (pc := 66) d_Mod_type_66 rfl ?_
            refine pb_topl (fun j8 ej8 => ?_)
            refine pb_l2i (pc := 67) d_Mod_type_67 rfl ?_
            refine pb_topi (fun i9 ei9 => ?_)
            try have ti9 : i9.toInt = j8.toInt := ti_l2i ei9 rfl (by omega) (by omega)
            refine pb_i2b (pc := 68) d_Mod_type_68 rfl ?_
            refine pb_topi (fun i10 ei10 => ?_)
            have ti10 : -128 ≤ i10.toInt ∧ i10.toInt ≤ 127 := ti_i2b ei10
            refine pb_bast (pc := 69) (ws' := [(h, .inr (10, [.ref m_rels, .ref m_openRels, .ref m_closeRels, .ref m_openRel, .ref m_closeRel, .ref m_comment, .ref m_ends, .ref m_order, .int th_, .int t, .ref m_tape, .ref m_count, .ref m_nameSize, .ref m_names, .ref m_size, .ref m_data, .int v_lookedSize, .ref m_looked, .int v_fileSize, .ref m_file, .int v_directorySize, .ref m_directory, .int v_outSize, .ref m_out, .int v_rowSize, .ref m_row, .int v_bitAt, .int v_bitEnd, .int v_why, .int v_madeSize, .ref m_made, .ref m_length, .int v_firstCount, .int v_secondCount, .int v_heldBits, .int v_heldCount, .int v_pressedSize, .ref m_pressed, .int v_at, .int v_bad, .int v_markSize, .ref m_mark, .int v_relationCount, .ref m_idSize, .ref m_ids, .ref m_goalSize, .ref m_goals, .int v_valueSize, .ref m_value, .int v_faultCount, .ref m_faults, .ref m_reached])), (m_tape, .inl (G.2.1, 8000, .inl (upd g ((t : Int32).toNatClampNeg) (vp_nar .byte i10))))]) d_Mod_type_69 1 rfl (vp_in_iff.mpr (by (exact omg_aed0d06cc9 t0 j0 j1 k0 k1 tw3 tw5))) rfl ?_
            refine pb_aload_n (pc := 70) d_Mod_type_70 1 rfl rfl ?_
            refine pb_dup (pc := 71) d_Mod_type_71 rfl ?_
            refine pb_get (pc := 72) d_Mod_type_72 0 9 rfl rfl (by decide) in_Mod k_1155 rfl ?_
            refine pb_iconst (pc := 75) (v := 1) d_Mod_type_75 (by decide) ?_
            refine pb_iadd (pc := 76) d_Mod_type_76 ?_
            refine pb_topi (fun i11 ei11 => ?_)
            try have ti11 : i11.toInt = t.toInt + 1 := t2_add ei11 rfl (by decide) (by (exact omg_6672641528 t0 t1 j0 k0 k1 k2 k3))
            refine pb_put (pc := 77) (ty := .int) (ws' := [(h, .inr (10, [.ref m_rels, .ref m_openRels, .ref m_closeRels, .ref m_openRel, .ref m_closeRel, .ref m_comment, .ref m_ends, .ref m_order, .int th_, .int i11, .ref m_tape, .ref m_count, .ref m_nameSize, .ref m_names, .ref m_size, .ref m_data, .int v_lookedSize, .ref m_looked, .int v_fileSize, .ref m_file, .int v_directorySize, .ref m_directory, .int v_outSize, .ref m_out, .int v_rowSize, .ref m_row, .int v_bitAt, .int v_bitEnd, .int v_why, .int v_madeSize, .ref m_made, .ref m_length, .int v_firstCount, .int v_secondCount, .int v_heldBits, .int v_heldCount, .int v_pressedSize, .ref m_pressed, .int v_at, .int v_bad, .int v_markSize, .ref m_mark, .int v_relationCount, .ref m_idSize, .ref m_ids, .ref m_goalSize, .ref m_goals, .int v_valueSize, .ref m_value, .int v_faultCount, .ref m_faults, .ref m_reached])), (m_tape, .inl (G.2.1, 8000, .inl (upd g ((t : Int32).toNatClampNeg) (vp_nar .byte i10))))]) d_Mod_type_77 0 9 t_Mod t_Mod_ok n_Mod rfl rfl (by decide) in_Mod k_1155 rfl (by decide +kernel) rfl rfl (Nat.le_of_ble_eq_true rfl) rfl ?_
            refine pb_iincN (pc := 80) (c := 1) d_Mod_type_80 0 rfl (by decide) (by decide) (fun i12 ei12 => ?_)
            have ti12 : i12.toInt = k.toInt + 1 := t2_add ei12 rfl (by decide) (by first | omega | (have r90 := ti_rng k; have r91 := ti_rng i12; have r92 := ti_rng n; omega))
            refine pb_eq (pc' := 83) (lo' := [(4, .int i12), (0, .ref h), (1, .long w), (3, .int n)]) (rest' := []) (ws' := [(h, .inr (10, [.ref m_rels, .ref m_openRels, .ref m_closeRels, .ref m_openRel, .ref m_closeRel, .ref m_comment, .ref m_ends, .ref m_order, .int th_, .int i11, .ref m_tape, .ref m_count, .ref m_nameSize, .ref m_names, .ref m_size, .ref m_data, .int v_lookedSize, .ref m_looked, .int v_fileSize, .ref m_file, .int v_directorySize, .ref m_directory, .int v_outSize, .ref m_out, .int v_rowSize, .ref m_row, .int v_bitAt, .int v_bitEnd, .int v_why, .int v_madeSize, .ref m_made, .ref m_length, .int v_firstCount, .int v_secondCount, .int v_heldBits, .int v_heldCount, .int v_pressedSize, .ref m_pressed, .int v_at, .int v_bad, .int v_markSize, .ref m_mark, .int v_relationCount, .ref m_idSize, .ref m_ids, .ref m_goalSize, .ref m_goals, .int v_valueSize, .ref m_value, .int v_faultCount, .ref m_faults, .ref m_reached])), (m_tape, .inl (G.2.1, 8000, .inl (upd g ((t : Int32).toNatClampNeg) (vp_nar .byte i10))))]) ?_
            refine pb_goto (pc := 83) (tgt := 39) d_Mod_type_83 (by decide) ?_
            exact ih39 i12 i11 (upd g ((t : Int32).toNatClampNeg) (vp_nar .byte i10)) (sb_fitU F_g (fit_nar _)) (by first | (with_reducible assumption) | omega (splitDisjunctions := false) | assumption | (have y90 := k3 tw5; clear j1 j2 k2 k3 hm9; first | omega (splitDisjunctions := false) | omega) | omega | decide) (by first | (with_reducible assumption) | omega (splitDisjunctions := false) | assumption | (have y90 := k3 tw5; clear j1 j2 k2 k3 hm9; first | omega (splitDisjunctions := false) | omega) | omega | decide) (by first | (with_reducible assumption) | omega (splitDisjunctions := false) | assumption | exact fun q90 => (by have y90 := k2 q90; have y91 := k3 tw5; clear j1 j2 k2 k3 hm9; first | omega (splitDisjunctions := false) | omega) | omega | decide) (by first | (with_reducible assumption) | omega (splitDisjunctions := false) | assumption | exact fun q90 => (by have y90 := k3 q90; clear j1 j2 k2 k3 hm9; first | omega (splitDisjunctions := false) | omega) | omega | decide) (tp_step kt (fun j hj => gr_updb rfl j (by omega) hj) (by omega) (by omega) (tp_m2 (by assumption) (by assumption) (by assumption) (by omega))) (by first | (have y90 := k3 tw5; clear j1 j2 k2 k3; (exact omg_7c8a06b1f5 hm9 tw3 ti12)) | omega)
    exact hL39_2 _ 0 v_taped a_tape (by first | assumption | decide | omega) (by first | (with_reducible assumption) | omega (splitDisjunctions := false) | assumption | (clear j1 j2; first | omega (splitDisjunctions := false) | omega) | omega | decide) (by first | (with_reducible assumption) | omega (splitDisjunctions := false) | assumption | (clear j1 j2; first | omega (splitDisjunctions := false) | omega) | omega | decide) (by first | (with_reducible assumption) | omega (splitDisjunctions := false) | assumption | exact fun q90 => (by clear j1 j2; first | omega (splitDisjunctions := false) | omega) | omega | decide) (by first | (with_reducible assumption) | omega (splitDisjunctions := false) | assumption | exact fun q90 => (by clear j1 j2; first | omega (splitDisjunctions := false) | omega) | omega | decide) (tp_T0 (by omega)) (Nat.lt_succ_self _)
  refine pb_aload_n (pc := 0) d_Mod_type_0 0 rfl rfl ?_
  refine pb_iload_n (pc := 1) d_Mod_type_1 2 rfl rfl ?_
  refine pb_iconst (pc := 2) (v := 1) d_Mod_type_2 (by decide) ?_
  refine pb_icmp_lt (pc := 3) (tgt := 12) d_Mod_type_3 (by decide) (fun w13 => ?_) (fun w13 => ?_)
  · have tw13 : n.toInt < 1 := (ti_lt rfl (by decide)).mp w13
    refine pb_iconst (pc := 12) (v := 1) d_Mod_type_12 (by decide) ?_
    refine pb_goto (pc := 13) (tgt := 33) d_Mod_type_13 (by decide) ?_
    refine pb_put (pc := 33) (ty := .int) (ws' := [(h, .inr (10, [.ref m_rels, .ref m_openRels, .ref m_closeRels, .ref m_openRel, .ref m_closeRel, .ref m_comment, .ref m_ends, .ref m_order, .int 1, .int v_taped, .ref m_tape, .ref m_count, .ref m_nameSize, .ref m_names, .ref m_size, .ref m_data, .int v_lookedSize, .ref m_looked, .int v_fileSize, .ref m_file, .int v_directorySize, .ref m_directory, .int v_outSize, .ref m_out, .int v_rowSize, .ref m_row, .int v_bitAt, .int v_bitEnd, .int v_why, .int v_madeSize, .ref m_made, .ref m_length, .int v_firstCount, .int v_secondCount, .int v_heldBits, .int v_heldCount, .int v_pressedSize, .ref m_pressed, .int v_at, .int v_bad, .int v_markSize, .ref m_mark, .int v_relationCount, .ref m_idSize, .ref m_ids, .ref m_goalSize, .ref m_goals, .int v_valueSize, .ref m_value, .int v_faultCount, .ref m_faults, .ref m_reached])), (m_tape, .inl (G.2.1, 8000, .inl a_tape))]) d_Mod_type_33 0 8 t_Mod t_Mod_ok n_Mod rfl rfl (by decide) in_Mod k_1154 rfl (by decide +kernel) rfl rfl (Nat.le_of_ble_eq_true rfl) rfl ?_
    exact hJ36_1 1 (by first | (with_reducible assumption) | omega (splitDisjunctions := false) | assumption | omega | decide) (by first | (with_reducible assumption) | omega (splitDisjunctions := false) | assumption | omega | decide) (by first | (with_reducible assumption) | omega (splitDisjunctions := false) | assumption | omega | decide)
  · have tw13 : ¬ n.toInt < 1 := fun z9 => w13 ((ti_lt rfl (by decide)).mpr z9)
    refine pb_iload_n (pc := 6) d_Mod_type_6 2 rfl rfl ?_
    refine pb_bipush (pc := 7) (v := 8) d_Mod_type_7 (by decide) ?_
    refine pb_icmp_le (pc := 9) (tgt := 16) d_Mod_type_9 (by decide) (fun w14 => ?_) (fun w14 => ?_)
    · have tw14 : n.toInt ≤ 8 := (ti_le rfl (by decide)).mp w14
      refine pb_aload_n (pc := 16) d_Mod_type_16 0 rfl rfl ?_
      refine pb_get (pc := 17) d_Mod_type_17 0 9 rfl rfl (by decide) in_Mod k_1155 rfl ?_
      refine pb_iload_n (pc := 20) d_Mod_type_20 2 rfl rfl ?_
      refine pb_iadd (pc := 21) d_Mod_type_21 ?_
      refine pb_topi (fun i15 ei15 => ?_)
      try have ti15 : i15.toInt = v_taped.toInt + n.toInt := t2_add ei15 rfl rfl (by omega)
      refine pb_sipush (pc := 22) (v := 8000) d_Mod_type_22 (by decide) ?_
      refine pb_icmp_le (pc := 25) (tgt := 32) d_Mod_type_25 (by decide) (fun w16 => ?_) (fun w16 => ?_)
      · have tw16 : i15.toInt ≤ 8000 := (ti_le rfl (by decide)).mp w16
        refine pb_iconst (pc := 32) (v := 0) d_Mod_type_32 (by decide) ?_
        refine pb_put (pc := 33) (ty := .int) (ws' := [(h, .inr (10, [.ref m_rels, .ref m_openRels, .ref m_closeRels, .ref m_openRel, .ref m_closeRel, .ref m_comment, .ref m_ends, .ref m_order, .int 0, .int v_taped, .ref m_tape, .ref m_count, .ref m_nameSize, .ref m_names, .ref m_size, .ref m_data, .int v_lookedSize, .ref m_looked, .int v_fileSize, .ref m_file, .int v_directorySize, .ref m_directory, .int v_outSize, .ref m_out, .int v_rowSize, .ref m_row, .int v_bitAt, .int v_bitEnd, .int v_why, .int v_madeSize, .ref m_made, .ref m_length, .int v_firstCount, .int v_secondCount, .int v_heldBits, .int v_heldCount, .int v_pressedSize, .ref m_pressed, .int v_at, .int v_bad, .int v_markSize, .ref m_mark, .int v_relationCount, .ref m_idSize, .ref m_ids, .ref m_goalSize, .ref m_goals, .int v_valueSize, .ref m_value, .int v_faultCount, .ref m_faults, .ref m_reached])), (m_tape, .inl (G.2.1, 8000, .inl a_tape))]) d_Mod_type_33 0 8 t_Mod t_Mod_ok n_Mod rfl rfl (by decide) in_Mod k_1154 rfl (by decide +kernel) rfl rfl (Nat.le_of_ble_eq_true rfl) rfl ?_
        exact hJ36_1 0 (by first | (with_reducible assumption) | omega (splitDisjunctions := false) | assumption | omega | decide) (by first | (with_reducible assumption) | omega (splitDisjunctions := false) | assumption | omega | decide) (by first | (with_reducible assumption) | omega (splitDisjunctions := false) | assumption | omega | decide)
      · have tw16 : ¬ i15.toInt ≤ 8000 := fun z9 => w16 ((ti_le rfl (by decide)).mpr z9)
        refine pb_iconst (pc := 28) (v := 2) d_Mod_type_28 (by decide) ?_
        refine pb_goto (pc := 29) (tgt := 33) d_Mod_type_29 (by decide) ?_
        refine pb_put (pc := 33) (ty := .int) (ws' := [(h, .inr (10, [.ref m_rels, .ref m_openRels, .ref m_closeRels, .ref m_openRel, .ref m_closeRel, .ref m_comment, .ref m_ends, .ref m_order, .int 2, .int v_taped, .ref m_tape, .ref m_count, .ref m_nameSize, .ref m_names, .ref m_size, .ref m_data, .int v_lookedSize, .ref m_looked, .int v_fileSize, .ref m_file, .int v_directorySize, .ref m_directory, .int v_outSize, .ref m_out, .int v_rowSize, .ref m_row, .int v_bitAt, .int v_bitEnd, .int v_why, .int v_madeSize, .ref m_made, .ref m_length, .int v_firstCount, .int v_secondCount, .int v_heldBits, .int v_heldCount, .int v_pressedSize, .ref m_pressed, .int v_at, .int v_bad, .int v_markSize, .ref m_mark, .int v_relationCount, .ref m_idSize, .ref m_ids, .ref m_goalSize, .ref m_goals, .int v_valueSize, .ref m_value, .int v_faultCount, .ref m_faults, .ref m_reached])), (m_tape, .inl (G.2.1, 8000, .inl a_tape))]) d_Mod_type_33 0 8 t_Mod t_Mod_ok n_Mod rfl rfl (by decide) in_Mod k_1154 rfl (by decide +kernel) rfl rfl (Nat.le_of_ble_eq_true rfl) rfl ?_
        exact hJ36_1 2 (by first | (with_reducible assumption) | omega (splitDisjunctions := false) | assumption | omega | decide) (by first | (with_reducible assumption) | omega (splitDisjunctions := false) | assumption | omega | decide) (by first | (with_reducible assumption) | omega (splitDisjunctions := false) | assumption | omega | decide)
    · have tw14 : ¬ n.toInt ≤ 8 := fun z9 => w14 ((ti_le rfl (by decide)).mpr z9)
      refine pb_iconst (pc := 12) (v := 1) d_Mod_type_12 (by decide) ?_
      refine pb_goto (pc := 13) (tgt := 33) d_Mod_type_13 (by decide) ?_
      refine pb_put (pc := 33) (ty := .int) (ws' := [(h, .inr (10, [.ref m_rels, .ref m_openRels, .ref m_closeRels, .ref m_openRel, .ref m_closeRel, .ref m_comment, .ref m_ends, .ref m_order, .int 1, .int v_taped, .ref m_tape, .ref m_count, .ref m_nameSize, .ref m_names, .ref m_size, .ref m_data, .int v_lookedSize, .ref m_looked, .int v_fileSize, .ref m_file, .int v_directorySize, .ref m_directory, .int v_outSize, .ref m_out, .int v_rowSize, .ref m_row, .int v_bitAt, .int v_bitEnd, .int v_why, .int v_madeSize, .ref m_made, .ref m_length, .int v_firstCount, .int v_secondCount, .int v_heldBits, .int v_heldCount, .int v_pressedSize, .ref m_pressed, .int v_at, .int v_bad, .int v_markSize, .ref m_mark, .int v_relationCount, .ref m_idSize, .ref m_ids, .ref m_goalSize, .ref m_goals, .int v_valueSize, .ref m_value, .int v_faultCount, .ref m_faults, .ref m_reached])), (m_tape, .inl (G.2.1, 8000, .inl a_tape))]) d_Mod_type_33 0 8 t_Mod t_Mod_ok n_Mod rfl rfl (by decide) in_Mod k_1154 rfl (by decide +kernel) rfl rfl (Nat.le_of_ble_eq_true rfl) rfl ?_
      exact hJ36_1 1 (by first | (with_reducible assumption) | omega (splitDisjunctions := false) | assumption | omega | decide) (by first | (with_reducible assumption) | omega (splitDisjunctions := false) | assumption | omega | decide) (by first | (with_reducible assumption) | omega (splitDisjunctions := false) | assumption | omega | decide)

theorem d_Mod_again_37 : decode prog_12_method_4_code 37 = .ok (.iconst 0, 1) := by decide +kernel
theorem d_Mod_again_38 : decode prog_12_method_4_code 38 = .ok (.istore_n 2, 1) := by decide +kernel
theorem d_Mod_again_39 : decode prog_12_method_4_code 39 = .ok (.iload_n 2, 1) := by decide +kernel
theorem d_Mod_again_40 : decode prog_12_method_4_code 40 = .ok (.iload_n 1, 1) := by decide +kernel
theorem d_Mod_again_41 : decode prog_12_method_4_code 41 = .ok (.if_icmp .ge 46, 3) := by decide +kernel
theorem d_Mod_again_87 : decode prog_12_method_4_code 87 = .ok (.aload_n 0, 1) := by decide +kernel
theorem d_Mod_again_88 : decode prog_12_method_4_code 88 = .ok (.getfield 103, 3) := by decide +kernel
theorem d_Mod_again_91 : decode prog_12_method_4_code 91 = .ok (.ifCond .le 7, 3) := by decide +kernel
theorem d_Mod_again_98 : decode prog_12_method_4_code 98 = .ok (.aload_n 0, 1) := by decide +kernel
theorem d_Mod_again_99 : decode prog_12_method_4_code 99 = .ok (.getfield 107, 3) := by decide +kernel
theorem d_Mod_again_102 : decode prog_12_method_4_code 102 = .ok (.ireturn, 1) := by decide +kernel
theorem d_Mod_again_94 : decode prog_12_method_4_code 94 = .ok (.iconst 0, 1) := by decide +kernel
theorem d_Mod_again_95 : decode prog_12_method_4_code 95 = .ok (.goto 7, 3) := by decide +kernel
theorem d_Mod_again_44 : decode prog_12_method_4_code 44 = .ok (.aload_n 0, 1) := by decide +kernel
theorem d_Mod_again_45 : decode prog_12_method_4_code 45 = .ok (.getfield 103, 3) := by decide +kernel
theorem d_Mod_again_48 : decode prog_12_method_4_code 48 = .ok (.ifCond .ne 39, 3) := by decide +kernel
theorem d_Mod_again_51 : decode prog_12_method_4_code 51 = .ok (.aload_n 0, 1) := by decide +kernel
theorem d_Mod_again_52 : decode prog_12_method_4_code 52 = .ok (.getfield 34, 3) := by decide +kernel
theorem d_Mod_again_55 : decode prog_12_method_4_code 55 = .ok (.aload_n 0, 1) := by decide +kernel
theorem d_Mod_again_56 : decode prog_12_method_4_code 56 = .ok (.getfield 107, 3) := by decide +kernel
theorem d_Mod_again_59 : decode prog_12_method_4_code 59 = .ok (.aload_n 0, 1) := by decide +kernel
theorem d_Mod_again_60 : decode prog_12_method_4_code 60 = .ok (.getfield 34, 3) := by decide +kernel
theorem d_Mod_again_63 : decode prog_12_method_4_code 63 = .ok (.aload_n 0, 1) := by decide +kernel
theorem d_Mod_again_64 : decode prog_12_method_4_code 64 = .ok (.getfield 107, 3) := by decide +kernel
theorem d_Mod_again_67 : decode prog_12_method_4_code 67 = .ok (.iload_n 1, 1) := by decide +kernel
theorem d_Mod_again_68 : decode prog_12_method_4_code 68 = .ok (.isub, 1) := by decide +kernel
theorem d_Mod_again_69 : decode prog_12_method_4_code 69 = .ok (.baload, 1) := by decide +kernel
theorem d_Mod_again_70 : decode prog_12_method_4_code 70 = .ok (.bastore, 1) := by decide +kernel
theorem d_Mod_again_71 : decode prog_12_method_4_code 71 = .ok (.aload_n 0, 1) := by decide +kernel
theorem d_Mod_again_72 : decode prog_12_method_4_code 72 = .ok (.dup, 1) := by decide +kernel
theorem d_Mod_again_73 : decode prog_12_method_4_code 73 = .ok (.getfield 107, 3) := by decide +kernel
theorem d_Mod_again_76 : decode prog_12_method_4_code 76 = .ok (.iconst 1, 1) := by decide +kernel
theorem d_Mod_again_77 : decode prog_12_method_4_code 77 = .ok (.iadd, 1) := by decide +kernel
theorem d_Mod_again_78 : decode prog_12_method_4_code 78 = .ok (.putfield 107, 3) := by decide +kernel
theorem d_Mod_again_81 : decode prog_12_method_4_code 81 = .ok (.iinc 2 1, 3) := by decide +kernel
theorem d_Mod_again_84 : decode prog_12_method_4_code 84 = .ok (.goto (-45), 3) := by decide +kernel
theorem d_Mod_again_0 : decode prog_12_method_4_code 0 = .ok (.aload_n 0, 1) := by decide +kernel
theorem d_Mod_again_1 : decode prog_12_method_4_code 1 = .ok (.iload_n 1, 1) := by decide +kernel
theorem d_Mod_again_2 : decode prog_12_method_4_code 2 = .ok (.ifCond .lt 11, 3) := by decide +kernel
theorem d_Mod_again_13 : decode prog_12_method_4_code 13 = .ok (.iconst 1, 1) := by decide +kernel
theorem d_Mod_again_14 : decode prog_12_method_4_code 14 = .ok (.goto 20, 3) := by decide +kernel
theorem d_Mod_again_34 : decode prog_12_method_4_code 34 = .ok (.putfield 103, 3) := by decide +kernel
theorem d_Mod_again_5 : decode prog_12_method_4_code 5 = .ok (.iload_n 1, 1) := by decide +kernel
theorem d_Mod_again_6 : decode prog_12_method_4_code 6 = .ok (.aload_n 0, 1) := by decide +kernel
theorem d_Mod_again_7 : decode prog_12_method_4_code 7 = .ok (.getfield 107, 3) := by decide +kernel
theorem d_Mod_again_10 : decode prog_12_method_4_code 10 = .ok (.if_icmp .le 7, 3) := by decide +kernel
theorem d_Mod_again_17 : decode prog_12_method_4_code 17 = .ok (.aload_n 0, 1) := by decide +kernel
theorem d_Mod_again_18 : decode prog_12_method_4_code 18 = .ok (.getfield 107, 3) := by decide +kernel
theorem d_Mod_again_21 : decode prog_12_method_4_code 21 = .ok (.iload_n 1, 1) := by decide +kernel
theorem d_Mod_again_22 : decode prog_12_method_4_code 22 = .ok (.iadd, 1) := by decide +kernel
theorem d_Mod_again_23 : decode prog_12_method_4_code 23 = .ok (.sipush 8000, 3) := by decide +kernel
theorem d_Mod_again_26 : decode prog_12_method_4_code 26 = .ok (.if_icmp .le 7, 3) := by decide +kernel
theorem d_Mod_again_33 : decode prog_12_method_4_code 33 = .ok (.iconst 0, 1) := by decide +kernel
theorem d_Mod_again_29 : decode prog_12_method_4_code 29 = .ok (.iconst 2, 1) := by decide +kernel
theorem d_Mod_again_30 : decode prog_12_method_4_code 30 = .ok (.goto 4, 3) := by decide +kernel
abbrev y_Mod_again : MethodName := ⟨"PackageBookModel", "again", "(I)I"⟩
abbrev i_Mod_again : pb_I := (y_Mod_again, prog_12_method_4_code, 3, (some Jvm.ClassFile.FieldType.int), [], { frames := 0, cells := 0, slots := 0, locals := 0 })
set_option maxRecDepth 100000 in
set_option maxHeartbeats 4000000 in
theorem g_Mod_again {l : Launch} (hl : l.stackTraces = false) (G : pb_G) (h : Nat) (m_rels : Nat) (m_openRels : Nat) (m_closeRels : Nat) (m_openRel : Nat) (m_closeRel : Nat) (m_comment : Nat) (m_ends : Nat) (m_order : Nat) (m_tape : Nat) (m_count : Nat) (m_nameSize : Nat) (m_names : Nat) (m_size : Nat) (m_data : Nat) (m_looked : Nat) (m_file : Nat) (m_directory : Nat) (m_out : Nat) (m_row : Nat) (m_made : Nat) (m_length : Nat) (m_pressed : Nat) (m_mark : Nat) (m_idSize : Nat) (m_ids : Nat) (m_goalSize : Nat) (m_goals : Nat) (m_value : Nat) (m_faults : Nat) (m_reached : Nat) (v_thrown : Int32) (v_taped : Int32) (v_lookedSize : Int32) (v_fileSize : Int32) (v_directorySize : Int32) (v_outSize : Int32) (v_rowSize : Int32) (v_bitAt : Int32) (v_bitEnd : Int32) (v_why : Int32) (v_madeSize : Int32) (v_firstCount : Int32) (v_secondCount : Int32) (v_heldBits : Int32) (v_heldCount : Int32) (v_pressedSize : Int32) (v_at : Int32) (v_bad : Int32) (v_markSize : Int32) (v_relationCount : Int32) (v_valueSize : Int32) (v_faultCount : Int32) (a_tape : Nat → Int32) (n : Int32) (t0 : 0 ≤ v_taped.toInt) (t1 : v_taped.toInt ≤ 8000) (F_a_tape : sb_Fit a_tape) : Cn l G i_Mod_again [.ref h, .int n] [(h, .inr (10, [.ref m_rels, .ref m_openRels, .ref m_closeRels, .ref m_openRel, .ref m_closeRel, .ref m_comment, .ref m_ends, .ref m_order, .int v_thrown, .int v_taped, .ref m_tape, .ref m_count, .ref m_nameSize, .ref m_names, .ref m_size, .ref m_data, .int v_lookedSize, .ref m_looked, .int v_fileSize, .ref m_file, .int v_directorySize, .ref m_directory, .int v_outSize, .ref m_out, .int v_rowSize, .ref m_row, .int v_bitAt, .int v_bitEnd, .int v_why, .int v_madeSize, .ref m_made, .ref m_length, .int v_firstCount, .int v_secondCount, .int v_heldBits, .int v_heldCount, .int v_pressedSize, .ref m_pressed, .int v_at, .int v_bad, .int v_markSize, .ref m_mark, .int v_relationCount, .ref m_idSize, .ref m_ids, .ref m_goalSize, .ref m_goals, .int v_valueSize, .ref m_value, .int v_faultCount, .ref m_faults, .ref m_reached])), (m_tape, .inl (G.2.1, 8000, .inl a_tape))] (S := Int32 × Int32 × Int32 × (Nat → Int32)) (fun rv_ u => rv_ = some (.int u.1) ∧ (¬ (0 ≤ n.toInt ∧ n.toInt ≤ v_taped.toInt) → u.2.1.toInt = 1 ∧ u.2.2.1.toInt = v_taped.toInt) ∧ (0 ≤ n.toInt ∧ n.toInt ≤ v_taped.toInt → 8000 < v_taped.toInt + n.toInt → u.2.1.toInt = 2 ∧ u.2.2.1.toInt = v_taped.toInt) ∧ (0 ≤ n.toInt ∧ n.toInt ≤ v_taped.toInt → v_taped.toInt + n.toInt ≤ 8000 → u.2.1.toInt = 0 ∧ u.2.2.1.toInt = v_taped.toInt + n.toInt ∧ u.1.toInt = u.2.2.1.toInt) ∧ (tp_G a_tape u.2.2.2 v_taped.toInt u.2.2.1.toInt n.toInt) ∧ (sb_Fit u.2.2.2)) (fun u => [(h, .inr (10, [.ref m_rels, .ref m_openRels, .ref m_closeRels, .ref m_openRel, .ref m_closeRel, .ref m_comment, .ref m_ends, .ref m_order, .int u.2.1, .int u.2.2.1, .ref m_tape, .ref m_count, .ref m_nameSize, .ref m_names, .ref m_size, .ref m_data, .int v_lookedSize, .ref m_looked, .int v_fileSize, .ref m_file, .int v_directorySize, .ref m_directory, .int v_outSize, .ref m_out, .int v_rowSize, .ref m_row, .int v_bitAt, .int v_bitEnd, .int v_why, .int v_madeSize, .ref m_made, .ref m_length, .int v_firstCount, .int v_secondCount, .int v_heldBits, .int v_heldCount, .int v_pressedSize, .ref m_pressed, .int v_at, .int v_bad, .int v_markSize, .ref m_mark, .int v_relationCount, .ref m_idSize, .ref m_ids, .ref m_goalSize, .ref m_goals, .int v_valueSize, .ref m_value, .int v_faultCount, .ref m_faults, .ref m_reached])), (m_tape, .inl (G.2.1, 8000, .inl u.2.2.2))]) := by
  refine Cn.of hl (by decide +kernel) rfl (Nat.le_of_ble_eq_true rfl) (fun M hQ => ?_)
  refine pb_eq (pc' := 0) (lo' := [(0, .ref h), (1, .int n)]) (rest' := []) (ws' := [(h, .inr (10, [.ref m_rels, .ref m_openRels, .ref m_closeRels, .ref m_openRel, .ref m_closeRel, .ref m_comment, .ref m_ends, .ref m_order, .int v_thrown, .int v_taped, .ref m_tape, .ref m_count, .ref m_nameSize, .ref m_names, .ref m_size, .ref m_data, .int v_lookedSize, .ref m_looked, .int v_fileSize, .ref m_file, .int v_directorySize, .ref m_directory, .int v_outSize, .ref m_out, .int v_rowSize, .ref m_row, .int v_bitAt, .int v_bitEnd, .int v_why, .int v_madeSize, .ref m_made, .ref m_length, .int v_firstCount, .int v_secondCount, .int v_heldBits, .int v_heldCount, .int v_pressedSize, .ref m_pressed, .int v_at, .int v_bad, .int v_markSize, .ref m_mark, .int v_relationCount, .ref m_idSize, .ref m_ids, .ref m_goalSize, .ref m_goals, .int v_valueSize, .ref m_value, .int v_faultCount, .ref m_faults, .ref m_reached])), (m_tape, .inl (G.2.1, 8000, .inl a_tape))]) ?_
  have zl0 : (0 : Int32).toInt = 0 := by decide
  have zl1 : (1 : Int32).toInt = 1 := by decide
  have zl2 : (2 : Int32).toInt = 2 := by decide
  have hJ37_1 : ∀ (th_ : Int32), (¬ (0 ≤ n.toInt ∧ n.toInt ≤ v_taped.toInt) → th_.toInt = 1) → (0 ≤ n.toInt ∧ n.toInt ≤ v_taped.toInt → 8000 < v_taped.toInt + n.toInt → th_.toInt = 2) → (0 ≤ n.toInt ∧ n.toInt ≤ v_taped.toInt → v_taped.toInt + n.toInt ≤ 8000 → th_.toInt = 0) → pb_P l G M i_Mod_again 37 [(0, .ref h), (1, .int n)] [] [(h, .inr (10, [.ref m_rels, .ref m_openRels, .ref m_closeRels, .ref m_openRel, .ref m_closeRel, .ref m_comment, .ref m_ends, .ref m_order, .int th_, .int v_taped, .ref m_tape, .ref m_count, .ref m_nameSize, .ref m_names, .ref m_size, .ref m_data, .int v_lookedSize, .ref m_looked, .int v_fileSize, .ref m_file, .int v_directorySize, .ref m_directory, .int v_outSize, .ref m_out, .int v_rowSize, .ref m_row, .int v_bitAt, .int v_bitEnd, .int v_why, .int v_madeSize, .ref m_made, .ref m_length, .int v_firstCount, .int v_secondCount, .int v_heldBits, .int v_heldCount, .int v_pressedSize, .ref m_pressed, .int v_at, .int v_bad, .int v_markSize, .ref m_mark, .int v_relationCount, .ref m_idSize, .ref m_ids, .ref m_goalSize, .ref m_goals, .int v_valueSize, .ref m_value, .int v_faultCount, .ref m_faults, .ref m_reached])), (m_tape, .inl (G.2.1, 8000, .inl a_tape))] 0 0 := by
    intro th_ j0 j1 j2
    refine pb_iconst (pc := 37) (v := 0) d_Mod_again_37 (by decide) ?_
    refine pb_istore_n (pc := 38) (lo' := [(2, .int 0), (0, .ref h), (1, .int n)]) d_Mod_again_38 rfl (by decide) rfl ?_
    have hL39_2 : ∀ (N9 : Nat) (k : Int32) (t : Int32) (g : Nat → Int32), (sb_Fit g) → (0 ≤ k.toInt) → (t.toInt = v_taped.toInt + k.toInt) → (th_.toInt ≠ 0 → k.toInt = 0) → (th_.toInt = 0 → k.toInt ≤ n.toInt) → (tp_G a_tape g v_taped.toInt t.toInt n.toInt) → ((n.toInt - k.toInt).toNat) < N9 → pb_P l G M i_Mod_again 39 [(2, .int k), (0, .ref h), (1, .int n)] [] [(h, .inr (10, [.ref m_rels, .ref m_openRels, .ref m_closeRels, .ref m_openRel, .ref m_closeRel, .ref m_comment, .ref m_ends, .ref m_order, .int th_, .int t, .ref m_tape, .ref m_count, .ref m_nameSize, .ref m_names, .ref m_size, .ref m_data, .int v_lookedSize, .ref m_looked, .int v_fileSize, .ref m_file, .int v_directorySize, .ref m_directory, .int v_outSize, .ref m_out, .int v_rowSize, .ref m_row, .int v_bitAt, .int v_bitEnd, .int v_why, .int v_madeSize, .ref m_made, .ref m_length, .int v_firstCount, .int v_secondCount, .int v_heldBits, .int v_heldCount, .int v_pressedSize, .ref m_pressed, .int v_at, .int v_bad, .int v_markSize, .ref m_mark, .int v_relationCount, .ref m_idSize, .ref m_ids, .ref m_goalSize, .ref m_goals, .int v_valueSize, .ref m_value, .int v_faultCount, .ref m_faults, .ref m_reached])), (m_tape, .inl (G.2.1, 8000, .inl g))] 0 0 := by
      intro N9
      induction N9 with
      | zero => intro k t g F_g k0 k1 k2 k3 kt hm9; exact absurd hm9 (Nat.not_lt_zero _)
      | succ N9 ih39 =>
        intro k t g F_g k0 k1 k2 k3 kt hm9
        refine pb_iload_n (pc := 39) d_Mod_again_39 0 rfl rfl ?_
        refine pb_iload_n (pc := 40) d_Mod_again_40 2 rfl rfl ?_
        refine pb_icmp_ge (pc := 41) (tgt := 87) d_Mod_again_41 (by decide) (fun w3 => ?_) (fun w3 => ?_)
        · have tw3 : n.toInt ≤ k.toInt := (ti_le rfl rfl).mp w3
          refine pb_aload_n (pc := 87) d_Mod_again_87 1 rfl rfl ?_
          refine pb_get (pc := 88) d_Mod_again_88 0 8 rfl rfl (by decide) in_Mod k_1154 rfl ?_
          refine pb_if_le (pc := 91) (tgt := 98) d_Mod_again_91 (by decide) (fun w4 => ?_) (fun w4 => ?_)
          · have tw4 : th_.toInt ≤ 0 := (ti_le rfl (by decide)).mp w4
            refine pb_aload_n (pc := 98) d_Mod_again_98 1 rfl rfl ?_
            refine pb_get (pc := 99) d_Mod_again_99 0 9 rfl rfl (by decide) in_Mod k_1155 rfl ?_
            exact pb_iret (pc := 102) hQ d_Mod_again_102 rfl rfl (t, th_, t, g) ⟨rfl, (by (try dsimp only); first | done | (with_reducible assumption) | omega (splitDisjunctions := false) | assumption | (clear j1 j2 k2 k3 hm9; first | omega (splitDisjunctions := false) | (exact omg_d321a9c746 j0 tw4)) | omega | decide), (by (try dsimp only); first | done | (with_reducible assumption) | omega (splitDisjunctions := false) | assumption | exact fun q90 q91 => (by have y90 := j1 q90; have y91 := j2 q90; have y92 := y90 q91; clear j1 j2 k2 k3 hm9 y90 y91; first | omega (splitDisjunctions := false) | omega) | omega | decide), (by (try dsimp only); first | done | (with_reducible assumption) | omega (splitDisjunctions := false) | assumption | exact fun q90 q91 => (by have y90 := j1 q90; have y91 := j2 q90; have y92 := y91 q91; have y93 := k3 y92; clear j1 j2 k2 k3 hm9 y90 y91; first | omega (splitDisjunctions := false) | omega) | omega | decide), (by (try dsimp only); first | done | assumption | decide | omega), F_g⟩ [0, 1] (by decide) rfl rfl (by decide) (by decide)
          · have tw4 : ¬ th_.toInt ≤ 0 := fun z9 => w4 ((ti_le rfl (by decide)).mpr z9)
            refine pb_iconst (pc := 94) (v := 0) d_Mod_again_94 (by decide) ?_
            refine pb_goto (pc := 95) (tgt := 102) d_Mod_again_95 (by decide) ?_
            exact pb_iret (pc := 102) hQ d_Mod_again_102 rfl rfl (0, th_, t, g) ⟨rfl, (by (try dsimp only); first | done | (with_reducible assumption) | omega (splitDisjunctions := false) | assumption | (clear j1 j2 k2 k3 hm9; first | omega (splitDisjunctions := false) | omega) | (exact omg_388f7e8491 j0 k1 k2) | decide), (by (try dsimp only); first | done | (with_reducible assumption) | omega (splitDisjunctions := false) | assumption | exact fun q90 q91 => (by have y90 := j1 q90; have y91 := j2 q90; have y92 := y90 q91; clear j1 j2 k2 k3 hm9 y90 y91; first | omega (splitDisjunctions := false) | omega) | omega | decide), (by (try dsimp only); first | done | (with_reducible assumption) | omega (splitDisjunctions := false) | assumption | exact fun q90 q91 => (by have y90 := j1 q90; have y91 := j2 q90; have y92 := y91 q91; have y93 := k3 y92; clear j1 j2 k2 k3 hm9 y90 y91; first | omega (splitDisjunctions := false) | omega) | omega | decide), (by (try dsimp only); first | done | assumption | decide | omega), F_g⟩ [0, 1] (by decide) rfl rfl (by decide) (by decide)
        · have tw3 : ¬ n.toInt ≤ k.toInt := fun z9 => w3 ((ti_le rfl rfl).mpr z9)
          refine pb_aload_n (pc := 44) d_Mod_again_44 1 rfl rfl ?_
          refine pb_get (pc := 45) d_Mod_again_45 0 8 rfl rfl (by decide) in_Mod k_1154 rfl ?_
          refine pb_if_ne (pc := 48) (tgt := 87) d_Mod_again_48 (by decide) (fun w5 => ?_) (fun w5 => ?_)
          · have tw5 : ¬ th_.toInt = 0 := fun z9 => w5 ((ti_eq rfl (by decide)).mpr z9)
            refine pb_aload_n (pc := 87) d_Mod_again_87 1 rfl rfl ?_
            refine pb_get (pc := 88) d_Mod_again_88 0 8 rfl rfl (by decide) in_Mod k_1154 rfl ?_
            refine pb_if_le (pc := 91) (tgt := 98) d_Mod_again_91 (by decide) (fun w6 => ?_) (fun w6 => ?_)
            · have tw6 : th_.toInt ≤ 0 := (ti_le rfl (by decide)).mp w6
              refine pb_aload_n (pc := 98) d_Mod_again_98 1 rfl rfl ?_
              refine pb_get (pc := 99) d_Mod_again_99 0 9 rfl rfl (by decide) in_Mod k_1155 rfl ?_
              exact pb_iret (pc := 102) hQ d_Mod_again_102 rfl rfl (t, th_, t, g) ⟨rfl, (by (try dsimp only); first | done | (with_reducible assumption) | omega (splitDisjunctions := false) | assumption | (clear j1 j2 k2 k3 hm9; first | omega (splitDisjunctions := false) | (exact omg_d321a9c746 j0 tw6)) | omega | decide), (by (try dsimp only); first | done | (with_reducible assumption) | omega (splitDisjunctions := false) | assumption | exact fun q90 q91 => (by have y90 := j1 q90; have y91 := j2 q90; have y92 := y90 q91; clear j1 j2 k2 k3 hm9 y90 y91; first | omega (splitDisjunctions := false) | omega) | omega | decide), (by (try dsimp only); first | done | (with_reducible assumption) | omega (splitDisjunctions := false) | assumption | exact fun q90 q91 => (by have y90 := j1 q90; have y91 := j2 q90; have y92 := y91 q91; have y93 := k3 y92; clear j1 j2 k2 k3 hm9 y90 y91; first | omega (splitDisjunctions := false) | omega) | omega | decide), (by (try dsimp only); first | done | assumption | decide | omega), F_g⟩ [0, 1] (by decide) rfl rfl (by decide) (by decide)
            · have tw6 : ¬ th_.toInt ≤ 0 := fun z9 => w6 ((ti_le rfl (by decide)).mpr z9)
              refine pb_iconst (pc := 94) (v := 0) d_Mod_again_94 (by decide) ?_
              refine pb_goto (pc := 95) (tgt := 102) d_Mod_again_95 (by decide) ?_
              exact pb_iret (pc := 102) hQ d_Mod_again_102 rfl rfl (0, th_, t, g) ⟨rfl, (by (try dsimp only); first | done | (with_reducible assumption) | omega (splitDisjunctions := false) | assumption | (clear j1 j2 k2 k3 hm9; first | omega (splitDisjunctions := false) | omega) | (exact omg_388f7e8491 j0 k1 k2) | decide), (by (try dsimp only); first | done | (with_reducible assumption) | omega (splitDisjunctions := false) | assumption | exact fun q90 q91 => (by have y90 := j1 q90; have y91 := j2 q90; have y92 := y90 q91; clear j1 j2 k2 k3 hm9 y90 y91; first | omega (splitDisjunctions := false) | omega) | (exact omg_6d7946ec33 j1 k1 k2) | decide), (by (try dsimp only); first | done | (with_reducible assumption) | omega (splitDisjunctions := false) | assumption | exact fun q90 q91 => (by have y90 := j1 q90; have y91 := j2 q90; have y92 := y91 q91; have y93 := k3 y92; clear j1 j2 k2 k3 hm9 y90 y91; first | omega (splitDisjunctions := false) | omega) | omega | decide), (by (try dsimp only); first | done | assumption | decide | omega), F_g⟩ [0, 1] (by decide) rfl rfl (by decide) (by decide)
          · have tw5 : th_.toInt = 0 := (ti_eq rfl (by decide)).mp w5
            refine pb_aload_n (pc := 51) d_Mod_again_51 1 rfl rfl ?_
            refine pb_get (pc := 52) d_Mod_again_52 0 10 rfl rfl (by decide) in_Mod k_1156 rfl ?_
            refine pb_aload_n (pc := 55) d_Mod_again_55 1 rfl rfl ?_
            refine pb_get (pc := 56) d_Mod_again_56 0 9 rfl rfl (by decide) in_Mod k_1155 rfl ?_
            refine pb_aload_n (pc := 59) d_Mod_again_59 1 rfl rfl ?_
            refine pb_get (pc := 60) d_Mod_again_60 0 10 rfl rfl (by decide) in_Mod k_1156 rfl ?_
            refine pb_aload_n (pc := 63) d_Mod_again_63 1 rfl rfl ?_
            refine pb_get (pc := 64) d_Mod_again_64 0 9 rfl rfl (by decide) in_Mod k_1155 rfl ?_
            refine pb_iload_n (pc := 67) d_Mod_again_67 2 rfl rfl ?_
            refine pb_isub (pc := 68) d_Mod_again_68 ?_
            refine pb_topi (fun i7 ei7 => ?_)
            try have ti7 : i7.toInt = t.toInt - n.toInt := t2_sub ei7 rfl rfl (by (exact omg_6d60a80598 j0 j1 k0 k1 tw3 tw5))
            refine pb_bald (pc := 69) d_Mod_again_69 1 rfl (vp_in_iff.mpr (by (exact omg_039cf4798d j0 j1 k0 k1 tw3 tw5 ti7))) ?_
            refine pb_topi (fun i8 ei8 => ?_)
            have xi8 : i8 = gr g (t.toInt - n.toInt) := gr_ld ei8 (by omega)
            have yi8 : i8.toInt = gx g (t.toInt - n.toInt) := congrArg Int32.toInt xi8
            have ti8 : -128 ≤ i8.toInt ∧ i8.toInt ≤ 127 := ti_fit (F_g _) ei8
            refine pb_bast (pc := 70) (ws' := [(h, .inr (10, [.ref m_rels, .ref m_openRels, .ref m_closeRels, .ref m_openRel, .ref m_closeRel, .ref m_comment, .ref m_ends, .ref m_order, .int th_, .int t, .ref m_tape, .ref m_count, .ref m_nameSize, .ref m_names, .ref m_size, .ref m_data, .int v_lookedSize, .ref m_looked, .int v_fileSize, .ref m_file, .int v_directorySize, .ref m_directory, .int v_outSize, .ref m_out, .int v_rowSize, .ref m_row, .int v_bitAt, .int v_bitEnd, .int v_why, .int v_madeSize, .ref m_made, .ref m_length, .int v_firstCount, .int v_secondCount, .int v_heldBits, .int v_heldCount, .int v_pressedSize, .ref m_pressed, .int v_at, .int v_bad, .int v_markSize, .ref m_mark, .int v_relationCount, .ref m_idSize, .ref m_ids, .ref m_goalSize, .ref m_goals, .int v_valueSize, .ref m_value, .int v_faultCount, .ref m_faults, .ref m_reached])), (m_tape, .inl (G.2.1, 8000, .inl (upd g ((t : Int32).toNatClampNeg) (vp_nar .byte i8))))]) d_Mod_again_70 1 rfl (vp_in_iff.mpr (by (exact omg_fadb9d6be2 j0 j1 k0 k1 tw3 tw5))) rfl ?_
            refine pb_aload_n (pc := 71) d_Mod_again_71 1 rfl rfl ?_
            refine pb_dup (pc := 72) d_Mod_again_72 rfl ?_
            refine pb_get (pc := 73) d_Mod_again_73 0 9 rfl rfl (by decide) in_Mod k_1155 rfl ?_
            refine pb_iconst (pc := 76) (v := 1) d_Mod_again_76 (by decide) ?_
            refine pb_iadd (pc := 77) d_Mod_again_77 ?_
            refine pb_topi (fun i9 ei9 => ?_)
            try have ti9 : i9.toInt = t.toInt + 1 := t2_add ei9 rfl (by decide) (by (exact omg_8f6e57f075 t0 t1 j0 k0 k1 k2 k3))
            refine pb_put (pc := 78) (ty := .int) (ws' := [(h, .inr (10, [.ref m_rels, .ref m_openRels, .ref m_closeRels, .ref m_openRel, .ref m_closeRel, .ref m_comment, .ref m_ends, .ref m_order, .int th_, .int i9, .ref m_tape, .ref m_count, .ref m_nameSize, .ref m_names, .ref m_size, .ref m_data, .int v_lookedSize, .ref m_looked, .int v_fileSize, .ref m_file, .int v_directorySize, .ref m_directory, .int v_outSize, .ref m_out, .int v_rowSize, .ref m_row, .int v_bitAt, .int v_bitEnd, .int v_why, .int v_madeSize, .ref m_made, .ref m_length, .int v_firstCount, .int v_secondCount, .int v_heldBits, .int v_heldCount, .int v_pressedSize, .ref m_pressed, .int v_at, .int v_bad, .int v_markSize, .ref m_mark, .int v_relationCount, .ref m_idSize, .ref m_ids, .ref m_goalSize, .ref m_goals, .int v_valueSize, .ref m_value, .int v_faultCount, .ref m_faults, .ref m_reached])), (m_tape, .inl (G.2.1, 8000, .inl (upd g ((t : Int32).toNatClampNeg) (vp_nar .byte i8))))]) d_Mod_again_78 0 9 t_Mod t_Mod_ok n_Mod rfl rfl (by decide) in_Mod k_1155 rfl (by decide +kernel) rfl rfl (Nat.le_of_ble_eq_true rfl) rfl ?_
            refine pb_iincN (pc := 81) (c := 1) d_Mod_again_81 0 rfl (by decide) (by decide) (fun i10 ei10 => ?_)
            have ti10 : i10.toInt = k.toInt + 1 := t2_add ei10 rfl (by decide) (by first | (exact omg_5832c60f79 j0 j1 k0 tw3 tw5) | (have r90 := ti_rng k; have r91 := ti_rng i10; have r92 := ti_rng n; omega))
            refine pb_eq (pc' := 84) (lo' := [(2, .int i10), (0, .ref h), (1, .int n)]) (rest' := []) (ws' := [(h, .inr (10, [.ref m_rels, .ref m_openRels, .ref m_closeRels, .ref m_openRel, .ref m_closeRel, .ref m_comment, .ref m_ends, .ref m_order, .int th_, .int i9, .ref m_tape, .ref m_count, .ref m_nameSize, .ref m_names, .ref m_size, .ref m_data, .int v_lookedSize, .ref m_looked, .int v_fileSize, .ref m_file, .int v_directorySize, .ref m_directory, .int v_outSize, .ref m_out, .int v_rowSize, .ref m_row, .int v_bitAt, .int v_bitEnd, .int v_why, .int v_madeSize, .ref m_made, .ref m_length, .int v_firstCount, .int v_secondCount, .int v_heldBits, .int v_heldCount, .int v_pressedSize, .ref m_pressed, .int v_at, .int v_bad, .int v_markSize, .ref m_mark, .int v_relationCount, .ref m_idSize, .ref m_ids, .ref m_goalSize, .ref m_goals, .int v_valueSize, .ref m_value, .int v_faultCount, .ref m_faults, .ref m_reached])), (m_tape, .inl (G.2.1, 8000, .inl (upd g ((t : Int32).toNatClampNeg) (vp_nar .byte i8))))]) ?_
            refine pb_goto (pc := 84) (tgt := 39) d_Mod_again_84 (by decide) ?_
            exact ih39 i10 i9 (upd g ((t : Int32).toNatClampNeg) (vp_nar .byte i8)) (sb_fitU F_g (fit_nar _)) (by first | (with_reducible assumption) | omega (splitDisjunctions := false) | assumption | (have y90 := k3 tw5; clear j1 j2 k2 k3 hm9; first | omega (splitDisjunctions := false) | omega) | omega | decide) (by first | (with_reducible assumption) | omega (splitDisjunctions := false) | assumption | (have y90 := k3 tw5; clear j1 j2 k2 k3 hm9; first | omega (splitDisjunctions := false) | omega) | omega | decide) (by first | (with_reducible assumption) | omega (splitDisjunctions := false) | assumption | exact fun q90 => (by have y90 := k2 q90; have y91 := k3 tw5; clear j1 j2 k2 k3 hm9; first | omega (splitDisjunctions := false) | omega) | omega | decide) (by first | (with_reducible assumption) | omega (splitDisjunctions := false) | assumption | exact fun q90 => (by have y90 := k3 q90; clear j1 j2 k2 k3 hm9; first | omega (splitDisjunctions := false) | omega) | omega | decide) (tg_step kt (fun j hj => gr_updb rfl j (by omega) hj) (by omega) (by omega) (by omega) (by (exact omg_aa7f8951d7 j0 k0 k1 tw5)) (by assumption) (by omega)) (by first | (have y90 := k3 tw5; clear j1 j2 k2 k3; (exact omg_7c8a06b1f5 hm9 tw3 ti10)) | omega)
    exact hL39_2 _ 0 v_taped a_tape (by first | assumption | decide | omega) (by first | (with_reducible assumption) | omega (splitDisjunctions := false) | assumption | (clear j1 j2; first | omega (splitDisjunctions := false) | omega) | omega | decide) (by first | (with_reducible assumption) | omega (splitDisjunctions := false) | assumption | (clear j1 j2; first | omega (splitDisjunctions := false) | omega) | omega | decide) (by first | (with_reducible assumption) | omega (splitDisjunctions := false) | assumption | exact fun q90 => (by clear j1 j2; first | omega (splitDisjunctions := false) | omega) | omega | decide) (by first | (with_reducible assumption) | omega (splitDisjunctions := false) | assumption | exact fun q90 => (by clear j1 j2; first | omega (splitDisjunctions := false) | omega) | omega | decide) (tp_G0 (by omega)) (Nat.lt_succ_self _)
  refine pb_aload_n (pc := 0) d_Mod_again_0 0 rfl rfl ?_
  refine pb_iload_n (pc := 1) d_Mod_again_1 1 rfl rfl ?_
  refine pb_if_lt (pc := 2) (tgt := 13) d_Mod_again_2 (by decide) (fun w11 => ?_) (fun w11 => ?_)
  · have tw11 : n.toInt < 0 := (ti_lt rfl (by decide)).mp w11
    refine pb_iconst (pc := 13) (v := 1) d_Mod_again_13 (by decide) ?_
    refine pb_goto (pc := 14) (tgt := 34) d_Mod_again_14 (by decide) ?_
    refine pb_put (pc := 34) (ty := .int) (ws' := [(h, .inr (10, [.ref m_rels, .ref m_openRels, .ref m_closeRels, .ref m_openRel, .ref m_closeRel, .ref m_comment, .ref m_ends, .ref m_order, .int 1, .int v_taped, .ref m_tape, .ref m_count, .ref m_nameSize, .ref m_names, .ref m_size, .ref m_data, .int v_lookedSize, .ref m_looked, .int v_fileSize, .ref m_file, .int v_directorySize, .ref m_directory, .int v_outSize, .ref m_out, .int v_rowSize, .ref m_row, .int v_bitAt, .int v_bitEnd, .int v_why, .int v_madeSize, .ref m_made, .ref m_length, .int v_firstCount, .int v_secondCount, .int v_heldBits, .int v_heldCount, .int v_pressedSize, .ref m_pressed, .int v_at, .int v_bad, .int v_markSize, .ref m_mark, .int v_relationCount, .ref m_idSize, .ref m_ids, .ref m_goalSize, .ref m_goals, .int v_valueSize, .ref m_value, .int v_faultCount, .ref m_faults, .ref m_reached])), (m_tape, .inl (G.2.1, 8000, .inl a_tape))]) d_Mod_again_34 0 8 t_Mod t_Mod_ok n_Mod rfl rfl (by decide) in_Mod k_1154 rfl (by decide +kernel) rfl rfl (Nat.le_of_ble_eq_true rfl) rfl ?_
    exact hJ37_1 1 (by first | (with_reducible assumption) | omega (splitDisjunctions := false) | assumption | omega | decide) (by first | (with_reducible assumption) | omega (splitDisjunctions := false) | assumption | omega | decide) (by first | (with_reducible assumption) | omega (splitDisjunctions := false) | assumption | omega | decide)
  · have tw11 : ¬ n.toInt < 0 := fun z9 => w11 ((ti_lt rfl (by decide)).mpr z9)
    refine pb_iload_n (pc := 5) d_Mod_again_5 1 rfl rfl ?_
    refine pb_aload_n (pc := 6) d_Mod_again_6 0 rfl rfl ?_
    refine pb_get (pc := 7) d_Mod_again_7 0 9 rfl rfl (by decide) in_Mod k_1155 rfl ?_
    refine pb_icmp_le (pc := 10) (tgt := 17) d_Mod_again_10 (by decide) (fun w12 => ?_) (fun w12 => ?_)
    · have tw12 : n.toInt ≤ v_taped.toInt := (ti_le rfl rfl).mp w12
      refine pb_aload_n (pc := 17) d_Mod_again_17 0 rfl rfl ?_
      refine pb_get (pc := 18) d_Mod_again_18 0 9 rfl rfl (by decide) in_Mod k_1155 rfl ?_
      refine pb_iload_n (pc := 21) d_Mod_again_21 1 rfl rfl ?_
      refine pb_iadd (pc := 22) d_Mod_again_22 ?_
      refine pb_topi (fun i13 ei13 => ?_)
      try have ti13 : i13.toInt = v_taped.toInt + n.toInt := t2_add ei13 rfl rfl (by omega)
      refine pb_sipush (pc := 23) (v := 8000) d_Mod_again_23 (by decide) ?_
      refine pb_icmp_le (pc := 26) (tgt := 33) d_Mod_again_26 (by decide) (fun w14 => ?_) (fun w14 => ?_)
      · have tw14 : i13.toInt ≤ 8000 := (ti_le rfl (by decide)).mp w14
        refine pb_iconst (pc := 33) (v := 0) d_Mod_again_33 (by decide) ?_
        refine pb_put (pc := 34) (ty := .int) (ws' := [(h, .inr (10, [.ref m_rels, .ref m_openRels, .ref m_closeRels, .ref m_openRel, .ref m_closeRel, .ref m_comment, .ref m_ends, .ref m_order, .int 0, .int v_taped, .ref m_tape, .ref m_count, .ref m_nameSize, .ref m_names, .ref m_size, .ref m_data, .int v_lookedSize, .ref m_looked, .int v_fileSize, .ref m_file, .int v_directorySize, .ref m_directory, .int v_outSize, .ref m_out, .int v_rowSize, .ref m_row, .int v_bitAt, .int v_bitEnd, .int v_why, .int v_madeSize, .ref m_made, .ref m_length, .int v_firstCount, .int v_secondCount, .int v_heldBits, .int v_heldCount, .int v_pressedSize, .ref m_pressed, .int v_at, .int v_bad, .int v_markSize, .ref m_mark, .int v_relationCount, .ref m_idSize, .ref m_ids, .ref m_goalSize, .ref m_goals, .int v_valueSize, .ref m_value, .int v_faultCount, .ref m_faults, .ref m_reached])), (m_tape, .inl (G.2.1, 8000, .inl a_tape))]) d_Mod_again_34 0 8 t_Mod t_Mod_ok n_Mod rfl rfl (by decide) in_Mod k_1154 rfl (by decide +kernel) rfl rfl (Nat.le_of_ble_eq_true rfl) rfl ?_
        exact hJ37_1 0 (by first | (with_reducible assumption) | omega (splitDisjunctions := false) | assumption | omega | decide) (by first | (with_reducible assumption) | omega (splitDisjunctions := false) | assumption | omega | decide) (by first | (with_reducible assumption) | omega (splitDisjunctions := false) | assumption | omega | decide)
      · have tw14 : ¬ i13.toInt ≤ 8000 := fun z9 => w14 ((ti_le rfl (by decide)).mpr z9)
        refine pb_iconst (pc := 29) (v := 2) d_Mod_again_29 (by decide) ?_
        refine pb_goto (pc := 30) (tgt := 34) d_Mod_again_30 (by decide) ?_
        refine pb_put (pc := 34) (ty := .int) (ws' := [(h, .inr (10, [.ref m_rels, .ref m_openRels, .ref m_closeRels, .ref m_openRel, .ref m_closeRel, .ref m_comment, .ref m_ends, .ref m_order, .int 2, .int v_taped, .ref m_tape, .ref m_count, .ref m_nameSize, .ref m_names, .ref m_size, .ref m_data, .int v_lookedSize, .ref m_looked, .int v_fileSize, .ref m_file, .int v_directorySize, .ref m_directory, .int v_outSize, .ref m_out, .int v_rowSize, .ref m_row, .int v_bitAt, .int v_bitEnd, .int v_why, .int v_madeSize, .ref m_made, .ref m_length, .int v_firstCount, .int v_secondCount, .int v_heldBits, .int v_heldCount, .int v_pressedSize, .ref m_pressed, .int v_at, .int v_bad, .int v_markSize, .ref m_mark, .int v_relationCount, .ref m_idSize, .ref m_ids, .ref m_goalSize, .ref m_goals, .int v_valueSize, .ref m_value, .int v_faultCount, .ref m_faults, .ref m_reached])), (m_tape, .inl (G.2.1, 8000, .inl a_tape))]) d_Mod_again_34 0 8 t_Mod t_Mod_ok n_Mod rfl rfl (by decide) in_Mod k_1154 rfl (by decide +kernel) rfl rfl (Nat.le_of_ble_eq_true rfl) rfl ?_
        exact hJ37_1 2 (by first | (with_reducible assumption) | omega (splitDisjunctions := false) | assumption | omega | decide) (by first | (with_reducible assumption) | omega (splitDisjunctions := false) | assumption | omega | decide) (by first | (with_reducible assumption) | omega (splitDisjunctions := false) | assumption | omega | decide)
    · have tw12 : ¬ n.toInt ≤ v_taped.toInt := fun z9 => w12 ((ti_le rfl rfl).mpr z9)
      refine pb_iconst (pc := 13) (v := 1) d_Mod_again_13 (by decide) ?_
      refine pb_goto (pc := 14) (tgt := 34) d_Mod_again_14 (by decide) ?_
      refine pb_put (pc := 34) (ty := .int) (ws' := [(h, .inr (10, [.ref m_rels, .ref m_openRels, .ref m_closeRels, .ref m_openRel, .ref m_closeRel, .ref m_comment, .ref m_ends, .ref m_order, .int 1, .int v_taped, .ref m_tape, .ref m_count, .ref m_nameSize, .ref m_names, .ref m_size, .ref m_data, .int v_lookedSize, .ref m_looked, .int v_fileSize, .ref m_file, .int v_directorySize, .ref m_directory, .int v_outSize, .ref m_out, .int v_rowSize, .ref m_row, .int v_bitAt, .int v_bitEnd, .int v_why, .int v_madeSize, .ref m_made, .ref m_length, .int v_firstCount, .int v_secondCount, .int v_heldBits, .int v_heldCount, .int v_pressedSize, .ref m_pressed, .int v_at, .int v_bad, .int v_markSize, .ref m_mark, .int v_relationCount, .ref m_idSize, .ref m_ids, .ref m_goalSize, .ref m_goals, .int v_valueSize, .ref m_value, .int v_faultCount, .ref m_faults, .ref m_reached])), (m_tape, .inl (G.2.1, 8000, .inl a_tape))]) d_Mod_again_34 0 8 t_Mod t_Mod_ok n_Mod rfl rfl (by decide) in_Mod k_1154 rfl (by decide +kernel) rfl rfl (Nat.le_of_ble_eq_true rfl) rfl ?_
      exact hJ37_1 1 (by first | (with_reducible assumption) | omega (splitDisjunctions := false) | assumption | omega | decide) (by first | (with_reducible assumption) | omega (splitDisjunctions := false) | assumption | omega | decide) (by first | (with_reducible assumption) | omega (splitDisjunctions := false) | assumption | omega | decide)
