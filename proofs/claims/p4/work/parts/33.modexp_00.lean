/-- how many of n numbers from o on are b -/
def cnt (f : Nat → Int32) (o b : Int) : Nat → Int
  | 0 => 0
  | n + 1 => cnt f o b n + (if gx f (o + n) = b then 1 else 0)
theorem cnt_s {f : Nat → Int32} {o b k m : Int} (h : 0 ≤ k) (hm : m = k + 1) : cnt f o b m.toNat = cnt f o b k.toNat + (if gx f (o + k) = b then 1 else 0) := by
  subst hm
  rw [show (k + 1).toNat = k.toNat + 1 by omega, cnt, show o + ((k.toNat : Nat) : Int) = o + k by omega]
def le_I (f : Nat → Int32) : Prop := ∀ x : Int, 0 ≤ x → x < 420 → 0 ≤ gx f x ∧ gx f x ≤ 15
theorem le_upd {f : Nat → Int32} {i v : Int32} (h : le_I f) (h0 : 0 ≤ i.toInt) (hv : 0 ≤ v.toInt ∧ v.toInt ≤ 15) : le_I (upd f i.toNatClampNeg v) := fun x x0 x1 => by
  rw [gx_upd rfl x h0 x0]
  split
  · exact hv
  · exact h x x0 x1
theorem cnt_rng (f : Nat → Int32) (o b : Int) : ∀ n : Nat, 0 ≤ cnt f o b n ∧ cnt f o b n ≤ n
  | 0 => by rw [cnt]; omega
  | n + 1 => by
    have a := cnt_rng f o b n
    rw [cnt]
    split <;> omega
