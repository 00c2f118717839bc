/-! the strings' bytes -/
theorem st_255 {x z : Int32} (e : z = x &&& 255) : z.toInt = x.toInt % 256 := by
  subst e
  rw [pk_and _ 8 (by decide), nI_toInt (by omega)]
  have h : x.toInt = x.toBitVec.toInt := rfl
  rw [h, BitVec.toInt_eq_toNat_bmod]
  have hx := x.toBitVec.isLt
  generalize x.toBitVec.toNat = n at *
  rw [Int.bmod_def]
  split <;> omega
def st_c (k : Nat) (j : Int) : Int := ((st_byts.getD k []).getD j.toNat 0).toInt
theorem sc_all : ∀ k : Nat, k < 64 → ∀ x ∈ st_byts.getD k [], 0 ≤ x.toInt ∧ x.toInt ≤ 127 := by decide +kernel
theorem sc_rng {k : Nat} (hk : k < st_n) (j : Int) : 0 ≤ st_c k j ∧ st_c k j ≤ 127 := by
  unfold st_c
  rw [List.getD_eq_getElem?_getD]
  cases c : (st_byts.getD k [])[j.toNat]? with
  | none => exact ⟨by decide, by decide⟩
  | some x => exact sc_all k (Nat.lt_trans hk (by decide)) x (List.mem_of_getElem? c)
theorem sc_ld {k : Nat} {i v w z : Int32} (hk : k < st_n) (e : v = (st_byts.getD k []).getD i.toNatClampNeg 0) (e2 : w = v &&& 255) (e3 : z.toInt = w.toInt) (h0 : 0 ≤ i.toInt) : z.toInt = st_c k i.toInt := by
  have h := sc_rng hk i.toInt
  have e4 : v.toInt = st_c k i.toInt := by
    unfold st_c
    rw [e]
    rfl
  rw [e3, st_255 e2, e4]
  omega
