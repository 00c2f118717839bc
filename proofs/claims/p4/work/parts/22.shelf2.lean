/-! who tells a part's relations -/
def tr_ (j : Int) : Int := ([46, 114, 101, 108, 115] : List Int).getD j.toNat 0
theorem tr_0 : (st_byts.getD 0 []).map Int32.toInt = [46, 114, 101, 108, 115] := by decide +kernel
theorem tr_c (j : Int) : st_c 0 j = tr_ j := by
  unfold st_c tr_
  rw [← tr_0]
  generalize st_byts.getD 0 [] = S
  rw [List.getD_eq_getElem?_getD, List.getD_eq_getElem?_getD, List.getElem?_map]
  cases c : S[j.toNat]? with
  | none => rfl
  | some x => rfl
def en6_ (n z : Nat → Int32) (i : Int) (k : Nat) : Prop := st_len k ≤ gx z i ∧ ∀ j : Int, 0 ≤ j → j < st_len k → gx n (24 * i + (gx z i - st_len k) + j) = st_c k j
/-- the name of part i, and .rels behind it -/
def tn6_ (V : VW_) (i k : Int) : Int := if k < vZ V i then vN V i k else tr_ (k - vZ V i)
theorem tn_z {c x i : Int} {n z : Nat → Int32} (h : ¬ gx z x = gx z i + 5) : ¬ nE_ (cN_ c n z) x (gx z i + 5) (tn6_ (cN_ c n z) i) := fun q => h q.1
theorem tn_nm {c i k : Int} {n z : Nat → Int32} (h : k < gx z i) : tn6_ (cN_ c n z) i k = gx n (24 * i + k) := if_pos h
theorem tn_rl {c i k : Int} {n z : Nat → Int32} (h : ¬ k < gx z i) : tn6_ (cN_ c n z) i k = tr_ (k - gx z i) := if_neg h
theorem tn_y {c x i : Int} {n z : Nat → Int32} (hz : gx z x = gx z i + 5) (hl : st_len 0 = 5) (he : en6_ n z x 0) (hs : ∀ j : Int, 0 ≤ j → j < gx z i → gx n (24 * i + j) = gx n (24 * x + j)) : nE_ (cN_ c n z) x (gx z i + 5) (tn6_ (cN_ c n z) i) := by
  refine ⟨hz, fun k k0 k1 => ?_⟩
  show gx n (24 * x + k) = _
  by_cases w : k < gx z i
  · rw [tn_nm w, hs k k0 w]
  · have e := he.2 (k - gx z i) (by omega) (by omega)
    rw [hl] at e
    rw [tn_rl w, ← tr_c, ← e]
    exact congrArg (gx n) (by omega)
theorem tn_e {c x i : Int} {n z : Nat → Int32} (hz : gx z x = gx z i + 5) (h0 : 0 ≤ gx z i) (hl : st_len 0 = 5) (he : ¬ en6_ n z x 0) : ¬ nE_ (cN_ c n z) x (gx z i + 5) (tn6_ (cN_ c n z) i) := fun q => he ⟨by omega, fun j j0 j1 => by
  have e : gx n (24 * x + (gx z i + j)) = tn6_ (cN_ c n z) i (gx z i + j) := q.2 (gx z i + j) (by omega) (by omega)
  rw [tn_rl (by omega), show gx z i + j - gx z i = j by omega] at e
  rw [tr_c, ← e]
  exact congrArg (gx n) (by omega)⟩
theorem tn_d {c x i : Int} {n z : Nat → Int32} (hs : ¬ ∀ j : Int, 0 ≤ j → j < gx z i → gx n (24 * i + j) = gx n (24 * x + j)) : ¬ nE_ (cN_ c n z) x (gx z i + 5) (tn6_ (cN_ c n z) i) := fun q => hs (fun j j0 j1 => by
  have e : gx n (24 * x + j) = tn6_ (cN_ c n z) i j := q.2 j j0 (by omega)
  rw [tn_nm j1] at e
  exact e.symm)
/-- the names alone say which part has a name -/
theorem isF_N {c m r : Int} {n z : Nat → Int32} {V : VW_} {a : Int → Int} (R : rN_ c n z V) (h : isF_ (cN_ c n z) m a r) : isF_ V m a r := by
  have key : ∀ i : Int, 0 ≤ i → i < c → (nE_ (cN_ c n z) i m a ↔ nE_ V i m a) := fun i i0 i1 => by
    have q := R.2 i i0 i1
    constructor
    · intro w
      have w1 : gx z i = m := w.1
      refine ⟨by rw [← q.1]; exact w1, fun k k0 k1 => ?_⟩
      rw [← q.2 k k0 (by rw [← q.1, w1]; exact k1)]
      exact w.2 k k0 k1
    · intro w
      have w1 : gx z i = m := by rw [q.1]; exact w.1
      refine ⟨w1, fun k k0 k1 => ?_⟩
      show gx n (24 * i + k) = a k
      rw [q.2 k k0 (by rw [← q.1, w1]; exact k1)]
      exact w.2 k k0 k1
  rcases h with ⟨h0, h1, h2⟩ | ⟨h0, h1⟩
  · have h3 : r < c := h1
    exact Or.inl ⟨h0, by rw [← R.1]; exact h3, (key r h0 h3).mp h2⟩
  · refine Or.inr ⟨h0, fun i i0 i1 q => ?_⟩
    have i2 : i < c := by rw [R.1]; exact i1
    exact h1 i i0 i2 ((key i i0 i2).mpr q)
theorem tn_N {c i : Int} {n z : Nat → Int32} {V : VW_} (R : rN_ c n z V) (i0 : 0 ≤ i) (i1 : i < c) (k : Int) (k0 : 0 ≤ k) : tn6_ (cN_ c n z) i k = tn6_ V i k := by
  have q := R.2 i i0 i1
  by_cases w : k < gx z i
  · rw [tn_nm w, q.2 k k0 (by rw [← q.1]; exact w)]
    exact (if_pos (show k < vZ V i by rw [← q.1]; exact w)).symm
  · rw [tn_rl w, q.1]
    exact (if_neg (show ¬ k < vZ V i by rw [← q.1]; exact w)).symm
theorem tl_N {c i r : Int} {n z : Nat → Int32} {V : VW_} (R : rN_ c n z V) (i0 : 0 ≤ i) (i1 : i < c) (h : isF_ (cN_ c n z) (gx z i + 5) (tn6_ (cN_ c n z) i) r) : isF_ V (vZ V i + 5) (tn6_ V i) r := by
  have q := (R.2 i i0 i1).1
  rw [q] at h
  exact isF_cg (isF_N R h) (fun k k0 _ => tn_N R i0 i1 k k0)
