/-! ROWS OF NUMBERS -/
theorem omg_055b9d50e1 {x0 : Int} {x1 : Int} {x2 : Int} {x3 : Int} {x4 : Int} {x5 : Int} {x6 : Int} {x7 : Int} {x8 : Int} {x9 : Int} {x10 : Int} {x11 : Int} {x12 : Int} {x13 : Int} (a0 : ((x0 + (70 : Int)) ≤ (14006 : Int))) (a1 : (x1 = (26 : Int))) (a2 : ((x2 ≤ x3) ∧ ((x3 ≤ (x2 + (4000 : Int))) ∧ (((1 : Int) ≤ x4) ∧ (x4 ≤ (24 : Int)))))) (a3 : (x5 = (x0 + (4 : Int)))) (a4 : (x6 = (x5 + (2 : Int)))) (a5 : (x7 = (x6 + x1))) (a6 : (x8 = (x7 + (2 : Int)))) (a7 : (x9 = (x8 + (2 : Int)))) (a8 : (x10 = (x9 + (2 : Int)))) (a9 : (x11 = (x10 + (4 : Int)))) (a10 : (x12 = (x11 + (4 : Int)))) (a11 : (x13 = x4)) : ((x12 + x13) ≤ (((14006 : Nat) : Nat) : Int)) := by omega
theorem omg_be203c1c1f {x0 : Int} {x1 : Int} {x2 : Int} {x3 : Int} {x4 : Int} {x5 : Int} {x6 : Int} {x7 : Int} {x8 : Int} {x9 : Int} {x10 : Int} {x11 : Int} {x12 : Int} {x13 : Int} {x14 : Int} (a0 : (x0 = (26 : Int))) (a1 : ((x1 ≤ x2) ∧ ((x2 ≤ (x1 + (4000 : Int))) ∧ (((1 : Int) ≤ x3) ∧ (x3 ≤ (24 : Int)))))) (a2 : (x4 = (x5 + (4 : Int)))) (a3 : (x6 = (x4 + (2 : Int)))) (a4 : (x7 = (x6 + x0))) (a5 : (x8 = (x7 + (2 : Int)))) (a6 : (x9 = (x8 + (2 : Int)))) (a7 : (x10 = (x9 + (2 : Int)))) (a8 : (x11 = (x10 + (4 : Int)))) (a9 : (x12 = (x11 + (4 : Int)))) (a10 : (x13 = x3)) (a11 : (x14 = (x12 + x13))) : (x5 ≤ x14) := by omega
theorem omg_99b4580df8 {x0 : Int} {x1 : Int} {x2 : Int} (a0 : (x0 = x1)) (a1 : (x2 = x0)) : (x2 = x1) := by omega
theorem omg_0716e89b62 {x0 : Int} {x1 : Int} {x2 : Int} {x3 : Int} {x4 : Int} {x5 : Int} {x6 : Int} {x7 : Int} {x8 : Int} {x9 : Int} {x10 : Int} {x11 : Int} {x12 : Int} {x13 : Int} (a0 : (((x0 + (54 : Int)) + (x1 - x2)) ≤ (14006 : Int))) (a1 : ((x2 ≤ x1) ∧ ((x1 ≤ (x2 + (4000 : Int))) ∧ (((1 : Int) ≤ x3) ∧ (x3 ≤ (24 : Int)))))) (a2 : (x4 = (x0 + (4 : Int)))) (a3 : (x5 = (x4 + (2 : Int)))) (a4 : (x6 = (x5 + (2 : Int)))) (a5 : (x7 = (x6 + (2 : Int)))) (a6 : (x8 = (x7 + (2 : Int)))) (a7 : (x9 = (x8 + (2 : Int)))) (a8 : (x10 = (x9 + (4 : Int)))) (a9 : (x11 = (x10 + (4 : Int)))) (a10 : (x12 = (x11 + (4 : Int)))) (a11 : (x13 = (x12 + (2 : Int)))) : ((x13 + (2 : Int)) ≤ (((14006 : Nat) : Nat) : Int)) := by omega
theorem omg_8970a99139 {x0 : Int} {x1 : Int} {x2 : Int} {x3 : Int} {x4 : Int} {x5 : Int} {x6 : Int} {x7 : Int} {x8 : Int} {x9 : Int} {x10 : Int} {x11 : Int} {x12 : Int} {x13 : Int} {x14 : Int} {x15 : Int} (a0 : (((x0 + (54 : Int)) + (x1 - x2)) ≤ (14006 : Int))) (a1 : ((x2 ≤ x1) ∧ ((x1 ≤ (x2 + (4000 : Int))) ∧ (((1 : Int) ≤ x3) ∧ (x3 ≤ (24 : Int)))))) (a2 : (x4 = (x0 + (4 : Int)))) (a3 : (x5 = (x4 + (2 : Int)))) (a4 : (x6 = (x5 + (2 : Int)))) (a5 : (x7 = (x6 + (2 : Int)))) (a6 : (x8 = (x7 + (2 : Int)))) (a7 : (x9 = (x8 + (2 : Int)))) (a8 : (x10 = (x9 + (4 : Int)))) (a9 : (x11 = (x10 + (4 : Int)))) (a10 : (x12 = (x11 + (4 : Int)))) (a11 : (x13 = (x12 + (2 : Int)))) (a12 : (x14 = (x13 + (2 : Int)))) (a13 : (x15 = x3)) : ((x14 + x15) ≤ (((14006 : Nat) : Nat) : Int)) := by omega
theorem omg_607c2444b7 {x0 : Int} {x1 : Int} {x2 : Int} {x3 : Int} {x4 : Int} {x5 : Int} {x6 : Int} {x7 : Int} {x8 : Int} {x9 : Int} {x10 : Int} {x11 : Int} (a0 : ((0 : Int) ≤ x0)) (a1 : (x1 = (x0 + (4 : Int)))) (a2 : (x2 = (x1 + (2 : Int)))) (a3 : (x3 = (x2 + (2 : Int)))) (a4 : (x4 = (x3 + (2 : Int)))) (a5 : (x5 = (x4 + (2 : Int)))) (a6 : (x6 = (x5 + (2 : Int)))) (a7 : (x7 = (x6 + (4 : Int)))) (a8 : (x8 = (x7 + (4 : Int)))) (a9 : (x9 = (x8 + (4 : Int)))) (a10 : (x10 = (x9 + (2 : Int)))) (a11 : (x11 = (x10 + (2 : Int)))) : ((0 : Int) ≤ x11) := by omega
theorem omg_dbfc67ef73 {x0 : Int} {x1 : Int} {x2 : Int} {x3 : Int} {x4 : Int} {x5 : Int} {x6 : Int} {x7 : Int} {x8 : Int} {x9 : Int} {x10 : Int} {x11 : Int} {x12 : Int} {x13 : Int} {x14 : Int} {x15 : Int} {x16 : Int} {x17 : Int} (a0 : (((x0 + (54 : Int)) + (x1 - x2)) ≤ (14006 : Int))) (a1 : ((x2 ≤ x1) ∧ ((x1 ≤ (x2 + (4000 : Int))) ∧ (((1 : Int) ≤ x3) ∧ (x3 ≤ (24 : Int)))))) (a2 : (x4 = (x1 - x2))) (a3 : (x5 = (x0 + (4 : Int)))) (a4 : (x6 = (x5 + (2 : Int)))) (a5 : (x7 = (x6 + (2 : Int)))) (a6 : (x8 = (x7 + (2 : Int)))) (a7 : (x9 = (x8 + (2 : Int)))) (a8 : (x10 = (x9 + (2 : Int)))) (a9 : (x11 = (x10 + (4 : Int)))) (a10 : (x12 = (x11 + (4 : Int)))) (a11 : (x13 = (x12 + (4 : Int)))) (a12 : (x14 = (x13 + (2 : Int)))) (a13 : (x15 = (x14 + (2 : Int)))) (a14 : (x16 = x3)) (a15 : (x17 = (x15 + x16))) : ((x17 + x4) ≤ (((14006 : Nat) : Nat) : Int)) := by omega
theorem omg_2400f8bda4 {x0 : Int} {x1 : Int} {x2 : Int} {x3 : Int} {x4 : Int} {x5 : Int} {x6 : Int} {x7 : Int} {x8 : Int} {x9 : Int} {x10 : Int} {x11 : Int} {x12 : Int} {x13 : Int} {x14 : Int} {x15 : Int} {x16 : Int} (a0 : ((0 : Int) ≤ x0)) (a1 : ((x1 ≤ x2) ∧ ((x2 ≤ (x1 + (4000 : Int))) ∧ (((1 : Int) ≤ x3) ∧ (x3 ≤ (24 : Int)))))) (a2 : (x4 = (x0 + (4 : Int)))) (a3 : (x5 = (x4 + (2 : Int)))) (a4 : (x6 = (x5 + (2 : Int)))) (a5 : (x7 = (x6 + (2 : Int)))) (a6 : (x8 = (x7 + (2 : Int)))) (a7 : (x9 = (x8 + (2 : Int)))) (a8 : (x10 = (x9 + (4 : Int)))) (a9 : (x11 = (x10 + (4 : Int)))) (a10 : (x12 = (x11 + (4 : Int)))) (a11 : (x13 = (x12 + (2 : Int)))) (a12 : (x14 = (x13 + (2 : Int)))) (a13 : (x15 = x3)) (a14 : (x16 = (x14 + x15))) : ((0 : Int) ≤ x16) := by omega
theorem omg_0b60e4f8a6 {x0 : Int} {x1 : Int} {x2 : Int} {x3 : Int} {x4 : Int} {x5 : Int} {x6 : Int} {x7 : Int} {x8 : Int} {x9 : Int} {x10 : Int} {x11 : Int} {x12 : Int} {x13 : Int} {x14 : Int} {x15 : Int} {x16 : Int} {x17 : Int} {x18 : Int} (a0 : ((x0 ≤ x1) ∧ ((x1 ≤ (x0 + (4000 : Int))) ∧ (((1 : Int) ≤ x2) ∧ (x2 ≤ (24 : Int)))))) (a1 : (x3 = (x1 - x0))) (a2 : (x4 = (x5 + (4 : Int)))) (a3 : (x6 = (x4 + (2 : Int)))) (a4 : (x7 = (x6 + (2 : Int)))) (a5 : (x8 = (x7 + (2 : Int)))) (a6 : (x9 = (x8 + (2 : Int)))) (a7 : (x10 = (x9 + (2 : Int)))) (a8 : (x11 = (x10 + (4 : Int)))) (a9 : (x12 = (x11 + (4 : Int)))) (a10 : (x13 = (x12 + (4 : Int)))) (a11 : (x14 = (x13 + (2 : Int)))) (a12 : (x15 = (x14 + (2 : Int)))) (a13 : (x16 = x2)) (a14 : (x17 = (x15 + x16))) (a15 : (x18 = (x17 + x3))) : (x18 ≤ ((x5 + (54 : Int)) + (x1 - x0))) := by omega
theorem omg_f2858e9f71 {x0 : Int} {x1 : Int} {x2 : Int} {x3 : Int} {x4 : Int} {x5 : Int} {x6 : Int} {x7 : Int} {x8 : Int} {x9 : Int} {x10 : Int} {x11 : Int} {x12 : Int} {x13 : Int} {x14 : Int} {x15 : Int} {x16 : Int} {x17 : Int} {x18 : Int} (a0 : ((x0 ≤ x1) ∧ ((x1 ≤ (x0 + (4000 : Int))) ∧ (((1 : Int) ≤ x2) ∧ (x2 ≤ (24 : Int)))))) (a1 : (x3 = (x1 - x0))) (a2 : (x4 = (x5 + (4 : Int)))) (a3 : (x6 = (x4 + (2 : Int)))) (a4 : (x7 = (x6 + (2 : Int)))) (a5 : (x8 = (x7 + (2 : Int)))) (a6 : (x9 = (x8 + (2 : Int)))) (a7 : (x10 = (x9 + (2 : Int)))) (a8 : (x11 = (x10 + (4 : Int)))) (a9 : (x12 = (x11 + (4 : Int)))) (a10 : (x13 = (x12 + (4 : Int)))) (a11 : (x14 = (x13 + (2 : Int)))) (a12 : (x15 = (x14 + (2 : Int)))) (a13 : (x16 = x2)) (a14 : (x17 = (x15 + x16))) (a15 : (x18 = (x17 + x3))) : (x5 ≤ x18) := by omega
theorem omg_407dca8c26 {x0 : Int} {x1 : Int} {x2 : Int} {x3 : Int} {x4 : Int} {x5 : Int} {x6 : Int} {x7 : Int} {x8 : Int} {x9 : Int} {x10 : Int} {x11 : Int} {x12 : Int} {x13 : Int} {x14 : Int} {x15 : Int} {x16 : Int} {x17 : Int} {x18 : Int} (a0 : (((x0 + (54 : Int)) + (x1 - x2)) ≤ (14006 : Int))) (a1 : ((x2 ≤ x1) ∧ ((x1 ≤ (x2 + (4000 : Int))) ∧ (((1 : Int) ≤ x3) ∧ (x3 ≤ (24 : Int)))))) (a2 : (x4 = (x1 - x2))) (a3 : (¬ (x4 ≤ x5))) (a4 : (x6 = (x0 + (4 : Int)))) (a5 : (x7 = (x6 + (2 : Int)))) (a6 : (x8 = (x7 + (2 : Int)))) (a7 : (x9 = (x8 + (2 : Int)))) (a8 : (x10 = (x9 + (2 : Int)))) (a9 : (x11 = (x10 + (2 : Int)))) (a10 : (x12 = (x11 + (4 : Int)))) (a11 : (x13 = (x12 + (4 : Int)))) (a12 : (x14 = (x13 + (4 : Int)))) (a13 : (x15 = (x14 + (2 : Int)))) (a14 : (x16 = (x15 + (2 : Int)))) (a15 : (x17 = x3)) (a16 : (x18 = (x16 + x17))) : ((x18 + x5) ≤ (((14006 : Nat) : Nat) : Int)) := by omega
theorem omg_06778f34a9 {x0 : Int} {x1 : Int} {x2 : Int} {x3 : Int} {x4 : Int} {x5 : Int} {x6 : Int} {x7 : Int} {x8 : Int} {x9 : Int} {x10 : Int} {x11 : Int} {x12 : Int} {x13 : Int} {x14 : Int} {x15 : Int} {x16 : Int} {x17 : Int} {x18 : Int} {x19 : Int} (a0 : ((x0 ≤ x1) ∧ ((x1 ≤ (x0 + (4000 : Int))) ∧ (((1 : Int) ≤ x2) ∧ (x2 ≤ (24 : Int)))))) (a1 : (x3 = (x1 - x0))) (a2 : (¬ (x3 ≤ x4))) (a3 : (x5 = (x6 + (4 : Int)))) (a4 : (x7 = (x5 + (2 : Int)))) (a5 : (x8 = (x7 + (2 : Int)))) (a6 : (x9 = (x8 + (2 : Int)))) (a7 : (x10 = (x9 + (2 : Int)))) (a8 : (x11 = (x10 + (2 : Int)))) (a9 : (x12 = (x11 + (4 : Int)))) (a10 : (x13 = (x12 + (4 : Int)))) (a11 : (x14 = (x13 + (4 : Int)))) (a12 : (x15 = (x14 + (2 : Int)))) (a13 : (x16 = (x15 + (2 : Int)))) (a14 : (x17 = x2)) (a15 : (x18 = (x16 + x17))) (a16 : (x19 = (x18 + x4))) : (x19 ≤ ((x6 + (54 : Int)) + (x1 - x0))) := by omega
theorem omg_9134f4bced {x0 : Int} {x1 : Int} {x2 : Int} {x3 : Int} {x4 : Int} {x5 : Nat} {x6 : Int} {x7 : Int} {x8 : Int} {x9 : Int} {x10 : Int} {x11 : Int} {x12 : Int} {x13 : Int} {x14 : Int} {x15 : Int} {x16 : Int} {x17 : Int} {x18 : Int} {x19 : Int} {x20 : Int} (a0 : ((x0 ≤ x1) ∧ ((x1 ≤ (x0 + (4000 : Int))) ∧ (((1 : Int) ≤ x2) ∧ (x2 ≤ (24 : Int)))))) (a1 : (x3 = x4)) (a2 : (x3 = ((x5 : Nat) : Int))) (a3 : (x6 = (x7 + (4 : Int)))) (a4 : (x8 = (x6 + (2 : Int)))) (a5 : (x9 = (x8 + (2 : Int)))) (a6 : (x10 = (x9 + (2 : Int)))) (a7 : (x11 = (x10 + (2 : Int)))) (a8 : (x12 = (x11 + (2 : Int)))) (a9 : (x13 = (x12 + (4 : Int)))) (a10 : (x14 = (x13 + (4 : Int)))) (a11 : (x15 = (x14 + (4 : Int)))) (a12 : (x16 = (x15 + (2 : Int)))) (a13 : (x17 = (x16 + (2 : Int)))) (a14 : (x18 = x2)) (a15 : (x19 = (x17 + x18))) (a16 : (x20 = (x19 + x4))) : (x7 ≤ x20) := by omega
theorem omg_52b1024fe2 {x0 : Int} {x1 : Int} (a0 : (x0 ≤ x1)) (a1 : (x1 ≤ x0)) : ((Int.toNat x0) = (Int.toNat x1)) := by omega
theorem omg_5eb2dff31e {x0 : Int} {x1 : Int} (a0 : ((0 : Int) ≤ x0)) (a1 : (¬ (x1 ≤ x0))) : ((Int.toNat x0) < (Int.toNat x1)) := by omega
/-- the parts' bytes -/
def NL_ (V : VW_) (i : Int) : List Int32 := (List.range (vZ V i).toNat).map (fun (k : Nat) => Int32.ofInt (vN V i (k : Int)))
def DL_ (V : VW_) (i : Int) : List Int32 := (List.range (vS V i).toNat).map (fun (k : Nat) => vD V i (k : Int))
def sD_ (V : VW_) (i : Int) : Int → Int32 := fun j => if 0 ≤ j ∧ j < vS V i then vD V i j else 0
theorem NL_bl {f : Nat → Int32} {V : VW_} {i y n : Int} (e : n = vZ V i) (h : ∀ k : Int, 0 ≤ k → k < vZ V i → gx f (y + k) = vN V i k) : bl_ f y n = NL_ V i := by
  subst e
  refine mp_ext (α := Nat) (fun k hk => ?_)
  rw [← h (k : Int) (by omega) (by omega)]
  show gr f (y + (k : Int)) = Int32.ofInt (gr f (y + (k : Int))).toInt
  rw [Int32.ofInt_toInt]
theorem DL_bl {f : Nat → Int32} {V : VW_} {i y n : Int} (e : n = vS V i) (h : ∀ k : Int, 0 ≤ k → k < vS V i → gr f (y + k) = vD V i k) : bl_ f y n = DL_ V i := by
  subst e
  refine mp_ext (α := Nat) (fun k hk => ?_)
  exact h (k : Int) (by omega) (by omega)
theorem sD_sq {f : Nat → Int32} {V : VW_} {i y n : Int} (e : n = vS V i) (h : ∀ k : Int, 0 ≤ k → k < vS V i → gr f (y + k) = vD V i k) : sq f y n = sD_ V i := by
  subst e
  funext j
  unfold sq sD_
  by_cases c : 0 ≤ j ∧ j < vS V i
  · rw [if_pos c, if_pos c, h j c.1 c.2]
  · rw [if_neg c, if_neg c]
def PR_ (a : Int → Int32) (n : Int) (P : List Int32) : Prop := ∃ f : Nat → Int32, pF_ a n f (P.length : Int) ∧ P = bl_ f 0 (P.length : Int)
theorem PR_of {a : Int → Int32} {n z : Int} {f : Nat → Int32} (h : pF_ a n f z) (z0 : 0 ≤ z) : PR_ a n (bl_ f 0 z) := by
  have e : ((bl_ f 0 z).length : Int) = z := by
    rw [bl_len]
    omega
  refine ⟨f, ?_, ?_⟩
  · rw [e]
    exact h
  · rw [e]
theorem PR_u {a : Int → Int32} {n : Int} {P Q : List Int32} (h : PR_ a n P) (k : PR_ a n Q) : P = Q := by
  obtain ⟨f, h1, h2⟩ := h
  obtain ⟨g, k1, k2⟩ := k
  obtain ⟨u1, u2⟩ := pF_u h1 k1
  rw [h2, k2]
  exact bl_cg u1 (fun j j0 j1 => by
    rw [Int.zero_add]
    exact u2 j j0 j1)
def su_ (V : VW_) (i : Int) : Int := (cw_ (vD V i) (vS V i).toNat ^^^ (-1)).toInt
def mt_ (V : VW_) (i : Int) (P : List Int32) : Int := if (P.length : Int) < vS V i then 8 else 0
def hr_ (V : VW_) (i : Int) (P : List Int32) : Int := if (P.length : Int) < vS V i then (P.length : Int) else vS V i
/-- what record and entry both say; the twenty bytes of it that the reference takes out of the record -/
def s20_ (V : VW_) (i : Int) (P : List Int32) : List Int32 := nk_ (mt_ V i P) 2 ++ nk_ 0 2 ++ nk_ 33 2 ++ nk_ (su_ V i) 4 ++ nk_ (hr_ V i P) 4 ++ nk_ (vS V i) 4 ++ nk_ (vZ V i) 2
def sh_ (V : VW_) (i : Int) (P : List Int32) : List Int32 := nk_ 20 2 ++ nk_ 0 2 ++ s20_ V i P ++ nk_ 0 2
theorem s20_len (V : VW_) (i : Int) (P : List Int32) : (s20_ V i P).length = 20 := by
  unfold s20_
  rw [List.length_append, List.length_append, List.length_append, List.length_append, List.length_append, List.length_append, nk_len, nk_len, nk_len, nk_len, nk_len, nk_len, nk_len]
theorem sh_len (V : VW_) (i : Int) (P : List Int32) : (sh_ V i P).length = 26 := by
  unfold sh_
  rw [List.length_append, List.length_append, List.length_append, nk_len, nk_len, s20_len]
def bd_ (V : VW_) (i : Int) (P : List Int32) : List Int32 := if (P.length : Int) < vS V i then P else DL_ V i
def rc_ (V : VW_) (i : Int) (P : List Int32) : List Int32 := nk_ 67324752 4 ++ sh_ V i P ++ NL_ V i ++ bd_ V i P
def en_L (V : VW_) (i : Int) (P : List Int32) (w : Int) : List Int32 := nk_ 33639248 4 ++ nk_ 20 2 ++ sh_ V i P ++ nk_ 0 2 ++ nk_ 0 2 ++ nk_ 0 2 ++ nk_ 0 4 ++ nk_ w 4 ++ NL_ V i
def fE_ (c d w : Int) : List Int32 := nk_ 101010256 4 ++ nk_ 0 2 ++ nk_ 0 2 ++ nk_ c 2 ++ nk_ c 2 ++ nk_ d 4 ++ nk_ w 4 ++ nk_ 0 2
def fL_ (V : VW_) : Nat → List Int32 → List Int32 → Prop
  | 0, F, D => F = [] ∧ D = []
  | i + 1, F, D => ∃ (F1 D1 P : List Int32), fL_ V i F1 D1 ∧ PR_ (sD_ V (i : Int)) (vS V (i : Int)) P ∧ F = F1 ++ rc_ V (i : Int) P ∧ D = D1 ++ en_L V (i : Int) P (F1.length : Int)
theorem fL_u {V : VW_} : ∀ (i : Nat) {F D F' D' : List Int32}, fL_ V i F D → fL_ V i F' D' → F = F' ∧ D = D'
  | 0, _, _, _, _, h, k => ⟨h.1.trans k.1.symm, h.2.trans k.2.symm⟩
  | i + 1, _, _, _, _, ⟨F1, D1, P, h1, h2, h3, h4⟩, ⟨F2, D2, Q, k1, k2, k3, k4⟩ => by
    obtain ⟨u1, u2⟩ := fL_u i h1 k1
    have u3 := PR_u h2 k2
    subst u1 u2 u3
    exact ⟨h3.trans k3.symm, h4.trans k4.symm⟩
theorem fL_s {V : VW_} {i i2 w : Int} {F D F2 D2 P : List Int32} (h : fL_ V i.toNat F D) (i0 : 0 ≤ i) (hi : i2 = i + 1) (p : PR_ (sD_ V i) (vS V i) P) (hw : w = (F.length : Int)) (e1 : F2 = F ++ rc_ V i P) (e2 : D2 = D ++ en_L V i P w) : fL_ V i2.toNat F2 D2 := by
  rw [show i2.toNat = i.toNat + 1 by omega]
  have e : ((i.toNat : Nat) : Int) = i := by omega
  refine ⟨F, D, P, h, ?_, ?_, ?_⟩
  · rw [e]
    exact p
  · rw [e]
    exact e1
  · rw [e, ← hw]
    exact e2
def FI_ (V : VW_) (K : List Int32) : Prop := ∃ F D : List Int32, fL_ V (vC V).toNat F D ∧ K = F ++ D ++ fE_ (vC V) (D.length : Int) (F.length : Int)
theorem FI_u {V : VW_} {K L : List Int32} (h : FI_ V K) (k : FI_ V L) : K = L := by
  obtain ⟨F, D, h1, h2⟩ := h
  obtain ⟨G, E, k1, k2⟩ := k
  obtain ⟨u1, u2⟩ := fL_u _ h1 k1
  subst u1 u2
  exact h2.trans k2.symm
/-- a row that has these bytes -/
def fw_ (f : Nat → Int32) (s : Int) (K : List Int32) : Prop := s = (K.length : Int) ∧ ∀ k : Nat, k < K.length → K[k]? = some (gr f (k : Int))
theorem fw_ap {f g : Nat → Int32} {s t : Int} {K L : List Int32} (h : fw_ f s K) (a : ap_ f s g t L) : fw_ g t (K ++ L) := by
  obtain ⟨h1, h2⟩ := h
  obtain ⟨a1, a2, a3⟩ := a
  refine ⟨by rw [List.length_append, Int.natCast_add]; omega, fun k hk => ?_⟩
  rw [List.length_append] at hk
  by_cases c : k < K.length
  · rw [List.getElem?_append_left c, h2 k c, a2 _ (by omega) (by omega)]
  · rw [List.getElem?_append_right (by omega), a3 (k - K.length) (by omega)]
    exact congrArg (fun z => some (gr g z)) (by omega)
theorem fw_nil {f : Nat → Int32} {s : Int} (h : s = 0) : fw_ f s [] := ⟨h, fun k hk => absurd hk (Nat.not_lt_zero k)⟩
theorem fw_rl {f g : Nat → Int32} {s t : Int} {K : List Int32} (h : fw_ f s K) (k : fw_ g t K) : s = t ∧ rl_B f g s := by
  refine ⟨h.1.trans k.1.symm, fun j j0 j1 => ?_⟩
  have q := h.1
  have e1 := h.2 j.toNat (by omega)
  have e2 := k.2 j.toNat (by omega)
  rw [show ((j.toNat : Nat) : Int) = j by omega] at e1 e2
  exact Option.some.inj (e1.symm.trans e2)
/-- a piece of a row, taken out -/
theorem bl_sub {f : Nat → Int32} {s y n : Int} {K A B C : List Int32} (h : fw_ f s K) (e : K = A ++ (B ++ C)) (hy : y = (A.length : Int)) (hn : n = (B.length : Int)) : bl_ f y n = B := by
  subst e hy hn
  refine List.ext_getElem? (fun k => ?_)
  by_cases c : k < B.length
  · have q := h.2 (A.length + k) (by rw [List.length_append, List.length_append]; omega)
    rw [List.getElem?_append_right (by omega), show A.length + k - A.length = k by omega, List.getElem?_append_left c] at q
    rw [bl_get (by omega), q]
    exact congrArg (fun z => some (gr f z)) (by omega)
  · rw [List.getElem?_eq_none (by rw [bl_len]; omega), List.getElem?_eq_none (by omega)]
/-- every part's record stands in the file -/
theorem fL_in {V : VW_} : ∀ (n : Nat) {F D : List Int32}, fL_ V n F D → ∀ i : Nat, i < n → ∃ F1 D1 P T : List Int32, fL_ V i F1 D1 ∧ PR_ (sD_ V (i : Int)) (vS V (i : Int)) P ∧ F = F1 ++ (rc_ V (i : Int) P ++ T)
  | 0, _, _, _, i, hi => absurd hi (Nat.not_lt_zero i)
  | n + 1, _, _, ⟨F1, D1, P, h1, h2, h3, h4⟩, i, hi => by
    by_cases c : i = n
    · subst c
      exact ⟨F1, D1, P, [], h1, h2, by rw [List.append_nil]; exact h3⟩
    · obtain ⟨F2, D2, Q, T, k1, k2, k3⟩ := fL_in n h1 i (by omega)
      exact ⟨F2, D2, Q, T ++ rc_ V (n : Int) P, k1, k2, by rw [h3, k3]; simp only [List.append_assoc]⟩
theorem rc_E {V : VW_} {i m su hr s z k1 k2 k3 k4 k5 k6 : Int} {P N B : List Int32} (h1 : k1 = 67324752) (h2 : k2 = 20) (h3 : k3 = 0) (em : m = mt_ V i P) (h4 : k4 = 0) (h5 : k5 = 33) (es : su = su_ V i) (eh : hr = hr_ V i P) (e1 : s = vS V i) (e2 : z = vZ V i) (h6 : k6 = 0) (eN : N = NL_ V i) (eB : B = bd_ V i P) : [] ++ nk_ k1 4 ++ nk_ k2 2 ++ nk_ k3 2 ++ nk_ m 2 ++ nk_ k4 2 ++ nk_ k5 2 ++ nk_ su 4 ++ nk_ hr 4 ++ nk_ s 4 ++ nk_ z 2 ++ nk_ k6 2 ++ N ++ B = rc_ V i P := by
  subst h1 h2 h3 em h4 h5 es eh e1 e2 h6 eN eB
  unfold rc_ sh_ s20_
  simp only [List.append_assoc, List.nil_append]
theorem rc_len (V : VW_) (i : Int) (P : List Int32) : 30 ≤ (rc_ V i P).length := by
  unfold rc_
  rw [List.length_append, List.length_append, List.length_append, nk_len, sh_len]
  omega
theorem en_E {V : VW_} {i w k1 k2 k3 k4 k5 k6 : Int} {P N S : List Int32} (h1 : k1 = 33639248) (h2 : k2 = 20) (eS : S = sh_ V i P) (h3 : k3 = 0) (h4 : k4 = 0) (h5 : k5 = 0) (h6 : k6 = 0) (eN : N = NL_ V i) : [] ++ nk_ k1 4 ++ nk_ k2 2 ++ S ++ nk_ k3 2 ++ nk_ k4 2 ++ nk_ k5 2 ++ nk_ k6 4 ++ nk_ w 4 ++ N = en_L V i P w := by
  subst h1 h2 eS h3 h4 h5 h6 eN
  unfold en_L
  simp only [List.append_assoc, List.nil_append]
theorem fE_E {c d w k1 k2 k3 k4 : Int} (h1 : k1 = 101010256) (h2 : k2 = 0) (h3 : k3 = 0) (h4 : k4 = 0) : [] ++ nk_ k1 4 ++ nk_ k2 2 ++ nk_ k3 2 ++ nk_ c 2 ++ nk_ c 2 ++ nk_ d 4 ++ nk_ w 4 ++ nk_ k4 2 = fE_ c d w := by
  subst h1 h2 h3 h4
  unfold fE_
  simp only [List.append_assoc, List.nil_append]
theorem mt_y {V : VW_} {i m p : Int} {P : List Int32} (hp : p = (P.length : Int)) (h : p < vS V i) (hm : m = 8) : m = mt_ V i P := by
  unfold mt_
  rw [if_pos (by omega)]
  exact hm
theorem mt_n {V : VW_} {i m p : Int} {P : List Int32} (hp : p = (P.length : Int)) (h : ¬ p < vS V i) (hm : m = 0) : m = mt_ V i P := by
  unfold mt_
  rw [if_neg (by omega)]
  exact hm
theorem hr_y {V : VW_} {i m p : Int} {P : List Int32} (hp : p = (P.length : Int)) (h : p < vS V i) (hm : m = p) : m = hr_ V i P := by
  unfold hr_
  rw [if_pos (by omega)]
  omega
theorem hr_n {V : VW_} {i m p : Int} {P : List Int32} (hp : p = (P.length : Int)) (h : ¬ p < vS V i) (hm : m = vS V i) : m = hr_ V i P := by
  unfold hr_
  rw [if_neg (by omega)]
  exact hm
theorem bd_y {V : VW_} {i p : Int} {P B : List Int32} (hp : p = (P.length : Int)) (h : p < vS V i) (hm : B = P) : B = bd_ V i P := by
  unfold bd_
  rw [if_pos (by omega)]
  exact hm
theorem bd_n {V : VW_} {i p : Int} {P B : List Int32} (hp : p = (P.length : Int)) (h : ¬ p < vS V i) (hm : B = DL_ V i) : B = bd_ V i P := by
  unfold bd_
  rw [if_neg (by omega)]
  exact hm
theorem su_E {V : VW_} {i y n : Int} {f : Nat → Int32} {s : Int32} (e : s = cr_n f y n.toNat ^^^ (-1)) (en : n = vS V i) (h : ∀ k : Int, 0 ≤ k → k < vS V i → gr f (y + k) = vD V i k) (n0 : 0 ≤ n) : s.toInt = su_ V i := by
  subst en
  unfold su_
  rw [e, cr_cw (d := vD V i) _ (fun j j0 j1 => h j j0 (by omega))]
theorem sh_bl {V : VW_} {f : Nat → Int32} {s y i : Int} {K F D T P : List Int32} (h : fw_ f s (K ++ D)) (e : K = F ++ (rc_ V i P ++ T)) (hy : y = (F.length : Int) + 4) : bl_ f y 26 = sh_ V i P ∧ y + 26 ≤ s := by
  constructor
  · refine bl_sub (A := F ++ nk_ 67324752 4) (B := sh_ V i P) (C := NL_ V i ++ (bd_ V i P ++ (T ++ D))) h ?_ ?_ ?_
    · rw [e]
      unfold rc_
      simp only [List.append_assoc]
    · rw [List.length_append, nk_len]
      omega
    · rw [sh_len]
      rfl
  · have q := h.1
    have l := rc_len V i P
    rw [e, List.length_append, List.length_append, List.length_append] at q
    omega

theorem d_FileMaker_putEnd_0 : decode prog_4_method_5_code 0 = .ok (.aload_n 0, 1) := by decide +kernel
theorem d_FileMaker_putEnd_1 : decode prog_4_method_5_code 1 = .ok (.getfield 14, 3) := by decide +kernel
theorem d_FileMaker_putEnd_4 : decode prog_4_method_5_code 4 = .ok (.getfield 24, 3) := by decide +kernel
theorem k_163 : (Jvm.Cond.fieldLinkNest "PackageBook$FileMaker" (24 : Nat) "PackageBook$Row" "size" "I" "PackageBook") ∈ uN := uN_c0 46 rfl (by decide +kernel)
theorem d_FileMaker_putEnd_7 : decode prog_4_method_5_code 7 = .ok (.iload_n 2, 1) := by decide +kernel
theorem d_FileMaker_putEnd_8 : decode prog_4_method_5_code 8 = .ok (.isub, 1) := by decide +kernel
theorem d_FileMaker_putEnd_9 : decode prog_4_method_5_code 9 = .ok (.istore_n 3, 1) := by decide +kernel
theorem d_FileMaker_putEnd_10 : decode prog_4_method_5_code 10 = .ok (.aload_n 0, 1) := by decide +kernel
theorem d_FileMaker_putEnd_11 : decode prog_4_method_5_code 11 = .ok (.getfield 14, 3) := by decide +kernel
theorem d_FileMaker_putEnd_14 : decode prog_4_method_5_code 14 = .ok (.ldc 87, 2) := by decide +kernel
theorem k_575 : (Jvm.Cond.constant "PackageBook$FileMaker" (87 : Nat) (101010256 : Int32)) ∈ uW := uW_c1 218 rfl (by decide +kernel)
theorem d_FileMaker_putEnd_16 : decode prog_4_method_5_code 16 = .ok (.invokevirtual 66, 3) := by decide +kernel
theorem k_544 : (Jvm.Cond.methodLink "PackageBook$FileMaker" (66 : Nat) ({ cls := "PackageBook$Row", name := "putFour", desc := "(I)V" } : Jvm.MethodName)) ∈ uW := uW_c1 187 rfl (by decide +kernel)
theorem k_547 : (Jvm.Cond.code ({ cls := "PackageBook$Row", name := "putFour", desc := "(I)V" } : Jvm.MethodName) prog_9_method_4_code (2 : Nat) (Option.none : Option Jvm.ClassFile.FieldType)) ∈ uW := uW_c1 190 rfl (by decide +kernel)
theorem k_545 : (Jvm.Cond.instanceMethod ({ cls := "PackageBook$Row", name := "putFour", desc := "(I)V" } : Jvm.MethodName)) ∈ uW := uW_c1 188 rfl (by decide +kernel)
theorem k_546 : (Jvm.Cond.selects "PackageBook$Row" ({ cls := "PackageBook$Row", name := "putFour", desc := "(I)V" } : Jvm.MethodName) ({ cls := "PackageBook$Row", name := "putFour", desc := "(I)V" } : Jvm.MethodName)) ∈ uW := uW_c1 189 rfl (by decide +kernel)
theorem hy_Row_putFour : (y_Row_putFour).cls ≠ "java/lang/invoke/MethodHandle" ∧ (y_Row_putFour).cls ≠ "java/lang/invoke/VarHandle" ∧ (parseMethodDescriptor (y_Row_putFour).desc).map (fun d => d.parameters.length) = some 1 := by decide +kernel
theorem d_FileMaker_putEnd_19 : decode prog_4_method_5_code 19 = .ok (.aload_n 0, 1) := by decide +kernel
theorem d_FileMaker_putEnd_20 : decode prog_4_method_5_code 20 = .ok (.getfield 14, 3) := by decide +kernel
theorem d_FileMaker_putEnd_23 : decode prog_4_method_5_code 23 = .ok (.iconst 0, 1) := by decide +kernel
theorem d_FileMaker_putEnd_24 : decode prog_4_method_5_code 24 = .ok (.invokevirtual 69, 3) := by decide +kernel
theorem k_556 : (Jvm.Cond.methodLink "PackageBook$FileMaker" (69 : Nat) ({ cls := "PackageBook$Row", name := "putTwo", desc := "(I)V" } : Jvm.MethodName)) ∈ uW := uW_c1 199 rfl (by decide +kernel)
theorem d_FileMaker_putEnd_27 : decode prog_4_method_5_code 27 = .ok (.aload_n 0, 1) := by decide +kernel
theorem d_FileMaker_putEnd_28 : decode prog_4_method_5_code 28 = .ok (.getfield 14, 3) := by decide +kernel
theorem d_FileMaker_putEnd_31 : decode prog_4_method_5_code 31 = .ok (.iconst 0, 1) := by decide +kernel
theorem d_FileMaker_putEnd_32 : decode prog_4_method_5_code 32 = .ok (.invokevirtual 69, 3) := by decide +kernel
theorem d_FileMaker_putEnd_35 : decode prog_4_method_5_code 35 = .ok (.aload_n 0, 1) := by decide +kernel
theorem d_FileMaker_putEnd_36 : decode prog_4_method_5_code 36 = .ok (.getfield 14, 3) := by decide +kernel
theorem d_FileMaker_putEnd_39 : decode prog_4_method_5_code 39 = .ok (.iload_n 1, 1) := by decide +kernel
theorem d_FileMaker_putEnd_40 : decode prog_4_method_5_code 40 = .ok (.invokevirtual 69, 3) := by decide +kernel
theorem d_FileMaker_putEnd_43 : decode prog_4_method_5_code 43 = .ok (.aload_n 0, 1) := by decide +kernel
theorem d_FileMaker_putEnd_44 : decode prog_4_method_5_code 44 = .ok (.getfield 14, 3) := by decide +kernel
theorem d_FileMaker_putEnd_47 : decode prog_4_method_5_code 47 = .ok (.iload_n 1, 1) := by decide +kernel
theorem d_FileMaker_putEnd_48 : decode prog_4_method_5_code 48 = .ok (.invokevirtual 69, 3) := by decide +kernel
theorem d_FileMaker_putEnd_51 : decode prog_4_method_5_code 51 = .ok (.aload_n 0, 1) := by decide +kernel
theorem d_FileMaker_putEnd_52 : decode prog_4_method_5_code 52 = .ok (.getfield 14, 3) := by decide +kernel
theorem d_FileMaker_putEnd_55 : decode prog_4_method_5_code 55 = .ok (.iload_n 3, 1) := by decide +kernel
theorem d_FileMaker_putEnd_56 : decode prog_4_method_5_code 56 = .ok (.invokevirtual 66, 3) := by decide +kernel
theorem d_FileMaker_putEnd_59 : decode prog_4_method_5_code 59 = .ok (.aload_n 0, 1) := by decide +kernel
theorem d_FileMaker_putEnd_60 : decode prog_4_method_5_code 60 = .ok (.getfield 14, 3) := by decide +kernel
theorem d_FileMaker_putEnd_63 : decode prog_4_method_5_code 63 = .ok (.iload_n 2, 1) := by decide +kernel
theorem d_FileMaker_putEnd_64 : decode prog_4_method_5_code 64 = .ok (.invokevirtual 66, 3) := by decide +kernel
theorem d_FileMaker_putEnd_67 : decode prog_4_method_5_code 67 = .ok (.aload_n 0, 1) := by decide +kernel
theorem d_FileMaker_putEnd_68 : decode prog_4_method_5_code 68 = .ok (.getfield 14, 3) := by decide +kernel
theorem d_FileMaker_putEnd_71 : decode prog_4_method_5_code 71 = .ok (.iconst 0, 1) := by decide +kernel
theorem d_FileMaker_putEnd_72 : decode prog_4_method_5_code 72 = .ok (.invokevirtual 69, 3) := by decide +kernel
theorem d_FileMaker_putEnd_75 : decode prog_4_method_5_code 75 = .ok (.return_, 1) := by decide +kernel
abbrev y_FileMaker_putEnd : MethodName := ⟨"PackageBook$FileMaker", "putEnd", "(II)V"⟩
abbrev i_FileMaker_putEnd : pb_I := (y_FileMaker_putEnd, prog_4_method_5_code, 4, (Option.none : Option Jvm.ClassFile.FieldType), [], { frames := 3, cells := 0, slots := 0, locals := 63 })
set_option maxRecDepth 100000 in
set_option maxHeartbeats 4000000 in
theorem g_Mk_putEnd {l : Launch} (hl : l.stackTraces = false) (G : pb_G) (h : Nat) (mm : Nat) (mr : Nat) (mb : Nat) (f : Nat → Int32) (s : Int32) (n : Int32) (d : Int32) (h0 : 0 ≤ s.toInt) (h1 : s.toInt + 22 ≤ 14006) (h2 : 0 ≤ d.toInt) (h3 : d.toInt ≤ s.toInt) (F_f : sb_Fit f) : Cn l G i_FileMaker_putEnd [.ref h, .int n, .int d] [(h, .inr (6, [.ref mm, .ref mr])), (mm, .inr (0, [.ref mb, .int s])), (mb, .inl (G.2.1, 14006, .inl f))] (S := Int32 × (Nat → Int32)) (fun rv_ u => rv_ = none ∧ (u.1.toInt = s.toInt + 22) ∧ (ap_ f s.toInt u.2 u.1.toInt (fE_ n.toInt (s.toInt - d.toInt) d.toInt)) ∧ (sb_Fit u.2)) (fun u => [(h, .inr (6, [.ref mm, .ref mr])), (mm, .inr (0, [.ref mb, .int u.1])), (mb, .inl (G.2.1, 14006, .inl u.2))]) := by
  refine Cn.of hl (by decide +kernel) rfl (Nat.le_of_ble_eq_true rfl) (fun M hQ => ?_)
  refine pb_eq (pc' := 0) (lo' := [(0, .ref h), (1, .int n), (2, .int d)]) (rest' := []) (ws' := [(h, .inr (6, [.ref mm, .ref mr])), (mm, .inr (0, [.ref mb, .int s])), (mb, .inl (G.2.1, 14006, .inl f))]) ?_
  have zl0 : (0 : Int32).toInt = 0 := by decide
  have zl1 : (1 : Int32).toInt = 1 := by decide
  have aK := ap_nil (f := f) (s := s.toInt) (t := s.toInt) rfl
  refine pb_aload_n (pc := 0) d_FileMaker_putEnd_0 0 rfl rfl ?_
  refine pb_get (pc := 1) d_FileMaker_putEnd_1 0 0 rfl rfl (by decide) in_FileMaker k_292 rfl ?_
  refine pb_getN (pc := 4) d_FileMaker_putEnd_4 1 1 rfl rfl (by decide) in_Row k_163 rfl ?_
  refine pb_iload_n (pc := 7) d_FileMaker_putEnd_7 2 rfl rfl ?_
  refine pb_isub (pc := 8) d_FileMaker_putEnd_8 ?_
  refine pb_topi (fun i1 ei1 => ?_)
  try have ti1 : i1.toInt = s.toInt - d.toInt := ti_sub ei1 rfl rfl (by omega) (by omega)
  refine pb_istore_n (pc := 9) (lo' := [(3, .int i1), (0, .ref h), (1, .int n), (2, .int d)]) d_FileMaker_putEnd_9 rfl (by decide) rfl ?_
  have eSz : i1.toInt = s.toInt - d.toInt := by omega
  refine pb_aload_n (pc := 10) d_FileMaker_putEnd_10 1 rfl rfl ?_
  refine pb_get (pc := 11) d_FileMaker_putEnd_11 0 0 rfl rfl (by decide) in_FileMaker k_292 rfl ?_
  refine pb_ldc (pc := 14) (v := 101010256) d_FileMaker_putEnd_14 k_575 ?_
  refine pb_callV (pc := 16) (I := i_FileMaker_putEnd) (qb := 1) (ci := 0) (nA := 1) (rest := []) (wr := [(h, .inr (6, [.ref mm, .ref mr]))]) d_FileMaker_putEnd_16 (g_Row_putFour hl G mm mb 14006 f s 101010256 (by first | (with_reducible assumption) | omega (splitDisjunctions := false) | assumption | omega | decide) (by first | (with_reducible assumption) | omega (splitDisjunctions := false) | assumption | omega | decide) (by first | (with_reducible assumption) | omega (splitDisjunctions := false) | assumption | omega | decide) F_f) rfl rfl [1, 2] [0] (by decide) rfl rfl rfl (by decide) (by decide) k_547 rfl k_119 k_544 k_545 k_546 ⟨rfl, hy_Row_putFour⟩ (by decide) rfl rfl (Nat.le_of_ble_eq_true rfl) (by decide) (fun v9 u3 ch2 => ?_)
  obtain ⟨s_4, f_5⟩ := u3
  obtain ⟨ech2, ch2⟩ := ch2
  have ech2 : v9 = none := ech2
  subst ech2
  obtain ⟨fh6, fh7, fh8⟩ : (s_4.toInt = s.toInt + 4) ∧ (ap_ f s.toInt f_5 s_4.toInt (nk_ (101010256 : Int32).toInt 4)) ∧ (sb_Fit f_5) := ch2
  have aK := ap_app h0 aK fh7
  refine pb_eq (pc' := 19) (lo' := [(3, .int i1), (0, .ref h), (1, .int n), (2, .int d)]) (rest' := []) (ws' := [(h, .inr (6, [.ref mm, .ref mr])), (mm, .inr (0, [.ref mb, .int s_4])), (mb, .inl (G.2.1, 14006, .inl f_5))]) ?_
  refine pb_aload_n (pc := 19) d_FileMaker_putEnd_19 1 rfl rfl ?_
  refine pb_get (pc := 20) d_FileMaker_putEnd_20 0 0 rfl rfl (by decide) in_FileMaker k_292 rfl ?_
  refine pb_iconst (pc := 23) (v := 0) d_FileMaker_putEnd_23 (by decide) ?_
  refine pb_callV (pc := 24) (I := i_FileMaker_putEnd) (qb := 1) (ci := 0) (nA := 1) (rest := []) (wr := [(h, .inr (6, [.ref mm, .ref mr]))]) d_FileMaker_putEnd_24 (g_Row_putTwo hl G mm mb 14006 f_5 s_4 0 (by first | (with_reducible assumption) | omega (splitDisjunctions := false) | assumption | omega | decide) (by first | (with_reducible assumption) | omega (splitDisjunctions := false) | assumption | omega | decide) (by first | (with_reducible assumption) | omega (splitDisjunctions := false) | assumption | omega | decide) fh8) rfl rfl [1, 2] [0] (by decide) rfl rfl rfl (by decide) (by decide) k_551 rfl k_119 k_556 k_549 k_550 ⟨rfl, hy_Row_putTwo⟩ (by decide) rfl rfl (Nat.le_of_ble_eq_true rfl) (by decide) (fun v9 u10 ch9 => ?_)
  obtain ⟨s_11, f_12⟩ := u10
  obtain ⟨ech9, ch9⟩ := ch9
  have ech9 : v9 = none := ech9
  subst ech9
  obtain ⟨fh13, fh14, fh15⟩ : (s_11.toInt = s_4.toInt + 2) ∧ (ap_ f_5 s_4.toInt f_12 s_11.toInt (nk_ (0 : Int32).toInt 2)) ∧ (sb_Fit f_12) := ch9
  have aK := ap_app h0 aK fh14
  refine pb_eq (pc' := 27) (lo' := [(3, .int i1), (0, .ref h), (1, .int n), (2, .int d)]) (rest' := []) (ws' := [(h, .inr (6, [.ref mm, .ref mr])), (mm, .inr (0, [.ref mb, .int s_11])), (mb, .inl (G.2.1, 14006, .inl f_12))]) ?_
  refine pb_aload_n (pc := 27) d_FileMaker_putEnd_27 1 rfl rfl ?_
  refine pb_get (pc := 28) d_FileMaker_putEnd_28 0 0 rfl rfl (by decide) in_FileMaker k_292 rfl ?_
  refine pb_iconst (pc := 31) (v := 0) d_FileMaker_putEnd_31 (by decide) ?_
  refine pb_callV (pc := 32) (I := i_FileMaker_putEnd) (qb := 1) (ci := 0) (nA := 1) (rest := []) (wr := [(h, .inr (6, [.ref mm, .ref mr]))]) d_FileMaker_putEnd_32 (g_Row_putTwo hl G mm mb 14006 f_12 s_11 0 (by first | (with_reducible assumption) | omega (splitDisjunctions := false) | assumption | omega | decide) (by first | (with_reducible assumption) | omega (splitDisjunctions := false) | assumption | omega | decide) (by first | (with_reducible assumption) | omega (splitDisjunctions := false) | assumption | omega | decide) fh15) rfl rfl [1, 2] [0] (by decide) rfl rfl rfl (by decide) (by decide) k_551 rfl k_119 k_556 k_549 k_550 ⟨rfl, hy_Row_putTwo⟩ (by decide) rfl rfl (Nat.le_of_ble_eq_true rfl) (by decide) (fun v9 u17 ch16 => ?_)
  obtain ⟨s_18, f_19⟩ := u17
  obtain ⟨ech16, ch16⟩ := ch16
  have ech16 : v9 = none := ech16
  subst ech16
  obtain ⟨fh20, fh21, fh22⟩ : (s_18.toInt = s_11.toInt + 2) ∧ (ap_ f_12 s_11.toInt f_19 s_18.toInt (nk_ (0 : Int32).toInt 2)) ∧ (sb_Fit f_19) := ch16
  have aK := ap_app h0 aK fh21
  refine pb_eq (pc' := 35) (lo' := [(3, .int i1), (0, .ref h), (1, .int n), (2, .int d)]) (rest' := []) (ws' := [(h, .inr (6, [.ref mm, .ref mr])), (mm, .inr (0, [.ref mb, .int s_18])), (mb, .inl (G.2.1, 14006, .inl f_19))]) ?_
  refine pb_aload_n (pc := 35) d_FileMaker_putEnd_35 1 rfl rfl ?_
  refine pb_get (pc := 36) d_FileMaker_putEnd_36 0 0 rfl rfl (by decide) in_FileMaker k_292 rfl ?_
  refine pb_iload_n (pc := 39) d_FileMaker_putEnd_39 2 rfl rfl ?_
  refine pb_callV (pc := 40) (I := i_FileMaker_putEnd) (qb := 1) (ci := 0) (nA := 1) (rest := []) (wr := [(h, .inr (6, [.ref mm, .ref mr]))]) d_FileMaker_putEnd_40 (g_Row_putTwo hl G mm mb 14006 f_19 s_18 n (by first | (with_reducible assumption) | omega (splitDisjunctions := false) | assumption | omega | decide) (by first | (with_reducible assumption) | omega (splitDisjunctions := false) | assumption | omega | decide) (by first | (with_reducible assumption) | omega (splitDisjunctions := false) | assumption | omega | decide) fh22) rfl rfl [1, 2] [0] (by decide) rfl rfl rfl (by decide) (by decide) k_551 rfl k_119 k_556 k_549 k_550 ⟨rfl, hy_Row_putTwo⟩ (by decide) rfl rfl (Nat.le_of_ble_eq_true rfl) (by decide) (fun v9 u24 ch23 => ?_)
  obtain ⟨s_25, f_26⟩ := u24
  obtain ⟨ech23, ch23⟩ := ch23
  have ech23 : v9 = none := ech23
  subst ech23
  obtain ⟨fh27, fh28, fh29⟩ : (s_25.toInt = s_18.toInt + 2) ∧ (ap_ f_19 s_18.toInt f_26 s_25.toInt (nk_ n.toInt 2)) ∧ (sb_Fit f_26) := ch23
  have aK := ap_app h0 aK fh28
  refine pb_eq (pc' := 43) (lo' := [(3, .int i1), (0, .ref h), (1, .int n), (2, .int d)]) (rest' := []) (ws' := [(h, .inr (6, [.ref mm, .ref mr])), (mm, .inr (0, [.ref mb, .int s_25])), (mb, .inl (G.2.1, 14006, .inl f_26))]) ?_
  refine pb_aload_n (pc := 43) d_FileMaker_putEnd_43 1 rfl rfl ?_
  refine pb_get (pc := 44) d_FileMaker_putEnd_44 0 0 rfl rfl (by decide) in_FileMaker k_292 rfl ?_
  refine pb_iload_n (pc := 47) d_FileMaker_putEnd_47 2 rfl rfl ?_
  refine pb_callV (pc := 48) (I := i_FileMaker_putEnd) (qb := 1) (ci := 0) (nA := 1) (rest := []) (wr := [(h, .inr (6, [.ref mm, .ref mr]))]) d_FileMaker_putEnd_48 (g_Row_putTwo hl G mm mb 14006 f_26 s_25 n (by first | (with_reducible assumption) | omega (splitDisjunctions := false) | assumption | omega | decide) (by first | (with_reducible assumption) | omega (splitDisjunctions := false) | assumption | omega | decide) (by first | (with_reducible assumption) | omega (splitDisjunctions := false) | assumption | omega | decide) fh29) rfl rfl [1, 2] [0] (by decide) rfl rfl rfl (by decide) (by decide) k_551 rfl k_119 k_556 k_549 k_550 ⟨rfl, hy_Row_putTwo⟩ (by decide) rfl rfl (Nat.le_of_ble_eq_true rfl) (by decide) (fun v9 u31 ch30 => ?_)
  obtain ⟨s_32, f_33⟩ := u31
  obtain ⟨ech30, ch30⟩ := ch30
  have ech30 : v9 = none := ech30
  subst ech30
  obtain ⟨fh34, fh35, fh36⟩ : (s_32.toInt = s_25.toInt + 2) ∧ (ap_ f_26 s_25.toInt f_33 s_32.toInt (nk_ n.toInt 2)) ∧ (sb_Fit f_33) := ch30
  have aK := ap_app h0 aK fh35
  refine pb_eq (pc' := 51) (lo' := [(3, .int i1), (0, .ref h), (1, .int n), (2, .int d)]) (rest' := []) (ws' := [(h, .inr (6, [.ref mm, .ref mr])), (mm, .inr (0, [.ref mb, .int s_32])), (mb, .inl (G.2.1, 14006, .inl f_33))]) ?_
  refine pb_aload_n (pc := 51) d_FileMaker_putEnd_51 1 rfl rfl ?_
  refine pb_get (pc := 52) d_FileMaker_putEnd_52 0 0 rfl rfl (by decide) in_FileMaker k_292 rfl ?_
  refine pb_iload_n (pc := 55) d_FileMaker_putEnd_55 0 rfl rfl ?_
  refine pb_callV (pc := 56) (I := i_FileMaker_putEnd) (qb := 1) (ci := 0) (nA := 1) (rest := []) (wr := [(h, .inr (6, [.ref mm, .ref mr]))]) d_FileMaker_putEnd_56 (g_Row_putFour hl G mm mb 14006 f_33 s_32 i1 (by first | (with_reducible assumption) | omega (splitDisjunctions := false) | assumption | omega | decide) (by first | (with_reducible assumption) | omega (splitDisjunctions := false) | assumption | omega | decide) (by first | (with_reducible assumption) | omega (splitDisjunctions := false) | assumption | omega | decide) fh36) rfl rfl [1, 2] [0] (by decide) rfl rfl rfl (by decide) (by decide) k_547 rfl k_119 k_544 k_545 k_546 ⟨rfl, hy_Row_putFour⟩ (by decide) rfl rfl (Nat.le_of_ble_eq_true rfl) (by decide) (fun v9 u38 ch37 => ?_)
  obtain ⟨s_39, f_40⟩ := u38
  obtain ⟨ech37, ch37⟩ := ch37
  have ech37 : v9 = none := ech37
  subst ech37
  obtain ⟨fh41, fh42, fh43⟩ : (s_39.toInt = s_32.toInt + 4) ∧ (ap_ f_33 s_32.toInt f_40 s_39.toInt (nk_ i1.toInt 4)) ∧ (sb_Fit f_40) := ch37
  have aK := ap_app h0 aK fh42
  refine pb_eq (pc' := 59) (lo' := [(3, .int i1), (0, .ref h), (1, .int n), (2, .int d)]) (rest' := []) (ws' := [(h, .inr (6, [.ref mm, .ref mr])), (mm, .inr (0, [.ref mb, .int s_39])), (mb, .inl (G.2.1, 14006, .inl f_40))]) ?_
  refine pb_aload_n (pc := 59) d_FileMaker_putEnd_59 1 rfl rfl ?_
  refine pb_get (pc := 60) d_FileMaker_putEnd_60 0 0 rfl rfl (by decide) in_FileMaker k_292 rfl ?_
  refine pb_iload_n (pc := 63) d_FileMaker_putEnd_63 3 rfl rfl ?_
  refine pb_callV (pc := 64) (I := i_FileMaker_putEnd) (qb := 1) (ci := 0) (nA := 1) (rest := []) (wr := [(h, .inr (6, [.ref mm, .ref mr]))]) d_FileMaker_putEnd_64 (g_Row_putFour hl G mm mb 14006 f_40 s_39 d (by first | (with_reducible assumption) | omega (splitDisjunctions := false) | assumption | omega | decide) (by first | (with_reducible assumption) | omega (splitDisjunctions := false) | assumption | omega | decide) (by first | (with_reducible assumption) | omega (splitDisjunctions := false) | assumption | omega | decide) fh43) rfl rfl [1, 2] [0] (by decide) rfl rfl rfl (by decide) (by decide) k_547 rfl k_119 k_544 k_545 k_546 ⟨rfl, hy_Row_putFour⟩ (by decide) rfl rfl (Nat.le_of_ble_eq_true rfl) (by decide) (fun v9 u45 ch44 => ?_)
  obtain ⟨s_46, f_47⟩ := u45
  obtain ⟨ech44, ch44⟩ := ch44
  have ech44 : v9 = none := ech44
  subst ech44
  obtain ⟨fh48, fh49, fh50⟩ : (s_46.toInt = s_39.toInt + 4) ∧ (ap_ f_40 s_39.toInt f_47 s_46.toInt (nk_ d.toInt 4)) ∧ (sb_Fit f_47) := ch44
  have aK := ap_app h0 aK fh49
  refine pb_eq (pc' := 67) (lo' := [(3, .int i1), (0, .ref h), (1, .int n), (2, .int d)]) (rest' := []) (ws' := [(h, .inr (6, [.ref mm, .ref mr])), (mm, .inr (0, [.ref mb, .int s_46])), (mb, .inl (G.2.1, 14006, .inl f_47))]) ?_
  refine pb_aload_n (pc := 67) d_FileMaker_putEnd_67 1 rfl rfl ?_
  refine pb_get (pc := 68) d_FileMaker_putEnd_68 0 0 rfl rfl (by decide) in_FileMaker k_292 rfl ?_
  refine pb_iconst (pc := 71) (v := 0) d_FileMaker_putEnd_71 (by decide) ?_
  refine pb_callV (pc := 72) (I := i_FileMaker_putEnd) (qb := 1) (ci := 0) (nA := 1) (rest := []) (wr := [(h, .inr (6, [.ref mm, .ref mr]))]) d_FileMaker_putEnd_72 (g_Row_putTwo hl G mm mb 14006 f_47 s_46 0 (by first | (with_reducible assumption) | omega (splitDisjunctions := false) | assumption | omega | decide) (by first | (with_reducible assumption) | omega (splitDisjunctions := false) | assumption | omega | decide) (by first | (with_reducible assumption) | omega (splitDisjunctions := false) | assumption | omega | decide) fh50) rfl rfl [1, 2] [0] (by decide) rfl rfl rfl (by decide) (by decide) k_551 rfl k_119 k_556 k_549 k_550 ⟨rfl, hy_Row_putTwo⟩ (by decide) rfl rfl (Nat.le_of_ble_eq_true rfl) (by decide) (fun v9 u52 ch51 => ?_)
  obtain ⟨s_53, f_54⟩ := u52
  obtain ⟨ech51, ch51⟩ := ch51
  have ech51 : v9 = none := ech51
  subst ech51
  obtain ⟨fh55, fh56, fh57⟩ : (s_53.toInt = s_46.toInt + 2) ∧ (ap_ f_47 s_46.toInt f_54 s_53.toInt (nk_ (0 : Int32).toInt 2)) ∧ (sb_Fit f_54) := ch51
  have aK := ap_app h0 aK fh56
  refine pb_eq (pc' := 75) (lo' := [(3, .int i1), (0, .ref h), (1, .int n), (2, .int d)]) (rest' := []) (ws' := [(h, .inr (6, [.ref mm, .ref mr])), (mm, .inr (0, [.ref mb, .int s_53])), (mb, .inl (G.2.1, 14006, .inl f_54))]) ?_
  exact pb_vret (pc := 75) hQ d_FileMaker_putEnd_75 rfl (s_53, f_54) ⟨rfl, (by (try dsimp only); first | done | (with_reducible assumption) | omega (splitDisjunctions := false) | assumption | omega | decide), (show ap_ f s.toInt f_54 s_53.toInt (fE_ n.toInt (s.toInt - d.toInt) d.toInt) from (ap_e aK (by rw [eSz]; exact fE_E (by first | decide | omega) (by first | decide | omega) (by first | decide | omega) (by first | decide | omega)))), fh57⟩ [0, 1, 2] (by decide) rfl rfl (by decide) (by decide)

theorem d_FileMaker_putEntry_0 : decode prog_4_method_4_code 0 = .ok (.aload_n 0, 1) := by decide +kernel
theorem d_FileMaker_putEntry_1 : decode prog_4_method_4_code 1 = .ok (.getfield 14, 3) := by decide +kernel
theorem d_FileMaker_putEntry_4 : decode prog_4_method_4_code 4 = .ok (.ldc 86, 2) := by decide +kernel
theorem k_570 : (Jvm.Cond.constant "PackageBook$FileMaker" (86 : Nat) (33639248 : Int32)) ∈ uW := uW_c1 213 rfl (by decide +kernel)
theorem d_FileMaker_putEntry_6 : decode prog_4_method_4_code 6 = .ok (.invokevirtual 66, 3) := by decide +kernel
theorem d_FileMaker_putEntry_9 : decode prog_4_method_4_code 9 = .ok (.aload_n 0, 1) := by decide +kernel
theorem d_FileMaker_putEntry_10 : decode prog_4_method_4_code 10 = .ok (.getfield 14, 3) := by decide +kernel
theorem d_FileMaker_putEntry_13 : decode prog_4_method_4_code 13 = .ok (.bipush 20, 2) := by decide +kernel
theorem d_FileMaker_putEntry_15 : decode prog_4_method_4_code 15 = .ok (.invokevirtual 69, 3) := by decide +kernel
theorem d_FileMaker_putEntry_18 : decode prog_4_method_4_code 18 = .ok (.aload_n 0, 1) := by decide +kernel
theorem d_FileMaker_putEntry_19 : decode prog_4_method_4_code 19 = .ok (.getfield 14, 3) := by decide +kernel
theorem d_FileMaker_putEntry_22 : decode prog_4_method_4_code 22 = .ok (.aload_n 0, 1) := by decide +kernel
theorem d_FileMaker_putEntry_23 : decode prog_4_method_4_code 23 = .ok (.getfield 14, 3) := by decide +kernel
theorem d_FileMaker_putEntry_26 : decode prog_4_method_4_code 26 = .ok (.getfield 85, 3) := by decide +kernel
theorem k_158 : (Jvm.Cond.fieldLinkNest "PackageBook$FileMaker" (85 : Nat) "PackageBook$Row" "bytes" "[B" "PackageBook") ∈ uN := uN_c0 41 rfl (by decide +kernel)
theorem d_FileMaker_putEntry_29 : decode prog_4_method_4_code 29 = .ok (.aload_n 0, 1) := by decide +kernel
theorem d_FileMaker_putEntry_30 : decode prog_4_method_4_code 30 = .ok (.getfield 20, 3) := by decide +kernel
theorem d_FileMaker_putEntry_33 : decode prog_4_method_4_code 33 = .ok (.iload_n 2, 1) := by decide +kernel
theorem d_FileMaker_putEntry_34 : decode prog_4_method_4_code 34 = .ok (.iaload, 1) := by decide +kernel
theorem d_FileMaker_putEntry_35 : decode prog_4_method_4_code 35 = .ok (.iconst 4, 1) := by decide +kernel
theorem d_FileMaker_putEntry_36 : decode prog_4_method_4_code 36 = .ok (.iadd, 1) := by decide +kernel
theorem d_FileMaker_putEntry_37 : decode prog_4_method_4_code 37 = .ok (.bipush 26, 2) := by decide +kernel
theorem d_FileMaker_putEntry_39 : decode prog_4_method_4_code 39 = .ok (.invokevirtual 82, 3) := by decide +kernel
theorem k_561 : (Jvm.Cond.methodLink "PackageBook$FileMaker" (82 : Nat) ({ cls := "PackageBook$Row", name := "putBytes", desc := "([BII)V" } : Jvm.MethodName)) ∈ uW := uW_c1 204 rfl (by decide +kernel)
theorem d_FileMaker_putEntry_42 : decode prog_4_method_4_code 42 = .ok (.aload_n 0, 1) := by decide +kernel
theorem d_FileMaker_putEntry_43 : decode prog_4_method_4_code 43 = .ok (.getfield 14, 3) := by decide +kernel
theorem d_FileMaker_putEntry_46 : decode prog_4_method_4_code 46 = .ok (.iconst 0, 1) := by decide +kernel
theorem d_FileMaker_putEntry_47 : decode prog_4_method_4_code 47 = .ok (.invokevirtual 69, 3) := by decide +kernel
theorem d_FileMaker_putEntry_50 : decode prog_4_method_4_code 50 = .ok (.aload_n 0, 1) := by decide +kernel
theorem d_FileMaker_putEntry_51 : decode prog_4_method_4_code 51 = .ok (.getfield 14, 3) := by decide +kernel
theorem d_FileMaker_putEntry_54 : decode prog_4_method_4_code 54 = .ok (.iconst 0, 1) := by decide +kernel
theorem d_FileMaker_putEntry_55 : decode prog_4_method_4_code 55 = .ok (.invokevirtual 69, 3) := by decide +kernel
theorem d_FileMaker_putEntry_58 : decode prog_4_method_4_code 58 = .ok (.aload_n 0, 1) := by decide +kernel
theorem d_FileMaker_putEntry_59 : decode prog_4_method_4_code 59 = .ok (.getfield 14, 3) := by decide +kernel
theorem d_FileMaker_putEntry_62 : decode prog_4_method_4_code 62 = .ok (.iconst 0, 1) := by decide +kernel
theorem d_FileMaker_putEntry_63 : decode prog_4_method_4_code 63 = .ok (.invokevirtual 69, 3) := by decide +kernel
theorem d_FileMaker_putEntry_66 : decode prog_4_method_4_code 66 = .ok (.aload_n 0, 1) := by decide +kernel
theorem d_FileMaker_putEntry_67 : decode prog_4_method_4_code 67 = .ok (.getfield 14, 3) := by decide +kernel
theorem d_FileMaker_putEntry_70 : decode prog_4_method_4_code 70 = .ok (.iconst 0, 1) := by decide +kernel
theorem d_FileMaker_putEntry_71 : decode prog_4_method_4_code 71 = .ok (.invokevirtual 66, 3) := by decide +kernel
theorem d_FileMaker_putEntry_74 : decode prog_4_method_4_code 74 = .ok (.aload_n 0, 1) := by decide +kernel
theorem d_FileMaker_putEntry_75 : decode prog_4_method_4_code 75 = .ok (.getfield 14, 3) := by decide +kernel
theorem d_FileMaker_putEntry_78 : decode prog_4_method_4_code 78 = .ok (.aload_n 0, 1) := by decide +kernel
theorem d_FileMaker_putEntry_79 : decode prog_4_method_4_code 79 = .ok (.getfield 20, 3) := by decide +kernel
theorem d_FileMaker_putEntry_82 : decode prog_4_method_4_code 82 = .ok (.iload_n 2, 1) := by decide +kernel
theorem d_FileMaker_putEntry_83 : decode prog_4_method_4_code 83 = .ok (.iaload, 1) := by decide +kernel
theorem d_FileMaker_putEntry_84 : decode prog_4_method_4_code 84 = .ok (.invokevirtual 66, 3) := by decide +kernel
theorem d_FileMaker_putEntry_87 : decode prog_4_method_4_code 87 = .ok (.aload_n 0, 1) := by decide +kernel
theorem d_FileMaker_putEntry_88 : decode prog_4_method_4_code 88 = .ok (.getfield 14, 3) := by decide +kernel
theorem d_FileMaker_putEntry_91 : decode prog_4_method_4_code 91 = .ok (.aload_n 1, 1) := by decide +kernel
theorem d_FileMaker_putEntry_92 : decode prog_4_method_4_code 92 = .ok (.getfield 79, 3) := by decide +kernel
theorem k_390 : (Jvm.Cond.fieldLinkNest "PackageBook$FileMaker" (79 : Nat) "PackageBook$Shelf" "names" "[B" "PackageBook") ∈ uN := uN_c1 33 rfl (by decide +kernel)
theorem d_FileMaker_putEntry_95 : decode prog_4_method_4_code 95 = .ok (.bipush 24, 2) := by decide +kernel
theorem d_FileMaker_putEntry_97 : decode prog_4_method_4_code 97 = .ok (.iload_n 2, 1) := by decide +kernel
theorem d_FileMaker_putEntry_98 : decode prog_4_method_4_code 98 = .ok (.imul, 1) := by decide +kernel
theorem d_FileMaker_putEntry_99 : decode prog_4_method_4_code 99 = .ok (.aload_n 1, 1) := by decide +kernel
theorem d_FileMaker_putEntry_100 : decode prog_4_method_4_code 100 = .ok (.getfield 76, 3) := by decide +kernel
theorem k_393 : (Jvm.Cond.fieldLinkNest "PackageBook$FileMaker" (76 : Nat) "PackageBook$Shelf" "nameSizes" "[I" "PackageBook") ∈ uN := uN_c1 36 rfl (by decide +kernel)
theorem d_FileMaker_putEntry_103 : decode prog_4_method_4_code 103 = .ok (.iload_n 2, 1) := by decide +kernel
theorem d_FileMaker_putEntry_104 : decode prog_4_method_4_code 104 = .ok (.iaload, 1) := by decide +kernel
theorem d_FileMaker_putEntry_105 : decode prog_4_method_4_code 105 = .ok (.invokevirtual 82, 3) := by decide +kernel
theorem d_FileMaker_putEntry_108 : decode prog_4_method_4_code 108 = .ok (.return_, 1) := by decide +kernel
abbrev y_FileMaker_putEntry : MethodName := ⟨"PackageBook$FileMaker", "putEntry", "(LPackageBook$Shelf;I)V"⟩
abbrev i_FileMaker_putEntry : pb_I := (y_FileMaker_putEntry, prog_4_method_4_code, 3, (Option.none : Option Jvm.ClassFile.FieldType), [], { frames := 3, cells := 0, slots := 0, locals := 83 })
set_option maxRecDepth 100000 in
set_option maxHeartbeats 4000000 in
theorem g_Mk_putEntry {l : Launch} (hl : l.stackTraces = false) (G : pb_G) (h : Nat) (mm : Nat) (mr : Nat) (mb : Nat) (f : Nat → Int32) (s : Int32) (fr : Nat → Int32) (sp : Nat) (tn : Nat) (tz : Nat) (tb : Nat) (tg : Nat) (c : Int32) (tfn : Nat → Int32) (tfz : Nat → Int32) (tfg : Nat → Int32) (i : Int32) (V : VW_) (P9 : List Int32) (I : sh_I c.toInt tfz tfg) (h0 : 0 ≤ s.toInt) (h1 : s.toInt + 70 ≤ 14006) (h2 : 0 ≤ i.toInt) (h3 : i.toInt < c.toInt) (h4 : 0 ≤ gx fr i.toInt) (h5 : gx fr i.toInt ≤ 13000) (R : rN_ c.toInt tfn tfz V) (hS : bl_ f (gx fr i.toInt + 4) 26 = sh_ V i.toInt P9) (hS2 : gx fr i.toInt + 30 ≤ s.toInt) (F_f : sb_Fit f) (F_tfn : sb_Fit tfn) : Cn l G i_FileMaker_putEntry [.ref h, .ref sp, .int i] [(h, .inr (6, [.ref mm, .ref mr])), (mm, .inr (0, [.ref mb, .int s])), (mb, .inl (G.2.1, 14006, .inl f)), (mr, .inl (G.2.2.1, 16, .inl fr)), (sp, .inr (3, [.ref tn, .ref tz, .ref tb, .ref tg, .int c])), (tn, .inl (G.2.1, 384, .inl tfn)), (tz, .inl (G.2.2.1, 16, .inl tfz))] (S := Int32 × (Nat → Int32)) (fun rv_ u => rv_ = none ∧ (s.toInt ≤ u.1.toInt) ∧ (u.1.toInt ≤ s.toInt + 70) ∧ (ap_ f s.toInt u.2 u.1.toInt (en_L V i.toInt P9 (gx fr i.toInt))) ∧ (sb_Fit u.2)) (fun u => [(h, .inr (6, [.ref mm, .ref mr])), (mm, .inr (0, [.ref mb, .int u.1])), (mb, .inl (G.2.1, 14006, .inl u.2)), (mr, .inl (G.2.2.1, 16, .inl fr)), (sp, .inr (3, [.ref tn, .ref tz, .ref tb, .ref tg, .int c])), (tn, .inl (G.2.1, 384, .inl tfn)), (tz, .inl (G.2.2.1, 16, .inl tfz))]) := by
  refine Cn.of hl (by decide +kernel) rfl (Nat.le_of_ble_eq_true rfl) (fun M hQ => ?_)
  refine pb_eq (pc' := 0) (lo' := [(0, .ref h), (1, .ref sp), (2, .int i)]) (rest' := []) (ws' := [(h, .inr (6, [.ref mm, .ref mr])), (mm, .inr (0, [.ref mb, .int s])), (mb, .inl (G.2.1, 14006, .inl f)), (mr, .inl (G.2.2.1, 16, .inl fr)), (sp, .inr (3, [.ref tn, .ref tz, .ref tb, .ref tg, .int c])), (tn, .inl (G.2.1, 384, .inl tfn)), (tz, .inl (G.2.2.1, 16, .inl tfz))]) ?_
  have zl0 : (0 : Int32).toInt = 0 := by decide
  have zl1 : (1 : Int32).toInt = 1 := by decide
  have zl4 : (4 : Int32).toInt = 4 := by decide
  have zl20 : (20 : Int32).toInt = 20 := by decide
  have zl24 : (24 : Int32).toInt = 24 := by decide
  have zl26 : (26 : Int32).toInt = 26 := by decide
  have p2 := I.2.1
  have p5 := I.2.2.2.2 i.toInt (by omega) (by omega)
  have aK := ap_nil (f := f) (s := s.toInt) (t := s.toInt) rfl
  refine pb_aload_n (pc := 0) d_FileMaker_putEntry_0 0 rfl rfl ?_
  refine pb_get (pc := 1) d_FileMaker_putEntry_1 0 0 rfl rfl (by decide) in_FileMaker k_292 rfl ?_
  refine pb_ldc (pc := 4) (v := 33639248) d_FileMaker_putEntry_4 k_570 ?_
  refine pb_callV (pc := 6) (I := i_FileMaker_putEntry) (qb := 1) (ci := 0) (nA := 1) (rest := []) (wr := [(h, .inr (6, [.ref mm, .ref mr])), (mr, .inl (G.2.2.1, 16, .inl fr)), (sp, .inr (3, [.ref tn, .ref tz, .ref tb, .ref tg, .int c])), (tn, .inl (G.2.1, 384, .inl tfn)), (tz, .inl (G.2.2.1, 16, .inl tfz))]) d_FileMaker_putEntry_6 (g_Row_putFour hl G mm mb 14006 f s 33639248 (by first | (with_reducible assumption) | omega (splitDisjunctions := false) | assumption | omega | decide) (by first | (with_reducible assumption) | omega (splitDisjunctions := false) | assumption | omega | decide) (by first | (with_reducible assumption) | omega (splitDisjunctions := false) | assumption | omega | decide) F_f) rfl rfl [1, 2] [0, 3, 4, 5, 6] (by decide) rfl rfl rfl (by decide) (by decide) k_547 rfl k_119 k_544 k_545 k_546 ⟨rfl, hy_Row_putFour⟩ (by decide) rfl rfl (Nat.le_of_ble_eq_true rfl) (by decide) (fun v9 u2 ch1 => ?_)
  obtain ⟨s_3, f_4⟩ := u2
  obtain ⟨ech1, ch1⟩ := ch1
  have ech1 : v9 = none := ech1
  subst ech1
  obtain ⟨fh5, fh6, fh7⟩ : (s_3.toInt = s.toInt + 4) ∧ (ap_ f s.toInt f_4 s_3.toInt (nk_ (33639248 : Int32).toInt 4)) ∧ (sb_Fit f_4) := ch1
  have aK := ap_app h0 aK fh6
  refine pb_eq (pc' := 9) (lo' := [(0, .ref h), (1, .ref sp), (2, .int i)]) (rest' := []) (ws' := [(h, .inr (6, [.ref mm, .ref mr])), (mr, .inl (G.2.2.1, 16, .inl fr)), (sp, .inr (3, [.ref tn, .ref tz, .ref tb, .ref tg, .int c])), (tn, .inl (G.2.1, 384, .inl tfn)), (tz, .inl (G.2.2.1, 16, .inl tfz)), (mm, .inr (0, [.ref mb, .int s_3])), (mb, .inl (G.2.1, 14006, .inl f_4))]) ?_
  refine pb_aload_n (pc := 9) d_FileMaker_putEntry_9 0 rfl rfl ?_
  refine pb_get (pc := 10) d_FileMaker_putEntry_10 0 0 rfl rfl (by decide) in_FileMaker k_292 rfl ?_
  refine pb_bipush (pc := 13) (v := 20) d_FileMaker_putEntry_13 (by decide) ?_
  refine pb_callV (pc := 15) (I := i_FileMaker_putEntry) (qb := 5) (ci := 0) (nA := 1) (rest := []) (wr := [(h, .inr (6, [.ref mm, .ref mr])), (mr, .inl (G.2.2.1, 16, .inl fr)), (sp, .inr (3, [.ref tn, .ref tz, .ref tb, .ref tg, .int c])), (tn, .inl (G.2.1, 384, .inl tfn)), (tz, .inl (G.2.2.1, 16, .inl tfz))]) d_FileMaker_putEntry_15 (g_Row_putTwo hl G mm mb 14006 f_4 s_3 20 (by first | (with_reducible assumption) | omega (splitDisjunctions := false) | assumption | omega | decide) (by first | (with_reducible assumption) | omega (splitDisjunctions := false) | assumption | omega | decide) (by first | (with_reducible assumption) | omega (splitDisjunctions := false) | assumption | omega | decide) fh7) rfl rfl [5, 6] [0, 1, 2, 3, 4] (by decide) rfl rfl rfl (by decide) (by decide) k_551 rfl k_119 k_556 k_549 k_550 ⟨rfl, hy_Row_putTwo⟩ (by decide) rfl rfl (Nat.le_of_ble_eq_true rfl) (by decide) (fun v9 u9 ch8 => ?_)
  obtain ⟨s_10, f_11⟩ := u9
  obtain ⟨ech8, ch8⟩ := ch8
  have ech8 : v9 = none := ech8
  subst ech8
  obtain ⟨fh12, fh13, fh14⟩ : (s_10.toInt = s_3.toInt + 2) ∧ (ap_ f_4 s_3.toInt f_11 s_10.toInt (nk_ (20 : Int32).toInt 2)) ∧ (sb_Fit f_11) := ch8
  have aK := ap_app h0 aK fh13
  refine pb_eq (pc' := 18) (lo' := [(0, .ref h), (1, .ref sp), (2, .int i)]) (rest' := []) (ws' := [(h, .inr (6, [.ref mm, .ref mr])), (mr, .inl (G.2.2.1, 16, .inl fr)), (sp, .inr (3, [.ref tn, .ref tz, .ref tb, .ref tg, .int c])), (tn, .inl (G.2.1, 384, .inl tfn)), (tz, .inl (G.2.2.1, 16, .inl tfz)), (mm, .inr (0, [.ref mb, .int s_10])), (mb, .inl (G.2.1, 14006, .inl f_11))]) ?_
  refine pb_aload_n (pc := 18) d_FileMaker_putEntry_18 0 rfl rfl ?_
  refine pb_get (pc := 19) d_FileMaker_putEntry_19 0 0 rfl rfl (by decide) in_FileMaker k_292 rfl ?_
  refine pb_aload_n (pc := 22) d_FileMaker_putEntry_22 0 rfl rfl ?_
  refine pb_get (pc := 23) d_FileMaker_putEntry_23 0 0 rfl rfl (by decide) in_FileMaker k_292 rfl ?_
  refine pb_getN (pc := 26) d_FileMaker_putEntry_26 5 0 rfl rfl (by decide) in_Row k_158 rfl ?_
  refine pb_aload_n (pc := 29) d_FileMaker_putEntry_29 0 rfl rfl ?_
  refine pb_get (pc := 30) d_FileMaker_putEntry_30 0 1 rfl rfl (by decide) in_FileMaker k_294 rfl ?_
  refine pb_iload_n (pc := 33) d_FileMaker_putEntry_33 2 rfl rfl ?_
  refine pb_iald (pc := 34) d_FileMaker_putEntry_34 1 rfl (vp_in_iff.mpr (by constructor <;> omega)) ?_
  refine pb_topi (fun i15 ei15 => ?_)
  have ti15 : i15.toInt = gx fr (i.toInt) := gx_ld ei15 rfl
  refine pb_iconst (pc := 35) (v := 4) d_FileMaker_putEntry_35 (by decide) ?_
  refine pb_iadd (pc := 36) d_FileMaker_putEntry_36 ?_
  refine pb_topi (fun i16 ei16 => ?_)
  try have ti16 : i16.toInt = i15.toInt + 4 := ti_add ei16 rfl (by decide) (by omega) (by omega)
  refine pb_bipush (pc := 37) (v := 26) d_FileMaker_putEntry_37 (by decide) ?_
  refine pb_callV (pc := 39) (I := i_FileMaker_putEntry) (qb := 5) (ci := 0) (nA := 3) (rest := []) (wr := [(h, .inr (6, [.ref mm, .ref mr])), (mr, .inl (G.2.2.1, 16, .inl fr)), (sp, .inr (3, [.ref tn, .ref tz, .ref tb, .ref tg, .int c])), (tn, .inl (G.2.1, 384, .inl tfn)), (tz, .inl (G.2.2.1, 16, .inl tfz))]) d_FileMaker_putEntry_39 (g_Row_putBytes1 hl G mm mb 14006 f_11 s_10 i16 26 (by first | (with_reducible assumption) | omega (splitDisjunctions := false) | assumption | omega | decide) (by first | (with_reducible assumption) | omega (splitDisjunctions := false) | assumption | omega | decide) (by first | (with_reducible assumption) | omega (splitDisjunctions := false) | assumption | omega | decide) (by first | (with_reducible assumption) | omega (splitDisjunctions := false) | assumption | omega | decide) (by first | (with_reducible assumption) | omega (splitDisjunctions := false) | assumption | omega | decide) (by first | (with_reducible assumption) | omega (splitDisjunctions := false) | assumption | omega | decide) fh14) rfl rfl [5, 6] [0, 1, 2, 3, 4] (by decide) rfl rfl rfl (by decide) (by decide) k_564 rfl k_119 k_561 k_562 k_563 ⟨rfl, hy_Row_putBytes⟩ (by decide) rfl rfl (Nat.le_of_ble_eq_true rfl) (by decide) (fun v9 u18 ch17 => ?_)
  obtain ⟨s_19, f_20⟩ := u18
  obtain ⟨ech17, ch17⟩ := ch17
  have ech17 : v9 = none := ech17
  subst ech17
  obtain ⟨fh21, fh22, fh23, fh24⟩ : (s_19.toInt = s_10.toInt + (26 : Int32).toInt) ∧ (∀ j : Int, 0 ≤ j → gr f_20 j = if s_10.toInt ≤ j ∧ j < s_10.toInt + (26 : Int32).toInt then gr f_11 (i16.toInt + (j - s_10.toInt)) else gr f_11 j) ∧ (ap_ f_11 s_10.toInt f_20 s_19.toInt (bl_ f_11 i16.toInt (26 : Int32).toInt)) ∧ (sb_Fit f_20) := ch17
  have aK := ap_app h0 aK (ap_e fh23 ((bl_cg (by first | omega | decide) (fun k h0 h1 => (aK.2.1 _ (by omega) (by omega)).trans (congrArg (gr f) (by omega)))).trans hS))
  refine pb_eq (pc' := 42) (lo' := [(0, .ref h), (1, .ref sp), (2, .int i)]) (rest' := []) (ws' := [(h, .inr (6, [.ref mm, .ref mr])), (mr, .inl (G.2.2.1, 16, .inl fr)), (sp, .inr (3, [.ref tn, .ref tz, .ref tb, .ref tg, .int c])), (tn, .inl (G.2.1, 384, .inl tfn)), (tz, .inl (G.2.2.1, 16, .inl tfz)), (mm, .inr (0, [.ref mb, .int s_19])), (mb, .inl (G.2.1, 14006, .inl f_20))]) ?_
  refine pb_aload_n (pc := 42) d_FileMaker_putEntry_42 0 rfl rfl ?_
  refine pb_get (pc := 43) d_FileMaker_putEntry_43 0 0 rfl rfl (by decide) in_FileMaker k_292 rfl ?_
  refine pb_iconst (pc := 46) (v := 0) d_FileMaker_putEntry_46 (by decide) ?_
  refine pb_callV (pc := 47) (I := i_FileMaker_putEntry) (qb := 5) (ci := 0) (nA := 1) (rest := []) (wr := [(h, .inr (6, [.ref mm, .ref mr])), (mr, .inl (G.2.2.1, 16, .inl fr)), (sp, .inr (3, [.ref tn, .ref tz, .ref tb, .ref tg, .int c])), (tn, .inl (G.2.1, 384, .inl tfn)), (tz, .inl (G.2.2.1, 16, .inl tfz))]) d_FileMaker_putEntry_47 (g_Row_putTwo hl G mm mb 14006 f_20 s_19 0 (by first | (with_reducible assumption) | omega (splitDisjunctions := false) | assumption | omega | decide) (by first | (with_reducible assumption) | omega (splitDisjunctions := false) | assumption | omega | decide) (by first | (with_reducible assumption) | omega (splitDisjunctions := false) | assumption | omega | decide) fh24) rfl rfl [5, 6] [0, 1, 2, 3, 4] (by decide) rfl rfl rfl (by decide) (by decide) k_551 rfl k_119 k_556 k_549 k_550 ⟨rfl, hy_Row_putTwo⟩ (by decide) rfl rfl (Nat.le_of_ble_eq_true rfl) (by decide) (fun v9 u26 ch25 => ?_)
  obtain ⟨s_27, f_28⟩ := u26
  obtain ⟨ech25, ch25⟩ := ch25
  have ech25 : v9 = none := ech25
  subst ech25
  obtain ⟨fh29, fh30, fh31⟩ : (s_27.toInt = s_19.toInt + 2) ∧ (ap_ f_20 s_19.toInt f_28 s_27.toInt (nk_ (0 : Int32).toInt 2)) ∧ (sb_Fit f_28) := ch25
  have aK := ap_app h0 aK fh30
  refine pb_eq (pc' := 50) (lo' := [(0, .ref h), (1, .ref sp), (2, .int i)]) (rest' := []) (ws' := [(h, .inr (6, [.ref mm, .ref mr])), (mr, .inl (G.2.2.1, 16, .inl fr)), (sp, .inr (3, [.ref tn, .ref tz, .ref tb, .ref tg, .int c])), (tn, .inl (G.2.1, 384, .inl tfn)), (tz, .inl (G.2.2.1, 16, .inl tfz)), (mm, .inr (0, [.ref mb, .int s_27])), (mb, .inl (G.2.1, 14006, .inl f_28))]) ?_
  refine pb_aload_n (pc := 50) d_FileMaker_putEntry_50 0 rfl rfl ?_
  refine pb_get (pc := 51) d_FileMaker_putEntry_51 0 0 rfl rfl (by decide) in_FileMaker k_292 rfl ?_
  refine pb_iconst (pc := 54) (v := 0) d_FileMaker_putEntry_54 (by decide) ?_
  refine pb_callV (pc := 55) (I := i_FileMaker_putEntry) (qb := 5) (ci := 0) (nA := 1) (rest := []) (wr := [(h, .inr (6, [.ref mm, .ref mr])), (mr, .inl (G.2.2.1, 16, .inl fr)), (sp, .inr (3, [.ref tn, .ref tz, .ref tb, .ref tg, .int c])), (tn, .inl (G.2.1, 384, .inl tfn)), (tz, .inl (G.2.2.1, 16, .inl tfz))]) d_FileMaker_putEntry_55 (g_Row_putTwo hl G mm mb 14006 f_28 s_27 0 (by first | (with_reducible assumption) | omega (splitDisjunctions := false) | assumption | omega | decide) (by first | (with_reducible assumption) | omega (splitDisjunctions := false) | assumption | omega | decide) (by first | (with_reducible assumption) | omega (splitDisjunctions := false) | assumption | omega | decide) fh31) rfl rfl [5, 6] [0, 1, 2, 3, 4] (by decide) rfl rfl rfl (by decide) (by decide) k_551 rfl k_119 k_556 k_549 k_550 ⟨rfl, hy_Row_putTwo⟩ (by decide) rfl rfl (Nat.le_of_ble_eq_true rfl) (by decide) (fun v9 u33 ch32 => ?_)
  obtain ⟨s_34, f_35⟩ := u33
  obtain ⟨ech32, ch32⟩ := ch32
  have ech32 : v9 = none := ech32
  subst ech32
  obtain ⟨fh36, fh37, fh38⟩ : (s_34.toInt = s_27.toInt + 2) ∧ (ap_ f_28 s_27.toInt f_35 s_34.toInt (nk_ (0 : Int32).toInt 2)) ∧ (sb_Fit f_35) := ch32
  have aK := ap_app h0 aK fh37
  refine pb_eq (pc' := 58) (lo' := [(0, .ref h), (1, .ref sp), (2, .int i)]) (rest' := []) (ws' := [(h, .inr (6, [.ref mm, .ref mr])), (mr, .inl (G.2.2.1, 16, .inl fr)), (sp, .inr (3, [.ref tn, .ref tz, .ref tb, .ref tg, .int c])), (tn, .inl (G.2.1, 384, .inl tfn)), (tz, .inl (G.2.2.1, 16, .inl tfz)), (mm, .inr (0, [.ref mb, .int s_34])), (mb, .inl (G.2.1, 14006, .inl f_35))]) ?_
  refine pb_aload_n (pc := 58) d_FileMaker_putEntry_58 0 rfl rfl ?_
  refine pb_get (pc := 59) d_FileMaker_putEntry_59 0 0 rfl rfl (by decide) in_FileMaker k_292 rfl ?_
  refine pb_iconst (pc := 62) (v := 0) d_FileMaker_putEntry_62 (by decide) ?_
  refine pb_callV (pc := 63) (I := i_FileMaker_putEntry) (qb := 5) (ci := 0) (nA := 1) (rest := []) (wr := [(h, .inr (6, [.ref mm, .ref mr])), (mr, .inl (G.2.2.1, 16, .inl fr)), (sp, .inr (3, [.ref tn, .ref tz, .ref tb, .ref tg, .int c])), (tn, .inl (G.2.1, 384, .inl tfn)), (tz, .inl (G.2.2.1, 16, .inl tfz))]) d_FileMaker_putEntry_63 (g_Row_putTwo hl G mm mb 14006 f_35 s_34 0 (by first | (with_reducible assumption) | omega (splitDisjunctions := false) | assumption | omega | decide) (by first | (with_reducible assumption) | omega (splitDisjunctions := false) | assumption | omega | decide) (by first | (with_reducible assumption) | omega (splitDisjunctions := false) | assumption | omega | decide) fh38) rfl rfl [5, 6] [0, 1, 2, 3, 4] (by decide) rfl rfl rfl (by decide) (by decide) k_551 rfl k_119 k_556 k_549 k_550 ⟨rfl, hy_Row_putTwo⟩ (by decide) rfl rfl (Nat.le_of_ble_eq_true rfl) (by decide) (fun v9 u40 ch39 => ?_)
  obtain ⟨s_41, f_42⟩ := u40
  obtain ⟨ech39, ch39⟩ := ch39
  have ech39 : v9 = none := ech39
  subst ech39
  obtain ⟨fh43, fh44, fh45⟩ : (s_41.toInt = s_34.toInt + 2) ∧ (ap_ f_35 s_34.toInt f_42 s_41.toInt (nk_ (0 : Int32).toInt 2)) ∧ (sb_Fit f_42) := ch39
  have aK := ap_app h0 aK fh44
  refine pb_eq (pc' := 66) (lo' := [(0, .ref h), (1, .ref sp), (2, .int i)]) (rest' := []) (ws' := [(h, .inr (6, [.ref mm, .ref mr])), (mr, .inl (G.2.2.1, 16, .inl fr)), (sp, .inr (3, [.ref tn, .ref tz, .ref tb, .ref tg, .int c])), (tn, .inl (G.2.1, 384, .inl tfn)), (tz, .inl (G.2.2.1, 16, .inl tfz)), (mm, .inr (0, [.ref mb, .int s_41])), (mb, .inl (G.2.1, 14006, .inl f_42))]) ?_
  refine pb_aload_n (pc := 66) d_FileMaker_putEntry_66 0 rfl rfl ?_
  refine pb_get (pc := 67) d_FileMaker_putEntry_67 0 0 rfl rfl (by decide) in_FileMaker k_292 rfl ?_
  refine pb_iconst (pc := 70) (v := 0) d_FileMaker_putEntry_70 (by decide) ?_
  refine pb_callV (pc := 71) (I := i_FileMaker_putEntry) (qb := 5) (ci := 0) (nA := 1) (rest := []) (wr := [(h, .inr (6, [.ref mm, .ref mr])), (mr, .inl (G.2.2.1, 16, .inl fr)), (sp, .inr (3, [.ref tn, .ref tz, .ref tb, .ref tg, .int c])), (tn, .inl (G.2.1, 384, .inl tfn)), (tz, .inl (G.2.2.1, 16, .inl tfz))]) d_FileMaker_putEntry_71 (g_Row_putFour hl G mm mb 14006 f_42 s_41 0 (by first | (with_reducible assumption) | omega (splitDisjunctions := false) | assumption | omega | decide) (by first | (with_reducible assumption) | omega (splitDisjunctions := false) | assumption | omega | decide) (by first | (with_reducible assumption) | omega (splitDisjunctions := false) | assumption | omega | decide) fh45) rfl rfl [5, 6] [0, 1, 2, 3, 4] (by decide) rfl rfl rfl (by decide) (by decide) k_547 rfl k_119 k_544 k_545 k_546 ⟨rfl, hy_Row_putFour⟩ (by decide) rfl rfl (Nat.le_of_ble_eq_true rfl) (by decide) (fun v9 u47 ch46 => ?_)
  obtain ⟨s_48, f_49⟩ := u47
  obtain ⟨ech46, ch46⟩ := ch46
  have ech46 : v9 = none := ech46
  subst ech46
  obtain ⟨fh50, fh51, fh52⟩ : (s_48.toInt = s_41.toInt + 4) ∧ (ap_ f_42 s_41.toInt f_49 s_48.toInt (nk_ (0 : Int32).toInt 4)) ∧ (sb_Fit f_49) := ch46
  have aK := ap_app h0 aK fh51
  refine pb_eq (pc' := 74) (lo' := [(0, .ref h), (1, .ref sp), (2, .int i)]) (rest' := []) (ws' := [(h, .inr (6, [.ref mm, .ref mr])), (mr, .inl (G.2.2.1, 16, .inl fr)), (sp, .inr (3, [.ref tn, .ref tz, .ref tb, .ref tg, .int c])), (tn, .inl (G.2.1, 384, .inl tfn)), (tz, .inl (G.2.2.1, 16, .inl tfz)), (mm, .inr (0, [.ref mb, .int s_48])), (mb, .inl (G.2.1, 14006, .inl f_49))]) ?_
  refine pb_aload_n (pc := 74) d_FileMaker_putEntry_74 0 rfl rfl ?_
  refine pb_get (pc := 75) d_FileMaker_putEntry_75 0 0 rfl rfl (by decide) in_FileMaker k_292 rfl ?_
  refine pb_aload_n (pc := 78) d_FileMaker_putEntry_78 0 rfl rfl ?_
  refine pb_get (pc := 79) d_FileMaker_putEntry_79 0 1 rfl rfl (by decide) in_FileMaker k_294 rfl ?_
  refine pb_iload_n (pc := 82) d_FileMaker_putEntry_82 2 rfl rfl ?_
  refine pb_iald (pc := 83) d_FileMaker_putEntry_83 1 rfl (vp_in_iff.mpr (by constructor <;> omega)) ?_
  refine pb_topi (fun i53 ei53 => ?_)
  have ti53 : i53.toInt = gx fr (i.toInt) := gx_ld ei53 rfl
  have eRc : i53.toInt = gx fr i.toInt := by omega
  refine pb_callV (pc := 84) (I := i_FileMaker_putEntry) (qb := 5) (ci := 0) (nA := 1) (rest := []) (wr := [(h, .inr (6, [.ref mm, .ref mr])), (mr, .inl (G.2.2.1, 16, .inl fr)), (sp, .inr (3, [.ref tn, .ref tz, .ref tb, .ref tg, .int c])), (tn, .inl (G.2.1, 384, .inl tfn)), (tz, .inl (G.2.2.1, 16, .inl tfz))]) d_FileMaker_putEntry_84 (g_Row_putFour hl G mm mb 14006 f_49 s_48 i53 (by first | (with_reducible assumption) | omega (splitDisjunctions := false) | assumption | omega | decide) (by first | (with_reducible assumption) | omega (splitDisjunctions := false) | assumption | omega | decide) (by first | (with_reducible assumption) | omega (splitDisjunctions := false) | assumption | omega | decide) fh52) rfl rfl [5, 6] [0, 1, 2, 3, 4] (by decide) rfl rfl rfl (by decide) (by decide) k_547 rfl k_119 k_544 k_545 k_546 ⟨rfl, hy_Row_putFour⟩ (by decide) rfl rfl (Nat.le_of_ble_eq_true rfl) (by decide) (fun v9 u55 ch54 => ?_)
  obtain ⟨s_56, f_57⟩ := u55
  obtain ⟨ech54, ch54⟩ := ch54
  have ech54 : v9 = none := ech54
  subst ech54
  obtain ⟨fh58, fh59, fh60⟩ : (s_56.toInt = s_48.toInt + 4) ∧ (ap_ f_49 s_48.toInt f_57 s_56.toInt (nk_ i53.toInt 4)) ∧ (sb_Fit f_57) := ch54
  have aK := ap_app h0 aK fh59
  refine pb_eq (pc' := 87) (lo' := [(0, .ref h), (1, .ref sp), (2, .int i)]) (rest' := []) (ws' := [(h, .inr (6, [.ref mm, .ref mr])), (mr, .inl (G.2.2.1, 16, .inl fr)), (sp, .inr (3, [.ref tn, .ref tz, .ref tb, .ref tg, .int c])), (tn, .inl (G.2.1, 384, .inl tfn)), (tz, .inl (G.2.2.1, 16, .inl tfz)), (mm, .inr (0, [.ref mb, .int s_56])), (mb, .inl (G.2.1, 14006, .inl f_57))]) ?_
  refine pb_aload_n (pc := 87) d_FileMaker_putEntry_87 0 rfl rfl ?_
  refine pb_get (pc := 88) d_FileMaker_putEntry_88 0 0 rfl rfl (by decide) in_FileMaker k_292 rfl ?_
  refine pb_aload_n (pc := 91) d_FileMaker_putEntry_91 1 rfl rfl ?_
  refine pb_getN (pc := 92) d_FileMaker_putEntry_92 2 0 rfl rfl (by decide) in_Shelf k_390 rfl ?_
  refine pb_bipush (pc := 95) (v := 24) d_FileMaker_putEntry_95 (by decide) ?_
  refine pb_iload_n (pc := 97) d_FileMaker_putEntry_97 2 rfl rfl ?_
  refine pb_imul (pc := 98) d_FileMaker_putEntry_98 ?_
  refine pb_topi (fun i61 ei61 => ?_)
  try have ti61 : i61.toInt = 24 * i.toInt := ti_mul ei61 (by decide) rfl (by omega) (by omega)
  refine pb_aload_n (pc := 99) d_FileMaker_putEntry_99 1 rfl rfl ?_
  refine pb_getN (pc := 100) d_FileMaker_putEntry_100 2 1 rfl rfl (by decide) in_Shelf k_393 rfl ?_
  refine pb_iload_n (pc := 103) d_FileMaker_putEntry_103 2 rfl rfl ?_
  refine pb_iald (pc := 104) d_FileMaker_putEntry_104 4 rfl (vp_in_iff.mpr (by constructor <;> omega)) ?_
  refine pb_topi (fun i62 ei62 => ?_)
  have ti62 : i62.toInt = gx tfz (i.toInt) := gx_ld ei62 rfl
  have eNz : i62.toInt = vZ V i.toInt := by have q9 := (R.2 i.toInt (by omega) (by omega)).1; omega
  have eNx : i61.toInt = 24 * i.toInt := by omega
  refine pb_callV (pc := 105) (I := i_FileMaker_putEntry) (qb := 5) (ci := 0) (nA := 3) (rest := []) (wr := [(h, .inr (6, [.ref mm, .ref mr])), (mr, .inl (G.2.2.1, 16, .inl fr)), (sp, .inr (3, [.ref tn, .ref tz, .ref tb, .ref tg, .int c])), (tz, .inl (G.2.2.1, 16, .inl tfz))]) d_FileMaker_putEntry_105 (g_Row_putBytes hl G mm mb 14006 f_57 s_56 tn 384 tfn i61 i62 (by first | (with_reducible assumption) | omega (splitDisjunctions := false) | assumption | omega | decide) (by first | (with_reducible assumption) | omega (splitDisjunctions := false) | assumption | omega | decide) (by first | (with_reducible assumption) | (exact omg_055b9d50e1 h1 zl26 p5 fh5 fh12 fh21 fh29 fh36 fh43 fh50 fh58 ti62) | assumption | omega | decide) (by first | (with_reducible assumption) | omega (splitDisjunctions := false) | assumption | omega | decide) (by first | (with_reducible assumption) | omega (splitDisjunctions := false) | assumption | omega | decide) (by first | (with_reducible assumption) | omega (splitDisjunctions := false) | assumption | omega | decide) (by first | (with_reducible assumption) | omega (splitDisjunctions := false) | assumption | omega | decide) fh60 F_tfn) rfl rfl [5, 6, 3] [0, 1, 2, 4] (by decide) rfl rfl rfl (by decide) (by decide) k_564 rfl k_119 k_561 k_562 k_563 ⟨rfl, hy_Row_putBytes⟩ (by decide) rfl rfl (Nat.le_of_ble_eq_true rfl) (by decide) (fun v9 u64 ch63 => ?_)
  obtain ⟨s_65, f_66⟩ := u64
  obtain ⟨ech63, ch63⟩ := ch63
  have ech63 : v9 = none := ech63
  subst ech63
  obtain ⟨fh67, fh68, fh69, fh70⟩ : (s_65.toInt = s_56.toInt + i62.toInt) ∧ (∀ j : Int, 0 ≤ j → gr f_66 j = if s_56.toInt ≤ j ∧ j < s_56.toInt + i62.toInt then gr tfn (i61.toInt + (j - s_56.toInt)) else gr f_57 j) ∧ (ap_ f_57 s_56.toInt f_66 s_65.toInt (bl_ tfn i61.toInt i62.toInt)) ∧ (sb_Fit f_66) := ch63
  have aK := ap_app h0 aK fh69
  refine pb_eq (pc' := 108) (lo' := [(0, .ref h), (1, .ref sp), (2, .int i)]) (rest' := []) (ws' := [(h, .inr (6, [.ref mm, .ref mr])), (mr, .inl (G.2.2.1, 16, .inl fr)), (sp, .inr (3, [.ref tn, .ref tz, .ref tb, .ref tg, .int c])), (tz, .inl (G.2.2.1, 16, .inl tfz)), (mm, .inr (0, [.ref mb, .int s_65])), (mb, .inl (G.2.1, 14006, .inl f_66)), (tn, .inl (G.2.1, 384, .inl tfn))]) ?_
  exact pb_vret (pc := 108) hQ d_FileMaker_putEntry_108 rfl (s_65, f_66) ⟨rfl, (by (try dsimp only); first | done | (with_reducible assumption) | (exact omg_be203c1c1f zl26 p5 fh5 fh12 fh21 fh29 fh36 fh43 fh50 fh58 ti62 fh67) | assumption | omega | decide), (by (try dsimp only); first | done | (with_reducible assumption) | omega (splitDisjunctions := false) | assumption | omega | decide), (show ap_ f s.toInt f_66 s_65.toInt (en_L V i.toInt P9 (gx fr i.toInt)) from (ap_e aK (by rw [eRc]; exact en_E (by first | decide | omega) (by first | decide | omega) rfl (by first | decide | omega) (by first | decide | omega) (by first | decide | omega) (by first | decide | omega) (NL_bl eNz (fun k h0 h1 => (by rw [eNx]; exact (R.2 i.toInt (by omega) (by omega)).2 k h0 h1)))))), fh70⟩ [0, 4, 5, 1, 2, 6, 3] (by decide) rfl rfl (by decide) (by decide)

theorem d_FileMaker_putRecord_0 : decode prog_4_method_3_code 0 = .ok (.aload_n 1, 1) := by decide +kernel
theorem d_FileMaker_putRecord_1 : decode prog_4_method_3_code 1 = .ok (.getfield 45, 3) := by decide +kernel
theorem k_401 : (Jvm.Cond.fieldLinkNest "PackageBook$FileMaker" (45 : Nat) "PackageBook$Shelf" "begins" "[I" "PackageBook") ∈ uN := uN_c1 44 rfl (by decide +kernel)
theorem d_FileMaker_putRecord_4 : decode prog_4_method_3_code 4 = .ok (.iload_n 2, 1) := by decide +kernel
theorem d_FileMaker_putRecord_5 : decode prog_4_method_3_code 5 = .ok (.iaload, 1) := by decide +kernel
theorem d_FileMaker_putRecord_6 : decode prog_4_method_3_code 6 = .ok (.istore 4, 2) := by decide +kernel
theorem d_FileMaker_putRecord_8 : decode prog_4_method_3_code 8 = .ok (.aload_n 1, 1) := by decide +kernel
theorem d_FileMaker_putRecord_9 : decode prog_4_method_3_code 9 = .ok (.iload_n 2, 1) := by decide +kernel
theorem d_FileMaker_putRecord_10 : decode prog_4_method_3_code 10 = .ok (.invokevirtual 48, 3) := by decide +kernel
theorem k_497 : (Jvm.Cond.methodLink "PackageBook$FileMaker" (48 : Nat) ({ cls := "PackageBook$Shelf", name := "sizeOf", desc := "(I)I" } : Jvm.MethodName)) ∈ uW := uW_c1 140 rfl (by decide +kernel)
theorem d_FileMaker_putRecord_13 : decode prog_4_method_3_code 13 = .ok (.istore 5, 2) := by decide +kernel
theorem d_FileMaker_putRecord_15 : decode prog_4_method_3_code 15 = .ok (.aload_n 3, 1) := by decide +kernel
theorem d_FileMaker_putRecord_16 : decode prog_4_method_3_code 16 = .ok (.aload_n 1, 1) := by decide +kernel
theorem d_FileMaker_putRecord_17 : decode prog_4_method_3_code 17 = .ok (.getfield 52, 3) := by decide +kernel
theorem k_397 : (Jvm.Cond.fieldLinkNest "PackageBook$FileMaker" (52 : Nat) "PackageBook$Shelf" "bytes" "[B" "PackageBook") ∈ uN := uN_c1 40 rfl (by decide +kernel)
theorem d_FileMaker_putRecord_20 : decode prog_4_method_3_code 20 = .ok (.iload 4, 2) := by decide +kernel
theorem d_FileMaker_putRecord_22 : decode prog_4_method_3_code 22 = .ok (.iload 5, 2) := by decide +kernel
theorem d_FileMaker_putRecord_24 : decode prog_4_method_3_code 24 = .ok (.invokevirtual 56, 3) := by decide +kernel
theorem k_498 : (Jvm.Cond.methodLink "PackageBook$FileMaker" (56 : Nat) ({ cls := "PackageBook$Presser", name := "run", desc := "([BII)V" } : Jvm.MethodName)) ∈ uW := uW_c1 141 rfl (by decide +kernel)
theorem k_501 : (Jvm.Cond.code ({ cls := "PackageBook$Presser", name := "run", desc := "([BII)V" } : Jvm.MethodName) prog_8_method_2_code (6 : Nat) (Option.none : Option Jvm.ClassFile.FieldType)) ∈ uW := uW_c1 144 rfl (by decide +kernel)
theorem k_499 : (Jvm.Cond.instanceMethod ({ cls := "PackageBook$Presser", name := "run", desc := "([BII)V" } : Jvm.MethodName)) ∈ uW := uW_c1 142 rfl (by decide +kernel)
theorem k_500 : (Jvm.Cond.selects "PackageBook$Presser" ({ cls := "PackageBook$Presser", name := "run", desc := "([BII)V" } : Jvm.MethodName) ({ cls := "PackageBook$Presser", name := "run", desc := "([BII)V" } : Jvm.MethodName)) ∈ uW := uW_c1 143 rfl (by decide +kernel)
theorem hy_Presser_run : (y_Presser_run).cls ≠ "java/lang/invoke/MethodHandle" ∧ (y_Presser_run).cls ≠ "java/lang/invoke/VarHandle" ∧ (parseMethodDescriptor (y_Presser_run).desc).map (fun d => d.parameters.length) = some 3 := by decide +kernel
theorem d_FileMaker_putRecord_27 : decode prog_4_method_3_code 27 = .ok (.aload_n 3, 1) := by decide +kernel
theorem d_FileMaker_putRecord_28 : decode prog_4_method_3_code 28 = .ok (.getfield 62, 3) := by decide +kernel
theorem k_182 : (Jvm.Cond.fieldLinkNest "PackageBook$FileMaker" (62 : Nat) "PackageBook$Presser" "pressed" "LPackageBook$Row;" "PackageBook") ∈ uN := uN_c0 65 rfl (by decide +kernel)
theorem d_FileMaker_putRecord_31 : decode prog_4_method_3_code 31 = .ok (.getfield 24, 3) := by decide +kernel
theorem d_FileMaker_putRecord_34 : decode prog_4_method_3_code 34 = .ok (.iload 5, 2) := by decide +kernel
theorem d_FileMaker_putRecord_36 : decode prog_4_method_3_code 36 = .ok (.if_icmp .ge 7, 3) := by decide +kernel
theorem d_FileMaker_putRecord_43 : decode prog_4_method_3_code 43 = .ok (.iconst 0, 1) := by decide +kernel
theorem d_FileMaker_putRecord_44 : decode prog_4_method_3_code 44 = .ok (.istore 6, 2) := by decide +kernel
theorem d_FileMaker_putRecord_46 : decode prog_4_method_3_code 46 = .ok (.aload_n 0, 1) := by decide +kernel
theorem d_FileMaker_putRecord_47 : decode prog_4_method_3_code 47 = .ok (.getfield 14, 3) := by decide +kernel
theorem d_FileMaker_putRecord_50 : decode prog_4_method_3_code 50 = .ok (.ldc 65, 2) := by decide +kernel
theorem k_543 : (Jvm.Cond.constant "PackageBook$FileMaker" (65 : Nat) (67324752 : Int32)) ∈ uW := uW_c1 186 rfl (by decide +kernel)
theorem d_FileMaker_putRecord_52 : decode prog_4_method_3_code 52 = .ok (.invokevirtual 66, 3) := by decide +kernel
theorem d_FileMaker_putRecord_55 : decode prog_4_method_3_code 55 = .ok (.aload_n 0, 1) := by decide +kernel
theorem d_FileMaker_putRecord_56 : decode prog_4_method_3_code 56 = .ok (.getfield 14, 3) := by decide +kernel
theorem d_FileMaker_putRecord_59 : decode prog_4_method_3_code 59 = .ok (.bipush 20, 2) := by decide +kernel
theorem d_FileMaker_putRecord_61 : decode prog_4_method_3_code 61 = .ok (.invokevirtual 69, 3) := by decide +kernel
theorem d_FileMaker_putRecord_64 : decode prog_4_method_3_code 64 = .ok (.aload_n 0, 1) := by decide +kernel
theorem d_FileMaker_putRecord_65 : decode prog_4_method_3_code 65 = .ok (.getfield 14, 3) := by decide +kernel
theorem d_FileMaker_putRecord_68 : decode prog_4_method_3_code 68 = .ok (.iconst 0, 1) := by decide +kernel
theorem d_FileMaker_putRecord_69 : decode prog_4_method_3_code 69 = .ok (.invokevirtual 69, 3) := by decide +kernel
theorem d_FileMaker_putRecord_72 : decode prog_4_method_3_code 72 = .ok (.aload_n 0, 1) := by decide +kernel
theorem d_FileMaker_putRecord_73 : decode prog_4_method_3_code 73 = .ok (.getfield 14, 3) := by decide +kernel
theorem d_FileMaker_putRecord_76 : decode prog_4_method_3_code 76 = .ok (.iload 6, 2) := by decide +kernel
theorem d_FileMaker_putRecord_78 : decode prog_4_method_3_code 78 = .ok (.ifCond .eq 8, 3) := by decide +kernel
theorem d_FileMaker_putRecord_86 : decode prog_4_method_3_code 86 = .ok (.iconst 0, 1) := by decide +kernel
theorem d_FileMaker_putRecord_87 : decode prog_4_method_3_code 87 = .ok (.invokevirtual 69, 3) := by decide +kernel
theorem d_FileMaker_putRecord_90 : decode prog_4_method_3_code 90 = .ok (.aload_n 0, 1) := by decide +kernel
theorem d_FileMaker_putRecord_91 : decode prog_4_method_3_code 91 = .ok (.getfield 14, 3) := by decide +kernel
theorem d_FileMaker_putRecord_94 : decode prog_4_method_3_code 94 = .ok (.iconst 0, 1) := by decide +kernel
theorem d_FileMaker_putRecord_95 : decode prog_4_method_3_code 95 = .ok (.invokevirtual 69, 3) := by decide +kernel
theorem d_FileMaker_putRecord_98 : decode prog_4_method_3_code 98 = .ok (.aload_n 0, 1) := by decide +kernel
theorem d_FileMaker_putRecord_99 : decode prog_4_method_3_code 99 = .ok (.getfield 14, 3) := by decide +kernel
theorem d_FileMaker_putRecord_102 : decode prog_4_method_3_code 102 = .ok (.bipush 33, 2) := by decide +kernel
theorem d_FileMaker_putRecord_104 : decode prog_4_method_3_code 104 = .ok (.invokevirtual 69, 3) := by decide +kernel
theorem d_FileMaker_putRecord_107 : decode prog_4_method_3_code 107 = .ok (.aload_n 0, 1) := by decide +kernel
theorem d_FileMaker_putRecord_108 : decode prog_4_method_3_code 108 = .ok (.getfield 14, 3) := by decide +kernel
theorem d_FileMaker_putRecord_111 : decode prog_4_method_3_code 111 = .ok (.aload_n 1, 1) := by decide +kernel
theorem d_FileMaker_putRecord_112 : decode prog_4_method_3_code 112 = .ok (.getfield 52, 3) := by decide +kernel
theorem d_FileMaker_putRecord_115 : decode prog_4_method_3_code 115 = .ok (.iload 4, 2) := by decide +kernel
theorem d_FileMaker_putRecord_117 : decode prog_4_method_3_code 117 = .ok (.iload 5, 2) := by decide +kernel
theorem d_FileMaker_putRecord_119 : decode prog_4_method_3_code 119 = .ok (.invokestatic 72, 3) := by decide +kernel
theorem k_557 : (Jvm.Cond.methodLinkNest "PackageBook$FileMaker" (72 : Nat) ({ cls := "PackageBook", name := "sumOf", desc := "([BII)I" } : Jvm.MethodName) "PackageBook") ∈ uN := uN_c1 200 rfl (by decide +kernel)
theorem k_559 : (Jvm.Cond.code ({ cls := "PackageBook", name := "sumOf", desc := "([BII)I" } : Jvm.MethodName) prog_1_method_29_code (7 : Nat) (Option.some Jvm.ClassFile.FieldType.int)) ∈ uW := uW_c1 202 rfl (by decide +kernel)
theorem k_558 : (Jvm.Cond.static ({ cls := "PackageBook", name := "sumOf", desc := "([BII)I" } : Jvm.MethodName)) ∈ uW := uW_c1 201 rfl (by decide +kernel)
theorem hy_Book_sumOf : (y_Book_sumOf).cls ≠ "java/lang/invoke/MethodHandle" ∧ (y_Book_sumOf).cls ≠ "java/lang/invoke/VarHandle" ∧ (parseMethodDescriptor (y_Book_sumOf).desc).map (fun d => d.parameters.length) = some 3 := by decide +kernel
theorem d_FileMaker_putRecord_122 : decode prog_4_method_3_code 122 = .ok (.invokevirtual 66, 3) := by decide +kernel
theorem d_FileMaker_putRecord_125 : decode prog_4_method_3_code 125 = .ok (.aload_n 0, 1) := by decide +kernel
theorem d_FileMaker_putRecord_126 : decode prog_4_method_3_code 126 = .ok (.getfield 14, 3) := by decide +kernel
theorem d_FileMaker_putRecord_129 : decode prog_4_method_3_code 129 = .ok (.iload 6, 2) := by decide +kernel
theorem d_FileMaker_putRecord_131 : decode prog_4_method_3_code 131 = .ok (.ifCond .eq 13, 3) := by decide +kernel
theorem d_FileMaker_putRecord_144 : decode prog_4_method_3_code 144 = .ok (.iload 5, 2) := by decide +kernel
theorem d_FileMaker_putRecord_146 : decode prog_4_method_3_code 146 = .ok (.invokevirtual 66, 3) := by decide +kernel
theorem d_FileMaker_putRecord_149 : decode prog_4_method_3_code 149 = .ok (.aload_n 0, 1) := by decide +kernel
theorem d_FileMaker_putRecord_150 : decode prog_4_method_3_code 150 = .ok (.getfield 14, 3) := by decide +kernel
theorem d_FileMaker_putRecord_153 : decode prog_4_method_3_code 153 = .ok (.iload 5, 2) := by decide +kernel
theorem d_FileMaker_putRecord_155 : decode prog_4_method_3_code 155 = .ok (.invokevirtual 66, 3) := by decide +kernel
theorem d_FileMaker_putRecord_158 : decode prog_4_method_3_code 158 = .ok (.aload_n 0, 1) := by decide +kernel
theorem d_FileMaker_putRecord_159 : decode prog_4_method_3_code 159 = .ok (.getfield 14, 3) := by decide +kernel
theorem d_FileMaker_putRecord_162 : decode prog_4_method_3_code 162 = .ok (.aload_n 1, 1) := by decide +kernel
theorem d_FileMaker_putRecord_163 : decode prog_4_method_3_code 163 = .ok (.getfield 76, 3) := by decide +kernel
theorem d_FileMaker_putRecord_166 : decode prog_4_method_3_code 166 = .ok (.iload_n 2, 1) := by decide +kernel
theorem d_FileMaker_putRecord_167 : decode prog_4_method_3_code 167 = .ok (.iaload, 1) := by decide +kernel
theorem d_FileMaker_putRecord_168 : decode prog_4_method_3_code 168 = .ok (.invokevirtual 69, 3) := by decide +kernel
theorem d_FileMaker_putRecord_171 : decode prog_4_method_3_code 171 = .ok (.aload_n 0, 1) := by decide +kernel
theorem d_FileMaker_putRecord_172 : decode prog_4_method_3_code 172 = .ok (.getfield 14, 3) := by decide +kernel
theorem d_FileMaker_putRecord_175 : decode prog_4_method_3_code 175 = .ok (.iconst 0, 1) := by decide +kernel
theorem d_FileMaker_putRecord_176 : decode prog_4_method_3_code 176 = .ok (.invokevirtual 69, 3) := by decide +kernel
theorem d_FileMaker_putRecord_179 : decode prog_4_method_3_code 179 = .ok (.aload_n 0, 1) := by decide +kernel
theorem d_FileMaker_putRecord_180 : decode prog_4_method_3_code 180 = .ok (.getfield 14, 3) := by decide +kernel
theorem d_FileMaker_putRecord_183 : decode prog_4_method_3_code 183 = .ok (.aload_n 1, 1) := by decide +kernel
theorem d_FileMaker_putRecord_184 : decode prog_4_method_3_code 184 = .ok (.getfield 79, 3) := by decide +kernel
theorem d_FileMaker_putRecord_187 : decode prog_4_method_3_code 187 = .ok (.bipush 24, 2) := by decide +kernel
theorem d_FileMaker_putRecord_189 : decode prog_4_method_3_code 189 = .ok (.iload_n 2, 1) := by decide +kernel
theorem d_FileMaker_putRecord_190 : decode prog_4_method_3_code 190 = .ok (.imul, 1) := by decide +kernel
theorem d_FileMaker_putRecord_191 : decode prog_4_method_3_code 191 = .ok (.aload_n 1, 1) := by decide +kernel
theorem d_FileMaker_putRecord_192 : decode prog_4_method_3_code 192 = .ok (.getfield 76, 3) := by decide +kernel
theorem d_FileMaker_putRecord_195 : decode prog_4_method_3_code 195 = .ok (.iload_n 2, 1) := by decide +kernel
theorem d_FileMaker_putRecord_196 : decode prog_4_method_3_code 196 = .ok (.iaload, 1) := by decide +kernel
theorem d_FileMaker_putRecord_197 : decode prog_4_method_3_code 197 = .ok (.invokevirtual 82, 3) := by decide +kernel
theorem d_FileMaker_putRecord_200 : decode prog_4_method_3_code 200 = .ok (.iload 6, 2) := by decide +kernel
theorem d_FileMaker_putRecord_202 : decode prog_4_method_3_code 202 = .ok (.ifCond .eq 28, 3) := by decide +kernel
theorem d_FileMaker_putRecord_230 : decode prog_4_method_3_code 230 = .ok (.aload_n 0, 1) := by decide +kernel
theorem d_FileMaker_putRecord_231 : decode prog_4_method_3_code 231 = .ok (.getfield 14, 3) := by decide +kernel
theorem d_FileMaker_putRecord_234 : decode prog_4_method_3_code 234 = .ok (.aload_n 1, 1) := by decide +kernel
theorem d_FileMaker_putRecord_235 : decode prog_4_method_3_code 235 = .ok (.getfield 52, 3) := by decide +kernel
theorem d_FileMaker_putRecord_238 : decode prog_4_method_3_code 238 = .ok (.iload 4, 2) := by decide +kernel
theorem d_FileMaker_putRecord_240 : decode prog_4_method_3_code 240 = .ok (.iload 5, 2) := by decide +kernel
theorem d_FileMaker_putRecord_242 : decode prog_4_method_3_code 242 = .ok (.invokevirtual 82, 3) := by decide +kernel
theorem d_FileMaker_putRecord_245 : decode prog_4_method_3_code 245 = .ok (.return_, 1) := by decide +kernel
theorem d_FileMaker_putRecord_39 : decode prog_4_method_3_code 39 = .ok (.iconst 1, 1) := by decide +kernel
theorem d_FileMaker_putRecord_40 : decode prog_4_method_3_code 40 = .ok (.goto 4, 3) := by decide +kernel
theorem d_FileMaker_putRecord_81 : decode prog_4_method_3_code 81 = .ok (.bipush 8, 2) := by decide +kernel
theorem d_FileMaker_putRecord_83 : decode prog_4_method_3_code 83 = .ok (.goto 4, 3) := by decide +kernel
theorem d_FileMaker_putRecord_134 : decode prog_4_method_3_code 134 = .ok (.aload_n 3, 1) := by decide +kernel
theorem d_FileMaker_putRecord_135 : decode prog_4_method_3_code 135 = .ok (.getfield 62, 3) := by decide +kernel
theorem d_FileMaker_putRecord_138 : decode prog_4_method_3_code 138 = .ok (.getfield 24, 3) := by decide +kernel
theorem d_FileMaker_putRecord_141 : decode prog_4_method_3_code 141 = .ok (.goto 5, 3) := by decide +kernel
theorem d_FileMaker_putRecord_205 : decode prog_4_method_3_code 205 = .ok (.aload_n 0, 1) := by decide +kernel
theorem d_FileMaker_putRecord_206 : decode prog_4_method_3_code 206 = .ok (.getfield 14, 3) := by decide +kernel
theorem d_FileMaker_putRecord_209 : decode prog_4_method_3_code 209 = .ok (.aload_n 3, 1) := by decide +kernel
theorem d_FileMaker_putRecord_210 : decode prog_4_method_3_code 210 = .ok (.getfield 62, 3) := by decide +kernel
theorem d_FileMaker_putRecord_213 : decode prog_4_method_3_code 213 = .ok (.getfield 85, 3) := by decide +kernel
theorem d_FileMaker_putRecord_216 : decode prog_4_method_3_code 216 = .ok (.iconst 0, 1) := by decide +kernel
theorem d_FileMaker_putRecord_217 : decode prog_4_method_3_code 217 = .ok (.aload_n 3, 1) := by decide +kernel
theorem d_FileMaker_putRecord_218 : decode prog_4_method_3_code 218 = .ok (.getfield 62, 3) := by decide +kernel
theorem d_FileMaker_putRecord_221 : decode prog_4_method_3_code 221 = .ok (.getfield 24, 3) := by decide +kernel
theorem d_FileMaker_putRecord_224 : decode prog_4_method_3_code 224 = .ok (.invokevirtual 82, 3) := by decide +kernel
theorem d_FileMaker_putRecord_227 : decode prog_4_method_3_code 227 = .ok (.goto 18, 3) := by decide +kernel
abbrev y_FileMaker_putRecord : MethodName := ⟨"PackageBook$FileMaker", "putRecord", "(LPackageBook$Shelf;ILPackageBook$Presser;)V"⟩
abbrev i_FileMaker_putRecord : pb_I := (y_FileMaker_putRecord, prog_4_method_3_code, 7, (Option.none : Option Jvm.ClassFile.FieldType), [], { frames := 4, cells := 0, slots := 0, locals := 91 })
set_option maxRecDepth 100000 in
set_option maxHeartbeats 4000000 in
theorem g_Mk_putRecord {l : Launch} (hl : l.stackTraces = false) (G : pb_G) (h : Nat) (mm : Nat) (mr : Nat) (mb : Nat) (f : Nat → Int32) (s : Int32) (sp : Nat) (tn : Nat) (tz : Nat) (tb : Nat) (tg : Nat) (c : Int32) (tfn : Nat → Int32) (tfz : Nat → Int32) (tfb : Nat → Int32) (tfg : Nat → Int32) (q : Nat) (pp : Nat) (pl : Nat) (pe : Nat) (pr : Nat) (pb : Nat) (bg : Int32) (sz : Int32) (bt : Int32) (ln : Int32) (ds : Int32) (ps : Int32) (pf : Nat → Int32) (fl : Nat → Int32) (fe : Nat → Int32) (i : Int32) (V : VW_) (I : sh_I c.toInt tfz tfg) (h0 : 0 ≤ s.toInt) (h1 : s.toInt + 54 + (gx tfg (i.toInt + 1) - gx tfg i.toInt) ≤ 14006) (h2 : 0 ≤ i.toInt) (h3 : i.toInt < c.toInt) (R : rC_ c.toInt tfn tfz tfb tfg V) (F_f : sb_Fit f) (F_tfn : sb_Fit tfn) (F_tfb : sb_Fit tfb) (F_pf : sb_Fit pf) : Cn l G i_FileMaker_putRecord [.ref h, .ref sp, .int i, .ref q] [(h, .inr (6, [.ref mm, .ref mr])), (mm, .inr (0, [.ref mb, .int s])), (mb, .inl (G.2.1, 14006, .inl f)), (sp, .inr (3, [.ref tn, .ref tz, .ref tb, .ref tg, .int c])), (tn, .inl (G.2.1, 384, .inl tfn)), (tz, .inl (G.2.2.1, 16, .inl tfz)), (tb, .inl (G.2.1, 12000, .inl tfb)), (tg, .inl (G.2.2.1, 17, .inl tfg)), (q, .inr (4, [.ref pp, .ref pl, .ref pe, .ref pr, .int bg, .int sz, .int bt, .int ln, .int ds])), (pp, .inr (0, [.ref pb, .int ps])), (pb, .inl (G.2.1, 4502, .inl pf)), (pl, .inl (G.2.2.1, 1024, .inl fl)), (pe, .inl (G.2.2.1, 4000, .inl fe))] (S := Int32 × (Nat → Int32) × Nat × Int32 × Int32 × Int32 × Int32 × Int32 × Int32 × (Nat → Int32) × (Nat → Int32) × (Nat → Int32)) (fun rv_ u => rv_ = none ∧ (s.toInt ≤ u.1.toInt) ∧ (u.1.toInt ≤ s.toInt + 54 + (gx tfg (i.toInt + 1) - gx tfg i.toInt)) ∧ (hid_ (∃ P : List Int32, PR_ (sD_ V i.toInt) (vS V i.toInt) P ∧ ap_ f s.toInt u.2.1 u.1.toInt (rc_ V i.toInt P))) ∧ (sb_Fit u.2.1) ∧ (sb_Fit u.2.2.2.2.2.2.2.2.2.1)) (fun u => [(h, .inr (6, [.ref mm, .ref mr])), (mm, .inr (0, [.ref mb, .int u.1])), (mb, .inl (G.2.1, 14006, .inl u.2.1)), (sp, .inr (3, [.ref tn, .ref tz, .ref tb, .ref tg, .int c])), (tn, .inl (G.2.1, 384, .inl tfn)), (tz, .inl (G.2.2.1, 16, .inl tfz)), (tb, .inl (G.2.1, 12000, .inl tfb)), (tg, .inl (G.2.2.1, 17, .inl tfg)), (q, .inr (4, [.ref pp, .ref pl, .ref pe, .ref u.2.2.1, .int u.2.2.2.1, .int u.2.2.2.2.1, .int u.2.2.2.2.2.1, .int u.2.2.2.2.2.2.1, .int u.2.2.2.2.2.2.2.1])), (pp, .inr (0, [.ref pb, .int u.2.2.2.2.2.2.2.2.1])), (pb, .inl (G.2.1, 4502, .inl u.2.2.2.2.2.2.2.2.2.1)), (pl, .inl (G.2.2.1, 1024, .inl u.2.2.2.2.2.2.2.2.2.2.1)), (pe, .inl (G.2.2.1, 4000, .inl u.2.2.2.2.2.2.2.2.2.2.2))]) := by
  refine Cn.of hl (by decide +kernel) rfl (Nat.le_of_ble_eq_true rfl) (fun M hQ => ?_)
  refine pb_eq (pc' := 0) (lo' := [(0, .ref h), (1, .ref sp), (2, .int i), (3, .ref q)]) (rest' := []) (ws' := [(h, .inr (6, [.ref mm, .ref mr])), (mm, .inr (0, [.ref mb, .int s])), (mb, .inl (G.2.1, 14006, .inl f)), (sp, .inr (3, [.ref tn, .ref tz, .ref tb, .ref tg, .int c])), (tn, .inl (G.2.1, 384, .inl tfn)), (tz, .inl (G.2.2.1, 16, .inl tfz)), (tb, .inl (G.2.1, 12000, .inl tfb)), (tg, .inl (G.2.2.1, 17, .inl tfg)), (q, .inr (4, [.ref pp, .ref pl, .ref pe, .ref pr, .int bg, .int sz, .int bt, .int ln, .int ds])), (pp, .inr (0, [.ref pb, .int ps])), (pb, .inl (G.2.1, 4502, .inl pf)), (pl, .inl (G.2.2.1, 1024, .inl fl)), (pe, .inl (G.2.2.1, 4000, .inl fe))]) ?_
  have zl0 : (0 : Int32).toInt = 0 := by decide
  have zl1 : (1 : Int32).toInt = 1 := by decide
  have zl8 : (8 : Int32).toInt = 8 := by decide
  have zl20 : (20 : Int32).toInt = 20 := by decide
  have zl24 : (24 : Int32).toInt = 24 := by decide
  have zl33 : (33 : Int32).toInt = 33 := by decide
  have Ri := R.2 i.toInt (by omega) (by omega)
  have Rz := Ri.1
  have Rs := Ri.2.1
  have aK := ap_nil (f := f) (s := s.toInt) (t := s.toInt) rfl
  have p2 := I.2.1
  have p5 := I.2.2.2.2 i.toInt (by omega) (by omega)
  have p6 := sh_rng I (k := i.toInt) (by omega) (by omega)
  have p7 := sh_rng I (k := i.toInt + 1) (by omega) (by omega)
  refine pb_aload_n (pc := 0) d_FileMaker_putRecord_0 1 rfl rfl ?_
  refine pb_getN (pc := 1) d_FileMaker_putRecord_1 3 3 rfl rfl (by decide) in_Shelf k_401 rfl ?_
  refine pb_iload_n (pc := 4) d_FileMaker_putRecord_4 2 rfl rfl ?_
  refine pb_iald (pc := 5) d_FileMaker_putRecord_5 7 rfl (vp_in_iff.mpr (by constructor <;> omega)) ?_
  refine pb_topi (fun i1 ei1 => ?_)
  have ti1 : i1.toInt = gx tfg (i.toInt) := gx_ld ei1 rfl
  refine pb_istore (pc := 6) (lo' := [(4, .int i1), (0, .ref h), (1, .ref sp), (2, .int i), (3, .ref q)]) d_FileMaker_putRecord_6 (by decide) rfl ?_
  refine pb_aload_n (pc := 8) d_FileMaker_putRecord_8 2 rfl rfl ?_
  refine pb_iload_n (pc := 9) d_FileMaker_putRecord_9 3 rfl rfl ?_
  refine pb_callV (pc := 10) (I := i_FileMaker_putRecord) (qb := 3) (ci := 3) (nA := 1) (rest := []) (wr := [(h, .inr (6, [.ref mm, .ref mr])), (mm, .inr (0, [.ref mb, .int s])), (mb, .inl (G.2.1, 14006, .inl f)), (tn, .inl (G.2.1, 384, .inl tfn)), (tz, .inl (G.2.2.1, 16, .inl tfz)), (tb, .inl (G.2.1, 12000, .inl tfb)), (q, .inr (4, [.ref pp, .ref pl, .ref pe, .ref pr, .int bg, .int sz, .int bt, .int ln, .int ds])), (pp, .inr (0, [.ref pb, .int ps])), (pb, .inl (G.2.1, 4502, .inl pf)), (pl, .inl (G.2.2.1, 1024, .inl fl)), (pe, .inl (G.2.2.1, 4000, .inl fe))]) d_FileMaker_putRecord_10 (g_Shelf_sizeOf hl G sp tn tz tb tg c tfz tfg i (by first | (with_reducible assumption) | omega (splitDisjunctions := false) | assumption | omega | decide) (by first | (with_reducible assumption) | omega (splitDisjunctions := false) | assumption | omega | decide) (by first | (with_reducible assumption) | omega (splitDisjunctions := false) | assumption | omega | decide)) rfl rfl [3, 7] [0, 1, 2, 4, 5, 6, 8, 9, 10, 11, 12] (by decide) rfl rfl rfl (by decide) (by decide) k_477 rfl k_127 k_497 k_475 k_476 ⟨rfl, hy_Shelf_sizeOf⟩ (by decide) rfl rfl (Nat.le_of_ble_eq_true rfl) (by decide) (fun v9 u3 ch2 => ?_)
  obtain ⟨r_4, rfl⟩ : ∃ z9, z9 = u3 := ⟨_, rfl⟩
  obtain ⟨ech2, ch2⟩ := ch2
  have ech2 : v9 = some (.int r_4) := ech2
  subst ech2
  obtain ⟨fh5, fh6, fh7⟩ : (r_4.toInt = gx tfg (i.toInt + 1) - gx tfg i.toInt) ∧ (0 ≤ r_4.toInt) ∧ (r_4.toInt ≤ 4000) := ch2
  refine pb_eq (pc' := 13) (lo' := [(4, .int i1), (0, .ref h), (1, .ref sp), (2, .int i), (3, .ref q)]) (rest' := [.int r_4]) (ws' := [(h, .inr (6, [.ref mm, .ref mr])), (mm, .inr (0, [.ref mb, .int s])), (mb, .inl (G.2.1, 14006, .inl f)), (tn, .inl (G.2.1, 384, .inl tfn)), (tz, .inl (G.2.2.1, 16, .inl tfz)), (tb, .inl (G.2.1, 12000, .inl tfb)), (q, .inr (4, [.ref pp, .ref pl, .ref pe, .ref pr, .int bg, .int sz, .int bt, .int ln, .int ds])), (pp, .inr (0, [.ref pb, .int ps])), (pb, .inl (G.2.1, 4502, .inl pf)), (pl, .inl (G.2.2.1, 1024, .inl fl)), (pe, .inl (G.2.2.1, 4000, .inl fe)), (sp, .inr (3, [.ref tn, .ref tz, .ref tb, .ref tg, .int c])), (tg, .inl (G.2.2.1, 17, .inl tfg))]) ?_
  refine pb_istore (pc := 13) (lo' := [(5, .int r_4), (4, .int i1), (0, .ref h), (1, .ref sp), (2, .int i), (3, .ref q)]) d_FileMaker_putRecord_13 (by decide) rfl ?_
  refine pb_aload_n (pc := 15) d_FileMaker_putRecord_15 5 rfl rfl ?_
  refine pb_aload_n (pc := 16) d_FileMaker_putRecord_16 3 rfl rfl ?_
  refine pb_getN (pc := 17) d_FileMaker_putRecord_17 11 2 rfl rfl (by decide) in_Shelf k_397 rfl ?_
  refine pb_iload (pc := 20) d_FileMaker_putRecord_20 1 rfl ?_
  refine pb_iload (pc := 22) d_FileMaker_putRecord_22 0 rfl ?_
  refine pb_callV (pc := 24) (I := i_FileMaker_putRecord) (qb := 6) (ci := 4) (nA := 3) (rest := []) (wr := [(h, .inr (6, [.ref mm, .ref mr])), (mm, .inr (0, [.ref mb, .int s])), (mb, .inl (G.2.1, 14006, .inl f)), (tn, .inl (G.2.1, 384, .inl tfn)), (tz, .inl (G.2.2.1, 16, .inl tfz)), (sp, .inr (3, [.ref tn, .ref tz, .ref tb, .ref tg, .int c])), (tg, .inl (G.2.2.1, 17, .inl tfg))]) d_FileMaker_putRecord_24 (g_Pr_run hl G q pp pl pe pr pb bg sz bt ln ds tb 12000 pf tfb fl fe ps i1 r_4 (by first | (with_reducible assumption) | omega (splitDisjunctions := false) | assumption | omega | decide) (by first | (with_reducible assumption) | omega (splitDisjunctions := false) | assumption | omega | decide) (by first | (with_reducible assumption) | omega (splitDisjunctions := false) | assumption | omega | decide) (by first | (with_reducible assumption) | omega (splitDisjunctions := false) | assumption | omega | decide) (by first | (with_reducible assumption) | omega (splitDisjunctions := false) | assumption | omega | decide) F_pf F_tfb) rfl rfl [6, 7, 8, 9, 10, 5] [0, 1, 2, 3, 4, 11, 12] (by decide) rfl rfl rfl (by decide) (by decide) k_501 rfl k_120 k_498 k_499 k_500 ⟨rfl, hy_Presser_run⟩ (by decide) rfl rfl (Nat.le_of_ble_eq_true rfl) (by decide) (fun v9 u9 ch8 => ?_)
  obtain ⟨b_10, l_11, d_12, p_13, f_14, fl_15, fe_16⟩ := u9
  obtain ⟨ech8, ch8⟩ := ch8
  have ech8 : v9 = none := ech8
  subst ech8
  obtain ⟨fh17, fh18, fh19, fh20, fh21⟩ : (0 ≤ p_13.toInt) ∧ (p_13.toInt ≤ 4502) ∧ (pt_F (sq tfb i1.toInt r_4.toInt) r_4.toInt p_13.toInt) ∧ (pF_ (sq tfb i1.toInt r_4.toInt) r_4.toInt f_14 p_13.toInt) ∧ (sb_Fit f_14) := ch8
  have pPF := fh20
  obtain ⟨z9, ez9⟩ : ∃ z : Int, z = p_13.toInt := ⟨_, rfl⟩
  obtain ⟨P9, eP9⟩ : ∃ z : List Int32, z = bl_ f_14 0 p_13.toInt := ⟨_, rfl⟩
  have eL9 : z9 = (P9.length : Int) := by rw [eP9, bl_len]; omega
  have nS9 : r_4.toInt = vS V i.toInt := by omega
  have bB9 : ∀ k : Int, 0 ≤ k → k < vS V i.toInt → gr tfb (i1.toInt + k) = vD V i.toInt k := fun k h0 h1 => by rw [show i1.toInt = gx tfg i.toInt by omega]; exact Ri.2.2.2 k h0 h1
  rw [sD_sq nS9 bB9, nS9] at pPF
  have prF := PR_of pPF (by omega)
  rw [← eP9] at prF
  have pE9 : ∀ n9 : Int, n9 = z9 → bl_ f_14 (0 : Int32).toInt n9 = P9 := fun n9 h9 => by rw [eP9]; exact bl_cg (by (exact omg_99b4580df8 ez9 h9)) (fun k _ _ => congrArg (gr _) (by rw [zl0]))
  have dE9 : ∀ x9 n9 : Int, x9 = gx tfg i.toInt → n9 = vS V i.toInt → bl_ tfb x9 n9 = DL_ V i.toInt := fun x9 n9 h8 h9 => DL_bl h9 (fun k h0 h1 => by rw [h8]; exact Ri.2.2.2 k h0 h1)
  refine pb_eq (pc' := 27) (lo' := [(5, .int r_4), (4, .int i1), (0, .ref h), (1, .ref sp), (2, .int i), (3, .ref q)]) (rest' := []) (ws' := [(h, .inr (6, [.ref mm, .ref mr])), (mm, .inr (0, [.ref mb, .int s])), (mb, .inl (G.2.1, 14006, .inl f)), (tn, .inl (G.2.1, 384, .inl tfn)), (tz, .inl (G.2.2.1, 16, .inl tfz)), (sp, .inr (3, [.ref tn, .ref tz, .ref tb, .ref tg, .int c])), (tg, .inl (G.2.2.1, 17, .inl tfg)), (q, .inr (4, [.ref pp, .ref pl, .ref pe, .ref tb, .int i1, .int r_4, .int b_10, .int l_11, .int d_12])), (pp, .inr (0, [.ref pb, .int p_13])), (pb, .inl (G.2.1, 4502, .inl f_14)), (pl, .inl (G.2.2.1, 1024, .inl fl_15)), (pe, .inl (G.2.2.1, 4000, .inl fe_16)), (tb, .inl (G.2.1, 12000, .inl tfb))]) ?_
  refine pb_aload_n (pc := 27) d_FileMaker_putRecord_27 5 rfl rfl ?_
  refine pb_getN (pc := 28) d_FileMaker_putRecord_28 7 0 rfl rfl (by decide) in_Presser k_182 rfl ?_
  refine pb_getN (pc := 31) d_FileMaker_putRecord_31 8 1 rfl rfl (by decide) in_Row k_163 rfl ?_
  refine pb_iload (pc := 34) d_FileMaker_putRecord_34 0 rfl ?_
  refine pb_icmp_ge (pc := 36) (tgt := 43) d_FileMaker_putRecord_36 (by decide) (fun w22 => ?_) (fun w22 => ?_)
  · have tw22 : r_4.toInt ≤ p_13.toInt := (ti_le rfl rfl).mp w22
    refine pb_iconst (pc := 43) (v := 0) d_FileMaker_putRecord_43 (by decide) ?_
    refine pb_istore (pc := 44) (lo' := [(6, .int 0), (5, .int r_4), (4, .int i1), (0, .ref h), (1, .ref sp), (2, .int i), (3, .ref q)]) d_FileMaker_putRecord_44 (by decide) rfl ?_
    refine pb_aload_n (pc := 46) d_FileMaker_putRecord_46 3 rfl rfl ?_
    refine pb_get (pc := 47) d_FileMaker_putRecord_47 0 0 rfl rfl (by decide) in_FileMaker k_292 rfl ?_
    refine pb_ldc (pc := 50) (v := 67324752) d_FileMaker_putRecord_50 k_543 ?_
    refine pb_callV (pc := 52) (I := i_FileMaker_putRecord) (qb := 1) (ci := 0) (nA := 1) (rest := []) (wr := [(h, .inr (6, [.ref mm, .ref mr])), (tn, .inl (G.2.1, 384, .inl tfn)), (tz, .inl (G.2.2.1, 16, .inl tfz)), (sp, .inr (3, [.ref tn, .ref tz, .ref tb, .ref tg, .int c])), (tg, .inl (G.2.2.1, 17, .inl tfg)), (q, .inr (4, [.ref pp, .ref pl, .ref pe, .ref tb, .int i1, .int r_4, .int b_10, .int l_11, .int d_12])), (pp, .inr (0, [.ref pb, .int p_13])), (pb, .inl (G.2.1, 4502, .inl f_14)), (pl, .inl (G.2.2.1, 1024, .inl fl_15)), (pe, .inl (G.2.2.1, 4000, .inl fe_16)), (tb, .inl (G.2.1, 12000, .inl tfb))]) d_FileMaker_putRecord_52 (g_Row_putFour hl G mm mb 14006 f s 67324752 (by first | (with_reducible assumption) | omega (splitDisjunctions := false) | assumption | omega | decide) (by first | (with_reducible assumption) | omega (splitDisjunctions := false) | assumption | omega | decide) (by first | (with_reducible assumption) | omega (splitDisjunctions := false) | assumption | omega | decide) F_f) rfl rfl [1, 2] [0, 3, 4, 5, 6, 7, 8, 9, 10, 11, 12] (by decide) rfl rfl rfl (by decide) (by decide) k_547 rfl k_119 k_544 k_545 k_546 ⟨rfl, hy_Row_putFour⟩ (by decide) rfl rfl (Nat.le_of_ble_eq_true rfl) (by decide) (fun v9 u24 ch23 => ?_)
    obtain ⟨s_25, f_26⟩ := u24
    obtain ⟨ech23, ch23⟩ := ch23
    have ech23 : v9 = none := ech23
    subst ech23
    obtain ⟨fh27, fh28, fh29⟩ : (s_25.toInt = s.toInt + 4) ∧ (ap_ f s.toInt f_26 s_25.toInt (nk_ (67324752 : Int32).toInt 4)) ∧ (sb_Fit f_26) := ch23
    have aK := ap_app h0 aK fh28
    refine pb_eq (pc' := 55) (lo' := [(6, .int 0), (5, .int r_4), (4, .int i1), (0, .ref h), (1, .ref sp), (2, .int i), (3, .ref q)]) (rest' := []) (ws' := [(h, .inr (6, [.ref mm, .ref mr])), (tn, .inl (G.2.1, 384, .inl tfn)), (tz, .inl (G.2.2.1, 16, .inl tfz)), (sp, .inr (3, [.ref tn, .ref tz, .ref tb, .ref tg, .int c])), (tg, .inl (G.2.2.1, 17, .inl tfg)), (q, .inr (4, [.ref pp, .ref pl, .ref pe, .ref tb, .int i1, .int r_4, .int b_10, .int l_11, .int d_12])), (pp, .inr (0, [.ref pb, .int p_13])), (pb, .inl (G.2.1, 4502, .inl f_14)), (pl, .inl (G.2.2.1, 1024, .inl fl_15)), (pe, .inl (G.2.2.1, 4000, .inl fe_16)), (tb, .inl (G.2.1, 12000, .inl tfb)), (mm, .inr (0, [.ref mb, .int s_25])), (mb, .inl (G.2.1, 14006, .inl f_26))]) ?_
    refine pb_aload_n (pc := 55) d_FileMaker_putRecord_55 3 rfl rfl ?_
    refine pb_get (pc := 56) d_FileMaker_putRecord_56 0 0 rfl rfl (by decide) in_FileMaker k_292 rfl ?_
    refine pb_bipush (pc := 59) (v := 20) d_FileMaker_putRecord_59 (by decide) ?_
    refine pb_callV (pc := 61) (I := i_FileMaker_putRecord) (qb := 11) (ci := 0) (nA := 1) (rest := []) (wr := [(h, .inr (6, [.ref mm, .ref mr])), (tn, .inl (G.2.1, 384, .inl tfn)), (tz, .inl (G.2.2.1, 16, .inl tfz)), (sp, .inr (3, [.ref tn, .ref tz, .ref tb, .ref tg, .int c])), (tg, .inl (G.2.2.1, 17, .inl tfg)), (q, .inr (4, [.ref pp, .ref pl, .ref pe, .ref tb, .int i1, .int r_4, .int b_10, .int l_11, .int d_12])), (pp, .inr (0, [.ref pb, .int p_13])), (pb, .inl (G.2.1, 4502, .inl f_14)), (pl, .inl (G.2.2.1, 1024, .inl fl_15)), (pe, .inl (G.2.2.1, 4000, .inl fe_16)), (tb, .inl (G.2.1, 12000, .inl tfb))]) d_FileMaker_putRecord_61 (g_Row_putTwo hl G mm mb 14006 f_26 s_25 20 (by first | (with_reducible assumption) | omega (splitDisjunctions := false) | assumption | omega | decide) (by first | (with_reducible assumption) | omega (splitDisjunctions := false) | assumption | omega | decide) (by first | (with_reducible assumption) | omega (splitDisjunctions := false) | assumption | omega | decide) fh29) rfl rfl [11, 12] [0, 1, 2, 3, 4, 5, 6, 7, 8, 9, 10] (by decide) rfl rfl rfl (by decide) (by decide) k_551 rfl k_119 k_556 k_549 k_550 ⟨rfl, hy_Row_putTwo⟩ (by decide) rfl rfl (Nat.le_of_ble_eq_true rfl) (by decide) (fun v9 u31 ch30 => ?_)
    obtain ⟨s_32, f_33⟩ := u31
    obtain ⟨ech30, ch30⟩ := ch30
    have ech30 : v9 = none := ech30
    subst ech30
    obtain ⟨fh34, fh35, fh36⟩ : (s_32.toInt = s_25.toInt + 2) ∧ (ap_ f_26 s_25.toInt f_33 s_32.toInt (nk_ (20 : Int32).toInt 2)) ∧ (sb_Fit f_33) := ch30
    have aK := ap_app h0 aK fh35
    refine pb_eq (pc' := 64) (lo' := [(6, .int 0), (5, .int r_4), (4, .int i1), (0, .ref h), (1, .ref sp), (2, .int i), (3, .ref q)]) (rest' := []) (ws' := [(h, .inr (6, [.ref mm, .ref mr])), (tn, .inl (G.2.1, 384, .inl tfn)), (tz, .inl (G.2.2.1, 16, .inl tfz)), (sp, .inr (3, [.ref tn, .ref tz, .ref tb, .ref tg, .int c])), (tg, .inl (G.2.2.1, 17, .inl tfg)), (q, .inr (4, [.ref pp, .ref pl, .ref pe, .ref tb, .int i1, .int r_4, .int b_10, .int l_11, .int d_12])), (pp, .inr (0, [.ref pb, .int p_13])), (pb, .inl (G.2.1, 4502, .inl f_14)), (pl, .inl (G.2.2.1, 1024, .inl fl_15)), (pe, .inl (G.2.2.1, 4000, .inl fe_16)), (tb, .inl (G.2.1, 12000, .inl tfb)), (mm, .inr (0, [.ref mb, .int s_32])), (mb, .inl (G.2.1, 14006, .inl f_33))]) ?_
    refine pb_aload_n (pc := 64) d_FileMaker_putRecord_64 3 rfl rfl ?_
    refine pb_get (pc := 65) d_FileMaker_putRecord_65 0 0 rfl rfl (by decide) in_FileMaker k_292 rfl ?_
    refine pb_iconst (pc := 68) (v := 0) d_FileMaker_putRecord_68 (by decide) ?_
    refine pb_callV (pc := 69) (I := i_FileMaker_putRecord) (qb := 11) (ci := 0) (nA := 1) (rest := []) (wr := [(h, .inr (6, [.ref mm, .ref mr])), (tn, .inl (G.2.1, 384, .inl tfn)), (tz, .inl (G.2.2.1, 16, .inl tfz)), (sp, .inr (3, [.ref tn, .ref tz, .ref tb, .ref tg, .int c])), (tg, .inl (G.2.2.1, 17, .inl tfg)), (q, .inr (4, [.ref pp, .ref pl, .ref pe, .ref tb, .int i1, .int r_4, .int b_10, .int l_11, .int d_12])), (pp, .inr (0, [.ref pb, .int p_13])), (pb, .inl (G.2.1, 4502, .inl f_14)), (pl, .inl (G.2.2.1, 1024, .inl fl_15)), (pe, .inl (G.2.2.1, 4000, .inl fe_16)), (tb, .inl (G.2.1, 12000, .inl tfb))]) d_FileMaker_putRecord_69 (g_Row_putTwo hl G mm mb 14006 f_33 s_32 0 (by first | (with_reducible assumption) | omega (splitDisjunctions := false) | assumption | omega | decide) (by first | (with_reducible assumption) | omega (splitDisjunctions := false) | assumption | omega | decide) (by first | (with_reducible assumption) | omega (splitDisjunctions := false) | assumption | omega | decide) fh36) rfl rfl [11, 12] [0, 1, 2, 3, 4, 5, 6, 7, 8, 9, 10] (by decide) rfl rfl rfl (by decide) (by decide) k_551 rfl k_119 k_556 k_549 k_550 ⟨rfl, hy_Row_putTwo⟩ (by decide) rfl rfl (Nat.le_of_ble_eq_true rfl) (by decide) (fun v9 u38 ch37 => ?_)
    obtain ⟨s_39, f_40⟩ := u38
    obtain ⟨ech37, ch37⟩ := ch37
    have ech37 : v9 = none := ech37
    subst ech37
    obtain ⟨fh41, fh42, fh43⟩ : (s_39.toInt = s_32.toInt + 2) ∧ (ap_ f_33 s_32.toInt f_40 s_39.toInt (nk_ (0 : Int32).toInt 2)) ∧ (sb_Fit f_40) := ch37
    have aK := ap_app h0 aK fh42
    refine pb_eq (pc' := 72) (lo' := [(6, .int 0), (5, .int r_4), (4, .int i1), (0, .ref h), (1, .ref sp), (2, .int i), (3, .ref q)]) (rest' := []) (ws' := [(h, .inr (6, [.ref mm, .ref mr])), (tn, .inl (G.2.1, 384, .inl tfn)), (tz, .inl (G.2.2.1, 16, .inl tfz)), (sp, .inr (3, [.ref tn, .ref tz, .ref tb, .ref tg, .int c])), (tg, .inl (G.2.2.1, 17, .inl tfg)), (q, .inr (4, [.ref pp, .ref pl, .ref pe, .ref tb, .int i1, .int r_4, .int b_10, .int l_11, .int d_12])), (pp, .inr (0, [.ref pb, .int p_13])), (pb, .inl (G.2.1, 4502, .inl f_14)), (pl, .inl (G.2.2.1, 1024, .inl fl_15)), (pe, .inl (G.2.2.1, 4000, .inl fe_16)), (tb, .inl (G.2.1, 12000, .inl tfb)), (mm, .inr (0, [.ref mb, .int s_39])), (mb, .inl (G.2.1, 14006, .inl f_40))]) ?_
    refine pb_aload_n (pc := 72) d_FileMaker_putRecord_72 3 rfl rfl ?_
    refine pb_get (pc := 73) d_FileMaker_putRecord_73 0 0 rfl rfl (by decide) in_FileMaker k_292 rfl ?_
    refine pb_iload (pc := 76) d_FileMaker_putRecord_76 0 rfl ?_
    refine pb_if_eq (pc := 78) (tgt := 86) d_FileMaker_putRecord_78 (by decide) (fun _ => ?_) (fun h9 => absurd h9 (by decide))
    refine pb_iconst (pc := 86) (v := 0) d_FileMaker_putRecord_86 (by decide) ?_
    refine pb_callV (pc := 87) (I := i_FileMaker_putRecord) (qb := 11) (ci := 0) (nA := 1) (rest := []) (wr := [(h, .inr (6, [.ref mm, .ref mr])), (tn, .inl (G.2.1, 384, .inl tfn)), (tz, .inl (G.2.2.1, 16, .inl tfz)), (sp, .inr (3, [.ref tn, .ref tz, .ref tb, .ref tg, .int c])), (tg, .inl (G.2.2.1, 17, .inl tfg)), (q, .inr (4, [.ref pp, .ref pl, .ref pe, .ref tb, .int i1, .int r_4, .int b_10, .int l_11, .int d_12])), (pp, .inr (0, [.ref pb, .int p_13])), (pb, .inl (G.2.1, 4502, .inl f_14)), (pl, .inl (G.2.2.1, 1024, .inl fl_15)), (pe, .inl (G.2.2.1, 4000, .inl fe_16)), (tb, .inl (G.2.1, 12000, .inl tfb))]) d_FileMaker_putRecord_87 (g_Row_putTwo hl G mm mb 14006 f_40 s_39 0 (by first | (with_reducible assumption) | omega (splitDisjunctions := false) | assumption | omega | decide) (by first | (with_reducible assumption) | omega (splitDisjunctions := false) | assumption | omega | decide) (by first | (with_reducible assumption) | omega (splitDisjunctions := false) | assumption | omega | decide) fh43) rfl rfl [11, 12] [0, 1, 2, 3, 4, 5, 6, 7, 8, 9, 10] (by decide) rfl rfl rfl (by decide) (by decide) k_551 rfl k_119 k_556 k_549 k_550 ⟨rfl, hy_Row_putTwo⟩ (by decide) rfl rfl (Nat.le_of_ble_eq_true rfl) (by decide) (fun v9 u46 ch45 => ?_)
    obtain ⟨s_47, f_48⟩ := u46
    obtain ⟨ech45, ch45⟩ := ch45
    have ech45 : v9 = none := ech45
    subst ech45
    obtain ⟨fh49, fh50, fh51⟩ : (s_47.toInt = s_39.toInt + 2) ∧ (ap_ f_40 s_39.toInt f_48 s_47.toInt (nk_ (0 : Int32).toInt 2)) ∧ (sb_Fit f_48) := ch45
    have aK := ap_app h0 aK fh50
    refine pb_eq (pc' := 90) (lo' := [(6, .int 0), (5, .int r_4), (4, .int i1), (0, .ref h), (1, .ref sp), (2, .int i), (3, .ref q)]) (rest' := []) (ws' := [(h, .inr (6, [.ref mm, .ref mr])), (tn, .inl (G.2.1, 384, .inl tfn)), (tz, .inl (G.2.2.1, 16, .inl tfz)), (sp, .inr (3, [.ref tn, .ref tz, .ref tb, .ref tg, .int c])), (tg, .inl (G.2.2.1, 17, .inl tfg)), (q, .inr (4, [.ref pp, .ref pl, .ref pe, .ref tb, .int i1, .int r_4, .int b_10, .int l_11, .int d_12])), (pp, .inr (0, [.ref pb, .int p_13])), (pb, .inl (G.2.1, 4502, .inl f_14)), (pl, .inl (G.2.2.1, 1024, .inl fl_15)), (pe, .inl (G.2.2.1, 4000, .inl fe_16)), (tb, .inl (G.2.1, 12000, .inl tfb)), (mm, .inr (0, [.ref mb, .int s_47])), (mb, .inl (G.2.1, 14006, .inl f_48))]) ?_
    refine pb_aload_n (pc := 90) d_FileMaker_putRecord_90 3 rfl rfl ?_
    refine pb_get (pc := 91) d_FileMaker_putRecord_91 0 0 rfl rfl (by decide) in_FileMaker k_292 rfl ?_
    refine pb_iconst (pc := 94) (v := 0) d_FileMaker_putRecord_94 (by decide) ?_
    refine pb_callV (pc := 95) (I := i_FileMaker_putRecord) (qb := 11) (ci := 0) (nA := 1) (rest := []) (wr := [(h, .inr (6, [.ref mm, .ref mr])), (tn, .inl (G.2.1, 384, .inl tfn)), (tz, .inl (G.2.2.1, 16, .inl tfz)), (sp, .inr (3, [.ref tn, .ref tz, .ref tb, .ref tg, .int c])), (tg, .inl (G.2.2.1, 17, .inl tfg)), (q, .inr (4, [.ref pp, .ref pl, .ref pe, .ref tb, .int i1, .int r_4, .int b_10, .int l_11, .int d_12])), (pp, .inr (0, [.ref pb, .int p_13])), (pb, .inl (G.2.1, 4502, .inl f_14)), (pl, .inl (G.2.2.1, 1024, .inl fl_15)), (pe, .inl (G.2.2.1, 4000, .inl fe_16)), (tb, .inl (G.2.1, 12000, .inl tfb))]) d_FileMaker_putRecord_95 (g_Row_putTwo hl G mm mb 14006 f_48 s_47 0 (by first | (with_reducible assumption) | omega (splitDisjunctions := false) | assumption | omega | decide) (by first | (with_reducible assumption) | omega (splitDisjunctions := false) | assumption | omega | decide) (by first | (with_reducible assumption) | omega (splitDisjunctions := false) | assumption | omega | decide) fh51) rfl rfl [11, 12] [0, 1, 2, 3, 4, 5, 6, 7, 8, 9, 10] (by decide) rfl rfl rfl (by decide) (by decide) k_551 rfl k_119 k_556 k_549 k_550 ⟨rfl, hy_Row_putTwo⟩ (by decide) rfl rfl (Nat.le_of_ble_eq_true rfl) (by decide) (fun v9 u53 ch52 => ?_)
    obtain ⟨s_54, f_55⟩ := u53
    obtain ⟨ech52, ch52⟩ := ch52
    have ech52 : v9 = none := ech52
    subst ech52
    obtain ⟨fh56, fh57, fh58⟩ : (s_54.toInt = s_47.toInt + 2) ∧ (ap_ f_48 s_47.toInt f_55 s_54.toInt (nk_ (0 : Int32).toInt 2)) ∧ (sb_Fit f_55) := ch52
    have aK := ap_app h0 aK fh57
    refine pb_eq (pc' := 98) (lo' := [(6, .int 0), (5, .int r_4), (4, .int i1), (0, .ref h), (1, .ref sp), (2, .int i), (3, .ref q)]) (rest' := []) (ws' := [(h, .inr (6, [.ref mm, .ref mr])), (tn, .inl (G.2.1, 384, .inl tfn)), (tz, .inl (G.2.2.1, 16, .inl tfz)), (sp, .inr (3, [.ref tn, .ref tz, .ref tb, .ref tg, .int c])), (tg, .inl (G.2.2.1, 17, .inl tfg)), (q, .inr (4, [.ref pp, .ref pl, .ref pe, .ref tb, .int i1, .int r_4, .int b_10, .int l_11, .int d_12])), (pp, .inr (0, [.ref pb, .int p_13])), (pb, .inl (G.2.1, 4502, .inl f_14)), (pl, .inl (G.2.2.1, 1024, .inl fl_15)), (pe, .inl (G.2.2.1, 4000, .inl fe_16)), (tb, .inl (G.2.1, 12000, .inl tfb)), (mm, .inr (0, [.ref mb, .int s_54])), (mb, .inl (G.2.1, 14006, .inl f_55))]) ?_
    refine pb_aload_n (pc := 98) d_FileMaker_putRecord_98 3 rfl rfl ?_
    refine pb_get (pc := 99) d_FileMaker_putRecord_99 0 0 rfl rfl (by decide) in_FileMaker k_292 rfl ?_
    refine pb_bipush (pc := 102) (v := 33) d_FileMaker_putRecord_102 (by decide) ?_
    refine pb_callV (pc := 104) (I := i_FileMaker_putRecord) (qb := 11) (ci := 0) (nA := 1) (rest := []) (wr := [(h, .inr (6, [.ref mm, .ref mr])), (tn, .inl (G.2.1, 384, .inl tfn)), (tz, .inl (G.2.2.1, 16, .inl tfz)), (sp, .inr (3, [.ref tn, .ref tz, .ref tb, .ref tg, .int c])), (tg, .inl (G.2.2.1, 17, .inl tfg)), (q, .inr (4, [.ref pp, .ref pl, .ref pe, .ref tb, .int i1, .int r_4, .int b_10, .int l_11, .int d_12])), (pp, .inr (0, [.ref pb, .int p_13])), (pb, .inl (G.2.1, 4502, .inl f_14)), (pl, .inl (G.2.2.1, 1024, .inl fl_15)), (pe, .inl (G.2.2.1, 4000, .inl fe_16)), (tb, .inl (G.2.1, 12000, .inl tfb))]) d_FileMaker_putRecord_104 (g_Row_putTwo hl G mm mb 14006 f_55 s_54 33 (by first | (with_reducible assumption) | omega (splitDisjunctions := false) | assumption | omega | decide) (by first | (with_reducible assumption) | omega (splitDisjunctions := false) | assumption | omega | decide) (by first | (with_reducible assumption) | omega (splitDisjunctions := false) | assumption | omega | decide) fh58) rfl rfl [11, 12] [0, 1, 2, 3, 4, 5, 6, 7, 8, 9, 10] (by decide) rfl rfl rfl (by decide) (by decide) k_551 rfl k_119 k_556 k_549 k_550 ⟨rfl, hy_Row_putTwo⟩ (by decide) rfl rfl (Nat.le_of_ble_eq_true rfl) (by decide) (fun v9 u60 ch59 => ?_)
    obtain ⟨s_61, f_62⟩ := u60
    obtain ⟨ech59, ch59⟩ := ch59
    have ech59 : v9 = none := ech59
    subst ech59
    obtain ⟨fh63, fh64, fh65⟩ : (s_61.toInt = s_54.toInt + 2) ∧ (ap_ f_55 s_54.toInt f_62 s_61.toInt (nk_ (33 : Int32).toInt 2)) ∧ (sb_Fit f_62) := ch59
    have aK := ap_app h0 aK fh64
    refine pb_eq (pc' := 107) (lo' := [(6, .int 0), (5, .int r_4), (4, .int i1), (0, .ref h), (1, .ref sp), (2, .int i), (3, .ref q)]) (rest' := []) (ws' := [(h, .inr (6, [.ref mm, .ref mr])), (tn, .inl (G.2.1, 384, .inl tfn)), (tz, .inl (G.2.2.1, 16, .inl tfz)), (sp, .inr (3, [.ref tn, .ref tz, .ref tb, .ref tg, .int c])), (tg, .inl (G.2.2.1, 17, .inl tfg)), (q, .inr (4, [.ref pp, .ref pl, .ref pe, .ref tb, .int i1, .int r_4, .int b_10, .int l_11, .int d_12])), (pp, .inr (0, [.ref pb, .int p_13])), (pb, .inl (G.2.1, 4502, .inl f_14)), (pl, .inl (G.2.2.1, 1024, .inl fl_15)), (pe, .inl (G.2.2.1, 4000, .inl fe_16)), (tb, .inl (G.2.1, 12000, .inl tfb)), (mm, .inr (0, [.ref mb, .int s_61])), (mb, .inl (G.2.1, 14006, .inl f_62))]) ?_
    refine pb_aload_n (pc := 107) d_FileMaker_putRecord_107 3 rfl rfl ?_
    refine pb_get (pc := 108) d_FileMaker_putRecord_108 0 0 rfl rfl (by decide) in_FileMaker k_292 rfl ?_
    refine pb_aload_n (pc := 111) d_FileMaker_putRecord_111 4 rfl rfl ?_
    refine pb_getN (pc := 112) d_FileMaker_putRecord_112 3 2 rfl rfl (by decide) in_Shelf k_397 rfl ?_
    refine pb_iload (pc := 115) d_FileMaker_putRecord_115 2 rfl ?_
    refine pb_iload (pc := 117) d_FileMaker_putRecord_117 1 rfl ?_
    refine pb_callSN (pc := 119) (I := i_FileMaker_putRecord) (nA := 3) (rest := [.ref mm]) (wr := [(h, .inr (6, [.ref mm, .ref mr])), (tn, .inl (G.2.1, 384, .inl tfn)), (tz, .inl (G.2.2.1, 16, .inl tfz)), (sp, .inr (3, [.ref tn, .ref tz, .ref tb, .ref tg, .int c])), (tg, .inl (G.2.2.1, 17, .inl tfg)), (q, .inr (4, [.ref pp, .ref pl, .ref pe, .ref tb, .int i1, .int r_4, .int b_10, .int l_11, .int d_12])), (pp, .inr (0, [.ref pb, .int p_13])), (pb, .inl (G.2.1, 4502, .inl f_14)), (pl, .inl (G.2.2.1, 1024, .inl fl_15)), (pe, .inl (G.2.2.1, 4000, .inl fe_16)), (mm, .inr (0, [.ref mb, .int s_61])), (mb, .inl (G.2.1, 14006, .inl f_62))]) d_FileMaker_putRecord_119 (g_sumOf hl G tb 12000 tfb i1 r_4 (by first | (with_reducible assumption) | omega (splitDisjunctions := false) | assumption | omega | decide) (by first | (with_reducible assumption) | omega (splitDisjunctions := false) | assumption | omega | decide) (by first | (with_reducible assumption) | omega (splitDisjunctions := false) | assumption | omega | decide) (by first | (with_reducible assumption) | omega (splitDisjunctions := false) | assumption | omega | decide) F_tfb) [10] [0, 1, 2, 3, 4, 5, 6, 7, 8, 9, 11, 12] (by decide) rfl rfl rfl (by decide) (by decide) k_559 rfl k_118 k_557 k_558 hy_Book_sumOf (by decide) rfl rfl (Nat.le_of_ble_eq_true rfl) (by decide) (fun v9 u67 ch66 => ?_)
    obtain ⟨r_68, rfl⟩ : ∃ z9, z9 = u67 := ⟨_, rfl⟩
    obtain ⟨ech66, ch66⟩ := ch66
    have ech66 : v9 = some (.int r_68) := ech66
    subst ech66
    have fh69 : r_68 = cr_n tfb i1.toInt r_4.toInt.toNat ^^^ (-1) := ch66
    have suF := su_E fh69 (show r_4.toInt = vS V i.toInt by omega) (fun k h0 h1 => by rw [show i1.toInt = gx tfg i.toInt by omega]; exact Ri.2.2.2 k h0 h1) (by omega)
    refine pb_eq (pc' := 122) (lo' := [(6, .int 0), (5, .int r_4), (4, .int i1), (0, .ref h), (1, .ref sp), (2, .int i), (3, .ref q)]) (rest' := [.int r_68, .ref mm]) (ws' := [(h, .inr (6, [.ref mm, .ref mr])), (tn, .inl (G.2.1, 384, .inl tfn)), (tz, .inl (G.2.2.1, 16, .inl tfz)), (sp, .inr (3, [.ref tn, .ref tz, .ref tb, .ref tg, .int c])), (tg, .inl (G.2.2.1, 17, .inl tfg)), (q, .inr (4, [.ref pp, .ref pl, .ref pe, .ref tb, .int i1, .int r_4, .int b_10, .int l_11, .int d_12])), (pp, .inr (0, [.ref pb, .int p_13])), (pb, .inl (G.2.1, 4502, .inl f_14)), (pl, .inl (G.2.2.1, 1024, .inl fl_15)), (pe, .inl (G.2.2.1, 4000, .inl fe_16)), (mm, .inr (0, [.ref mb, .int s_61])), (mb, .inl (G.2.1, 14006, .inl f_62)), (tb, .inl (G.2.1, 12000, .inl tfb))]) ?_
    refine pb_callV (pc := 122) (I := i_FileMaker_putRecord) (qb := 10) (ci := 0) (nA := 1) (rest := []) (wr := [(h, .inr (6, [.ref mm, .ref mr])), (tn, .inl (G.2.1, 384, .inl tfn)), (tz, .inl (G.2.2.1, 16, .inl tfz)), (sp, .inr (3, [.ref tn, .ref tz, .ref tb, .ref tg, .int c])), (tg, .inl (G.2.2.1, 17, .inl tfg)), (q, .inr (4, [.ref pp, .ref pl, .ref pe, .ref tb, .int i1, .int r_4, .int b_10, .int l_11, .int d_12])), (pp, .inr (0, [.ref pb, .int p_13])), (pb, .inl (G.2.1, 4502, .inl f_14)), (pl, .inl (G.2.2.1, 1024, .inl fl_15)), (pe, .inl (G.2.2.1, 4000, .inl fe_16)), (tb, .inl (G.2.1, 12000, .inl tfb))]) d_FileMaker_putRecord_122 (g_Row_putFour hl G mm mb 14006 f_62 s_61 r_68 (by first | (with_reducible assumption) | omega (splitDisjunctions := false) | assumption | omega | decide) (by first | (with_reducible assumption) | omega (splitDisjunctions := false) | assumption | omega | decide) (by first | (with_reducible assumption) | omega (splitDisjunctions := false) | assumption | omega | decide) fh65) rfl rfl [10, 11] [0, 1, 2, 3, 4, 5, 6, 7, 8, 9, 12] (by decide) rfl rfl rfl (by decide) (by decide) k_547 rfl k_119 k_544 k_545 k_546 ⟨rfl, hy_Row_putFour⟩ (by decide) rfl rfl (Nat.le_of_ble_eq_true rfl) (by decide) (fun v9 u71 ch70 => ?_)
    obtain ⟨s_72, f_73⟩ := u71
    obtain ⟨ech70, ch70⟩ := ch70
    have ech70 : v9 = none := ech70
    subst ech70
    obtain ⟨fh74, fh75, fh76⟩ : (s_72.toInt = s_61.toInt + 4) ∧ (ap_ f_62 s_61.toInt f_73 s_72.toInt (nk_ r_68.toInt 4)) ∧ (sb_Fit f_73) := ch70
    have aK := ap_app h0 aK fh75
    refine pb_eq (pc' := 125) (lo' := [(6, .int 0), (5, .int r_4), (4, .int i1), (0, .ref h), (1, .ref sp), (2, .int i), (3, .ref q)]) (rest' := []) (ws' := [(h, .inr (6, [.ref mm, .ref mr])), (tn, .inl (G.2.1, 384, .inl tfn)), (tz, .inl (G.2.2.1, 16, .inl tfz)), (sp, .inr (3, [.ref tn, .ref tz, .ref tb, .ref tg, .int c])), (tg, .inl (G.2.2.1, 17, .inl tfg)), (q, .inr (4, [.ref pp, .ref pl, .ref pe, .ref tb, .int i1, .int r_4, .int b_10, .int l_11, .int d_12])), (pp, .inr (0, [.ref pb, .int p_13])), (pb, .inl (G.2.1, 4502, .inl f_14)), (pl, .inl (G.2.2.1, 1024, .inl fl_15)), (pe, .inl (G.2.2.1, 4000, .inl fe_16)), (tb, .inl (G.2.1, 12000, .inl tfb)), (mm, .inr (0, [.ref mb, .int s_72])), (mb, .inl (G.2.1, 14006, .inl f_73))]) ?_
    refine pb_aload_n (pc := 125) d_FileMaker_putRecord_125 3 rfl rfl ?_
    refine pb_get (pc := 126) d_FileMaker_putRecord_126 0 0 rfl rfl (by decide) in_FileMaker k_292 rfl ?_
    refine pb_iload (pc := 129) d_FileMaker_putRecord_129 0 rfl ?_
    refine pb_if_eq (pc := 131) (tgt := 144) d_FileMaker_putRecord_131 (by decide) (fun _ => ?_) (fun h9 => absurd h9 (by decide))
    refine pb_iload (pc := 144) d_FileMaker_putRecord_144 1 rfl ?_
    refine pb_callV (pc := 146) (I := i_FileMaker_putRecord) (qb := 11) (ci := 0) (nA := 1) (rest := []) (wr := [(h, .inr (6, [.ref mm, .ref mr])), (tn, .inl (G.2.1, 384, .inl tfn)), (tz, .inl (G.2.2.1, 16, .inl tfz)), (sp, .inr (3, [.ref tn, .ref tz, .ref tb, .ref tg, .int c])), (tg, .inl (G.2.2.1, 17, .inl tfg)), (q, .inr (4, [.ref pp, .ref pl, .ref pe, .ref tb, .int i1, .int r_4, .int b_10, .int l_11, .int d_12])), (pp, .inr (0, [.ref pb, .int p_13])), (pb, .inl (G.2.1, 4502, .inl f_14)), (pl, .inl (G.2.2.1, 1024, .inl fl_15)), (pe, .inl (G.2.2.1, 4000, .inl fe_16)), (tb, .inl (G.2.1, 12000, .inl tfb))]) d_FileMaker_putRecord_146 (g_Row_putFour hl G mm mb 14006 f_73 s_72 r_4 (by first | (with_reducible assumption) | omega (splitDisjunctions := false) | assumption | omega | decide) (by first | (with_reducible assumption) | omega (splitDisjunctions := false) | assumption | omega | decide) (by first | (with_reducible assumption) | omega (splitDisjunctions := false) | assumption | omega | decide) fh76) rfl rfl [11, 12] [0, 1, 2, 3, 4, 5, 6, 7, 8, 9, 10] (by decide) rfl rfl rfl (by decide) (by decide) k_547 rfl k_119 k_544 k_545 k_546 ⟨rfl, hy_Row_putFour⟩ (by decide) rfl rfl (Nat.le_of_ble_eq_true rfl) (by decide) (fun v9 u79 ch78 => ?_)
    obtain ⟨s_80, f_81⟩ := u79
    obtain ⟨ech78, ch78⟩ := ch78
    have ech78 : v9 = none := ech78
    subst ech78
    obtain ⟨fh82, fh83, fh84⟩ : (s_80.toInt = s_72.toInt + 4) ∧ (ap_ f_73 s_72.toInt f_81 s_80.toInt (nk_ r_4.toInt 4)) ∧ (sb_Fit f_81) := ch78
    have aK := ap_app h0 aK fh83
    refine pb_eq (pc' := 149) (lo' := [(6, .int 0), (5, .int r_4), (4, .int i1), (0, .ref h), (1, .ref sp), (2, .int i), (3, .ref q)]) (rest' := []) (ws' := [(h, .inr (6, [.ref mm, .ref mr])), (tn, .inl (G.2.1, 384, .inl tfn)), (tz, .inl (G.2.2.1, 16, .inl tfz)), (sp, .inr (3, [.ref tn, .ref tz, .ref tb, .ref tg, .int c])), (tg, .inl (G.2.2.1, 17, .inl tfg)), (q, .inr (4, [.ref pp, .ref pl, .ref pe, .ref tb, .int i1, .int r_4, .int b_10, .int l_11, .int d_12])), (pp, .inr (0, [.ref pb, .int p_13])), (pb, .inl (G.2.1, 4502, .inl f_14)), (pl, .inl (G.2.2.1, 1024, .inl fl_15)), (pe, .inl (G.2.2.1, 4000, .inl fe_16)), (tb, .inl (G.2.1, 12000, .inl tfb)), (mm, .inr (0, [.ref mb, .int s_80])), (mb, .inl (G.2.1, 14006, .inl f_81))]) ?_
    refine pb_aload_n (pc := 149) d_FileMaker_putRecord_149 3 rfl rfl ?_
    refine pb_get (pc := 150) d_FileMaker_putRecord_150 0 0 rfl rfl (by decide) in_FileMaker k_292 rfl ?_
    refine pb_iload (pc := 153) d_FileMaker_putRecord_153 1 rfl ?_
    refine pb_callV (pc := 155) (I := i_FileMaker_putRecord) (qb := 11) (ci := 0) (nA := 1) (rest := []) (wr := [(h, .inr (6, [.ref mm, .ref mr])), (tn, .inl (G.2.1, 384, .inl tfn)), (tz, .inl (G.2.2.1, 16, .inl tfz)), (sp, .inr (3, [.ref tn, .ref tz, .ref tb, .ref tg, .int c])), (tg, .inl (G.2.2.1, 17, .inl tfg)), (q, .inr (4, [.ref pp, .ref pl, .ref pe, .ref tb, .int i1, .int r_4, .int b_10, .int l_11, .int d_12])), (pp, .inr (0, [.ref pb, .int p_13])), (pb, .inl (G.2.1, 4502, .inl f_14)), (pl, .inl (G.2.2.1, 1024, .inl fl_15)), (pe, .inl (G.2.2.1, 4000, .inl fe_16)), (tb, .inl (G.2.1, 12000, .inl tfb))]) d_FileMaker_putRecord_155 (g_Row_putFour hl G mm mb 14006 f_81 s_80 r_4 (by first | (with_reducible assumption) | omega (splitDisjunctions := false) | assumption | omega | decide) (by first | (with_reducible assumption) | omega (splitDisjunctions := false) | assumption | omega | decide) (by first | (with_reducible assumption) | omega (splitDisjunctions := false) | assumption | omega | decide) fh84) rfl rfl [11, 12] [0, 1, 2, 3, 4, 5, 6, 7, 8, 9, 10] (by decide) rfl rfl rfl (by decide) (by decide) k_547 rfl k_119 k_544 k_545 k_546 ⟨rfl, hy_Row_putFour⟩ (by decide) rfl rfl (Nat.le_of_ble_eq_true rfl) (by decide) (fun v9 u86 ch85 => ?_)
    obtain ⟨s_87, f_88⟩ := u86
    obtain ⟨ech85, ch85⟩ := ch85
    have ech85 : v9 = none := ech85
    subst ech85
    obtain ⟨fh89, fh90, fh91⟩ : (s_87.toInt = s_80.toInt + 4) ∧ (ap_ f_81 s_80.toInt f_88 s_87.toInt (nk_ r_4.toInt 4)) ∧ (sb_Fit f_88) := ch85
    have aK := ap_app h0 aK fh90
    refine pb_eq (pc' := 158) (lo' := [(6, .int 0), (5, .int r_4), (4, .int i1), (0, .ref h), (1, .ref sp), (2, .int i), (3, .ref q)]) (rest' := []) (ws' := [(h, .inr (6, [.ref mm, .ref mr])), (tn, .inl (G.2.1, 384, .inl tfn)), (tz, .inl (G.2.2.1, 16, .inl tfz)), (sp, .inr (3, [.ref tn, .ref tz, .ref tb, .ref tg, .int c])), (tg, .inl (G.2.2.1, 17, .inl tfg)), (q, .inr (4, [.ref pp, .ref pl, .ref pe, .ref tb, .int i1, .int r_4, .int b_10, .int l_11, .int d_12])), (pp, .inr (0, [.ref pb, .int p_13])), (pb, .inl (G.2.1, 4502, .inl f_14)), (pl, .inl (G.2.2.1, 1024, .inl fl_15)), (pe, .inl (G.2.2.1, 4000, .inl fe_16)), (tb, .inl (G.2.1, 12000, .inl tfb)), (mm, .inr (0, [.ref mb, .int s_87])), (mb, .inl (G.2.1, 14006, .inl f_88))]) ?_
    refine pb_aload_n (pc := 158) d_FileMaker_putRecord_158 3 rfl rfl ?_
    refine pb_get (pc := 159) d_FileMaker_putRecord_159 0 0 rfl rfl (by decide) in_FileMaker k_292 rfl ?_
    refine pb_aload_n (pc := 162) d_FileMaker_putRecord_162 4 rfl rfl ?_
    refine pb_getN (pc := 163) d_FileMaker_putRecord_163 3 1 rfl rfl (by decide) in_Shelf k_393 rfl ?_
    refine pb_iload_n (pc := 166) d_FileMaker_putRecord_166 5 rfl rfl ?_
    refine pb_iald (pc := 167) d_FileMaker_putRecord_167 2 rfl (vp_in_iff.mpr (by constructor <;> omega)) ?_
    refine pb_topi (fun i92 ei92 => ?_)
    have ti92 : i92.toInt = gx tfz (i.toInt) := gx_ld ei92 rfl
    refine pb_callV (pc := 168) (I := i_FileMaker_putRecord) (qb := 11) (ci := 0) (nA := 1) (rest := []) (wr := [(h, .inr (6, [.ref mm, .ref mr])), (tn, .inl (G.2.1, 384, .inl tfn)), (tz, .inl (G.2.2.1, 16, .inl tfz)), (sp, .inr (3, [.ref tn, .ref tz, .ref tb, .ref tg, .int c])), (tg, .inl (G.2.2.1, 17, .inl tfg)), (q, .inr (4, [.ref pp, .ref pl, .ref pe, .ref tb, .int i1, .int r_4, .int b_10, .int l_11, .int d_12])), (pp, .inr (0, [.ref pb, .int p_13])), (pb, .inl (G.2.1, 4502, .inl f_14)), (pl, .inl (G.2.2.1, 1024, .inl fl_15)), (pe, .inl (G.2.2.1, 4000, .inl fe_16)), (tb, .inl (G.2.1, 12000, .inl tfb))]) d_FileMaker_putRecord_168 (g_Row_putTwo hl G mm mb 14006 f_88 s_87 i92 (by first | (with_reducible assumption) | omega (splitDisjunctions := false) | assumption | omega | decide) (by first | (with_reducible assumption) | omega (splitDisjunctions := false) | assumption | omega | decide) (by first | (with_reducible assumption) | omega (splitDisjunctions := false) | assumption | omega | decide) fh91) rfl rfl [11, 12] [0, 1, 2, 3, 4, 5, 6, 7, 8, 9, 10] (by decide) rfl rfl rfl (by decide) (by decide) k_551 rfl k_119 k_556 k_549 k_550 ⟨rfl, hy_Row_putTwo⟩ (by decide) rfl rfl (Nat.le_of_ble_eq_true rfl) (by decide) (fun v9 u94 ch93 => ?_)
    obtain ⟨s_95, f_96⟩ := u94
    obtain ⟨ech93, ch93⟩ := ch93
    have ech93 : v9 = none := ech93
    subst ech93
    obtain ⟨fh97, fh98, fh99⟩ : (s_95.toInt = s_87.toInt + 2) ∧ (ap_ f_88 s_87.toInt f_96 s_95.toInt (nk_ i92.toInt 2)) ∧ (sb_Fit f_96) := ch93
    have aK := ap_app h0 aK fh98
    refine pb_eq (pc' := 171) (lo' := [(6, .int 0), (5, .int r_4), (4, .int i1), (0, .ref h), (1, .ref sp), (2, .int i), (3, .ref q)]) (rest' := []) (ws' := [(h, .inr (6, [.ref mm, .ref mr])), (tn, .inl (G.2.1, 384, .inl tfn)), (tz, .inl (G.2.2.1, 16, .inl tfz)), (sp, .inr (3, [.ref tn, .ref tz, .ref tb, .ref tg, .int c])), (tg, .inl (G.2.2.1, 17, .inl tfg)), (q, .inr (4, [.ref pp, .ref pl, .ref pe, .ref tb, .int i1, .int r_4, .int b_10, .int l_11, .int d_12])), (pp, .inr (0, [.ref pb, .int p_13])), (pb, .inl (G.2.1, 4502, .inl f_14)), (pl, .inl (G.2.2.1, 1024, .inl fl_15)), (pe, .inl (G.2.2.1, 4000, .inl fe_16)), (tb, .inl (G.2.1, 12000, .inl tfb)), (mm, .inr (0, [.ref mb, .int s_95])), (mb, .inl (G.2.1, 14006, .inl f_96))]) ?_
    refine pb_aload_n (pc := 171) d_FileMaker_putRecord_171 3 rfl rfl ?_
    refine pb_get (pc := 172) d_FileMaker_putRecord_172 0 0 rfl rfl (by decide) in_FileMaker k_292 rfl ?_
    refine pb_iconst (pc := 175) (v := 0) d_FileMaker_putRecord_175 (by decide) ?_
    refine pb_callV (pc := 176) (I := i_FileMaker_putRecord) (qb := 11) (ci := 0) (nA := 1) (rest := []) (wr := [(h, .inr (6, [.ref mm, .ref mr])), (tn, .inl (G.2.1, 384, .inl tfn)), (tz, .inl (G.2.2.1, 16, .inl tfz)), (sp, .inr (3, [.ref tn, .ref tz, .ref tb, .ref tg, .int c])), (tg, .inl (G.2.2.1, 17, .inl tfg)), (q, .inr (4, [.ref pp, .ref pl, .ref pe, .ref tb, .int i1, .int r_4, .int b_10, .int l_11, .int d_12])), (pp, .inr (0, [.ref pb, .int p_13])), (pb, .inl (G.2.1, 4502, .inl f_14)), (pl, .inl (G.2.2.1, 1024, .inl fl_15)), (pe, .inl (G.2.2.1, 4000, .inl fe_16)), (tb, .inl (G.2.1, 12000, .inl tfb))]) d_FileMaker_putRecord_176 (g_Row_putTwo hl G mm mb 14006 f_96 s_95 0 (by first | (with_reducible assumption) | omega (splitDisjunctions := false) | assumption | omega | decide) (by first | (with_reducible assumption) | (exact omg_0716e89b62 h1 p5 fh27 fh34 fh41 fh49 fh56 fh63 fh74 fh82 fh89 fh97) | assumption | omega | decide) (by first | (with_reducible assumption) | omega (splitDisjunctions := false) | assumption | omega | decide) fh99) rfl rfl [11, 12] [0, 1, 2, 3, 4, 5, 6, 7, 8, 9, 10] (by decide) rfl rfl rfl (by decide) (by decide) k_551 rfl k_119 k_556 k_549 k_550 ⟨rfl, hy_Row_putTwo⟩ (by decide) rfl rfl (Nat.le_of_ble_eq_true rfl) (by decide) (fun v9 u101 ch100 => ?_)
    obtain ⟨s_102, f_103⟩ := u101
    obtain ⟨ech100, ch100⟩ := ch100
    have ech100 : v9 = none := ech100
    subst ech100
    obtain ⟨fh104, fh105, fh106⟩ : (s_102.toInt = s_95.toInt + 2) ∧ (ap_ f_96 s_95.toInt f_103 s_102.toInt (nk_ (0 : Int32).toInt 2)) ∧ (sb_Fit f_103) := ch100
    have aK := ap_app h0 aK fh105
    refine pb_eq (pc' := 179) (lo' := [(6, .int 0), (5, .int r_4), (4, .int i1), (0, .ref h), (1, .ref sp), (2, .int i), (3, .ref q)]) (rest' := []) (ws' := [(h, .inr (6, [.ref mm, .ref mr])), (tn, .inl (G.2.1, 384, .inl tfn)), (tz, .inl (G.2.2.1, 16, .inl tfz)), (sp, .inr (3, [.ref tn, .ref tz, .ref tb, .ref tg, .int c])), (tg, .inl (G.2.2.1, 17, .inl tfg)), (q, .inr (4, [.ref pp, .ref pl, .ref pe, .ref tb, .int i1, .int r_4, .int b_10, .int l_11, .int d_12])), (pp, .inr (0, [.ref pb, .int p_13])), (pb, .inl (G.2.1, 4502, .inl f_14)), (pl, .inl (G.2.2.1, 1024, .inl fl_15)), (pe, .inl (G.2.2.1, 4000, .inl fe_16)), (tb, .inl (G.2.1, 12000, .inl tfb)), (mm, .inr (0, [.ref mb, .int s_102])), (mb, .inl (G.2.1, 14006, .inl f_103))]) ?_
    refine pb_aload_n (pc := 179) d_FileMaker_putRecord_179 3 rfl rfl ?_
    refine pb_get (pc := 180) d_FileMaker_putRecord_180 0 0 rfl rfl (by decide) in_FileMaker k_292 rfl ?_
    refine pb_aload_n (pc := 183) d_FileMaker_putRecord_183 4 rfl rfl ?_
    refine pb_getN (pc := 184) d_FileMaker_putRecord_184 3 0 rfl rfl (by decide) in_Shelf k_390 rfl ?_
    refine pb_bipush (pc := 187) (v := 24) d_FileMaker_putRecord_187 (by decide) ?_
    refine pb_iload_n (pc := 189) d_FileMaker_putRecord_189 5 rfl rfl ?_
    refine pb_imul (pc := 190) d_FileMaker_putRecord_190 ?_
    refine pb_topi (fun i107 ei107 => ?_)
    try have ti107 : i107.toInt = 24 * i.toInt := ti_mul ei107 (by decide) rfl (by omega) (by omega)
    refine pb_aload_n (pc := 191) d_FileMaker_putRecord_191 4 rfl rfl ?_
    refine pb_getN (pc := 192) d_FileMaker_putRecord_192 3 1 rfl rfl (by decide) in_Shelf k_393 rfl ?_
    refine pb_iload_n (pc := 195) d_FileMaker_putRecord_195 5 rfl rfl ?_
    refine pb_iald (pc := 196) d_FileMaker_putRecord_196 2 rfl (vp_in_iff.mpr (by constructor <;> omega)) ?_
    refine pb_topi (fun i108 ei108 => ?_)
    have ti108 : i108.toInt = gx tfz (i.toInt) := gx_ld ei108 rfl
    have eNz : i108.toInt = vZ V i.toInt := by omega
    have eNx : i107.toInt = 24 * i.toInt := by omega
    refine pb_callV (pc := 197) (I := i_FileMaker_putRecord) (qb := 11) (ci := 0) (nA := 3) (rest := []) (wr := [(h, .inr (6, [.ref mm, .ref mr])), (tz, .inl (G.2.2.1, 16, .inl tfz)), (sp, .inr (3, [.ref tn, .ref tz, .ref tb, .ref tg, .int c])), (tg, .inl (G.2.2.1, 17, .inl tfg)), (q, .inr (4, [.ref pp, .ref pl, .ref pe, .ref tb, .int i1, .int r_4, .int b_10, .int l_11, .int d_12])), (pp, .inr (0, [.ref pb, .int p_13])), (pb, .inl (G.2.1, 4502, .inl f_14)), (pl, .inl (G.2.2.1, 1024, .inl fl_15)), (pe, .inl (G.2.2.1, 4000, .inl fe_16)), (tb, .inl (G.2.1, 12000, .inl tfb))]) d_FileMaker_putRecord_197 (g_Row_putBytes hl G mm mb 14006 f_103 s_102 tn 384 tfn i107 i108 (by first | (with_reducible assumption) | (exact omg_607c2444b7 h0 fh27 fh34 fh41 fh49 fh56 fh63 fh74 fh82 fh89 fh97 fh104) | assumption | omega | decide) (by first | (with_reducible assumption) | omega (splitDisjunctions := false) | assumption | omega | decide) (by first | (with_reducible assumption) | (exact omg_8970a99139 h1 p5 fh27 fh34 fh41 fh49 fh56 fh63 fh74 fh82 fh89 fh97 fh104 ti108) | assumption | omega | decide) (by first | (with_reducible assumption) | omega (splitDisjunctions := false) | assumption | omega | decide) (by first | (with_reducible assumption) | omega (splitDisjunctions := false) | assumption | omega | decide) (by first | (with_reducible assumption) | omega (splitDisjunctions := false) | assumption | omega | decide) (by first | (with_reducible assumption) | omega (splitDisjunctions := false) | assumption | omega | decide) fh106 F_tfn) rfl rfl [11, 12, 1] [0, 2, 3, 4, 5, 6, 7, 8, 9, 10] (by decide) rfl rfl rfl (by decide) (by decide) k_564 rfl k_119 k_561 k_562 k_563 ⟨rfl, hy_Row_putBytes⟩ (by decide) rfl rfl (Nat.le_of_ble_eq_true rfl) (by decide) (fun v9 u110 ch109 => ?_)
    obtain ⟨s_111, f_112⟩ := u110
    obtain ⟨ech109, ch109⟩ := ch109
    have ech109 : v9 = none := ech109
    subst ech109
    obtain ⟨fh113, fh114, fh115, fh116⟩ : (s_111.toInt = s_102.toInt + i108.toInt) ∧ (∀ j : Int, 0 ≤ j → gr f_112 j = if s_102.toInt ≤ j ∧ j < s_102.toInt + i108.toInt then gr tfn (i107.toInt + (j - s_102.toInt)) else gr f_103 j) ∧ (ap_ f_103 s_102.toInt f_112 s_111.toInt (bl_ tfn i107.toInt i108.toInt)) ∧ (sb_Fit f_112) := ch109
    have aK := ap_app h0 aK fh115
    refine pb_eq (pc' := 200) (lo' := [(6, .int 0), (5, .int r_4), (4, .int i1), (0, .ref h), (1, .ref sp), (2, .int i), (3, .ref q)]) (rest' := []) (ws' := [(h, .inr (6, [.ref mm, .ref mr])), (tz, .inl (G.2.2.1, 16, .inl tfz)), (sp, .inr (3, [.ref tn, .ref tz, .ref tb, .ref tg, .int c])), (tg, .inl (G.2.2.1, 17, .inl tfg)), (q, .inr (4, [.ref pp, .ref pl, .ref pe, .ref tb, .int i1, .int r_4, .int b_10, .int l_11, .int d_12])), (pp, .inr (0, [.ref pb, .int p_13])), (pb, .inl (G.2.1, 4502, .inl f_14)), (pl, .inl (G.2.2.1, 1024, .inl fl_15)), (pe, .inl (G.2.2.1, 4000, .inl fe_16)), (tb, .inl (G.2.1, 12000, .inl tfb)), (mm, .inr (0, [.ref mb, .int s_111])), (mb, .inl (G.2.1, 14006, .inl f_112)), (tn, .inl (G.2.1, 384, .inl tfn))]) ?_
    refine pb_iload (pc := 200) d_FileMaker_putRecord_200 0 rfl ?_
    refine pb_if_eq (pc := 202) (tgt := 230) d_FileMaker_putRecord_202 (by decide) (fun _ => ?_) (fun h9 => absurd h9 (by decide))
    refine pb_aload_n (pc := 230) d_FileMaker_putRecord_230 3 rfl rfl ?_
    refine pb_get (pc := 231) d_FileMaker_putRecord_231 0 0 rfl rfl (by decide) in_FileMaker k_292 rfl ?_
    refine pb_aload_n (pc := 234) d_FileMaker_putRecord_234 4 rfl rfl ?_
    refine pb_getN (pc := 235) d_FileMaker_putRecord_235 2 2 rfl rfl (by decide) in_Shelf k_397 rfl ?_
    refine pb_iload (pc := 238) d_FileMaker_putRecord_238 2 rfl ?_
    refine pb_iload (pc := 240) d_FileMaker_putRecord_240 1 rfl ?_
    refine pb_callV (pc := 242) (I := i_FileMaker_putRecord) (qb := 10) (ci := 0) (nA := 3) (rest := []) (wr := [(h, .inr (6, [.ref mm, .ref mr])), (tz, .inl (G.2.2.1, 16, .inl tfz)), (sp, .inr (3, [.ref tn, .ref tz, .ref tb, .ref tg, .int c])), (tg, .inl (G.2.2.1, 17, .inl tfg)), (q, .inr (4, [.ref pp, .ref pl, .ref pe, .ref tb, .int i1, .int r_4, .int b_10, .int l_11, .int d_12])), (pp, .inr (0, [.ref pb, .int p_13])), (pb, .inl (G.2.1, 4502, .inl f_14)), (pl, .inl (G.2.2.1, 1024, .inl fl_15)), (pe, .inl (G.2.2.1, 4000, .inl fe_16)), (tn, .inl (G.2.1, 384, .inl tfn))]) d_FileMaker_putRecord_242 (g_Row_putBytes hl G mm mb 14006 f_112 s_111 tb 12000 tfb i1 r_4 (by first | (with_reducible assumption) | (exact omg_2400f8bda4 h0 p5 fh27 fh34 fh41 fh49 fh56 fh63 fh74 fh82 fh89 fh97 fh104 ti108 fh113) | assumption | omega | decide) (by first | (with_reducible assumption) | omega (splitDisjunctions := false) | assumption | omega | decide) (by first | (with_reducible assumption) | (exact omg_dbfc67ef73 h1 p5 fh5 fh27 fh34 fh41 fh49 fh56 fh63 fh74 fh82 fh89 fh97 fh104 ti108 fh113) | assumption | omega | decide) (by first | (with_reducible assumption) | omega (splitDisjunctions := false) | assumption | omega | decide) (by first | (with_reducible assumption) | omega (splitDisjunctions := false) | assumption | omega | decide) (by first | (with_reducible assumption) | omega (splitDisjunctions := false) | assumption | omega | decide) (by first | (with_reducible assumption) | omega (splitDisjunctions := false) | assumption | omega | decide) fh116 F_tfb) rfl rfl [10, 11, 9] [0, 1, 2, 3, 4, 5, 6, 7, 8, 12] (by decide) rfl rfl rfl (by decide) (by decide) k_564 rfl k_119 k_561 k_562 k_563 ⟨rfl, hy_Row_putBytes⟩ (by decide) rfl rfl (Nat.le_of_ble_eq_true rfl) (by decide) (fun v9 u119 ch118 => ?_)
    obtain ⟨s_120, f_121⟩ := u119
    obtain ⟨ech118, ch118⟩ := ch118
    have ech118 : v9 = none := ech118
    subst ech118
    obtain ⟨fh122, fh123, fh124, fh125⟩ : (s_120.toInt = s_111.toInt + r_4.toInt) ∧ (∀ j : Int, 0 ≤ j → gr f_121 j = if s_111.toInt ≤ j ∧ j < s_111.toInt + r_4.toInt then gr tfb (i1.toInt + (j - s_111.toInt)) else gr f_112 j) ∧ (ap_ f_112 s_111.toInt f_121 s_120.toInt (bl_ tfb i1.toInt r_4.toInt)) ∧ (sb_Fit f_121) := ch118
    have aK := ap_app h0 aK fh124
    refine pb_eq (pc' := 245) (lo' := [(6, .int 0), (5, .int r_4), (4, .int i1), (0, .ref h), (1, .ref sp), (2, .int i), (3, .ref q)]) (rest' := []) (ws' := [(h, .inr (6, [.ref mm, .ref mr])), (tz, .inl (G.2.2.1, 16, .inl tfz)), (sp, .inr (3, [.ref tn, .ref tz, .ref tb, .ref tg, .int c])), (tg, .inl (G.2.2.1, 17, .inl tfg)), (q, .inr (4, [.ref pp, .ref pl, .ref pe, .ref tb, .int i1, .int r_4, .int b_10, .int l_11, .int d_12])), (pp, .inr (0, [.ref pb, .int p_13])), (pb, .inl (G.2.1, 4502, .inl f_14)), (pl, .inl (G.2.2.1, 1024, .inl fl_15)), (pe, .inl (G.2.2.1, 4000, .inl fe_16)), (tn, .inl (G.2.1, 384, .inl tfn)), (mm, .inr (0, [.ref mb, .int s_120])), (mb, .inl (G.2.1, 14006, .inl f_121)), (tb, .inl (G.2.1, 12000, .inl tfb))]) ?_
    exact pb_vret (pc := 245) hQ d_FileMaker_putRecord_245 rfl (s_120, f_121, tb, i1, r_4, b_10, l_11, d_12, p_13, f_14, fl_15, fe_16) ⟨rfl, (by (try dsimp only); first | done | (with_reducible assumption) | (exact omg_f2858e9f71 p5 fh5 fh27 fh34 fh41 fh49 fh56 fh63 fh74 fh82 fh89 fh97 fh104 ti108 fh113 fh122) | assumption | omega | decide), (by (try dsimp only); first | done | (with_reducible assumption) | (exact omg_0b60e4f8a6 p5 fh5 fh27 fh34 fh41 fh49 fh56 fh63 fh74 fh82 fh89 fh97 fh104 ti108 fh113 fh122) | assumption | omega | decide), (show hid_ (∃ P : List Int32, PR_ (sD_ V i.toInt) (vS V i.toInt) P ∧ ap_ f s.toInt f_121 s_120.toInt (rc_ V i.toInt P)) from (hid_i ⟨P9, prF, ap_e aK (by first | exact rc_E (by first | decide | omega) (by first | decide | omega) (by first | decide | omega) (mt_y eL9 (by omega) (by first | decide | omega)) (by first | decide | omega) (by first | decide | omega) suF (hr_y eL9 (by omega) (by omega)) (by omega) (by omega) (by first | decide | omega) (NL_bl eNz (fun k h0 h1 => (by rw [eNx]; exact Ri.2.2.1 k h0 h1))) (bd_y eL9 (by omega) (pE9 _ (by omega))) | exact rc_E (by first | decide | omega) (by first | decide | omega) (by first | decide | omega) (mt_n eL9 (by omega) (by first | decide | omega)) (by first | decide | omega) (by first | decide | omega) suF (hr_n eL9 (by omega) (by omega)) (by omega) (by omega) (by first | decide | omega) (NL_bl eNz (fun k h0 h1 => (by rw [eNx]; exact Ri.2.2.1 k h0 h1))) (bd_n eL9 (by omega) (dE9 _ _ (by omega) (by omega))))⟩)), fh125, fh21⟩ [0, 10, 11, 2, 9, 1, 12, 3, 4, 5, 6, 7, 8] (by decide) rfl rfl (by decide) (by decide)
  · have tw22 : ¬ r_4.toInt ≤ p_13.toInt := fun z9 => w22 ((ti_le rfl rfl).mpr z9)
    refine pb_iconst (pc := 39) (v := 1) d_FileMaker_putRecord_39 (by decide) ?_
    refine pb_goto (pc := 40) (tgt := 44) d_FileMaker_putRecord_40 (by decide) ?_
    refine pb_istore (pc := 44) (lo' := [(6, .int 1), (5, .int r_4), (4, .int i1), (0, .ref h), (1, .ref sp), (2, .int i), (3, .ref q)]) d_FileMaker_putRecord_44 (by decide) rfl ?_
    refine pb_aload_n (pc := 46) d_FileMaker_putRecord_46 3 rfl rfl ?_
    refine pb_get (pc := 47) d_FileMaker_putRecord_47 0 0 rfl rfl (by decide) in_FileMaker k_292 rfl ?_
    refine pb_ldc (pc := 50) (v := 67324752) d_FileMaker_putRecord_50 k_543 ?_
    refine pb_callV (pc := 52) (I := i_FileMaker_putRecord) (qb := 1) (ci := 0) (nA := 1) (rest := []) (wr := [(h, .inr (6, [.ref mm, .ref mr])), (tn, .inl (G.2.1, 384, .inl tfn)), (tz, .inl (G.2.2.1, 16, .inl tfz)), (sp, .inr (3, [.ref tn, .ref tz, .ref tb, .ref tg, .int c])), (tg, .inl (G.2.2.1, 17, .inl tfg)), (q, .inr (4, [.ref pp, .ref pl, .ref pe, .ref tb, .int i1, .int r_4, .int b_10, .int l_11, .int d_12])), (pp, .inr (0, [.ref pb, .int p_13])), (pb, .inl (G.2.1, 4502, .inl f_14)), (pl, .inl (G.2.2.1, 1024, .inl fl_15)), (pe, .inl (G.2.2.1, 4000, .inl fe_16)), (tb, .inl (G.2.1, 12000, .inl tfb))]) d_FileMaker_putRecord_52 (g_Row_putFour hl G mm mb 14006 f s 67324752 (by first | (with_reducible assumption) | omega (splitDisjunctions := false) | assumption | omega | decide) (by first | (with_reducible assumption) | omega (splitDisjunctions := false) | assumption | omega | decide) (by first | (with_reducible assumption) | omega (splitDisjunctions := false) | assumption | omega | decide) F_f) rfl rfl [1, 2] [0, 3, 4, 5, 6, 7, 8, 9, 10, 11, 12] (by decide) rfl rfl rfl (by decide) (by decide) k_547 rfl k_119 k_544 k_545 k_546 ⟨rfl, hy_Row_putFour⟩ (by decide) rfl rfl (Nat.le_of_ble_eq_true rfl) (by decide) (fun v9 u127 ch126 => ?_)
    obtain ⟨s_128, f_129⟩ := u127
    obtain ⟨ech126, ch126⟩ := ch126
    have ech126 : v9 = none := ech126
    subst ech126
    obtain ⟨fh130, fh131, fh132⟩ : (s_128.toInt = s.toInt + 4) ∧ (ap_ f s.toInt f_129 s_128.toInt (nk_ (67324752 : Int32).toInt 4)) ∧ (sb_Fit f_129) := ch126
    have aK := ap_app h0 aK fh131
    refine pb_eq (pc' := 55) (lo' := [(6, .int 1), (5, .int r_4), (4, .int i1), (0, .ref h), (1, .ref sp), (2, .int i), (3, .ref q)]) (rest' := []) (ws' := [(h, .inr (6, [.ref mm, .ref mr])), (tn, .inl (G.2.1, 384, .inl tfn)), (tz, .inl (G.2.2.1, 16, .inl tfz)), (sp, .inr (3, [.ref tn, .ref tz, .ref tb, .ref tg, .int c])), (tg, .inl (G.2.2.1, 17, .inl tfg)), (q, .inr (4, [.ref pp, .ref pl, .ref pe, .ref tb, .int i1, .int r_4, .int b_10, .int l_11, .int d_12])), (pp, .inr (0, [.ref pb, .int p_13])), (pb, .inl (G.2.1, 4502, .inl f_14)), (pl, .inl (G.2.2.1, 1024, .inl fl_15)), (pe, .inl (G.2.2.1, 4000, .inl fe_16)), (tb, .inl (G.2.1, 12000, .inl tfb)), (mm, .inr (0, [.ref mb, .int s_128])), (mb, .inl (G.2.1, 14006, .inl f_129))]) ?_
    refine pb_aload_n (pc := 55) d_FileMaker_putRecord_55 3 rfl rfl ?_
    refine pb_get (pc := 56) d_FileMaker_putRecord_56 0 0 rfl rfl (by decide) in_FileMaker k_292 rfl ?_
    refine pb_bipush (pc := 59) (v := 20) d_FileMaker_putRecord_59 (by decide) ?_
    refine pb_callV (pc := 61) (I := i_FileMaker_putRecord) (qb := 11) (ci := 0) (nA := 1) (rest := []) (wr := [(h, .inr (6, [.ref mm, .ref mr])), (tn, .inl (G.2.1, 384, .inl tfn)), (tz, .inl (G.2.2.1, 16, .inl tfz)), (sp, .inr (3, [.ref tn, .ref tz, .ref tb, .ref tg, .int c])), (tg, .inl (G.2.2.1, 17, .inl tfg)), (q, .inr (4, [.ref pp, .ref pl, .ref pe, .ref tb, .int i1, .int r_4, .int b_10, .int l_11, .int d_12])), (pp, .inr (0, [.ref pb, .int p_13])), (pb, .inl (G.2.1, 4502, .inl f_14)), (pl, .inl (G.2.2.1, 1024, .inl fl_15)), (pe, .inl (G.2.2.1, 4000, .inl fe_16)), (tb, .inl (G.2.1, 12000, .inl tfb))]) d_FileMaker_putRecord_61 (g_Row_putTwo hl G mm mb 14006 f_129 s_128 20 (by first | (with_reducible assumption) | omega (splitDisjunctions := false) | assumption | omega | decide) (by first | (with_reducible assumption) | omega (splitDisjunctions := false) | assumption | omega | decide) (by first | (with_reducible assumption) | omega (splitDisjunctions := false) | assumption | omega | decide) fh132) rfl rfl [11, 12] [0, 1, 2, 3, 4, 5, 6, 7, 8, 9, 10] (by decide) rfl rfl rfl (by decide) (by decide) k_551 rfl k_119 k_556 k_549 k_550 ⟨rfl, hy_Row_putTwo⟩ (by decide) rfl rfl (Nat.le_of_ble_eq_true rfl) (by decide) (fun v9 u134 ch133 => ?_)
    obtain ⟨s_135, f_136⟩ := u134
    obtain ⟨ech133, ch133⟩ := ch133
    have ech133 : v9 = none := ech133
    subst ech133
    obtain ⟨fh137, fh138, fh139⟩ : (s_135.toInt = s_128.toInt + 2) ∧ (ap_ f_129 s_128.toInt f_136 s_135.toInt (nk_ (20 : Int32).toInt 2)) ∧ (sb_Fit f_136) := ch133
    have aK := ap_app h0 aK fh138
    refine pb_eq (pc' := 64) (lo' := [(6, .int 1), (5, .int r_4), (4, .int i1), (0, .ref h), (1, .ref sp), (2, .int i), (3, .ref q)]) (rest' := []) (ws' := [(h, .inr (6, [.ref mm, .ref mr])), (tn, .inl (G.2.1, 384, .inl tfn)), (tz, .inl (G.2.2.1, 16, .inl tfz)), (sp, .inr (3, [.ref tn, .ref tz, .ref tb, .ref tg, .int c])), (tg, .inl (G.2.2.1, 17, .inl tfg)), (q, .inr (4, [.ref pp, .ref pl, .ref pe, .ref tb, .int i1, .int r_4, .int b_10, .int l_11, .int d_12])), (pp, .inr (0, [.ref pb, .int p_13])), (pb, .inl (G.2.1, 4502, .inl f_14)), (pl, .inl (G.2.2.1, 1024, .inl fl_15)), (pe, .inl (G.2.2.1, 4000, .inl fe_16)), (tb, .inl (G.2.1, 12000, .inl tfb)), (mm, .inr (0, [.ref mb, .int s_135])), (mb, .inl (G.2.1, 14006, .inl f_136))]) ?_
    refine pb_aload_n (pc := 64) d_FileMaker_putRecord_64 3 rfl rfl ?_
    refine pb_get (pc := 65) d_FileMaker_putRecord_65 0 0 rfl rfl (by decide) in_FileMaker k_292 rfl ?_
    refine pb_iconst (pc := 68) (v := 0) d_FileMaker_putRecord_68 (by decide) ?_
    refine pb_callV (pc := 69) (I := i_FileMaker_putRecord) (qb := 11) (ci := 0) (nA := 1) (rest := []) (wr := [(h, .inr (6, [.ref mm, .ref mr])), (tn, .inl (G.2.1, 384, .inl tfn)), (tz, .inl (G.2.2.1, 16, .inl tfz)), (sp, .inr (3, [.ref tn, .ref tz, .ref tb, .ref tg, .int c])), (tg, .inl (G.2.2.1, 17, .inl tfg)), (q, .inr (4, [.ref pp, .ref pl, .ref pe, .ref tb, .int i1, .int r_4, .int b_10, .int l_11, .int d_12])), (pp, .inr (0, [.ref pb, .int p_13])), (pb, .inl (G.2.1, 4502, .inl f_14)), (pl, .inl (G.2.2.1, 1024, .inl fl_15)), (pe, .inl (G.2.2.1, 4000, .inl fe_16)), (tb, .inl (G.2.1, 12000, .inl tfb))]) d_FileMaker_putRecord_69 (g_Row_putTwo hl G mm mb 14006 f_136 s_135 0 (by first | (with_reducible assumption) | omega (splitDisjunctions := false) | assumption | omega | decide) (by first | (with_reducible assumption) | omega (splitDisjunctions := false) | assumption | omega | decide) (by first | (with_reducible assumption) | omega (splitDisjunctions := false) | assumption | omega | decide) fh139) rfl rfl [11, 12] [0, 1, 2, 3, 4, 5, 6, 7, 8, 9, 10] (by decide) rfl rfl rfl (by decide) (by decide) k_551 rfl k_119 k_556 k_549 k_550 ⟨rfl, hy_Row_putTwo⟩ (by decide) rfl rfl (Nat.le_of_ble_eq_true rfl) (by decide) (fun v9 u141 ch140 => ?_)
    obtain ⟨s_142, f_143⟩ := u141
    obtain ⟨ech140, ch140⟩ := ch140
    have ech140 : v9 = none := ech140
    subst ech140
    obtain ⟨fh144, fh145, fh146⟩ : (s_142.toInt = s_135.toInt + 2) ∧ (ap_ f_136 s_135.toInt f_143 s_142.toInt (nk_ (0 : Int32).toInt 2)) ∧ (sb_Fit f_143) := ch140
    have aK := ap_app h0 aK fh145
    refine pb_eq (pc' := 72) (lo' := [(6, .int 1), (5, .int r_4), (4, .int i1), (0, .ref h), (1, .ref sp), (2, .int i), (3, .ref q)]) (rest' := []) (ws' := [(h, .inr (6, [.ref mm, .ref mr])), (tn, .inl (G.2.1, 384, .inl tfn)), (tz, .inl (G.2.2.1, 16, .inl tfz)), (sp, .inr (3, [.ref tn, .ref tz, .ref tb, .ref tg, .int c])), (tg, .inl (G.2.2.1, 17, .inl tfg)), (q, .inr (4, [.ref pp, .ref pl, .ref pe, .ref tb, .int i1, .int r_4, .int b_10, .int l_11, .int d_12])), (pp, .inr (0, [.ref pb, .int p_13])), (pb, .inl (G.2.1, 4502, .inl f_14)), (pl, .inl (G.2.2.1, 1024, .inl fl_15)), (pe, .inl (G.2.2.1, 4000, .inl fe_16)), (tb, .inl (G.2.1, 12000, .inl tfb)), (mm, .inr (0, [.ref mb, .int s_142])), (mb, .inl (G.2.1, 14006, .inl f_143))]) ?_
    refine pb_aload_n (pc := 72) d_FileMaker_putRecord_72 3 rfl rfl ?_
    refine pb_get (pc := 73) d_FileMaker_putRecord_73 0 0 rfl rfl (by decide) in_FileMaker k_292 rfl ?_
    refine pb_iload (pc := 76) d_FileMaker_putRecord_76 0 rfl ?_
    refine pb_if_eq (pc := 78) (tgt := 86) d_FileMaker_putRecord_78 (by decide) (fun h9 => absurd h9 (by decide)) (fun _ => ?_)
    refine pb_bipush (pc := 81) (v := 8) d_FileMaker_putRecord_81 (by decide) ?_
    refine pb_goto (pc := 83) (tgt := 87) d_FileMaker_putRecord_83 (by decide) ?_
    refine pb_callV (pc := 87) (I := i_FileMaker_putRecord) (qb := 11) (ci := 0) (nA := 1) (rest := []) (wr := [(h, .inr (6, [.ref mm, .ref mr])), (tn, .inl (G.2.1, 384, .inl tfn)), (tz, .inl (G.2.2.1, 16, .inl tfz)), (sp, .inr (3, [.ref tn, .ref tz, .ref tb, .ref tg, .int c])), (tg, .inl (G.2.2.1, 17, .inl tfg)), (q, .inr (4, [.ref pp, .ref pl, .ref pe, .ref tb, .int i1, .int r_4, .int b_10, .int l_11, .int d_12])), (pp, .inr (0, [.ref pb, .int p_13])), (pb, .inl (G.2.1, 4502, .inl f_14)), (pl, .inl (G.2.2.1, 1024, .inl fl_15)), (pe, .inl (G.2.2.1, 4000, .inl fe_16)), (tb, .inl (G.2.1, 12000, .inl tfb))]) d_FileMaker_putRecord_87 (g_Row_putTwo hl G mm mb 14006 f_143 s_142 8 (by first | (with_reducible assumption) | omega (splitDisjunctions := false) | assumption | omega | decide) (by first | (with_reducible assumption) | omega (splitDisjunctions := false) | assumption | omega | decide) (by first | (with_reducible assumption) | omega (splitDisjunctions := false) | assumption | omega | decide) fh146) rfl rfl [11, 12] [0, 1, 2, 3, 4, 5, 6, 7, 8, 9, 10] (by decide) rfl rfl rfl (by decide) (by decide) k_551 rfl k_119 k_556 k_549 k_550 ⟨rfl, hy_Row_putTwo⟩ (by decide) rfl rfl (Nat.le_of_ble_eq_true rfl) (by decide) (fun v9 u149 ch148 => ?_)
    obtain ⟨s_150, f_151⟩ := u149
    obtain ⟨ech148, ch148⟩ := ch148
    have ech148 : v9 = none := ech148
    subst ech148
    obtain ⟨fh152, fh153, fh154⟩ : (s_150.toInt = s_142.toInt + 2) ∧ (ap_ f_143 s_142.toInt f_151 s_150.toInt (nk_ (8 : Int32).toInt 2)) ∧ (sb_Fit f_151) := ch148
    have aK := ap_app h0 aK fh153
    refine pb_eq (pc' := 90) (lo' := [(6, .int 1), (5, .int r_4), (4, .int i1), (0, .ref h), (1, .ref sp), (2, .int i), (3, .ref q)]) (rest' := []) (ws' := [(h, .inr (6, [.ref mm, .ref mr])), (tn, .inl (G.2.1, 384, .inl tfn)), (tz, .inl (G.2.2.1, 16, .inl tfz)), (sp, .inr (3, [.ref tn, .ref tz, .ref tb, .ref tg, .int c])), (tg, .inl (G.2.2.1, 17, .inl tfg)), (q, .inr (4, [.ref pp, .ref pl, .ref pe, .ref tb, .int i1, .int r_4, .int b_10, .int l_11, .int d_12])), (pp, .inr (0, [.ref pb, .int p_13])), (pb, .inl (G.2.1, 4502, .inl f_14)), (pl, .inl (G.2.2.1, 1024, .inl fl_15)), (pe, .inl (G.2.2.1, 4000, .inl fe_16)), (tb, .inl (G.2.1, 12000, .inl tfb)), (mm, .inr (0, [.ref mb, .int s_150])), (mb, .inl (G.2.1, 14006, .inl f_151))]) ?_
    refine pb_aload_n (pc := 90) d_FileMaker_putRecord_90 3 rfl rfl ?_
    refine pb_get (pc := 91) d_FileMaker_putRecord_91 0 0 rfl rfl (by decide) in_FileMaker k_292 rfl ?_
    refine pb_iconst (pc := 94) (v := 0) d_FileMaker_putRecord_94 (by decide) ?_
    refine pb_callV (pc := 95) (I := i_FileMaker_putRecord) (qb := 11) (ci := 0) (nA := 1) (rest := []) (wr := [(h, .inr (6, [.ref mm, .ref mr])), (tn, .inl (G.2.1, 384, .inl tfn)), (tz, .inl (G.2.2.1, 16, .inl tfz)), (sp, .inr (3, [.ref tn, .ref tz, .ref tb, .ref tg, .int c])), (tg, .inl (G.2.2.1, 17, .inl tfg)), (q, .inr (4, [.ref pp, .ref pl, .ref pe, .ref tb, .int i1, .int r_4, .int b_10, .int l_11, .int d_12])), (pp, .inr (0, [.ref pb, .int p_13])), (pb, .inl (G.2.1, 4502, .inl f_14)), (pl, .inl (G.2.2.1, 1024, .inl fl_15)), (pe, .inl (G.2.2.1, 4000, .inl fe_16)), (tb, .inl (G.2.1, 12000, .inl tfb))]) d_FileMaker_putRecord_95 (g_Row_putTwo hl G mm mb 14006 f_151 s_150 0 (by first | (with_reducible assumption) | omega (splitDisjunctions := false) | assumption | omega | decide) (by first | (with_reducible assumption) | omega (splitDisjunctions := false) | assumption | omega | decide) (by first | (with_reducible assumption) | omega (splitDisjunctions := false) | assumption | omega | decide) fh154) rfl rfl [11, 12] [0, 1, 2, 3, 4, 5, 6, 7, 8, 9, 10] (by decide) rfl rfl rfl (by decide) (by decide) k_551 rfl k_119 k_556 k_549 k_550 ⟨rfl, hy_Row_putTwo⟩ (by decide) rfl rfl (Nat.le_of_ble_eq_true rfl) (by decide) (fun v9 u156 ch155 => ?_)
    obtain ⟨s_157, f_158⟩ := u156
    obtain ⟨ech155, ch155⟩ := ch155
    have ech155 : v9 = none := ech155
    subst ech155
    obtain ⟨fh159, fh160, fh161⟩ : (s_157.toInt = s_150.toInt + 2) ∧ (ap_ f_151 s_150.toInt f_158 s_157.toInt (nk_ (0 : Int32).toInt 2)) ∧ (sb_Fit f_158) := ch155
    have aK := ap_app h0 aK fh160
    refine pb_eq (pc' := 98) (lo' := [(6, .int 1), (5, .int r_4), (4, .int i1), (0, .ref h), (1, .ref sp), (2, .int i), (3, .ref q)]) (rest' := []) (ws' := [(h, .inr (6, [.ref mm, .ref mr])), (tn, .inl (G.2.1, 384, .inl tfn)), (tz, .inl (G.2.2.1, 16, .inl tfz)), (sp, .inr (3, [.ref tn, .ref tz, .ref tb, .ref tg, .int c])), (tg, .inl (G.2.2.1, 17, .inl tfg)), (q, .inr (4, [.ref pp, .ref pl, .ref pe, .ref tb, .int i1, .int r_4, .int b_10, .int l_11, .int d_12])), (pp, .inr (0, [.ref pb, .int p_13])), (pb, .inl (G.2.1, 4502, .inl f_14)), (pl, .inl (G.2.2.1, 1024, .inl fl_15)), (pe, .inl (G.2.2.1, 4000, .inl fe_16)), (tb, .inl (G.2.1, 12000, .inl tfb)), (mm, .inr (0, [.ref mb, .int s_157])), (mb, .inl (G.2.1, 14006, .inl f_158))]) ?_
    refine pb_aload_n (pc := 98) d_FileMaker_putRecord_98 3 rfl rfl ?_
    refine pb_get (pc := 99) d_FileMaker_putRecord_99 0 0 rfl rfl (by decide) in_FileMaker k_292 rfl ?_
    refine pb_bipush (pc := 102) (v := 33) d_FileMaker_putRecord_102 (by decide) ?_
    refine pb_callV (pc := 104) (I := i_FileMaker_putRecord) (qb := 11) (ci := 0) (nA := 1) (rest := []) (wr := [(h, .inr (6, [.ref mm, .ref mr])), (tn, .inl (G.2.1, 384, .inl tfn)), (tz, .inl (G.2.2.1, 16, .inl tfz)), (sp, .inr (3, [.ref tn, .ref tz, .ref tb, .ref tg, .int c])), (tg, .inl (G.2.2.1, 17, .inl tfg)), (q, .inr (4, [.ref pp, .ref pl, .ref pe, .ref tb, .int i1, .int r_4, .int b_10, .int l_11, .int d_12])), (pp, .inr (0, [.ref pb, .int p_13])), (pb, .inl (G.2.1, 4502, .inl f_14)), (pl, .inl (G.2.2.1, 1024, .inl fl_15)), (pe, .inl (G.2.2.1, 4000, .inl fe_16)), (tb, .inl (G.2.1, 12000, .inl tfb))]) d_FileMaker_putRecord_104 (g_Row_putTwo hl G mm mb 14006 f_158 s_157 33 (by first | (with_reducible assumption) | omega (splitDisjunctions := false) | assumption | omega | decide) (by first | (with_reducible assumption) | omega (splitDisjunctions := false) | assumption | omega | decide) (by first | (with_reducible assumption) | omega (splitDisjunctions := false) | assumption | omega | decide) fh161) rfl rfl [11, 12] [0, 1, 2, 3, 4, 5, 6, 7, 8, 9, 10] (by decide) rfl rfl rfl (by decide) (by decide) k_551 rfl k_119 k_556 k_549 k_550 ⟨rfl, hy_Row_putTwo⟩ (by decide) rfl rfl (Nat.le_of_ble_eq_true rfl) (by decide) (fun v9 u163 ch162 => ?_)
    obtain ⟨s_164, f_165⟩ := u163
    obtain ⟨ech162, ch162⟩ := ch162
    have ech162 : v9 = none := ech162
    subst ech162
    obtain ⟨fh166, fh167, fh168⟩ : (s_164.toInt = s_157.toInt + 2) ∧ (ap_ f_158 s_157.toInt f_165 s_164.toInt (nk_ (33 : Int32).toInt 2)) ∧ (sb_Fit f_165) := ch162
    have aK := ap_app h0 aK fh167
    refine pb_eq (pc' := 107) (lo' := [(6, .int 1), (5, .int r_4), (4, .int i1), (0, .ref h), (1, .ref sp), (2, .int i), (3, .ref q)]) (rest' := []) (ws' := [(h, .inr (6, [.ref mm, .ref mr])), (tn, .inl (G.2.1, 384, .inl tfn)), (tz, .inl (G.2.2.1, 16, .inl tfz)), (sp, .inr (3, [.ref tn, .ref tz, .ref tb, .ref tg, .int c])), (tg, .inl (G.2.2.1, 17, .inl tfg)), (q, .inr (4, [.ref pp, .ref pl, .ref pe, .ref tb, .int i1, .int r_4, .int b_10, .int l_11, .int d_12])), (pp, .inr (0, [.ref pb, .int p_13])), (pb, .inl (G.2.1, 4502, .inl f_14)), (pl, .inl (G.2.2.1, 1024, .inl fl_15)), (pe, .inl (G.2.2.1, 4000, .inl fe_16)), (tb, .inl (G.2.1, 12000, .inl tfb)), (mm, .inr (0, [.ref mb, .int s_164])), (mb, .inl (G.2.1, 14006, .inl f_165))]) ?_
    refine pb_aload_n (pc := 107) d_FileMaker_putRecord_107 3 rfl rfl ?_
    refine pb_get (pc := 108) d_FileMaker_putRecord_108 0 0 rfl rfl (by decide) in_FileMaker k_292 rfl ?_
    refine pb_aload_n (pc := 111) d_FileMaker_putRecord_111 4 rfl rfl ?_
    refine pb_getN (pc := 112) d_FileMaker_putRecord_112 3 2 rfl rfl (by decide) in_Shelf k_397 rfl ?_
    refine pb_iload (pc := 115) d_FileMaker_putRecord_115 2 rfl ?_
    refine pb_iload (pc := 117) d_FileMaker_putRecord_117 1 rfl ?_
    refine pb_callSN (pc := 119) (I := i_FileMaker_putRecord) (nA := 3) (rest := [.ref mm]) (wr := [(h, .inr (6, [.ref mm, .ref mr])), (tn, .inl (G.2.1, 384, .inl tfn)), (tz, .inl (G.2.2.1, 16, .inl tfz)), (sp, .inr (3, [.ref tn, .ref tz, .ref tb, .ref tg, .int c])), (tg, .inl (G.2.2.1, 17, .inl tfg)), (q, .inr (4, [.ref pp, .ref pl, .ref pe, .ref tb, .int i1, .int r_4, .int b_10, .int l_11, .int d_12])), (pp, .inr (0, [.ref pb, .int p_13])), (pb, .inl (G.2.1, 4502, .inl f_14)), (pl, .inl (G.2.2.1, 1024, .inl fl_15)), (pe, .inl (G.2.2.1, 4000, .inl fe_16)), (mm, .inr (0, [.ref mb, .int s_164])), (mb, .inl (G.2.1, 14006, .inl f_165))]) d_FileMaker_putRecord_119 (g_sumOf hl G tb 12000 tfb i1 r_4 (by first | (with_reducible assumption) | omega (splitDisjunctions := false) | assumption | omega | decide) (by first | (with_reducible assumption) | omega (splitDisjunctions := false) | assumption | omega | decide) (by first | (with_reducible assumption) | omega (splitDisjunctions := false) | assumption | omega | decide) (by first | (with_reducible assumption) | omega (splitDisjunctions := false) | assumption | omega | decide) F_tfb) [10] [0, 1, 2, 3, 4, 5, 6, 7, 8, 9, 11, 12] (by decide) rfl rfl rfl (by decide) (by decide) k_559 rfl k_118 k_557 k_558 hy_Book_sumOf (by decide) rfl rfl (Nat.le_of_ble_eq_true rfl) (by decide) (fun v9 u170 ch169 => ?_)
    obtain ⟨r_171, rfl⟩ : ∃ z9, z9 = u170 := ⟨_, rfl⟩
    obtain ⟨ech169, ch169⟩ := ch169
    have ech169 : v9 = some (.int r_171) := ech169
    subst ech169
    have fh172 : r_171 = cr_n tfb i1.toInt r_4.toInt.toNat ^^^ (-1) := ch169
    have suF := su_E fh172 (show r_4.toInt = vS V i.toInt by omega) (fun k h0 h1 => by rw [show i1.toInt = gx tfg i.toInt by omega]; exact Ri.2.2.2 k h0 h1) (by omega)
    refine pb_eq (pc' := 122) (lo' := [(6, .int 1), (5, .int r_4), (4, .int i1), (0, .ref h), (1, .ref sp), (2, .int i), (3, .ref q)]) (rest' := [.int r_171, .ref mm]) (ws' := [(h, .inr (6, [.ref mm, .ref mr])), (tn, .inl (G.2.1, 384, .inl tfn)), (tz, .inl (G.2.2.1, 16, .inl tfz)), (sp, .inr (3, [.ref tn, .ref tz, .ref tb, .ref tg, .int c])), (tg, .inl (G.2.2.1, 17, .inl tfg)), (q, .inr (4, [.ref pp, .ref pl, .ref pe, .ref tb, .int i1, .int r_4, .int b_10, .int l_11, .int d_12])), (pp, .inr (0, [.ref pb, .int p_13])), (pb, .inl (G.2.1, 4502, .inl f_14)), (pl, .inl (G.2.2.1, 1024, .inl fl_15)), (pe, .inl (G.2.2.1, 4000, .inl fe_16)), (mm, .inr (0, [.ref mb, .int s_164])), (mb, .inl (G.2.1, 14006, .inl f_165)), (tb, .inl (G.2.1, 12000, .inl tfb))]) ?_
    refine pb_callV (pc := 122) (I := i_FileMaker_putRecord) (qb := 10) (ci := 0) (nA := 1) (rest := []) (wr := [(h, .inr (6, [.ref mm, .ref mr])), (tn, .inl (G.2.1, 384, .inl tfn)), (tz, .inl (G.2.2.1, 16, .inl tfz)), (sp, .inr (3, [.ref tn, .ref tz, .ref tb, .ref tg, .int c])), (tg, .inl (G.2.2.1, 17, .inl tfg)), (q, .inr (4, [.ref pp, .ref pl, .ref pe, .ref tb, .int i1, .int r_4, .int b_10, .int l_11, .int d_12])), (pp, .inr (0, [.ref pb, .int p_13])), (pb, .inl (G.2.1, 4502, .inl f_14)), (pl, .inl (G.2.2.1, 1024, .inl fl_15)), (pe, .inl (G.2.2.1, 4000, .inl fe_16)), (tb, .inl (G.2.1, 12000, .inl tfb))]) d_FileMaker_putRecord_122 (g_Row_putFour hl G mm mb 14006 f_165 s_164 r_171 (by first | (with_reducible assumption) | omega (splitDisjunctions := false) | assumption | omega | decide) (by first | (with_reducible assumption) | omega (splitDisjunctions := false) | assumption | omega | decide) (by first | (with_reducible assumption) | omega (splitDisjunctions := false) | assumption | omega | decide) fh168) rfl rfl [10, 11] [0, 1, 2, 3, 4, 5, 6, 7, 8, 9, 12] (by decide) rfl rfl rfl (by decide) (by decide) k_547 rfl k_119 k_544 k_545 k_546 ⟨rfl, hy_Row_putFour⟩ (by decide) rfl rfl (Nat.le_of_ble_eq_true rfl) (by decide) (fun v9 u174 ch173 => ?_)
    obtain ⟨s_175, f_176⟩ := u174
    obtain ⟨ech173, ch173⟩ := ch173
    have ech173 : v9 = none := ech173
    subst ech173
    obtain ⟨fh177, fh178, fh179⟩ : (s_175.toInt = s_164.toInt + 4) ∧ (ap_ f_165 s_164.toInt f_176 s_175.toInt (nk_ r_171.toInt 4)) ∧ (sb_Fit f_176) := ch173
    have aK := ap_app h0 aK fh178
    refine pb_eq (pc' := 125) (lo' := [(6, .int 1), (5, .int r_4), (4, .int i1), (0, .ref h), (1, .ref sp), (2, .int i), (3, .ref q)]) (rest' := []) (ws' := [(h, .inr (6, [.ref mm, .ref mr])), (tn, .inl (G.2.1, 384, .inl tfn)), (tz, .inl (G.2.2.1, 16, .inl tfz)), (sp, .inr (3, [.ref tn, .ref tz, .ref tb, .ref tg, .int c])), (tg, .inl (G.2.2.1, 17, .inl tfg)), (q, .inr (4, [.ref pp, .ref pl, .ref pe, .ref tb, .int i1, .int r_4, .int b_10, .int l_11, .int d_12])), (pp, .inr (0, [.ref pb, .int p_13])), (pb, .inl (G.2.1, 4502, .inl f_14)), (pl, .inl (G.2.2.1, 1024, .inl fl_15)), (pe, .inl (G.2.2.1, 4000, .inl fe_16)), (tb, .inl (G.2.1, 12000, .inl tfb)), (mm, .inr (0, [.ref mb, .int s_175])), (mb, .inl (G.2.1, 14006, .inl f_176))]) ?_
    refine pb_aload_n (pc := 125) d_FileMaker_putRecord_125 3 rfl rfl ?_
    refine pb_get (pc := 126) d_FileMaker_putRecord_126 0 0 rfl rfl (by decide) in_FileMaker k_292 rfl ?_
    refine pb_iload (pc := 129) d_FileMaker_putRecord_129 0 rfl ?_
    refine pb_if_eq (pc := 131) (tgt := 144) d_FileMaker_putRecord_131 (by decide) (fun h9 => absurd h9 (by decide)) (fun _ => ?_)
    refine pb_aload_n (pc := 134) d_FileMaker_putRecord_134 6 rfl rfl ?_
    refine pb_getN (pc := 135) d_FileMaker_putRecord_135 5 0 rfl rfl (by decide) in_Presser k_182 rfl ?_
    refine pb_getN (pc := 138) d_FileMaker_putRecord_138 6 1 rfl rfl (by decide) in_Row k_163 rfl ?_
    refine pb_goto (pc := 141) (tgt := 146) d_FileMaker_putRecord_141 (by decide) ?_
    refine pb_callV (pc := 146) (I := i_FileMaker_putRecord) (qb := 11) (ci := 0) (nA := 1) (rest := []) (wr := [(h, .inr (6, [.ref mm, .ref mr])), (tn, .inl (G.2.1, 384, .inl tfn)), (tz, .inl (G.2.2.1, 16, .inl tfz)), (sp, .inr (3, [.ref tn, .ref tz, .ref tb, .ref tg, .int c])), (tg, .inl (G.2.2.1, 17, .inl tfg)), (q, .inr (4, [.ref pp, .ref pl, .ref pe, .ref tb, .int i1, .int r_4, .int b_10, .int l_11, .int d_12])), (pp, .inr (0, [.ref pb, .int p_13])), (pb, .inl (G.2.1, 4502, .inl f_14)), (pl, .inl (G.2.2.1, 1024, .inl fl_15)), (pe, .inl (G.2.2.1, 4000, .inl fe_16)), (tb, .inl (G.2.1, 12000, .inl tfb))]) d_FileMaker_putRecord_146 (g_Row_putFour hl G mm mb 14006 f_176 s_175 p_13 (by first | (with_reducible assumption) | omega (splitDisjunctions := false) | assumption | omega | decide) (by first | (with_reducible assumption) | omega (splitDisjunctions := false) | assumption | omega | decide) (by first | (with_reducible assumption) | omega (splitDisjunctions := false) | assumption | omega | decide) fh179) rfl rfl [11, 12] [0, 1, 2, 3, 4, 5, 6, 7, 8, 9, 10] (by decide) rfl rfl rfl (by decide) (by decide) k_547 rfl k_119 k_544 k_545 k_546 ⟨rfl, hy_Row_putFour⟩ (by decide) rfl rfl (Nat.le_of_ble_eq_true rfl) (by decide) (fun v9 u182 ch181 => ?_)
    obtain ⟨s_183, f_184⟩ := u182
    obtain ⟨ech181, ch181⟩ := ch181
    have ech181 : v9 = none := ech181
    subst ech181
    obtain ⟨fh185, fh186, fh187⟩ : (s_183.toInt = s_175.toInt + 4) ∧ (ap_ f_176 s_175.toInt f_184 s_183.toInt (nk_ p_13.toInt 4)) ∧ (sb_Fit f_184) := ch181
    have aK := ap_app h0 aK fh186
    refine pb_eq (pc' := 149) (lo' := [(6, .int 1), (5, .int r_4), (4, .int i1), (0, .ref h), (1, .ref sp), (2, .int i), (3, .ref q)]) (rest' := []) (ws' := [(h, .inr (6, [.ref mm, .ref mr])), (tn, .inl (G.2.1, 384, .inl tfn)), (tz, .inl (G.2.2.1, 16, .inl tfz)), (sp, .inr (3, [.ref tn, .ref tz, .ref tb, .ref tg, .int c])), (tg, .inl (G.2.2.1, 17, .inl tfg)), (q, .inr (4, [.ref pp, .ref pl, .ref pe, .ref tb, .int i1, .int r_4, .int b_10, .int l_11, .int d_12])), (pp, .inr (0, [.ref pb, .int p_13])), (pb, .inl (G.2.1, 4502, .inl f_14)), (pl, .inl (G.2.2.1, 1024, .inl fl_15)), (pe, .inl (G.2.2.1, 4000, .inl fe_16)), (tb, .inl (G.2.1, 12000, .inl tfb)), (mm, .inr (0, [.ref mb, .int s_183])), (mb, .inl (G.2.1, 14006, .inl f_184))]) ?_
    refine pb_aload_n (pc := 149) d_FileMaker_putRecord_149 3 rfl rfl ?_
    refine pb_get (pc := 150) d_FileMaker_putRecord_150 0 0 rfl rfl (by decide) in_FileMaker k_292 rfl ?_
    refine pb_iload (pc := 153) d_FileMaker_putRecord_153 1 rfl ?_
    refine pb_callV (pc := 155) (I := i_FileMaker_putRecord) (qb := 11) (ci := 0) (nA := 1) (rest := []) (wr := [(h, .inr (6, [.ref mm, .ref mr])), (tn, .inl (G.2.1, 384, .inl tfn)), (tz, .inl (G.2.2.1, 16, .inl tfz)), (sp, .inr (3, [.ref tn, .ref tz, .ref tb, .ref tg, .int c])), (tg, .inl (G.2.2.1, 17, .inl tfg)), (q, .inr (4, [.ref pp, .ref pl, .ref pe, .ref tb, .int i1, .int r_4, .int b_10, .int l_11, .int d_12])), (pp, .inr (0, [.ref pb, .int p_13])), (pb, .inl (G.2.1, 4502, .inl f_14)), (pl, .inl (G.2.2.1, 1024, .inl fl_15)), (pe, .inl (G.2.2.1, 4000, .inl fe_16)), (tb, .inl (G.2.1, 12000, .inl tfb))]) d_FileMaker_putRecord_155 (g_Row_putFour hl G mm mb 14006 f_184 s_183 r_4 (by first | (with_reducible assumption) | omega (splitDisjunctions := false) | assumption | omega | decide) (by first | (with_reducible assumption) | omega (splitDisjunctions := false) | assumption | omega | decide) (by first | (with_reducible assumption) | omega (splitDisjunctions := false) | assumption | omega | decide) fh187) rfl rfl [11, 12] [0, 1, 2, 3, 4, 5, 6, 7, 8, 9, 10] (by decide) rfl rfl rfl (by decide) (by decide) k_547 rfl k_119 k_544 k_545 k_546 ⟨rfl, hy_Row_putFour⟩ (by decide) rfl rfl (Nat.le_of_ble_eq_true rfl) (by decide) (fun v9 u189 ch188 => ?_)
    obtain ⟨s_190, f_191⟩ := u189
    obtain ⟨ech188, ch188⟩ := ch188
    have ech188 : v9 = none := ech188
    subst ech188
    obtain ⟨fh192, fh193, fh194⟩ : (s_190.toInt = s_183.toInt + 4) ∧ (ap_ f_184 s_183.toInt f_191 s_190.toInt (nk_ r_4.toInt 4)) ∧ (sb_Fit f_191) := ch188
    have aK := ap_app h0 aK fh193
    refine pb_eq (pc' := 158) (lo' := [(6, .int 1), (5, .int r_4), (4, .int i1), (0, .ref h), (1, .ref sp), (2, .int i), (3, .ref q)]) (rest' := []) (ws' := [(h, .inr (6, [.ref mm, .ref mr])), (tn, .inl (G.2.1, 384, .inl tfn)), (tz, .inl (G.2.2.1, 16, .inl tfz)), (sp, .inr (3, [.ref tn, .ref tz, .ref tb, .ref tg, .int c])), (tg, .inl (G.2.2.1, 17, .inl tfg)), (q, .inr (4, [.ref pp, .ref pl, .ref pe, .ref tb, .int i1, .int r_4, .int b_10, .int l_11, .int d_12])), (pp, .inr (0, [.ref pb, .int p_13])), (pb, .inl (G.2.1, 4502, .inl f_14)), (pl, .inl (G.2.2.1, 1024, .inl fl_15)), (pe, .inl (G.2.2.1, 4000, .inl fe_16)), (tb, .inl (G.2.1, 12000, .inl tfb)), (mm, .inr (0, [.ref mb, .int s_190])), (mb, .inl (G.2.1, 14006, .inl f_191))]) ?_
    refine pb_aload_n (pc := 158) d_FileMaker_putRecord_158 3 rfl rfl ?_
    refine pb_get (pc := 159) d_FileMaker_putRecord_159 0 0 rfl rfl (by decide) in_FileMaker k_292 rfl ?_
    refine pb_aload_n (pc := 162) d_FileMaker_putRecord_162 4 rfl rfl ?_
    refine pb_getN (pc := 163) d_FileMaker_putRecord_163 3 1 rfl rfl (by decide) in_Shelf k_393 rfl ?_
    refine pb_iload_n (pc := 166) d_FileMaker_putRecord_166 5 rfl rfl ?_
    refine pb_iald (pc := 167) d_FileMaker_putRecord_167 2 rfl (vp_in_iff.mpr (by constructor <;> omega)) ?_
    refine pb_topi (fun i195 ei195 => ?_)
    have ti195 : i195.toInt = gx tfz (i.toInt) := gx_ld ei195 rfl
    refine pb_callV (pc := 168) (I := i_FileMaker_putRecord) (qb := 11) (ci := 0) (nA := 1) (rest := []) (wr := [(h, .inr (6, [.ref mm, .ref mr])), (tn, .inl (G.2.1, 384, .inl tfn)), (tz, .inl (G.2.2.1, 16, .inl tfz)), (sp, .inr (3, [.ref tn, .ref tz, .ref tb, .ref tg, .int c])), (tg, .inl (G.2.2.1, 17, .inl tfg)), (q, .inr (4, [.ref pp, .ref pl, .ref pe, .ref tb, .int i1, .int r_4, .int b_10, .int l_11, .int d_12])), (pp, .inr (0, [.ref pb, .int p_13])), (pb, .inl (G.2.1, 4502, .inl f_14)), (pl, .inl (G.2.2.1, 1024, .inl fl_15)), (pe, .inl (G.2.2.1, 4000, .inl fe_16)), (tb, .inl (G.2.1, 12000, .inl tfb))]) d_FileMaker_putRecord_168 (g_Row_putTwo hl G mm mb 14006 f_191 s_190 i195 (by first | (with_reducible assumption) | omega (splitDisjunctions := false) | assumption | omega | decide) (by first | (with_reducible assumption) | omega (splitDisjunctions := false) | assumption | omega | decide) (by first | (with_reducible assumption) | omega (splitDisjunctions := false) | assumption | omega | decide) fh194) rfl rfl [11, 12] [0, 1, 2, 3, 4, 5, 6, 7, 8, 9, 10] (by decide) rfl rfl rfl (by decide) (by decide) k_551 rfl k_119 k_556 k_549 k_550 ⟨rfl, hy_Row_putTwo⟩ (by decide) rfl rfl (Nat.le_of_ble_eq_true rfl) (by decide) (fun v9 u197 ch196 => ?_)
    obtain ⟨s_198, f_199⟩ := u197
    obtain ⟨ech196, ch196⟩ := ch196
    have ech196 : v9 = none := ech196
    subst ech196
    obtain ⟨fh200, fh201, fh202⟩ : (s_198.toInt = s_190.toInt + 2) ∧ (ap_ f_191 s_190.toInt f_199 s_198.toInt (nk_ i195.toInt 2)) ∧ (sb_Fit f_199) := ch196
    have aK := ap_app h0 aK fh201
    refine pb_eq (pc' := 171) (lo' := [(6, .int 1), (5, .int r_4), (4, .int i1), (0, .ref h), (1, .ref sp), (2, .int i), (3, .ref q)]) (rest' := []) (ws' := [(h, .inr (6, [.ref mm, .ref mr])), (tn, .inl (G.2.1, 384, .inl tfn)), (tz, .inl (G.2.2.1, 16, .inl tfz)), (sp, .inr (3, [.ref tn, .ref tz, .ref tb, .ref tg, .int c])), (tg, .inl (G.2.2.1, 17, .inl tfg)), (q, .inr (4, [.ref pp, .ref pl, .ref pe, .ref tb, .int i1, .int r_4, .int b_10, .int l_11, .int d_12])), (pp, .inr (0, [.ref pb, .int p_13])), (pb, .inl (G.2.1, 4502, .inl f_14)), (pl, .inl (G.2.2.1, 1024, .inl fl_15)), (pe, .inl (G.2.2.1, 4000, .inl fe_16)), (tb, .inl (G.2.1, 12000, .inl tfb)), (mm, .inr (0, [.ref mb, .int s_198])), (mb, .inl (G.2.1, 14006, .inl f_199))]) ?_
    refine pb_aload_n (pc := 171) d_FileMaker_putRecord_171 3 rfl rfl ?_
    refine pb_get (pc := 172) d_FileMaker_putRecord_172 0 0 rfl rfl (by decide) in_FileMaker k_292 rfl ?_
    refine pb_iconst (pc := 175) (v := 0) d_FileMaker_putRecord_175 (by decide) ?_
    refine pb_callV (pc := 176) (I := i_FileMaker_putRecord) (qb := 11) (ci := 0) (nA := 1) (rest := []) (wr := [(h, .inr (6, [.ref mm, .ref mr])), (tn, .inl (G.2.1, 384, .inl tfn)), (tz, .inl (G.2.2.1, 16, .inl tfz)), (sp, .inr (3, [.ref tn, .ref tz, .ref tb, .ref tg, .int c])), (tg, .inl (G.2.2.1, 17, .inl tfg)), (q, .inr (4, [.ref pp, .ref pl, .ref pe, .ref tb, .int i1, .int r_4, .int b_10, .int l_11, .int d_12])), (pp, .inr (0, [.ref pb, .int p_13])), (pb, .inl (G.2.1, 4502, .inl f_14)), (pl, .inl (G.2.2.1, 1024, .inl fl_15)), (pe, .inl (G.2.2.1, 4000, .inl fe_16)), (tb, .inl (G.2.1, 12000, .inl tfb))]) d_FileMaker_putRecord_176 (g_Row_putTwo hl G mm mb 14006 f_199 s_198 0 (by first | (with_reducible assumption) | omega (splitDisjunctions := false) | assumption | omega | decide) (by first | (with_reducible assumption) | omega (splitDisjunctions := false) | assumption | omega | decide) (by first | (with_reducible assumption) | omega (splitDisjunctions := false) | assumption | omega | decide) fh202) rfl rfl [11, 12] [0, 1, 2, 3, 4, 5, 6, 7, 8, 9, 10] (by decide) rfl rfl rfl (by decide) (by decide) k_551 rfl k_119 k_556 k_549 k_550 ⟨rfl, hy_Row_putTwo⟩ (by decide) rfl rfl (Nat.le_of_ble_eq_true rfl) (by decide) (fun v9 u204 ch203 => ?_)
    obtain ⟨s_205, f_206⟩ := u204
    obtain ⟨ech203, ch203⟩ := ch203
    have ech203 : v9 = none := ech203
    subst ech203
    obtain ⟨fh207, fh208, fh209⟩ : (s_205.toInt = s_198.toInt + 2) ∧ (ap_ f_199 s_198.toInt f_206 s_205.toInt (nk_ (0 : Int32).toInt 2)) ∧ (sb_Fit f_206) := ch203
    have aK := ap_app h0 aK fh208
    refine pb_eq (pc' := 179) (lo' := [(6, .int 1), (5, .int r_4), (4, .int i1), (0, .ref h), (1, .ref sp), (2, .int i), (3, .ref q)]) (rest' := []) (ws' := [(h, .inr (6, [.ref mm, .ref mr])), (tn, .inl (G.2.1, 384, .inl tfn)), (tz, .inl (G.2.2.1, 16, .inl tfz)), (sp, .inr (3, [.ref tn, .ref tz, .ref tb, .ref tg, .int c])), (tg, .inl (G.2.2.1, 17, .inl tfg)), (q, .inr (4, [.ref pp, .ref pl, .ref pe, .ref tb, .int i1, .int r_4, .int b_10, .int l_11, .int d_12])), (pp, .inr (0, [.ref pb, .int p_13])), (pb, .inl (G.2.1, 4502, .inl f_14)), (pl, .inl (G.2.2.1, 1024, .inl fl_15)), (pe, .inl (G.2.2.1, 4000, .inl fe_16)), (tb, .inl (G.2.1, 12000, .inl tfb)), (mm, .inr (0, [.ref mb, .int s_205])), (mb, .inl (G.2.1, 14006, .inl f_206))]) ?_
    refine pb_aload_n (pc := 179) d_FileMaker_putRecord_179 3 rfl rfl ?_
    refine pb_get (pc := 180) d_FileMaker_putRecord_180 0 0 rfl rfl (by decide) in_FileMaker k_292 rfl ?_
    refine pb_aload_n (pc := 183) d_FileMaker_putRecord_183 4 rfl rfl ?_
    refine pb_getN (pc := 184) d_FileMaker_putRecord_184 3 0 rfl rfl (by decide) in_Shelf k_390 rfl ?_
    refine pb_bipush (pc := 187) (v := 24) d_FileMaker_putRecord_187 (by decide) ?_
    refine pb_iload_n (pc := 189) d_FileMaker_putRecord_189 5 rfl rfl ?_
    refine pb_imul (pc := 190) d_FileMaker_putRecord_190 ?_
    refine pb_topi (fun i210 ei210 => ?_)
    try have ti210 : i210.toInt = 24 * i.toInt := ti_mul ei210 (by decide) rfl (by omega) (by omega)
    refine pb_aload_n (pc := 191) d_FileMaker_putRecord_191 4 rfl rfl ?_
    refine pb_getN (pc := 192) d_FileMaker_putRecord_192 3 1 rfl rfl (by decide) in_Shelf k_393 rfl ?_
    refine pb_iload_n (pc := 195) d_FileMaker_putRecord_195 5 rfl rfl ?_
    refine pb_iald (pc := 196) d_FileMaker_putRecord_196 2 rfl (vp_in_iff.mpr (by constructor <;> omega)) ?_
    refine pb_topi (fun i211 ei211 => ?_)
    have ti211 : i211.toInt = gx tfz (i.toInt) := gx_ld ei211 rfl
    have eNz : i211.toInt = vZ V i.toInt := by omega
    have eNx : i210.toInt = 24 * i.toInt := by omega
    refine pb_callV (pc := 197) (I := i_FileMaker_putRecord) (qb := 11) (ci := 0) (nA := 3) (rest := []) (wr := [(h, .inr (6, [.ref mm, .ref mr])), (tz, .inl (G.2.2.1, 16, .inl tfz)), (sp, .inr (3, [.ref tn, .ref tz, .ref tb, .ref tg, .int c])), (tg, .inl (G.2.2.1, 17, .inl tfg)), (q, .inr (4, [.ref pp, .ref pl, .ref pe, .ref tb, .int i1, .int r_4, .int b_10, .int l_11, .int d_12])), (pp, .inr (0, [.ref pb, .int p_13])), (pb, .inl (G.2.1, 4502, .inl f_14)), (pl, .inl (G.2.2.1, 1024, .inl fl_15)), (pe, .inl (G.2.2.1, 4000, .inl fe_16)), (tb, .inl (G.2.1, 12000, .inl tfb))]) d_FileMaker_putRecord_197 (g_Row_putBytes hl G mm mb 14006 f_206 s_205 tn 384 tfn i210 i211 (by first | (with_reducible assumption) | omega (splitDisjunctions := false) | assumption | omega | decide) (by first | (with_reducible assumption) | omega (splitDisjunctions := false) | assumption | omega | decide) (by first | (with_reducible assumption) | omega (splitDisjunctions := false) | assumption | omega | decide) (by first | (with_reducible assumption) | omega (splitDisjunctions := false) | assumption | omega | decide) (by first | (with_reducible assumption) | omega (splitDisjunctions := false) | assumption | omega | decide) (by first | (with_reducible assumption) | omega (splitDisjunctions := false) | assumption | omega | decide) (by first | (with_reducible assumption) | omega (splitDisjunctions := false) | assumption | omega | decide) fh209 F_tfn) rfl rfl [11, 12, 1] [0, 2, 3, 4, 5, 6, 7, 8, 9, 10] (by decide) rfl rfl rfl (by decide) (by decide) k_564 rfl k_119 k_561 k_562 k_563 ⟨rfl, hy_Row_putBytes⟩ (by decide) rfl rfl (Nat.le_of_ble_eq_true rfl) (by decide) (fun v9 u213 ch212 => ?_)
    obtain ⟨s_214, f_215⟩ := u213
    obtain ⟨ech212, ch212⟩ := ch212
    have ech212 : v9 = none := ech212
    subst ech212
    obtain ⟨fh216, fh217, fh218, fh219⟩ : (s_214.toInt = s_205.toInt + i211.toInt) ∧ (∀ j : Int, 0 ≤ j → gr f_215 j = if s_205.toInt ≤ j ∧ j < s_205.toInt + i211.toInt then gr tfn (i210.toInt + (j - s_205.toInt)) else gr f_206 j) ∧ (ap_ f_206 s_205.toInt f_215 s_214.toInt (bl_ tfn i210.toInt i211.toInt)) ∧ (sb_Fit f_215) := ch212
    have aK := ap_app h0 aK fh218
    refine pb_eq (pc' := 200) (lo' := [(6, .int 1), (5, .int r_4), (4, .int i1), (0, .ref h), (1, .ref sp), (2, .int i), (3, .ref q)]) (rest' := []) (ws' := [(h, .inr (6, [.ref mm, .ref mr])), (tz, .inl (G.2.2.1, 16, .inl tfz)), (sp, .inr (3, [.ref tn, .ref tz, .ref tb, .ref tg, .int c])), (tg, .inl (G.2.2.1, 17, .inl tfg)), (q, .inr (4, [.ref pp, .ref pl, .ref pe, .ref tb, .int i1, .int r_4, .int b_10, .int l_11, .int d_12])), (pp, .inr (0, [.ref pb, .int p_13])), (pb, .inl (G.2.1, 4502, .inl f_14)), (pl, .inl (G.2.2.1, 1024, .inl fl_15)), (pe, .inl (G.2.2.1, 4000, .inl fe_16)), (tb, .inl (G.2.1, 12000, .inl tfb)), (mm, .inr (0, [.ref mb, .int s_214])), (mb, .inl (G.2.1, 14006, .inl f_215)), (tn, .inl (G.2.1, 384, .inl tfn))]) ?_
    refine pb_iload (pc := 200) d_FileMaker_putRecord_200 0 rfl ?_
    refine pb_if_eq (pc := 202) (tgt := 230) d_FileMaker_putRecord_202 (by decide) (fun h9 => absurd h9 (by decide)) (fun _ => ?_)
    refine pb_aload_n (pc := 205) d_FileMaker_putRecord_205 3 rfl rfl ?_
    refine pb_get (pc := 206) d_FileMaker_putRecord_206 0 0 rfl rfl (by decide) in_FileMaker k_292 rfl ?_
    refine pb_aload_n (pc := 209) d_FileMaker_putRecord_209 6 rfl rfl ?_
    refine pb_getN (pc := 210) d_FileMaker_putRecord_210 4 0 rfl rfl (by decide) in_Presser k_182 rfl ?_
    refine pb_getN (pc := 213) d_FileMaker_putRecord_213 5 0 rfl rfl (by decide) in_Row k_158 rfl ?_
    refine pb_iconst (pc := 216) (v := 0) d_FileMaker_putRecord_216 (by decide) ?_
    refine pb_aload_n (pc := 217) d_FileMaker_putRecord_217 6 rfl rfl ?_
    refine pb_getN (pc := 218) d_FileMaker_putRecord_218 4 0 rfl rfl (by decide) in_Presser k_182 rfl ?_
    refine pb_getN (pc := 221) d_FileMaker_putRecord_221 5 1 rfl rfl (by decide) in_Row k_163 rfl ?_
    refine pb_callV (pc := 224) (I := i_FileMaker_putRecord) (qb := 10) (ci := 0) (nA := 3) (rest := []) (wr := [(h, .inr (6, [.ref mm, .ref mr])), (tz, .inl (G.2.2.1, 16, .inl tfz)), (sp, .inr (3, [.ref tn, .ref tz, .ref tb, .ref tg, .int c])), (tg, .inl (G.2.2.1, 17, .inl tfg)), (q, .inr (4, [.ref pp, .ref pl, .ref pe, .ref tb, .int i1, .int r_4, .int b_10, .int l_11, .int d_12])), (pp, .inr (0, [.ref pb, .int p_13])), (pl, .inl (G.2.2.1, 1024, .inl fl_15)), (pe, .inl (G.2.2.1, 4000, .inl fe_16)), (tb, .inl (G.2.1, 12000, .inl tfb)), (tn, .inl (G.2.1, 384, .inl tfn))]) d_FileMaker_putRecord_224 (g_Row_putBytes hl G mm mb 14006 f_215 s_214 pb 4502 f_14 0 p_13 (by first | (with_reducible assumption) | omega (splitDisjunctions := false) | assumption | omega | decide) (by first | (with_reducible assumption) | omega (splitDisjunctions := false) | assumption | omega | decide) (by first | (with_reducible assumption) | (exact omg_407dca8c26 h1 p5 fh5 tw22 fh130 fh137 fh144 fh152 fh159 fh166 fh177 fh185 fh192 fh200 fh207 ti211 fh216) | assumption | omega | decide) (by first | (with_reducible assumption) | omega (splitDisjunctions := false) | assumption | omega | decide) (by first | (with_reducible assumption) | omega (splitDisjunctions := false) | assumption | omega | decide) (by first | (with_reducible assumption) | omega (splitDisjunctions := false) | assumption | omega | decide) (by first | (with_reducible assumption) | omega (splitDisjunctions := false) | assumption | omega | decide) fh219 fh21) rfl rfl [10, 11, 6] [0, 1, 2, 3, 4, 5, 7, 8, 9, 12] (by decide) rfl rfl rfl (by decide) (by decide) k_564 rfl k_119 k_561 k_562 k_563 ⟨rfl, hy_Row_putBytes⟩ (by decide) rfl rfl (Nat.le_of_ble_eq_true rfl) (by decide) (fun v9 u222 ch221 => ?_)
    obtain ⟨s_223, f_224⟩ := u222
    obtain ⟨ech221, ch221⟩ := ch221
    have ech221 : v9 = none := ech221
    subst ech221
    obtain ⟨fh225, fh226, fh227, fh228⟩ : (s_223.toInt = s_214.toInt + p_13.toInt) ∧ (∀ j : Int, 0 ≤ j → gr f_224 j = if s_214.toInt ≤ j ∧ j < s_214.toInt + p_13.toInt then gr f_14 ((0 : Int32).toInt + (j - s_214.toInt)) else gr f_215 j) ∧ (ap_ f_215 s_214.toInt f_224 s_223.toInt (bl_ f_14 (0 : Int32).toInt p_13.toInt)) ∧ (sb_Fit f_224) := ch221
    have aK := ap_app h0 aK fh227
    refine pb_eq (pc' := 227) (lo' := [(6, .int 1), (5, .int r_4), (4, .int i1), (0, .ref h), (1, .ref sp), (2, .int i), (3, .ref q)]) (rest' := []) (ws' := [(h, .inr (6, [.ref mm, .ref mr])), (tz, .inl (G.2.2.1, 16, .inl tfz)), (sp, .inr (3, [.ref tn, .ref tz, .ref tb, .ref tg, .int c])), (tg, .inl (G.2.2.1, 17, .inl tfg)), (q, .inr (4, [.ref pp, .ref pl, .ref pe, .ref tb, .int i1, .int r_4, .int b_10, .int l_11, .int d_12])), (pp, .inr (0, [.ref pb, .int p_13])), (pl, .inl (G.2.2.1, 1024, .inl fl_15)), (pe, .inl (G.2.2.1, 4000, .inl fe_16)), (tb, .inl (G.2.1, 12000, .inl tfb)), (tn, .inl (G.2.1, 384, .inl tfn)), (mm, .inr (0, [.ref mb, .int s_223])), (mb, .inl (G.2.1, 14006, .inl f_224)), (pb, .inl (G.2.1, 4502, .inl f_14))]) ?_
    refine pb_goto (pc := 227) (tgt := 245) d_FileMaker_putRecord_227 (by decide) ?_
    exact pb_vret (pc := 245) hQ d_FileMaker_putRecord_245 rfl (s_223, f_224, tb, i1, r_4, b_10, l_11, d_12, p_13, f_14, fl_15, fe_16) ⟨rfl, (by (try dsimp only); first | done | (with_reducible assumption) | (exact omg_9134f4bced p5 ez9 eL9 fh130 fh137 fh144 fh152 fh159 fh166 fh177 fh185 fh192 fh200 fh207 ti211 fh216 fh225) | assumption | omega | decide), (by (try dsimp only); first | done | (with_reducible assumption) | (exact omg_06778f34a9 p5 fh5 tw22 fh130 fh137 fh144 fh152 fh159 fh166 fh177 fh185 fh192 fh200 fh207 ti211 fh216 fh225) | assumption | omega | decide), (show hid_ (∃ P : List Int32, PR_ (sD_ V i.toInt) (vS V i.toInt) P ∧ ap_ f s.toInt f_224 s_223.toInt (rc_ V i.toInt P)) from (hid_i ⟨P9, prF, ap_e aK (by first | exact rc_E (by first | decide | omega) (by first | decide | omega) (by first | decide | omega) (mt_y eL9 (by omega) (by first | decide | omega)) (by first | decide | omega) (by first | decide | omega) suF (hr_y eL9 (by omega) (by omega)) (by omega) (by omega) (by first | decide | omega) (NL_bl eNz (fun k h0 h1 => (by rw [eNx]; exact Ri.2.2.1 k h0 h1))) (bd_y eL9 (by omega) (pE9 _ (by omega))) | exact rc_E (by first | decide | omega) (by first | decide | omega) (by first | decide | omega) (mt_n eL9 (by omega) (by first | decide | omega)) (by first | decide | omega) (by first | decide | omega) suF (hr_n eL9 (by omega) (by omega)) (by omega) (by omega) (by first | decide | omega) (NL_bl eNz (fun k h0 h1 => (by rw [eNx]; exact Ri.2.2.1 k h0 h1))) (bd_n eL9 (by omega) (dE9 _ _ (by omega) (by omega))))⟩)), fh228, fh21⟩ [0, 10, 11, 2, 9, 1, 8, 3, 4, 5, 12, 6, 7] (by decide) rfl rfl (by decide) (by decide)

theorem d_FileMaker_make_0 : decode prog_4_method_2_code 0 = .ok (.aload_n 0, 1) := by decide +kernel
theorem d_FileMaker_make_1 : decode prog_4_method_2_code 1 = .ok (.getfield 14, 3) := by decide +kernel
theorem d_FileMaker_make_4 : decode prog_4_method_2_code 4 = .ok (.iconst 0, 1) := by decide +kernel
theorem d_FileMaker_make_5 : decode prog_4_method_2_code 5 = .ok (.putfield 24, 3) := by decide +kernel
theorem d_FileMaker_make_8 : decode prog_4_method_2_code 8 = .ok (.iconst 0, 1) := by decide +kernel
theorem d_FileMaker_make_9 : decode prog_4_method_2_code 9 = .ok (.istore_n 3, 1) := by decide +kernel
theorem d_FileMaker_make_10 : decode prog_4_method_2_code 10 = .ok (.iload_n 3, 1) := by decide +kernel
theorem d_FileMaker_make_11 : decode prog_4_method_2_code 11 = .ok (.aload_n 1, 1) := by decide +kernel
theorem d_FileMaker_make_12 : decode prog_4_method_2_code 12 = .ok (.getfield 28, 3) := by decide +kernel
theorem k_404 : (Jvm.Cond.fieldLinkNest "PackageBook$FileMaker" (28 : Nat) "PackageBook$Shelf" "count" "I" "PackageBook") ∈ uN := uN_c1 47 rfl (by decide +kernel)
theorem d_FileMaker_make_15 : decode prog_4_method_2_code 15 = .ok (.if_icmp .ge 29, 3) := by decide +kernel
theorem d_FileMaker_make_44 : decode prog_4_method_2_code 44 = .ok (.aload_n 0, 1) := by decide +kernel
theorem d_FileMaker_make_45 : decode prog_4_method_2_code 45 = .ok (.getfield 14, 3) := by decide +kernel
theorem d_FileMaker_make_48 : decode prog_4_method_2_code 48 = .ok (.getfield 24, 3) := by decide +kernel
theorem d_FileMaker_make_51 : decode prog_4_method_2_code 51 = .ok (.istore_n 3, 1) := by decide +kernel
theorem d_FileMaker_make_52 : decode prog_4_method_2_code 52 = .ok (.iconst 0, 1) := by decide +kernel
theorem d_FileMaker_make_53 : decode prog_4_method_2_code 53 = .ok (.istore 4, 2) := by decide +kernel
theorem d_FileMaker_make_55 : decode prog_4_method_2_code 55 = .ok (.iload 4, 2) := by decide +kernel
theorem d_FileMaker_make_57 : decode prog_4_method_2_code 57 = .ok (.aload_n 1, 1) := by decide +kernel
theorem d_FileMaker_make_58 : decode prog_4_method_2_code 58 = .ok (.getfield 28, 3) := by decide +kernel
theorem d_FileMaker_make_61 : decode prog_4_method_2_code 61 = .ok (.if_icmp .ge 16, 3) := by decide +kernel
theorem d_FileMaker_make_77 : decode prog_4_method_2_code 77 = .ok (.aload_n 0, 1) := by decide +kernel
theorem d_FileMaker_make_78 : decode prog_4_method_2_code 78 = .ok (.aload_n 1, 1) := by decide +kernel
theorem d_FileMaker_make_79 : decode prog_4_method_2_code 79 = .ok (.getfield 28, 3) := by decide +kernel
theorem d_FileMaker_make_82 : decode prog_4_method_2_code 82 = .ok (.iload_n 3, 1) := by decide +kernel
theorem d_FileMaker_make_83 : decode prog_4_method_2_code 83 = .ok (.invokevirtual 41, 3) := by decide +kernel
theorem k_571 : (Jvm.Cond.methodLink "PackageBook$FileMaker" (41 : Nat) ({ cls := "PackageBook$FileMaker", name := "putEnd", desc := "(II)V" } : Jvm.MethodName)) ∈ uW := uW_c1 214 rfl (by decide +kernel)
theorem k_123 : (Jvm.Cond.initialized "PackageBook$FileMaker") ∈ uW := uW_c0 6 rfl (by decide +kernel)
theorem k_574 : (Jvm.Cond.code ({ cls := "PackageBook$FileMaker", name := "putEnd", desc := "(II)V" } : Jvm.MethodName) prog_4_method_5_code (4 : Nat) (Option.none : Option Jvm.ClassFile.FieldType)) ∈ uW := uW_c1 217 rfl (by decide +kernel)
theorem k_573 : (Jvm.Cond.instanceMethod ({ cls := "PackageBook$FileMaker", name := "putEnd", desc := "(II)V" } : Jvm.MethodName)) ∈ uW := uW_c1 216 rfl (by decide +kernel)
theorem k_11 : Cond.selects "PackageBook$FileMaker" ⟨"PackageBook$FileMaker", "putEnd", "(II)V"⟩ ⟨"PackageBook$FileMaker", "putEnd", "(II)V"⟩ ∈ uW := uW_of 11 (by decide +kernel) (by decide +kernel)
theorem hy_FileMaker_putEnd : (y_FileMaker_putEnd).cls ≠ "java/lang/invoke/MethodHandle" ∧ (y_FileMaker_putEnd).cls ≠ "java/lang/invoke/VarHandle" ∧ (parseMethodDescriptor (y_FileMaker_putEnd).desc).map (fun d => d.parameters.length) = some 2 := by decide +kernel
theorem d_FileMaker_make_86 : decode prog_4_method_2_code 86 = .ok (.return_, 1) := by decide +kernel
theorem d_FileMaker_make_64 : decode prog_4_method_2_code 64 = .ok (.aload_n 0, 1) := by decide +kernel
theorem d_FileMaker_make_65 : decode prog_4_method_2_code 65 = .ok (.aload_n 1, 1) := by decide +kernel
theorem d_FileMaker_make_66 : decode prog_4_method_2_code 66 = .ok (.iload 4, 2) := by decide +kernel
theorem d_FileMaker_make_68 : decode prog_4_method_2_code 68 = .ok (.invokevirtual 37, 3) := by decide +kernel
theorem k_566 : (Jvm.Cond.methodLink "PackageBook$FileMaker" (37 : Nat) ({ cls := "PackageBook$FileMaker", name := "putEntry", desc := "(LPackageBook$Shelf;I)V" } : Jvm.MethodName)) ∈ uW := uW_c1 209 rfl (by decide +kernel)
theorem k_569 : (Jvm.Cond.code ({ cls := "PackageBook$FileMaker", name := "putEntry", desc := "(LPackageBook$Shelf;I)V" } : Jvm.MethodName) prog_4_method_4_code (3 : Nat) (Option.none : Option Jvm.ClassFile.FieldType)) ∈ uW := uW_c1 212 rfl (by decide +kernel)
theorem k_568 : (Jvm.Cond.instanceMethod ({ cls := "PackageBook$FileMaker", name := "putEntry", desc := "(LPackageBook$Shelf;I)V" } : Jvm.MethodName)) ∈ uW := uW_c1 211 rfl (by decide +kernel)
theorem k_10 : Cond.selects "PackageBook$FileMaker" ⟨"PackageBook$FileMaker", "putEntry", "(LPackageBook$Shelf;I)V"⟩ ⟨"PackageBook$FileMaker", "putEntry", "(LPackageBook$Shelf;I)V"⟩ ∈ uW := uW_of 10 (by decide +kernel) (by decide +kernel)
theorem hy_FileMaker_putEntry : (y_FileMaker_putEntry).cls ≠ "java/lang/invoke/MethodHandle" ∧ (y_FileMaker_putEntry).cls ≠ "java/lang/invoke/VarHandle" ∧ (parseMethodDescriptor (y_FileMaker_putEntry).desc).map (fun d => d.parameters.length) = some 2 := by decide +kernel
theorem d_FileMaker_make_71 : decode prog_4_method_2_code 71 = .ok (.iinc 4 1, 3) := by decide +kernel
theorem d_FileMaker_make_74 : decode prog_4_method_2_code 74 = .ok (.goto (-19), 3) := by decide +kernel
theorem d_FileMaker_make_18 : decode prog_4_method_2_code 18 = .ok (.aload_n 0, 1) := by decide +kernel
theorem d_FileMaker_make_19 : decode prog_4_method_2_code 19 = .ok (.getfield 20, 3) := by decide +kernel
theorem d_FileMaker_make_22 : decode prog_4_method_2_code 22 = .ok (.iload_n 3, 1) := by decide +kernel
theorem d_FileMaker_make_23 : decode prog_4_method_2_code 23 = .ok (.aload_n 0, 1) := by decide +kernel
theorem d_FileMaker_make_24 : decode prog_4_method_2_code 24 = .ok (.getfield 14, 3) := by decide +kernel
theorem d_FileMaker_make_27 : decode prog_4_method_2_code 27 = .ok (.getfield 24, 3) := by decide +kernel
theorem d_FileMaker_make_30 : decode prog_4_method_2_code 30 = .ok (.iastore, 1) := by decide +kernel
theorem d_FileMaker_make_31 : decode prog_4_method_2_code 31 = .ok (.aload_n 0, 1) := by decide +kernel
theorem d_FileMaker_make_32 : decode prog_4_method_2_code 32 = .ok (.aload_n 1, 1) := by decide +kernel
theorem d_FileMaker_make_33 : decode prog_4_method_2_code 33 = .ok (.iload_n 3, 1) := by decide +kernel
theorem d_FileMaker_make_34 : decode prog_4_method_2_code 34 = .ok (.aload_n 2, 1) := by decide +kernel
theorem d_FileMaker_make_35 : decode prog_4_method_2_code 35 = .ok (.invokevirtual 33, 3) := by decide +kernel
theorem k_493 : (Jvm.Cond.methodLink "PackageBook$FileMaker" (33 : Nat) ({ cls := "PackageBook$FileMaker", name := "putRecord", desc := "(LPackageBook$Shelf;ILPackageBook$Presser;)V" } : Jvm.MethodName)) ∈ uW := uW_c1 136 rfl (by decide +kernel)
theorem k_496 : (Jvm.Cond.code ({ cls := "PackageBook$FileMaker", name := "putRecord", desc := "(LPackageBook$Shelf;ILPackageBook$Presser;)V" } : Jvm.MethodName) prog_4_method_3_code (7 : Nat) (Option.none : Option Jvm.ClassFile.FieldType)) ∈ uW := uW_c1 139 rfl (by decide +kernel)
theorem k_495 : (Jvm.Cond.instanceMethod ({ cls := "PackageBook$FileMaker", name := "putRecord", desc := "(LPackageBook$Shelf;ILPackageBook$Presser;)V" } : Jvm.MethodName)) ∈ uW := uW_c1 138 rfl (by decide +kernel)
theorem k_1 : Cond.selects "PackageBook$FileMaker" ⟨"PackageBook$FileMaker", "putRecord", "(LPackageBook$Shelf;ILPackageBook$Presser;)V"⟩ ⟨"PackageBook$FileMaker", "putRecord", "(LPackageBook$Shelf;ILPackageBook$Presser;)V"⟩ ∈ uW := uW_of 1 (by decide +kernel) (by decide +kernel)
theorem hy_FileMaker_putRecord : (y_FileMaker_putRecord).cls ≠ "java/lang/invoke/MethodHandle" ∧ (y_FileMaker_putRecord).cls ≠ "java/lang/invoke/VarHandle" ∧ (parseMethodDescriptor (y_FileMaker_putRecord).desc).map (fun d => d.parameters.length) = some 3 := by decide +kernel
theorem d_FileMaker_make_38 : decode prog_4_method_2_code 38 = .ok (.iinc 3 1, 3) := by decide +kernel
theorem d_FileMaker_make_41 : decode prog_4_method_2_code 41 = .ok (.goto (-31), 3) := by decide +kernel
abbrev y_FileMaker_make : MethodName := ⟨"PackageBook$FileMaker", "make", "(LPackageBook$Shelf;LPackageBook$Presser;)V"⟩
abbrev i_FileMaker_make : pb_I := (y_FileMaker_make, prog_4_method_2_code, 5, (Option.none : Option Jvm.ClassFile.FieldType), [], { frames := 5, cells := 0, slots := 0, locals := 117 })
set_option maxRecDepth 100000 in
set_option maxHeartbeats 4000000 in
theorem g_Mk_make {l : Launch} (hl : l.stackTraces = false) (G : pb_G) (h : Nat) (mm : Nat) (mr : Nat) (mb : Nat) (f : Nat → Int32) (s : Int32) (fr : Nat → Int32) (sp : Nat) (tn : Nat) (tz : Nat) (tb : Nat) (tg : Nat) (c : Int32) (tfn : Nat → Int32) (tfz : Nat → Int32) (tfb : Nat → Int32) (tfg : Nat → Int32) (q : Nat) (pp : Nat) (pl : Nat) (pe : Nat) (pr : Nat) (pb : Nat) (bg : Int32) (sz : Int32) (bt : Int32) (ln : Int32) (ds : Int32) (ps : Int32) (pf : Nat → Int32) (fl : Nat → Int32) (fe : Nat → Int32) (V : VW_) (I : sh_I c.toInt tfz tfg) (R : rC_ c.toInt tfn tfz tfb tfg V) (F_f : sb_Fit f) (F_tfn : sb_Fit tfn) (F_tfb : sb_Fit tfb) (F_pf : sb_Fit pf) : Cn l G i_FileMaker_make [.ref h, .ref sp, .ref q] [(h, .inr (6, [.ref mm, .ref mr])), (mm, .inr (0, [.ref mb, .int s])), (mb, .inl (G.2.1, 14006, .inl f)), (mr, .inl (G.2.2.1, 16, .inl fr)), (sp, .inr (3, [.ref tn, .ref tz, .ref tb, .ref tg, .int c])), (tn, .inl (G.2.1, 384, .inl tfn)), (tz, .inl (G.2.2.1, 16, .inl tfz)), (tb, .inl (G.2.1, 12000, .inl tfb)), (tg, .inl (G.2.2.1, 17, .inl tfg)), (q, .inr (4, [.ref pp, .ref pl, .ref pe, .ref pr, .int bg, .int sz, .int bt, .int ln, .int ds])), (pp, .inr (0, [.ref pb, .int ps])), (pb, .inl (G.2.1, 4502, .inl pf)), (pl, .inl (G.2.2.1, 1024, .inl fl)), (pe, .inl (G.2.2.1, 4000, .inl fe))] (S := Int32 × (Nat → Int32) × (Nat → Int32) × Nat × Int32 × Int32 × Int32 × Int32 × Int32 × Int32 × (Nat → Int32) × (Nat → Int32) × (Nat → Int32)) (fun rv_ u => rv_ = none ∧ (0 ≤ u.1.toInt) ∧ (u.1.toInt ≤ 14006) ∧ (hid_ (∃ K : List Int32, FI_ V K ∧ fw_ u.2.1 u.1.toInt K)) ∧ (sb_Fit u.2.1) ∧ (sb_Fit u.2.2.2.2.2.2.2.2.2.2.1)) (fun u => [(h, .inr (6, [.ref mm, .ref mr])), (mm, .inr (0, [.ref mb, .int u.1])), (mb, .inl (G.2.1, 14006, .inl u.2.1)), (mr, .inl (G.2.2.1, 16, .inl u.2.2.1)), (sp, .inr (3, [.ref tn, .ref tz, .ref tb, .ref tg, .int c])), (tn, .inl (G.2.1, 384, .inl tfn)), (tz, .inl (G.2.2.1, 16, .inl tfz)), (tb, .inl (G.2.1, 12000, .inl tfb)), (tg, .inl (G.2.2.1, 17, .inl tfg)), (q, .inr (4, [.ref pp, .ref pl, .ref pe, .ref u.2.2.2.1, .int u.2.2.2.2.1, .int u.2.2.2.2.2.1, .int u.2.2.2.2.2.2.1, .int u.2.2.2.2.2.2.2.1, .int u.2.2.2.2.2.2.2.2.1])), (pp, .inr (0, [.ref pb, .int u.2.2.2.2.2.2.2.2.2.1])), (pb, .inl (G.2.1, 4502, .inl u.2.2.2.2.2.2.2.2.2.2.1)), (pl, .inl (G.2.2.1, 1024, .inl u.2.2.2.2.2.2.2.2.2.2.2.1)), (pe, .inl (G.2.2.1, 4000, .inl u.2.2.2.2.2.2.2.2.2.2.2.2))]) := by
  refine Cn.of hl (by decide +kernel) rfl (Nat.le_of_ble_eq_true rfl) (fun M hQ => ?_)
  refine pb_eq (pc' := 0) (lo' := [(0, .ref h), (1, .ref sp), (2, .ref q)]) (rest' := []) (ws' := [(h, .inr (6, [.ref mm, .ref mr])), (mm, .inr (0, [.ref mb, .int s])), (mb, .inl (G.2.1, 14006, .inl f)), (mr, .inl (G.2.2.1, 16, .inl fr)), (sp, .inr (3, [.ref tn, .ref tz, .ref tb, .ref tg, .int c])), (tn, .inl (G.2.1, 384, .inl tfn)), (tz, .inl (G.2.2.1, 16, .inl tfz)), (tb, .inl (G.2.1, 12000, .inl tfb)), (tg, .inl (G.2.2.1, 17, .inl tfg)), (q, .inr (4, [.ref pp, .ref pl, .ref pe, .ref pr, .int bg, .int sz, .int bt, .int ln, .int ds])), (pp, .inr (0, [.ref pb, .int ps])), (pb, .inl (G.2.1, 4502, .inl pf)), (pl, .inl (G.2.2.1, 1024, .inl fl)), (pe, .inl (G.2.2.1, 4000, .inl fe))]) ?_
  have zl0 : (0 : Int32).toInt = 0 := by decide
  have zl1 : (1 : Int32).toInt = 1 := by decide
  have p1 := I.1
  have p2 := I.2.1
  have p3 := I.2.2.1
  have p4 := I.2.2.2.1
  refine pb_aload_n (pc := 0) d_FileMaker_make_0 0 rfl rfl ?_
  refine pb_get (pc := 1) d_FileMaker_make_1 0 0 rfl rfl (by decide) in_FileMaker k_292 rfl ?_
  refine pb_iconst (pc := 4) (v := 0) d_FileMaker_make_4 (by decide) ?_
  refine pb_putN (pc := 5) (ty := .int) (ws' := [(h, .inr (6, [.ref mm, .ref mr])), (mm, .inr (0, [.ref mb, .int 0])), (mb, .inl (G.2.1, 14006, .inl f)), (mr, .inl (G.2.2.1, 16, .inl fr)), (sp, .inr (3, [.ref tn, .ref tz, .ref tb, .ref tg, .int c])), (tn, .inl (G.2.1, 384, .inl tfn)), (tz, .inl (G.2.2.1, 16, .inl tfz)), (tb, .inl (G.2.1, 12000, .inl tfb)), (tg, .inl (G.2.2.1, 17, .inl tfg)), (q, .inr (4, [.ref pp, .ref pl, .ref pe, .ref pr, .int bg, .int sz, .int bt, .int ln, .int ds])), (pp, .inr (0, [.ref pb, .int ps])), (pb, .inl (G.2.1, 4502, .inl pf)), (pl, .inl (G.2.2.1, 1024, .inl fl)), (pe, .inl (G.2.2.1, 4000, .inl fe))]) d_FileMaker_make_5 1 1 t_Row t_Row_ok n_Row rfl rfl (by decide) in_Row k_163 rfl (by decide +kernel) rfl rfl (Nat.le_of_ble_eq_true rfl) rfl ?_
  refine pb_iconst (pc := 8) (v := 0) d_FileMaker_make_8 (by decide) ?_
  refine pb_istore_n (pc := 9) (lo' := [(3, .int 0), (0, .ref h), (1, .ref sp), (2, .ref q)]) d_FileMaker_make_9 rfl (by decide) rfl ?_
  have hL10_1 : ∀ (N9 : Nat) (i : Int32) (s_ : Int32) (f_ : Nat → Int32) (fr_ : Nat → Int32) (pr_ : Nat) (bg_ : Int32) (sz_ : Int32) (bt_ : Int32) (ln_ : Int32) (ds_ : Int32) (ps_ : Int32) (pf_ : Nat → Int32) (fl_ : Nat → Int32) (fe_ : Nat → Int32), (sb_Fit f_) → (sb_Fit pf_) → (0 ≤ i.toInt) → (i.toInt ≤ c.toInt) → (0 ≤ s_.toInt) → (s_.toInt ≤ gx tfg i.toInt + 54 * i.toInt) → (∀ j : Int, 0 ≤ j → j < i.toInt → 0 ≤ gx fr_ j ∧ gx fr_ j ≤ 13000) → (hid_ (∃ F D : List Int32, fL_ V i.toInt.toNat F D ∧ fw_ f_ s_.toInt F)) → (∀ j : Int, 0 ≤ j → j < i.toInt → hid_ (∃ F D : List Int32, fL_ V j.toNat F D ∧ gx fr_ j = (F.length : Int))) → ((c.toInt - i.toInt).toNat) < N9 → pb_P l G M i_FileMaker_make 10 [(3, .int i), (0, .ref h), (1, .ref sp), (2, .ref q)] [] [(h, .inr (6, [.ref mm, .ref mr])), (mm, .inr (0, [.ref mb, .int s_])), (mb, .inl (G.2.1, 14006, .inl f_)), (mr, .inl (G.2.2.1, 16, .inl fr_)), (sp, .inr (3, [.ref tn, .ref tz, .ref tb, .ref tg, .int c])), (tn, .inl (G.2.1, 384, .inl tfn)), (tz, .inl (G.2.2.1, 16, .inl tfz)), (tb, .inl (G.2.1, 12000, .inl tfb)), (tg, .inl (G.2.2.1, 17, .inl tfg)), (q, .inr (4, [.ref pp, .ref pl, .ref pe, .ref pr_, .int bg_, .int sz_, .int bt_, .int ln_, .int ds_])), (pp, .inr (0, [.ref pb, .int ps_])), (pb, .inl (G.2.1, 4502, .inl pf_)), (pl, .inl (G.2.2.1, 1024, .inl fl_)), (pe, .inl (G.2.2.1, 4000, .inl fe_))] 0 0 := by
    intro N9
    induction N9 with
    | zero => intro i s_ f_ fr_ pr_ bg_ sz_ bt_ ln_ ds_ ps_ pf_ fl_ fe_ F_f_ F_pf_ hi hi2 hs0 hs1 hr hF hR5 hm9; exact absurd hm9 (Nat.not_lt_zero _)
    | succ N9 ih10 =>
      intro i s_ f_ fr_ pr_ bg_ sz_ bt_ ln_ ds_ ps_ pf_ fl_ fe_ F_f_ F_pf_ hi hi2 hs0 hs1 hr hF hR5 hm9
      refine pb_iload_n (pc := 10) d_FileMaker_make_10 0 rfl rfl ?_
      refine pb_aload_n (pc := 11) d_FileMaker_make_11 2 rfl rfl ?_
      refine pb_getN (pc := 12) d_FileMaker_make_12 4 4 rfl rfl (by decide) in_Shelf k_404 rfl ?_
      refine pb_icmp_ge (pc := 15) (tgt := 44) d_FileMaker_make_15 (by decide) (fun w2 => ?_) (fun w2 => ?_)
      · have tw2 : c.toInt ≤ i.toInt := (ti_le rfl rfl).mp w2
        have ic : i.toInt = c.toInt := by omega
        have p8 : gx tfg i.toInt ≤ 12000 := by rw [ic]; exact p4
        obtain ⟨F9, D9, flF, fwF⟩ := hid_o hF
        rw [ic] at flF hR5
        refine pb_aload_n (pc := 44) d_FileMaker_make_44 1 rfl rfl ?_
        refine pb_get (pc := 45) d_FileMaker_make_45 0 0 rfl rfl (by decide) in_FileMaker k_292 rfl ?_
        refine pb_getN (pc := 48) d_FileMaker_make_48 1 1 rfl rfl (by decide) in_Row k_163 rfl ?_
        refine pb_istore_n (pc := 51) (lo' := [(3, .int s_), (0, .ref h), (1, .ref sp), (2, .ref q)]) d_FileMaker_make_51 rfl (by decide) rfl ?_
        refine pb_iconst (pc := 52) (v := 0) d_FileMaker_make_52 (by decide) ?_
        refine pb_istore (pc := 53) (lo' := [(4, .int 0), (3, .int s_), (0, .ref h), (1, .ref sp), (2, .ref q)]) d_FileMaker_make_53 (by decide) rfl ?_
        have hL55_3 : ∀ (N9 : Nat) (i4 : Int32) (d4 : Int32) (s4 : Int32) (f4 : Nat → Int32), (sb_Fit f4) → (0 ≤ i4.toInt) → (i4.toInt ≤ c.toInt) → (0 ≤ s4.toInt) → (s4.toInt ≤ 12864 + 70 * i4.toInt) → (d4.toInt = (F9.length : Int)) → (hid_ (∃ D : List Int32, (∃ F : List Int32, fL_ V i4.toInt.toNat F D) ∧ fw_ f4 s4.toInt (F9 ++ D))) → ((c.toInt - i4.toInt).toNat) < N9 → pb_P l G M i_FileMaker_make 55 [(4, .int i4), (3, .int d4), (0, .ref h), (1, .ref sp), (2, .ref q)] [] [(h, .inr (6, [.ref mm, .ref mr])), (mm, .inr (0, [.ref mb, .int s4])), (mb, .inl (G.2.1, 14006, .inl f4)), (mr, .inl (G.2.2.1, 16, .inl fr_)), (sp, .inr (3, [.ref tn, .ref tz, .ref tb, .ref tg, .int c])), (tn, .inl (G.2.1, 384, .inl tfn)), (tz, .inl (G.2.2.1, 16, .inl tfz)), (tb, .inl (G.2.1, 12000, .inl tfb)), (tg, .inl (G.2.2.1, 17, .inl tfg)), (q, .inr (4, [.ref pp, .ref pl, .ref pe, .ref pr_, .int bg_, .int sz_, .int bt_, .int ln_, .int ds_])), (pp, .inr (0, [.ref pb, .int ps_])), (pb, .inl (G.2.1, 4502, .inl pf_)), (pl, .inl (G.2.2.1, 1024, .inl fl_)), (pe, .inl (G.2.2.1, 4000, .inl fe_))] 0 0 := by
          intro N9
          induction N9 with
          | zero => intro i4 d4 s4 f4 F_f4 hi4 hi5 hs4 hs5 hd4 hF4 hm9; exact absurd hm9 (Nat.not_lt_zero _)
          | succ N9 ih55 =>
            intro i4 d4 s4 f4 F_f4 hi4 hi5 hs4 hs5 hd4 hF4 hm9
            refine pb_iload (pc := 55) d_FileMaker_make_55 0 rfl ?_
            refine pb_aload_n (pc := 57) d_FileMaker_make_57 3 rfl rfl ?_
            refine pb_getN (pc := 58) d_FileMaker_make_58 4 4 rfl rfl (by decide) in_Shelf k_404 rfl ?_
            refine pb_icmp_ge (pc := 61) (tgt := 77) d_FileMaker_make_61 (by decide) (fun w4 => ?_) (fun w4 => ?_)
            · have tw4 : c.toInt ≤ i4.toInt := (ti_le rfl rfl).mp w4
              obtain ⟨D8, ⟨F8, flE⟩, fwE⟩ := hid_o hF4
              rw [show i4.toInt.toNat = c.toInt.toNat by (exact omg_52b1024fe2 hi5 tw4)] at flE
              obtain ⟨e1_, e2_⟩ := fL_u _ flE flF
              subst e1_
              have l9 := fwE.1
              rw [List.length_append] at l9
              refine pb_aload_n (pc := 77) d_FileMaker_make_77 2 rfl rfl ?_
              refine pb_aload_n (pc := 78) d_FileMaker_make_78 3 rfl rfl ?_
              refine pb_getN (pc := 79) d_FileMaker_make_79 4 4 rfl rfl (by decide) in_Shelf k_404 rfl ?_
              refine pb_iload_n (pc := 82) d_FileMaker_make_82 1 rfl rfl ?_
              refine pb_callV (pc := 83) (I := i_FileMaker_make) (qb := 0) (ci := 6) (nA := 2) (rest := []) (wr := [(mr, .inl (G.2.2.1, 16, .inl fr_)), (sp, .inr (3, [.ref tn, .ref tz, .ref tb, .ref tg, .int c])), (tn, .inl (G.2.1, 384, .inl tfn)), (tz, .inl (G.2.2.1, 16, .inl tfz)), (tb, .inl (G.2.1, 12000, .inl tfb)), (tg, .inl (G.2.2.1, 17, .inl tfg)), (q, .inr (4, [.ref pp, .ref pl, .ref pe, .ref pr_, .int bg_, .int sz_, .int bt_, .int ln_, .int ds_])), (pp, .inr (0, [.ref pb, .int ps_])), (pb, .inl (G.2.1, 4502, .inl pf_)), (pl, .inl (G.2.2.1, 1024, .inl fl_)), (pe, .inl (G.2.2.1, 4000, .inl fe_))]) d_FileMaker_make_83 (g_Mk_putEnd hl G h mm mr mb f4 s4 c d4 (by first | (with_reducible assumption) | omega (splitDisjunctions := false) | assumption | omega | decide) (by first | (with_reducible assumption) | omega (splitDisjunctions := false) | assumption | omega | decide) (by first | (with_reducible assumption) | omega (splitDisjunctions := false) | assumption | omega | decide) (by first | (with_reducible assumption) | omega (splitDisjunctions := false) | assumption | omega | decide) F_f4) rfl rfl [0, 1, 2] [3, 4, 5, 6, 7, 8, 9, 10, 11, 12, 13] (by decide) rfl rfl rfl (by decide) (by decide) k_574 rfl k_123 k_571 k_573 k_11 ⟨rfl, hy_FileMaker_putEnd⟩ (by decide) rfl rfl (Nat.le_of_ble_eq_true rfl) (by decide) (fun v9 u6 ch5 => ?_)
              obtain ⟨s_7, f_8⟩ := u6
              obtain ⟨ech5, ch5⟩ := ch5
              have ech5 : v9 = none := ech5
              subst ech5
              obtain ⟨fh9, fh10, fh11⟩ : (s_7.toInt = s4.toInt + 22) ∧ (ap_ f4 s4.toInt f_8 s_7.toInt (fE_ c.toInt (s4.toInt - d4.toInt) d4.toInt)) ∧ (sb_Fit f_8) := ch5
              have enF := fh10
              refine pb_eq (pc' := 86) (lo' := [(4, .int i4), (3, .int d4), (0, .ref h), (1, .ref sp), (2, .ref q)]) (rest' := []) (ws' := [(mr, .inl (G.2.2.1, 16, .inl fr_)), (sp, .inr (3, [.ref tn, .ref tz, .ref tb, .ref tg, .int c])), (tn, .inl (G.2.1, 384, .inl tfn)), (tz, .inl (G.2.2.1, 16, .inl tfz)), (tb, .inl (G.2.1, 12000, .inl tfb)), (tg, .inl (G.2.2.1, 17, .inl tfg)), (q, .inr (4, [.ref pp, .ref pl, .ref pe, .ref pr_, .int bg_, .int sz_, .int bt_, .int ln_, .int ds_])), (pp, .inr (0, [.ref pb, .int ps_])), (pb, .inl (G.2.1, 4502, .inl pf_)), (pl, .inl (G.2.2.1, 1024, .inl fl_)), (pe, .inl (G.2.2.1, 4000, .inl fe_)), (h, .inr (6, [.ref mm, .ref mr])), (mm, .inr (0, [.ref mb, .int s_7])), (mb, .inl (G.2.1, 14006, .inl f_8))]) ?_
              exact pb_vret (pc := 86) hQ d_FileMaker_make_86 rfl (s_7, f_8, fr_, pr_, bg_, sz_, bt_, ln_, ds_, ps_, pf_, fl_, fe_) ⟨rfl, (by (try dsimp only); first | done | (with_reducible assumption) | omega (splitDisjunctions := false) | assumption | omega | decide), (by (try dsimp only); first | done | (with_reducible assumption) | omega (splitDisjunctions := false) | assumption | omega | decide), (show hid_ (∃ K : List Int32, FI_ V K ∧ fw_ f_8 s_7.toInt K) from (hid_i ⟨_, ⟨F8, D8, (by rw [← R.1]; exact flE), rfl⟩, fw_ap fwE (ap_e enF (by rw [← R.1, show s4.toInt - d4.toInt = (D8.length : Int) by omega, show d4.toInt = (F8.length : Int) by omega]))⟩)), fh11, F_pf_⟩ [11, 12, 13, 0, 1, 2, 3, 4, 5, 6, 7, 8, 9, 10] (by decide) rfl rfl (by decide) (by decide)
            · have tw4 : ¬ c.toInt ≤ i4.toInt := fun z9 => w4 ((ti_le rfl rfl).mpr z9)
              have r4 := hr i4.toInt (by omega) (by omega)
              obtain ⟨D8, ⟨F8, flE⟩, fwE⟩ := hid_o hF4
              obtain ⟨F7, D7, P7, T7, g1, g2, g3⟩ := fL_in _ flF i4.toInt.toNat (by (exact omg_5eb2dff31e hi4 tw4))
              rw [show ((i4.toInt.toNat : Nat) : Int) = i4.toInt by omega] at g2 g3
              obtain ⟨e1_, e2_⟩ := fL_u _ flE g1
              subst e1_ e2_
              obtain ⟨F6, D6, r5, r6⟩ := hid_o (hR5 i4.toInt (by omega) (by omega))
              obtain ⟨e3_, e4_⟩ := fL_u _ r5 flE
              rw [e3_] at r6
              have shF := sh_bl (y := gx fr_ i4.toInt + 4) fwE g3 (by omega)
              refine pb_aload_n (pc := 64) d_FileMaker_make_64 2 rfl rfl ?_
              refine pb_aload_n (pc := 65) d_FileMaker_make_65 3 rfl rfl ?_
              refine pb_iload (pc := 66) d_FileMaker_make_66 0 rfl ?_
              refine pb_callV (pc := 68) (I := i_FileMaker_make) (qb := 0) (ci := 6) (nA := 2) (rest := []) (wr := [(tb, .inl (G.2.1, 12000, .inl tfb)), (tg, .inl (G.2.2.1, 17, .inl tfg)), (q, .inr (4, [.ref pp, .ref pl, .ref pe, .ref pr_, .int bg_, .int sz_, .int bt_, .int ln_, .int ds_])), (pp, .inr (0, [.ref pb, .int ps_])), (pb, .inl (G.2.1, 4502, .inl pf_)), (pl, .inl (G.2.2.1, 1024, .inl fl_)), (pe, .inl (G.2.2.1, 4000, .inl fe_))]) d_FileMaker_make_68 (g_Mk_putEntry hl G h mm mr mb f4 s4 fr_ sp tn tz tb tg c tfn tfz tfg i4 V P7 (by first | (with_reducible assumption) | omega (splitDisjunctions := false) | assumption | omega | decide) (by first | (with_reducible assumption) | omega (splitDisjunctions := false) | assumption | omega | decide) (by first | (with_reducible assumption) | omega (splitDisjunctions := false) | assumption | omega | decide) (by first | (with_reducible assumption) | omega (splitDisjunctions := false) | assumption | omega | decide) (by first | (with_reducible assumption) | omega (splitDisjunctions := false) | assumption | omega | decide) (by first | (with_reducible assumption) | omega (splitDisjunctions := false) | assumption | omega | decide) (by first | (with_reducible assumption) | omega (splitDisjunctions := false) | assumption | omega | decide) (rC_N R) shF.1 (by have q9 := shF.2; omega) F_f4 F_tfn) rfl rfl [0, 1, 2, 3, 4, 5, 6] [7, 8, 9, 10, 11, 12, 13] (by decide) rfl rfl rfl (by decide) (by decide) k_569 rfl k_123 k_566 k_568 k_10 ⟨rfl, hy_FileMaker_putEntry⟩ (by decide) rfl rfl (Nat.le_of_ble_eq_true rfl) (by decide) (fun v9 u13 ch12 => ?_)
              obtain ⟨s_14, f_15⟩ := u13
              obtain ⟨ech12, ch12⟩ := ch12
              have ech12 : v9 = none := ech12
              subst ech12
              obtain ⟨fh16, fh17, fh18, fh19⟩ : (s4.toInt ≤ s_14.toInt) ∧ (s_14.toInt ≤ s4.toInt + 70) ∧ (ap_ f4 s4.toInt f_15 s_14.toInt (en_L V i4.toInt P7 (gx fr_ i4.toInt))) ∧ (sb_Fit f_15) := ch12
              have peF := fh18
              rw [r6] at peF
              refine pb_eq (pc' := 71) (lo' := [(4, .int i4), (3, .int d4), (0, .ref h), (1, .ref sp), (2, .ref q)]) (rest' := []) (ws' := [(tb, .inl (G.2.1, 12000, .inl tfb)), (tg, .inl (G.2.2.1, 17, .inl tfg)), (q, .inr (4, [.ref pp, .ref pl, .ref pe, .ref pr_, .int bg_, .int sz_, .int bt_, .int ln_, .int ds_])), (pp, .inr (0, [.ref pb, .int ps_])), (pb, .inl (G.2.1, 4502, .inl pf_)), (pl, .inl (G.2.2.1, 1024, .inl fl_)), (pe, .inl (G.2.2.1, 4000, .inl fe_)), (h, .inr (6, [.ref mm, .ref mr])), (mm, .inr (0, [.ref mb, .int s_14])), (mb, .inl (G.2.1, 14006, .inl f_15)), (mr, .inl (G.2.2.1, 16, .inl fr_)), (sp, .inr (3, [.ref tn, .ref tz, .ref tb, .ref tg, .int c])), (tn, .inl (G.2.1, 384, .inl tfn)), (tz, .inl (G.2.2.1, 16, .inl tfz))]) ?_
              refine pb_iincN (pc := 71) (c := 1) d_FileMaker_make_71 0 rfl (by decide) (by decide) (fun i20 ei20 => ?_)
              have ti20 : i20.toInt = i4.toInt + 1 := ti_add ei20 rfl (by decide) (by omega) (by omega)
              refine pb_eq (pc' := 74) (lo' := [(4, .int i20), (3, .int d4), (0, .ref h), (1, .ref sp), (2, .ref q)]) (rest' := []) (ws' := [(tb, .inl (G.2.1, 12000, .inl tfb)), (tg, .inl (G.2.2.1, 17, .inl tfg)), (q, .inr (4, [.ref pp, .ref pl, .ref pe, .ref pr_, .int bg_, .int sz_, .int bt_, .int ln_, .int ds_])), (pp, .inr (0, [.ref pb, .int ps_])), (pb, .inl (G.2.1, 4502, .inl pf_)), (pl, .inl (G.2.2.1, 1024, .inl fl_)), (pe, .inl (G.2.2.1, 4000, .inl fe_)), (h, .inr (6, [.ref mm, .ref mr])), (mm, .inr (0, [.ref mb, .int s_14])), (mb, .inl (G.2.1, 14006, .inl f_15)), (mr, .inl (G.2.2.1, 16, .inl fr_)), (sp, .inr (3, [.ref tn, .ref tz, .ref tb, .ref tg, .int c])), (tn, .inl (G.2.1, 384, .inl tfn)), (tz, .inl (G.2.2.1, 16, .inl tfz))]) ?_
              refine pb_goto (pc := 74) (tgt := 55) d_FileMaker_make_74 (by decide) ?_
              refine pb_re (ws' := [(h, .inr (6, [.ref mm, .ref mr])), (mm, .inr (0, [.ref mb, .int s_14])), (mb, .inl (G.2.1, 14006, .inl f_15)), (mr, .inl (G.2.2.1, 16, .inl fr_)), (sp, .inr (3, [.ref tn, .ref tz, .ref tb, .ref tg, .int c])), (tn, .inl (G.2.1, 384, .inl tfn)), (tz, .inl (G.2.2.1, 16, .inl tfz)), (tb, .inl (G.2.1, 12000, .inl tfb)), (tg, .inl (G.2.2.1, 17, .inl tfg)), (q, .inr (4, [.ref pp, .ref pl, .ref pe, .ref pr_, .int bg_, .int sz_, .int bt_, .int ln_, .int ds_])), (pp, .inr (0, [.ref pb, .int ps_])), (pb, .inl (G.2.1, 4502, .inl pf_)), (pl, .inl (G.2.2.1, 1024, .inl fl_)), (pe, .inl (G.2.2.1, 4000, .inl fe_))]) (lo' := [(4, .int i20), (3, .int d4), (0, .ref h), (1, .ref sp), (2, .ref q)]) [7, 8, 9, 10, 11, 12, 13, 0, 1, 2, 3, 4, 5, 6] [0, 1, 2, 3, 4] (by decide) rfl rfl rfl ?_
              exact ih55 i20 d4 s_14 f_15 fh19 (by first | (with_reducible assumption) | omega (splitDisjunctions := false) | assumption | omega | decide) (by first | (with_reducible assumption) | omega (splitDisjunctions := false) | assumption | omega | decide) (by first | (with_reducible assumption) | omega (splitDisjunctions := false) | assumption | omega | decide) (by first | (with_reducible assumption) | omega (splitDisjunctions := false) | assumption | omega | decide) (by first | (with_reducible assumption) | omega (splitDisjunctions := false) | assumption | omega | decide) (hid_i ⟨D8 ++ en_L V i4.toInt P7 (F8.length : Int), ⟨_, fL_s flE (by omega) (by omega) g2 rfl rfl rfl⟩, (by rw [← List.append_assoc]; exact fw_ap fwE peF)⟩) (by (exact omg_7c8a06b1f5 hm9 tw4 ti20))
        exact hL55_3 _ 0 s_ s_ f_ F_f_ (by first | (with_reducible assumption) | omega (splitDisjunctions := false) | assumption | omega | decide) (by first | (with_reducible assumption) | omega (splitDisjunctions := false) | assumption | omega | decide) (by first | (with_reducible assumption) | omega (splitDisjunctions := false) | assumption | omega | decide) (by first | (with_reducible assumption) | omega (splitDisjunctions := false) | assumption | omega | decide) fwF.1 (hid_i ⟨[], ⟨[], (by rw [show (0 : Int32).toInt.toNat = 0 by omega]; exact ⟨rfl, rfl⟩)⟩, (by rw [List.append_nil]; exact fwF)⟩) (Nat.lt_succ_self _)
      · have tw2 : ¬ c.toInt ≤ i.toInt := fun z9 => w2 ((ti_le rfl rfl).mpr z9)
        obtain ⟨F9, D9, flF, fwF⟩ := hid_o hF
        have p6 := sh_rng I (k := i.toInt) (by omega) (by omega)
        have p7 := sh_rng I (k := i.toInt + 1) (by omega) (by omega)
        have p5 := I.2.2.2.2 i.toInt (by omega) (by omega)
        refine pb_aload_n (pc := 18) d_FileMaker_make_18 1 rfl rfl ?_
        refine pb_get (pc := 19) d_FileMaker_make_19 0 1 rfl rfl (by decide) in_FileMaker k_294 rfl ?_
        refine pb_iload_n (pc := 22) d_FileMaker_make_22 0 rfl rfl ?_
        refine pb_aload_n (pc := 23) d_FileMaker_make_23 1 rfl rfl ?_
        refine pb_get (pc := 24) d_FileMaker_make_24 0 0 rfl rfl (by decide) in_FileMaker k_292 rfl ?_
        refine pb_getN (pc := 27) d_FileMaker_make_27 1 1 rfl rfl (by decide) in_Row k_163 rfl ?_
        refine pb_iast (pc := 30) (ws' := [(h, .inr (6, [.ref mm, .ref mr])), (mm, .inr (0, [.ref mb, .int s_])), (mb, .inl (G.2.1, 14006, .inl f_)), (mr, .inl (G.2.2.1, 16, .inl (upd fr_ ((i : Int32).toNatClampNeg) s_))), (sp, .inr (3, [.ref tn, .ref tz, .ref tb, .ref tg, .int c])), (tn, .inl (G.2.1, 384, .inl tfn)), (tz, .inl (G.2.2.1, 16, .inl tfz)), (tb, .inl (G.2.1, 12000, .inl tfb)), (tg, .inl (G.2.2.1, 17, .inl tfg)), (q, .inr (4, [.ref pp, .ref pl, .ref pe, .ref pr_, .int bg_, .int sz_, .int bt_, .int ln_, .int ds_])), (pp, .inr (0, [.ref pb, .int ps_])), (pb, .inl (G.2.1, 4502, .inl pf_)), (pl, .inl (G.2.2.1, 1024, .inl fl_)), (pe, .inl (G.2.2.1, 4000, .inl fe_))]) d_FileMaker_make_30 3 rfl (vp_in_iff.mpr (by constructor <;> omega)) rfl ?_
        refine pb_aload_n (pc := 31) d_FileMaker_make_31 1 rfl rfl ?_
        refine pb_aload_n (pc := 32) d_FileMaker_make_32 2 rfl rfl ?_
        refine pb_iload_n (pc := 33) d_FileMaker_make_33 0 rfl rfl ?_
        refine pb_aload_n (pc := 34) d_FileMaker_make_34 3 rfl rfl ?_
        refine pb_callV (pc := 35) (I := i_FileMaker_make) (qb := 0) (ci := 6) (nA := 3) (rest := []) (wr := [(mr, .inl (G.2.2.1, 16, .inl (upd fr_ ((i : Int32).toNatClampNeg) s_)))]) d_FileMaker_make_35 (g_Mk_putRecord hl G h mm mr mb f_ s_ sp tn tz tb tg c tfn tfz tfb tfg q pp pl pe pr_ pb bg_ sz_ bt_ ln_ ds_ ps_ pf_ fl_ fe_ i V (by first | (with_reducible assumption) | omega (splitDisjunctions := false) | assumption | omega | decide) (by first | (with_reducible assumption) | omega (splitDisjunctions := false) | assumption | omega | decide) (by first | (with_reducible assumption) | omega (splitDisjunctions := false) | assumption | omega | decide) (by first | (with_reducible assumption) | omega (splitDisjunctions := false) | assumption | omega | decide) (by first | (with_reducible assumption) | omega (splitDisjunctions := false) | assumption | omega | decide) (by first | (with_reducible assumption) | omega (splitDisjunctions := false) | assumption | omega | decide) F_f_ F_tfn F_tfb F_pf_) rfl rfl [0, 1, 2, 4, 5, 6, 7, 8, 9, 10, 11, 12, 13] [3] (by decide) rfl rfl rfl (by decide) (by decide) k_496 rfl k_123 k_493 k_495 k_1 ⟨rfl, hy_FileMaker_putRecord⟩ (by decide) rfl rfl (Nat.le_of_ble_eq_true rfl) (by decide) (fun v9 u22 ch21 => ?_)
        obtain ⟨s_23, f_24, pr_25, bg_26, sz_27, bt_28, ln_29, ds_30, ps_31, pf_32, fl_33, fe_34⟩ := u22
        obtain ⟨ech21, ch21⟩ := ch21
        have ech21 : v9 = none := ech21
        subst ech21
        obtain ⟨fh35, fh36, fh37, fh38, fh39⟩ : (s_.toInt ≤ s_23.toInt) ∧ (s_23.toInt ≤ s_.toInt + 54 + (gx tfg (i.toInt + 1) - gx tfg i.toInt)) ∧ (hid_ (∃ P : List Int32, PR_ (sD_ V i.toInt) (vS V i.toInt) P ∧ ap_ f_ s_.toInt f_24 s_23.toInt (rc_ V i.toInt P))) ∧ (sb_Fit f_24) ∧ (sb_Fit pf_32) := ch21
        have prF := fh37
        refine pb_eq (pc' := 38) (lo' := [(3, .int i), (0, .ref h), (1, .ref sp), (2, .ref q)]) (rest' := []) (ws' := [(mr, .inl (G.2.2.1, 16, .inl (upd fr_ ((i : Int32).toNatClampNeg) s_))), (h, .inr (6, [.ref mm, .ref mr])), (mm, .inr (0, [.ref mb, .int s_23])), (mb, .inl (G.2.1, 14006, .inl f_24)), (sp, .inr (3, [.ref tn, .ref tz, .ref tb, .ref tg, .int c])), (tn, .inl (G.2.1, 384, .inl tfn)), (tz, .inl (G.2.2.1, 16, .inl tfz)), (tb, .inl (G.2.1, 12000, .inl tfb)), (tg, .inl (G.2.2.1, 17, .inl tfg)), (q, .inr (4, [.ref pp, .ref pl, .ref pe, .ref pr_25, .int bg_26, .int sz_27, .int bt_28, .int ln_29, .int ds_30])), (pp, .inr (0, [.ref pb, .int ps_31])), (pb, .inl (G.2.1, 4502, .inl pf_32)), (pl, .inl (G.2.2.1, 1024, .inl fl_33)), (pe, .inl (G.2.2.1, 4000, .inl fe_34))]) ?_
        refine pb_iincN (pc := 38) (c := 1) d_FileMaker_make_38 0 rfl (by decide) (by decide) (fun i40 ei40 => ?_)
        have ti40 : i40.toInt = i.toInt + 1 := ti_add ei40 rfl (by decide) (by omega) (by omega)
        refine pb_eq (pc' := 41) (lo' := [(3, .int i40), (0, .ref h), (1, .ref sp), (2, .ref q)]) (rest' := []) (ws' := [(mr, .inl (G.2.2.1, 16, .inl (upd fr_ ((i : Int32).toNatClampNeg) s_))), (h, .inr (6, [.ref mm, .ref mr])), (mm, .inr (0, [.ref mb, .int s_23])), (mb, .inl (G.2.1, 14006, .inl f_24)), (sp, .inr (3, [.ref tn, .ref tz, .ref tb, .ref tg, .int c])), (tn, .inl (G.2.1, 384, .inl tfn)), (tz, .inl (G.2.2.1, 16, .inl tfz)), (tb, .inl (G.2.1, 12000, .inl tfb)), (tg, .inl (G.2.2.1, 17, .inl tfg)), (q, .inr (4, [.ref pp, .ref pl, .ref pe, .ref pr_25, .int bg_26, .int sz_27, .int bt_28, .int ln_29, .int ds_30])), (pp, .inr (0, [.ref pb, .int ps_31])), (pb, .inl (G.2.1, 4502, .inl pf_32)), (pl, .inl (G.2.2.1, 1024, .inl fl_33)), (pe, .inl (G.2.2.1, 4000, .inl fe_34))]) ?_
        refine pb_goto (pc := 41) (tgt := 10) d_FileMaker_make_41 (by decide) ?_
        refine pb_re (ws' := [(h, .inr (6, [.ref mm, .ref mr])), (mm, .inr (0, [.ref mb, .int s_23])), (mb, .inl (G.2.1, 14006, .inl f_24)), (mr, .inl (G.2.2.1, 16, .inl (upd fr_ ((i : Int32).toNatClampNeg) s_))), (sp, .inr (3, [.ref tn, .ref tz, .ref tb, .ref tg, .int c])), (tn, .inl (G.2.1, 384, .inl tfn)), (tz, .inl (G.2.2.1, 16, .inl tfz)), (tb, .inl (G.2.1, 12000, .inl tfb)), (tg, .inl (G.2.2.1, 17, .inl tfg)), (q, .inr (4, [.ref pp, .ref pl, .ref pe, .ref pr_25, .int bg_26, .int sz_27, .int bt_28, .int ln_29, .int ds_30])), (pp, .inr (0, [.ref pb, .int ps_31])), (pb, .inl (G.2.1, 4502, .inl pf_32)), (pl, .inl (G.2.2.1, 1024, .inl fl_33)), (pe, .inl (G.2.2.1, 4000, .inl fe_34))]) (lo' := [(3, .int i40), (0, .ref h), (1, .ref sp), (2, .ref q)]) [1, 2, 3, 0, 4, 5, 6, 7, 8, 9, 10, 11, 12, 13] [0, 1, 2, 3] (by decide) rfl rfl rfl ?_
        exact ih10 i40 s_23 f_24 (upd fr_ ((i : Int32).toNatClampNeg) s_) pr_25 bg_26 sz_27 bt_28 ln_29 ds_30 ps_31 pf_32 fl_33 fe_34 fh38 fh39 (by first | (with_reducible assumption) | omega (splitDisjunctions := false) | assumption | omega | decide) (by first | (with_reducible assumption) | omega (splitDisjunctions := false) | assumption | omega | decide) (by first | (with_reducible assumption) | omega (splitDisjunctions := false) | assumption | omega | decide) (by rw [show i40.toInt = i.toInt + 1 by omega]; omega) (fun j h0 h1 => by rw [gx_upd rfl j (by omega) h0]; split <;> first | omega | exact hr j h0 (by omega)) (by obtain ⟨P8, p1_, p2_⟩ := hid_o prF; exact hid_i ⟨_, _, fL_s flF (by omega) (by omega) p1_ rfl rfl rfl, fw_ap fwF p2_⟩) (fun j h0 h1 => if w9 : j = i.toInt then hid_i ⟨F9, D9, (by rw [w9]; exact flF), (by rw [gx_upd rfl j (by omega) h0, if_pos w9]; exact fwF.1)⟩ else (by obtain ⟨F8, D8, q1, q2⟩ := hid_o (hR5 j h0 (by omega)); exact hid_i ⟨F8, D8, q1, (by rw [gx_upd rfl j (by omega) h0, if_neg w9]; exact q2)⟩)) (by (exact omg_7c8a06b1f5 hm9 tw2 ti40))
  exact hL10_1 _ 0 0 f fr pr bg sz bt ln ds ps pf fl fe F_f F_pf (by first | (with_reducible assumption) | omega (splitDisjunctions := false) | assumption | omega | decide) (by first | (with_reducible assumption) | omega (splitDisjunctions := false) | assumption | omega | decide) (by first | (with_reducible assumption) | omega (splitDisjunctions := false) | assumption | omega | decide) (by rw [show (0 : Int32).toInt = 0 by decide, p3]; omega) (fun j h0 h1 => absurd h1 (by omega)) (hid_i ⟨[], [], (by rw [show (0 : Int32).toInt.toNat = 0 by omega]; exact ⟨rfl, rfl⟩), fw_nil (by omega)⟩) (fun j h0 h1 => absurd h1 (by omega)) (Nat.lt_succ_self _)
/-! ROWS OF NUMBERS -/
theorem omg_0ee14031cb {x0 : Int} {x1 : Int} {x2 : Int} {x3 : Int} (a0 : (((¬ (x0 = (0 : Int))) ∧ (x1 = x0)) ∨ (((x0 = (0 : Int)) ∧ ((x2 = (4000 : Int)) ∧ (x1 = (7 : Int)))) ∨ ((x0 = (0 : Int)) ∧ ((¬ (x2 = (4000 : Int))) ∧ ((x1 = (0 : Int)) ∧ (x3 = (x2 + (1 : Int))))))))) (a1 : (x0 = (0 : Int))) : (((x2 = (4000 : Int)) ∧ (x1 = (7 : Int))) ∨ ((¬ (x2 = (4000 : Int))) ∧ ((x1 = (0 : Int)) ∧ (x3 = (x2 + (1 : Int)))))) := by omega
theorem omg_854dd63b58 {x0 : Int} {x1 : Int} {x2 : Int} {x3 : Int} {x4 : Int} {x5 : Int} {x6 : Int} (a0 : (((x0 = (0 : Int)) ∧ ((x1 = (1 : Int)) ∧ ((¬ (x2 = (0 : Int))) ∧ (x3 = (0 : Int))))) ∨ (((x0 = (0 : Int)) ∧ ((¬ ((x1 = (1 : Int)) ∧ (¬ (x2 = (0 : Int))))) ∧ (x3 = (4 : Int)))) ∨ ((¬ (x0 = (0 : Int))) ∧ (x3 = x0))))) (a1 : (((x3 = (0 : Int)) ∧ (((x4 = (0 : Int)) ∨ (x5 = (1 : Int))) ∧ (x6 = (0 : Int)))) ∨ (((x3 = (0 : Int)) ∧ ((¬ ((x4 = (0 : Int)) ∨ (x5 = (1 : Int)))) ∧ (x6 = (4 : Int)))) ∨ ((¬ (x3 = (0 : Int))) ∧ (x6 = x3))))) : ((((x1 = (1 : Int)) ∧ ((¬ (x2 = (0 : Int))) ∧ ((x4 = (0 : Int)) ∨ (x5 = (1 : Int))))) ∧ (x6 = x0)) ∨ ((¬ ((x1 = (1 : Int)) ∧ ((¬ (x2 = (0 : Int))) ∧ ((x4 = (0 : Int)) ∨ (x5 = (1 : Int)))))) ∧ (((x0 = (0 : Int)) ∧ (x6 = (4 : Int))) ∨ ((¬ (x0 = (0 : Int))) ∧ (x6 = x0))))) := by omega
theorem omg_8ebc790f96 {x0 : Int} {x1 : Int} {x2 : Int} {x3 : Int} {x4 : Int} {x5 : Int} {x6 : Int} {x7 : Int} {x8 : Int} (a0 : (((x0 = (0 : Int)) ∧ ((x1 = (1 : Int)) ∧ ((¬ (x2 = (0 : Int))) ∧ (x3 = (0 : Int))))) ∨ (((x0 = (0 : Int)) ∧ ((¬ ((x1 = (1 : Int)) ∧ (¬ (x2 = (0 : Int))))) ∧ (x3 = (4 : Int)))) ∨ ((¬ (x0 = (0 : Int))) ∧ (x3 = x0))))) (a1 : (((x3 = (0 : Int)) ∧ (((x4 = (0 : Int)) ∨ (x5 = (1 : Int))) ∧ (x6 = (0 : Int)))) ∨ (((x3 = (0 : Int)) ∧ ((¬ ((x4 = (0 : Int)) ∨ (x5 = (1 : Int)))) ∧ (x6 = (4 : Int)))) ∨ ((¬ (x3 = (0 : Int))) ∧ (x6 = x3))))) (a2 : (¬ (x3 = (0 : Int)))) : ((((x1 = (1 : Int)) ∧ ((¬ (x2 = (0 : Int))) ∧ ((x7 = (0 : Int)) ∨ (x8 = (1 : Int))))) ∧ (x6 = x0)) ∨ ((¬ ((x1 = (1 : Int)) ∧ ((¬ (x2 = (0 : Int))) ∧ ((x7 = (0 : Int)) ∨ (x8 = (1 : Int)))))) ∧ (((x0 = (0 : Int)) ∧ (x6 = (4 : Int))) ∨ ((¬ (x0 = (0 : Int))) ∧ (x6 = x0))))) := by omega
theorem omg_84c38e9821 {x0 : Int} {x1 : Int} {x2 : Int} {x3 : Int} {x4 : Int} {x5 : Int} {x6 : Int} (a0 : (((x0 = (0 : Int)) ∧ ((x1 = (1 : Int)) ∧ ((¬ (x2 = (0 : Int))) ∧ (x3 = (0 : Int))))) ∨ (((x0 = (0 : Int)) ∧ ((¬ ((x1 = (1 : Int)) ∧ (¬ (x2 = (0 : Int))))) ∧ (x3 = (4 : Int)))) ∨ ((¬ (x0 = (0 : Int))) ∧ (x3 = x0))))) (a1 : (((x3 = (0 : Int)) ∧ (((x4 = (0 : Int)) ∨ (x5 = (1 : Int))) ∧ (x6 = (0 : Int)))) ∨ (((x3 = (0 : Int)) ∧ ((¬ ((x4 = (0 : Int)) ∨ (x5 = (1 : Int)))) ∧ (x6 = (4 : Int)))) ∨ ((¬ (x3 = (0 : Int))) ∧ (x6 = x3))))) (a2 : (¬ (x0 = (0 : Int)))) : (((((0 : Int) = (1 : Int)) ∧ ((¬ ((0 : Int) = (0 : Int))) ∧ (((0 : Int) = (0 : Int)) ∨ ((0 : Int) = (1 : Int))))) ∧ (x6 = x0)) ∨ ((¬ (((0 : Int) = (1 : Int)) ∧ ((¬ ((0 : Int) = (0 : Int))) ∧ (((0 : Int) = (0 : Int)) ∨ ((0 : Int) = (1 : Int)))))) ∧ (((x0 = (0 : Int)) ∧ (x6 = (4 : Int))) ∨ ((¬ (x0 = (0 : Int))) ∧ (x6 = x0))))) := by omega
/-! counting how many of a row's numbers are 1 .. m-1, or m -/
def cd_n (f : Nat → Int32) (o : Nat) (m : Int) : Nat → Nat
  | 0 => 0
  | k + 1 => cd_n f o m k + (if 1 ≤ (f (o + k)).toInt ∧ (f (o + k)).toInt < m then 1 else 0)
def cd_e (f : Nat → Int32) (o : Nat) (m : Int) : Nat → Nat
  | 0 => 0
  | k + 1 => cd_e f o m k + (if (f (o + k)).toInt = m then 1 else 0)
theorem cd_le (f : Nat → Int32) (o : Nat) (m : Int) : ∀ k, cd_n f o m k ≤ k
  | 0 => Nat.le_refl _
  | k + 1 => by
    have h := cd_le f o m k
    simp only [cd_n]
    split <;> omega
theorem cd_one (f : Nat → Int32) (o : Nat) : ∀ k, cd_n f o 1 k = 0
  | 0 => rfl
  | k + 1 => by
    simp only [cd_n, cd_one f o k]
    split <;> omega
theorem cd_sum (f : Nat → Int32) (o : Nat) {m : Int} (hm : 1 ≤ m) : ∀ k, cd_n f o m k + cd_e f o m k = cd_n f o (m + 1) k
  | 0 => rfl
  | k + 1 => by
    have h := cd_sum f o hm k
    simp only [cd_n, cd_e]
    split <;> split <;> split <;> omega
theorem cd_mono (f : Nat → Int32) (o : Nat) (m : Int) (j : Nat) : ∀ k, j ≤ k → cd_e f o m j ≤ cd_e f o m k
  | 0, h => by
    obtain rfl : j = 0 := by omega
    exact Nat.le_refl _
  | k + 1, h => by
    by_cases e : j = k + 1
    · subst e; exact Nat.le_refl _
    · have h1 := cd_mono f o m j k (by omega)
      simp only [cd_e]
      omega
theorem cd_room (f : Nat → Int32) (o : Nat) {m : Int} (hm : 1 ≤ m) {j k : Nat} (hj : j < k) (he : (f (o + j)).toInt = m) : cd_n f o m k + cd_e f o m j < k := by
  have h1 := cd_mono f o m (j + 1) k hj
  have h2 := cd_sum f o hm k
  have h3 := cd_le f o (m + 1) k
  simp only [cd_e] at h1
  rw [if_pos he] at h1
  omega

theorem num_all : ∀ j : Nat, j ≤ 16 → ∀ b : Nat, b < 2 → 0 ≤ ((nI b) <<< (nI j &&& 31)).toInt ∧ ((nI b) <<< (nI j &&& 31)).toInt ≤ ((2 ^ j : Nat) : Int) := by decide +kernel
theorem num_bit {b i k : Int32} (e : i = b <<< (k &&& 31)) (hb : 0 ≤ b.toInt ∧ b.toInt ≤ 1) (h0 : 0 ≤ k.toInt) (h1 : k.toInt ≤ 16) : 0 ≤ i.toInt ∧ i.toInt ≤ p2 k.toInt := by
  subst e
  obtain ⟨x, hx, rfl⟩ := ti_nat hb.1
  obtain ⟨j, hj, rfl⟩ := ti_nat h0
  have e1 := nI_toInt hx
  have e2 := nI_toInt hj
  have h := num_all j (by omega) x (by omega)
  unfold p2
  rw [e2]
  exact h
theorem num_or {v i z : Int32} {k m : Int} (e : z = v ||| i) (h0 : 0 ≤ v.toInt) (h1 : v.toInt < p2 k) (h2 : 0 ≤ i.toInt ∧ i.toInt ≤ p2 k) (hk : 0 ≤ k) (hm : m = k + 1) : 0 ≤ z.toInt ∧ z.toInt < p2 m := by
  have h3 := p2_s hk hm
  have h4 := p2_pos k
  exact ti_or m.toNat e rfl rfl h0 (by omega) h2.1 (by omega) rfl
theorem ld_all : ∀ j : Nat, j < 32 → 4 ≤ j → 1 ≤ (1 + ((2 + (nI j - nI j / 2 * 2)) <<< ((nI j / 2 - 1) &&& 31))).toInt ∧ (1 + ((2 + (nI j - nI j / 2 * 2)) <<< ((nI j / 2 - 1) &&& 31))).toInt ≤ 65536 := by decide +kernel
theorem ld_pos {d r : Int32} (h0 : 4 ≤ d.toInt) (h1 : d.toInt ≤ 31) (e : r = 1 + ((2 + (d - d / 2 * 2)) <<< ((d / 2 - 1) &&& 31))) : 1 ≤ r.toInt ∧ r.toInt ≤ 65536 := by
  subst e
  obtain ⟨j, hj, rfl⟩ := ti_nat (x := d) (by omega)
  have e1 := nI_toInt hj
  exact ld_all j (by omega) (by omega)
/-- the counts of a code, up to k -/
def co_n (f : Nat → Int32) : Nat → Int
  | 0 => 0
  | m + 1 => co_n f m + gx f ((m : Int) + 1)
def co_s (f : Nat → Int32) (k : Int) : Int := co_n f k.toNat
theorem co_s0 (f : Nat → Int32) : co_s f 0 = 0 := rfl
theorem co_ss {f : Nat → Int32} {k m : Int} (h : 0 ≤ k) (hm : m = k + 1) : co_s f m = co_s f k + gx f m := by
  subst hm
  unfold co_s
  rw [show (k + 1).toNat = k.toNat + 1 by omega, co_n, show ((k.toNat : Nat) : Int) + 1 = k + 1 by omega]
theorem co_same {f g : Nat → Int32} : ∀ n : Nat, (∀ j : Int, 1 ≤ j → j ≤ n → gx f j = gx g j) → co_n f n = co_n g n
  | 0, _ => rfl
  | n + 1, h => by
    rw [co_n, co_n, co_same n (fun j h0 h1 => h j h0 (by omega)), h ((n : Int) + 1) (by omega) (by omega)]
/-- a code: its symbols are below b, its counts sum up to its size -/
def co_I (sz : Int) (fc fy : Nat → Int32) (b : Int) : Prop := 0 ≤ sz ∧ (∀ m : Int, 1 ≤ m → m ≤ 15 → 0 ≤ gx fc m) ∧ co_s fc 15 = sz ∧ ∀ j : Int, 0 ≤ j → j < sz → 0 ≤ gx fy j ∧ gx fy j < b
theorem co_wide {sz b b2 : Int} {fc fy : Nat → Int32} (h : co_I sz fc fy b) (hb : b ≤ b2) : co_I sz fc fy b2 := ⟨h.1, h.2.1, h.2.2.1, fun j h0 h1 => by have := h.2.2.2 j h0 h1; omega⟩
theorem co_zero {b : Int} : co_I 0 (fun _ => 0) (fun _ => 0) b := ⟨by omega, fun m _ _ => by show (0 : Int) ≤ (0 : Int32).toInt; decide, by decide, fun j h0 h1 => absurd h1 (by omega)⟩
theorem co_up {sz b : Int} {fc fy : Nat → Int32} (h : co_I sz fc fy b) : ∀ (n : Nat) (k : Int), 0 ≤ k → k + n ≤ 15 → co_s fc k ≤ co_s fc (k + n)
  | 0, k, _, _ => by rw [show k + ((0 : Nat) : Int) = k by omega]; exact Int.le_refl _
  | n + 1, k, h0, h1 => by
    have a := co_up h n k h0 (by omega)
    have c := h.2.1 (k + n + 1) (by omega) (by omega)
    have d := co_ss (f := fc) (k := k + n) (m := k + n + 1) (by omega) rfl
    rw [show k + ((n + 1 : Nat) : Int) = k + n + 1 by omega]
    omega
theorem co_pref {sz b k : Int} {fc fy : Nat → Int32} (h : co_I sz fc fy b) (h0 : 0 ≤ k) (h1 : k ≤ 15) : 0 ≤ co_s fc k ∧ co_s fc k ≤ sz := by
  have a := co_up h k.toNat 0 (by omega) (by omega)
  rw [show 0 + (k.toNat : Int) = k by omega, co_s0] at a
  have c := co_up h (15 - k).toNat k h0 (by omega)
  rw [show k + ((15 - k).toNat : Int) = 15 by omega, h.2.2.1] at c
  exact ⟨a, c⟩
/-- the next count is told -/
theorem co_put {f : Nat → Int32} {mi v : Int32} {m s1 s3 : Int} (hm : mi.toInt = m) (h1 : 1 ≤ m) (h : co_s f (m - 1) = s1) (hv : v.toInt = s3 - s1) : co_s (upd f mi.toNatClampNeg v) m = s3 := by
  rw [co_ss (k := m - 1) (by omega) (by omega), gx_upd hm m (by omega) (by omega), if_pos rfl, hv]
  have e : co_s (upd f mi.toNatClampNeg v) (m - 1) = co_s f (m - 1) := by
    unfold co_s
    refine co_same _ (fun j h0 h2 => ?_)
    rw [gx_upd hm j (by omega) (by omega), if_neg (by omega)]
  omega

/-! A STREAM, as it is read: what comes out, and its fault, are told by the row of bytes A alone. -/
/-- bit k of a row -/
def bq_ (A : Int → Int32) (k : Int) : Int32 := (A (k / 8) >>> (Int32.ofInt (k % 8) &&& 31)) &&& 1
def bi_ (A : Int → Int32) (k : Int) : Int := (bq_ A k).toInt
theorem bi_rng (A : Int → Int32) (k : Int) : 0 ≤ bi_ A k ∧ bi_ A k ≤ 1 := ti_and 1 rfl (by decide) (by decide)
/-- a number of n bits from bit p on -/
def nu_v (A : Int → Int32) (p : Int) : Nat → Int32
  | 0 => 0
  | n + 1 => nu_v A p n ||| (bq_ A (p + (n : Int)) <<< (Int32.ofInt (n : Int) &&& 31))
/-- what a step says: its fault, or with 0 what it found and where it ends -/
def oc_ (w v p : Int) : Int × Int × Int := if w = 0 then (0, v, p) else (w, 0, 0)
theorem oc_0 {w v p : Int} (h : w = 0) : oc_ w v p = (0, v, p) := if_pos h
theorem oc_w {w v p : Int} (h : ¬ w = 0) : oc_ w v p = (w, 0, 0) := if_neg h
theorem oc_1 (w v p : Int) : (oc_ w v p).1 = w := by
  unfold oc_
  split
  · exact (by assumption : w = 0).symm
  · rfl
def nu_w (A : Int → Int32) (en w p n : Int) : Int × Int × Int := if w = 0 then (if p + n ≤ en then (0, (nu_v A p n.toNat).toInt, p + n) else (1, 0, 0)) else (w, 0, 0)
theorem nu_ww {A : Int → Int32} {en w p n : Int} (h : ¬ w = 0) : nu_w A en w p n = (w, 0, 0) := if_neg h
theorem nu_w1 {A : Int → Int32} {en p n : Int} (h : ¬ p + n ≤ en) : nu_w A en 0 p n = (1, 0, 0) := by
  unfold nu_w
  rw [if_pos rfl, if_neg h]
theorem nu_w0 {A : Int → Int32} {en p n : Int} (h : p + n ≤ en) : nu_w A en 0 p n = (0, (nu_v A p n.toNat).toInt, p + n) := by
  unfold nu_w
  rw [if_pos rfl, if_pos h]
theorem nu_wz {A : Int → Int32} {en w p v q : Int} (h : p ≤ en) (hv : v = 0) (hq : q = p) : nu_w A en w p 0 = oc_ w v q := by
  subst hv hq
  unfold nu_w oc_
  split
  · rw [if_pos (by omega), Int.add_zero]
    rfl
  · rfl
/-- the end of a number's loop, of its fault, of a fault before it -/
theorem nu_ok {A : Int → Int32} {en w w2 p n v q : Int} (hw : w = 0) (hw2 : w2 = 0) (h : p + n ≤ en) (hv : v = (nu_v A p n.toNat).toInt) (hq : q = p + n) : nu_w A en w p n = oc_ w2 v q := by
  subst hw hw2 hv hq
  rw [nu_w0 h, oc_0 rfl]
theorem nu_no {A : Int → Int32} {en w w2 p n v q : Int} (hw : w = 0) (hw2 : w2 = 1) (h : ¬ p + n ≤ en) : nu_w A en w p n = oc_ w2 v q := by
  subst hw hw2
  rw [nu_w1 h, oc_w (by omega)]
theorem nu_wr {A : Int → Int32} {en w w2 p n v q : Int} (hw : ¬ w = 0) (hw2 : w2 = w) : nu_w A en w p n = oc_ w2 v q := by
  subst hw2
  rw [nu_ww hw, oc_w hw]
theorem bq_E {f : Nat → Int32} {A : Int → Int32} {k : Int} {v i j m : Int32} (e1 : v = i &&& 1) (e2 : i = j >>> (m &&& 31)) (e3 : j = gr f (k / 8)) (hm : m.toInt = k % 8) (hA : A (k / 8) = gr f (k / 8)) : v = bq_ A k := by
  unfold bq_
  rw [e1, e2, e3, hA, ← hm, Int32.ofInt_toInt]
theorem nu_st {A : Int → Int32} {p k k2 : Int} {v v2 b i ki : Int32} (hv : v = nu_v A p k.toNat) (hk : 0 ≤ k) (hk2 : k2 = k + 1) (hb : b = bq_ A (p + k)) (hki : ki.toInt = k) (e1 : i = b <<< (ki &&& 31)) (e2 : v2 = v ||| i) : v2 = nu_v A p k2.toNat := by
  subst hk2
  rw [show (k + 1).toNat = k.toNat + 1 by omega]
  show v2 = nu_v A p k.toNat ||| (bq_ A (p + ((k.toNat : Nat) : Int)) <<< (Int32.ofInt ((k.toNat : Nat) : Int) &&& 31))
  rw [show ((k.toNat : Nat) : Int) = k by omega, ← hv, ← hb, e2, e1, ← hki, Int32.ofInt_toInt]
theorem nu_1 (A : Int → Int32) (p : Int) : (nu_v A p 1).toInt = bi_ A p := by
  show ((0 : Int32) ||| (bq_ A (p + ((0 : Nat) : Int)) <<< (Int32.ofInt ((0 : Nat) : Int) &&& 31))).toInt = (bq_ A p).toInt
  rw [show p + ((0 : Nat) : Int) = p by omega]
  have h : ∀ x : Int32, (0 : Int32) ||| (x <<< (Int32.ofInt ((0 : Nat) : Int) &&& 31)) = x := fun x => by
    rw [Int32.zero_or, show Int32.ofInt ((0 : Nat) : Int) &&& 31 = 0 by decide]
    exact Int32.shiftLeft_zero
  rw [h]
/-- how many of n numbers are b, are 1 .. m - 1, are not 0; the largest; the i-th that is b -/
def ct_ (L : Int → Int) (b : Int) : Nat → Int
  | 0 => 0
  | n + 1 => ct_ L b n + (if L (n : Int) = b then 1 else 0)
def lt_ (L : Int → Int) (m : Int) : Nat → Int
  | 0 => 0
  | n + 1 => lt_ L m n + (if 1 ≤ L (n : Int) ∧ L (n : Int) < m then 1 else 0)
def ml_ (L : Int → Int) : Nat → Int
  | 0 => 0
  | n + 1 => if ml_ L n < L (n : Int) then L (n : Int) else ml_ L n
def nt_ (L : Int → Int) (b : Int) : Nat → Int → Int → Int
  | 0, s, _ => s
  | m + 1, s, i => if L s = b then (if i ≤ 0 then s else nt_ L b m (s + 1) (i - 1)) else nt_ L b m (s + 1) i
theorem ct_s {L : Int → Int} {b k m : Int} (h : 0 ≤ k) (hm : m = k + 1) : ct_ L b m.toNat = ct_ L b k.toNat + (if L k = b then 1 else 0) := by
  subst hm
  rw [show (k + 1).toNat = k.toNat + 1 by omega, ct_, show ((k.toNat : Nat) : Int) = k by omega]
theorem lt_sx {L : Int → Int} {b k m : Int} (h : 0 ≤ k) (hm : m = k + 1) : lt_ L b m.toNat = lt_ L b k.toNat + (if 1 ≤ L k ∧ L k < b then 1 else 0) := by
  subst hm
  rw [show (k + 1).toNat = k.toNat + 1 by omega, lt_, show ((k.toNat : Nat) : Int) = k by omega]
theorem ml_s {L : Int → Int} {k m : Int} (h : 0 ≤ k) (hm : m = k + 1) : ml_ L m.toNat = if ml_ L k.toNat < L k then L k else ml_ L k.toNat := by
  subst hm
  rw [show (k + 1).toNat = k.toNat + 1 by omega, ml_, show ((k.toNat : Nat) : Int) = k by omega]
theorem ct_rng (L : Int → Int) (b : Int) : ∀ n : Nat, 0 ≤ ct_ L b n ∧ ct_ L b n ≤ n
  | 0 => by rw [ct_]; omega
  | n + 1 => by
    have a := ct_rng L b n
    rw [ct_]
    split <;> omega
theorem lt_one (L : Int → Int) : ∀ n : Nat, lt_ L 1 n = 0
  | 0 => rfl
  | n + 1 => by
    rw [lt_, lt_one L n]
    split <;> omega
theorem lt_sum (L : Int → Int) {m : Int} (hm : 1 ≤ m) : ∀ n : Nat, lt_ L m n + ct_ L m n = lt_ L (m + 1) n
  | 0 => rfl
  | n + 1 => by
    have h := lt_sum L hm n
    rw [lt_, ct_, lt_]
    split <;> split <;> split <;> omega
theorem ct_mono (L : Int → Int) (b : Int) (j : Nat) : ∀ n : Nat, j ≤ n → ct_ L b j ≤ ct_ L b n
  | 0, h => by
    obtain rfl : j = 0 := by omega
    exact Int.le_refl _
  | n + 1, h => by
    by_cases e : j = n + 1
    · subst e
      exact Int.le_refl _
    · have h1 := ct_mono L b j n (by omega)
      rw [ct_]
      split <;> omega
theorem lt_mono (L : Int → Int) {m k : Int} (h : m ≤ k) : ∀ n : Nat, lt_ L m n ≤ lt_ L k n
  | 0 => Int.le_refl _
  | n + 1 => by
    have h1 := lt_mono L h n
    rw [lt_, lt_]
    split <;> split <;> omega
/-- the largest is above all, and is one of them, or 0 -/
theorem ml_le (L : Int → Int) : ∀ (n : Nat) (k : Int), 0 ≤ k → k < n → L k ≤ ml_ L n
  | 0, k, h0, h1 => absurd h1 (by omega)
  | n + 1, k, h0, h1 => by
    rw [ml_]
    by_cases e : k = n
    · subst e
      split <;> omega
    · have := ml_le L n k h0 (by omega)
      split <;> omega
theorem ml_in (L : Int → Int) : ∀ n : Nat, ml_ L n = 0 ∨ ∃ k : Int, 0 ≤ k ∧ k < n ∧ L k = ml_ L n
  | 0 => Or.inl rfl
  | n + 1 => by
    rw [ml_]
    split
    · exact Or.inr ⟨(n : Int), by omega, by omega, rfl⟩
    · rcases ml_in L n with h | ⟨k, h0, h1, h2⟩
      · exact Or.inl h
      · exact Or.inr ⟨k, h0, by omega, h2⟩
theorem ml_0 (L : Int → Int) : ∀ n : Nat, 0 ≤ ml_ L n
  | 0 => Int.le_refl _
  | n + 1 => by
    have := ml_0 L n
    rw [ml_]
    split <;> omega
/-- there is a number of m or more just if the largest is -/
theorem lt_ml {L : Int → Int} {n : Nat} {m : Int} (hm : 1 ≤ m) (hL : ∀ k : Int, 0 ≤ k → k < n → 0 ≤ L k ∧ L k ≤ 15) : lt_ L m n < lt_ L 16 n ↔ m ≤ ml_ L n := by
  have one : ∀ (j : Nat) (k : Int), 0 ≤ k → k < j → m ≤ L k → L k ≤ 15 → lt_ L m j < lt_ L 16 j := fun j => by
    induction j with
    | zero => exact fun k h0 h1 => absurd h1 (by omega)
    | succ j ih =>
      intro k h0 h1 h2 h3
      have h4 := lt_mono L (show m ≤ 16 by omega) j
      rw [lt_, lt_]
      by_cases e : k = j
      · subst e
        split <;> split <;> omega
      · have := ih k h0 (by omega) h2 h3
        split <;> split <;> omega
  have none : ∀ j : Nat, (∀ k : Int, 0 ≤ k → k < j → L k < m ∧ 0 ≤ L k ∧ L k ≤ 15) → lt_ L m j = lt_ L 16 j := fun j => by
    induction j with
    | zero => exact fun _ => rfl
    | succ j ih =>
      intro h
      have h1 := ih (fun k h0 h1 => h k h0 (by omega))
      have h2 := h j (by omega) (by omega)
      rw [lt_, lt_, h1]
      split <;> split <;> omega
  constructor
  · intro h
    by_cases c : m ≤ ml_ L n
    · exact c
    · have := none n (fun k h0 h1 => by have := ml_le L n k h0 h1; have := hL k h0 h1; omega)
      omega
  · intro h
    rcases ml_in L n with c | ⟨k, h0, h1, h2⟩
    · omega
    · have := hL k h0 h1
      exact one n k h0 h1 (by omega) (by omega)
/-- the i-th number that is b -/
theorem nt_spec (L : Int → Int) (b : Int) (N : Nat) : ∀ (m : Nat) (s i : Int), 0 ≤ s → s + m = N → 0 ≤ i → i < ct_ L b N - ct_ L b s.toNat → 0 ≤ nt_ L b m s i ∧ nt_ L b m s i < N ∧ L (nt_ L b m s i) = b ∧ ct_ L b (nt_ L b m s i).toNat = ct_ L b s.toNat + i
  | 0, s, i, h0, h1, h2, h3 => by
    rw [show s.toNat = N by omega] at h3
    omega
  | m + 1, s, i, h0, h1, h2, h3 => by
    have cs := ct_s (L := L) (b := b) (k := s) (m := s + 1) h0 rfl
    rw [nt_]
    by_cases e : L s = b
    · rw [if_pos e]
      rw [if_pos e] at cs
      by_cases e2 : i ≤ 0
      · rw [if_pos e2]
        have hm := ct_mono L b (s + 1).toNat N (by omega)
        exact ⟨h0, by omega, e, by omega⟩
      · rw [if_neg e2]
        have ih := nt_spec L b N m (s + 1) (i - 1) (by omega) (by omega) (by omega) (by omega)
        exact ⟨ih.1, ih.2.1, ih.2.2.1, by rw [ih.2.2.2, cs]; omega⟩
    · rw [if_neg e]
      rw [if_neg e] at cs
      have ih := nt_spec L b N m (s + 1) i (by omega) (by omega) h2 (by omega)
      exact ⟨ih.1, ih.2.1, ih.2.2.1, by rw [ih.2.2.2, cs]; omega⟩
/-- a symbol, its bits one behind the other -/
def sy_g (A : Int → Int32) (en mo : Int) (C : Int → Int) (S : Int → Int → Int) : Nat → Int → Int → Int → Int → Int × Int × Int
  | 0, _, _, _, _ => (5, 0, 0)
  | m + 1, b, c, g, p => if mo < b then (5, 0, 0) else if en ≤ p then (1, 0, 0) else if 2 * c + bi_ A p - 2 * g < C b then (0, S b (2 * c + bi_ A p - 2 * g), p + 1) else sy_g A en mo C S m (b + 1) (2 * c + bi_ A p) (2 * g + C b) (p + 1)
/-- by a code that is told by the numbers L of bits of n symbols -/
def sy_l (A : Int → Int32) (en : Int) (L : Int → Int) (n : Int) (m : Nat) (b c g p : Int) : Int × Int × Int := sy_g A en (ml_ L n.toNat) (fun b => ct_ L b n.toNat) (fun b i => nt_ L b n.toNat 0 i) m b c g p
def sy_w (A : Int → Int32) (en : Int) (L : Int → Int) (n w p : Int) : Int × Int × Int := if w = 0 then sy_l A en L n 15 1 0 0 p else (w, 0, 0)
theorem sy_ww {A : Int → Int32} {en n w w2 p v q : Int} {L : Int → Int} (h : ¬ w = 0) (e : w2 = w) : sy_w A en L n w p = oc_ w2 v q := by
  subst e
  rw [oc_w h]
  exact if_neg h
theorem sy_w0 {A : Int → Int32} {en n w p : Int} {L : Int → Int} (h : w = 0) : sy_w A en L n w p = sy_l A en L n 15 1 0 0 p := if_pos h
theorem sy_5 {A : Int → Int32} {en n b c g p w v q : Int} {L : Int → Int} {m : Nat} (h : m = 0 ∨ ml_ L n.toNat < b) (e : w = 5) : sy_l A en L n m b c g p = oc_ w v q := by
  subst e
  rw [oc_w (by omega)]
  unfold sy_l
  cases m with
  | zero => rfl
  | succ m =>
    rw [sy_g, if_pos (by omega)]
theorem sy_1 {A : Int → Int32} {en n b c g p w v q : Int} {L : Int → Int} {m : Nat} (h0 : m ≠ 0) (h : b ≤ ml_ L n.toNat) (hp : en ≤ p) (e : w = 1) : sy_l A en L n m b c g p = oc_ w v q := by
  subst e
  rw [oc_w (by omega)]
  unfold sy_l
  cases m with
  | zero => exact absurd rfl h0
  | succ m =>
    rw [sy_g, if_neg (by omega), if_pos hp]
theorem sy_ok {A : Int → Int32} {en n b c g p w v q x : Int} {L : Int → Int} {m : Nat} (h0 : m ≠ 0) (h : b ≤ ml_ L n.toNat) (hp : p < en) (hx : x = 2 * c + bi_ A p - 2 * g) (hc : x < ct_ L b n.toNat) (hv : v = nt_ L b n.toNat 0 x) (hq : q = p + 1) (e : w = 0) : sy_l A en L n m b c g p = oc_ w v q := by
  subst e hx hv hq
  rw [oc_0 rfl]
  unfold sy_l
  cases m with
  | zero => exact absurd rfl h0
  | succ m =>
    rw [sy_g, if_neg (by omega), if_neg (by omega), if_pos hc]
theorem sy_go {A : Int → Int32} {en n b b2 c c2 g g2 p p2 : Int} {L : Int → Int} {m m2 : Nat} (hm : m = m2 + 1) (h : b ≤ ml_ L n.toNat) (hp : p < en) (hc : c2 = 2 * c + bi_ A p) (hx : ¬ c2 - 2 * g < ct_ L b n.toNat) (hg : g2 = 2 * g + ct_ L b n.toNat) (hb : b2 = b + 1) (hp2 : p2 = p + 1) : sy_l A en L n m b c g p = sy_l A en L n m2 b2 c2 g2 p2 := by
  subst hm hc hg hb hp2
  unfold sy_l
  rw [sy_g, if_neg (by omega), if_neg (by omega), if_neg hx]
/-- a code as the class holds it: how many symbols have how many bits, the symbols in the order of their codes -/
def cs_R (sz : Int) (fc fy : Nat → Int32) (L : Int → Int) (n : Int) : Prop := (∀ b : Int, 1 ≤ b → b ≤ 15 → gx fc b = ct_ L b n.toNat) ∧ sz = lt_ L 16 n.toNat ∧ (∀ q : Int, 0 ≤ q → q < n → 1 ≤ L q → L q ≤ 15 → gx fy (lt_ L (L q) n.toNat + ct_ L (L q) q.toNat) = q) ∧ ∀ k : Int, 0 ≤ k → k < n → 0 ≤ L k ∧ L k ≤ 15
theorem cs_co {sz n : Int} {fc fy : Nat → Int32} {L : Int → Int} (h : cs_R sz fc fy L n) : ∀ k : Nat, k ≤ 15 → co_n fc k = lt_ L ((k : Int) + 1) n.toNat
  | 0, _ => by
    rw [co_n, show ((0 : Nat) : Int) + 1 = 1 by omega, lt_one]
  | k + 1, hk => by
    have ih := cs_co h k (by omega)
    have a := h.1 ((k : Int) + 1) (by omega) (by omega)
    have b := lt_sum L (m := (k : Int) + 1) (by omega) n.toNat
    rw [co_n, ih, a, b]
    rw [show ((k + 1 : Nat) : Int) + 1 = (k : Int) + 1 + 1 by omega]
theorem cs_s {sz n m : Int} {fc fy : Nat → Int32} {L : Int → Int} (h : cs_R sz fc fy L n) (h1 : 1 ≤ m) (h2 : m ≤ 16) : co_s fc (m - 1) = lt_ L m n.toNat := by
  have := cs_co h (m - 1).toNat (by omega)
  unfold co_s
  rw [this, show (((m - 1).toNat : Nat) : Int) + 1 = m by omega]
/-- whether there are symbols of m bits or more, as the class asks it -/
theorem cs_more {sz n m : Int} {fc fy : Nat → Int32} {L : Int → Int} (h : cs_R sz fc fy L n) (h1 : 1 ≤ m) (h2 : m ≤ 16) : co_s fc (m - 1) < sz ↔ m ≤ ml_ L n.toNat := by
  rw [cs_s h h1 h2, h.2.1]
  exact lt_ml h1 (fun k h0 h3 => h.2.2.2 k h0 (by omega))
/-- the symbol of a code of m bits -/
theorem cs_at {sz n m x y : Int} {fc fy : Nat → Int32} {L : Int → Int} (h : cs_R sz fc fy L n) (hn : 0 ≤ n) (h1 : 1 ≤ m) (h2 : m ≤ 15) (x0 : 0 ≤ x) (x1 : x < ct_ L m n.toNat) (hy : y = co_s fc (m - 1) + x) : gx fy y = nt_ L m n.toNat 0 x := by
  have s := nt_spec L m n.toNat n.toNat 0 x (by omega) (by omega) x0 (by show x < ct_ L m n.toNat - ct_ L m (0 : Int).toNat; rw [show (0 : Int).toNat = 0 from rfl, ct_]; omega)
  obtain ⟨s0, s1, s2, s3⟩ := s
  rw [show (0 : Int).toNat = 0 from rfl, ct_, Int.zero_add] at s3
  have a := h.2.2.1 (nt_ L m n.toNat 0 x) s0 (by omega) (by omega) (by omega)
  rw [s2, s3] at a
  rw [hy, cs_s h h1 (by omega)]
  exact a
/-- whether a code is right -/
def rt_g (C : Int → Int) (t : Int) : Nat → Int → Int → Int
  | 0, _, f => if f = 0 ∨ (t = 1 ∧ C 1 = 1) then 1 else 0
  | m + 1, b, f => if 2 * f - C b < 0 then 0 else rt_g C t m (b + 1) (2 * f - C b)
def rt_l (L : Int → Int) (n : Int) (m : Nat) (b f : Int) : Int := rt_g (fun b => ct_ L b n.toNat) (lt_ L 16 n.toNat) m b f
def rt_f (L : Int → Int) (n : Int) : Int := rt_l L n 15 1 1
theorem rt_no {L : Int → Int} {n b f c r : Int} {m : Nat} (h0 : m ≠ 0) (hc : c = ct_ L b n.toNat) (h : 2 * f - c < 0) (hr : r = 0) : rt_l L n m b f = r := by
  subst hr hc
  unfold rt_l
  cases m with
  | zero => exact absurd rfl h0
  | succ m => rw [rt_g, if_pos h]
theorem rt_go {L : Int → Int} {n b b2 f f2 c : Int} {m m2 : Nat} (hm : m = m2 + 1) (hc : c = ct_ L b n.toNat) (h : ¬ 2 * f - c < 0) (hf : f2 = 2 * f - c) (hb : b2 = b + 1) : rt_l L n m b f = rt_l L n m2 b2 f2 := by
  subst hm hf hb hc
  unfold rt_l
  rw [rt_g, if_neg h]
theorem rt_end {L : Int → Int} {n b f r t c : Int} {m : Nat} (hm : m = 0) (ht : t = lt_ L 16 n.toNat) (hc : c = ct_ L 1 n.toNat) (h : (f = 0 ∨ t = 1 ∧ c = 1) ∧ r = 1 ∨ ¬ (f = 0 ∨ t = 1 ∧ c = 1) ∧ r = 0) : rt_l L n m b f = r := by
  subst hm ht hc
  unfold rt_l
  rw [rt_g]
  rcases h with ⟨h1, h2⟩ | ⟨h1, h2⟩
  · rw [if_pos h1, h2]
  · rw [if_neg h1, h2]
/-- how often a symbol of the third code tells -/
def tl_ (s : Int) : Int := if s < 16 then 1 else if s < 18 then 3 else 11
def tb_ (s : Int) : Int := if s < 16 then 0 else if s = 16 then 2 else if s = 17 then 3 else 7
theorem tl_rng (s : Int) : 1 ≤ tl_ s ∧ tl_ s ≤ 11 := by
  unfold tl_
  split
  · omega
  · split <;> omega
theorem tb_rng (s : Int) : 0 ≤ tb_ s ∧ tb_ s ≤ 7 := by
  unfold tb_
  split
  · omega
  · split
    · omega
    · split <;> omega
def fi_ (T : Int → Int) (k m v : Int) : Int → Int := fun j => if k ≤ j ∧ j < k + m then v else T j
/-- the numbers of bits that the third code tells: (fault, the bit behind them, they) -/
def td_e (w : Int) : Int × Int × (Int → Int) := (w, 0, fun _ => 0)
def td_g (A : Int → Int32) (en : Int) (L3 : Int → Int) (al : Int) : Nat → Int → Int → Int → (Int → Int) → Int × Int × (Int → Int)
  | 0, w, _, p, T => if w = 0 then (0, p, T) else td_e w
  | m + 1, w, k, p, T => if w = 0 then (if k < al then
      (fun o : Int × Int × Int => (fun q : Int × Int × Int => td_g A en L3 al m (if q.1 = 0 ∧ al - k < tl_ o.2.1 + q.2.1 then 4 else q.1) (k + (tl_ o.2.1 + q.2.1)) q.2.2 (fi_ T k (tl_ o.2.1 + q.2.1) (if o.2.1 < 16 then o.2.1 else if o.2.1 = 16 then T (k - 1) else 0))) (nu_w A en (if o.1 = 0 ∧ o.2.1 = 16 ∧ k = 0 then 4 else o.1) o.2.2 (tb_ o.2.1))) (sy_w A en L3 19 0 p)
    else (0, p, T)) else td_e w
theorem td_w {A : Int → Int32} {en al w k p : Int} {L3 T : Int → Int} {m : Nat} (h : ¬ w = 0) : td_g A en L3 al m w k p T = td_e w := by
  cases m with
  | zero => rw [td_g, if_neg h]
  | succ m => rw [td_g, if_neg h]
theorem td_end {A : Int → Int32} {en al w k p : Int} {L3 T : Int → Int} {m : Nat} (h : w = 0) (hk : al ≤ k) : td_g A en L3 al m w k p T = (0, p, T) := by
  subst h
  cases m with
  | zero => rw [td_g, if_pos rfl]
  | succ m => rw [td_g, if_pos rfl, if_neg (by omega)]
/-- one symbol of the third code: s, t times in all, v each -/
theorem td_go {A : Int → Int32} {en al k k2 p s f1 a1 w1 r f2 a2 w2 t v : Int} {L3 T : Int → Int} {m m2 : Nat} (hm : m = m2 + 1) (hk : k < al) (e1 : sy_w A en L3 19 0 p = oc_ f1 s a1) (hw1 : w1 = if f1 = 0 ∧ s = 16 ∧ k = 0 then 4 else f1) (e2 : nu_w A en w1 a1 (tb_ s) = oc_ f2 r a2) (ht : f2 = 0 → t = tl_ s + r) (hw2 : w2 = if f2 = 0 ∧ al - k < t then 4 else f2) (hv : f2 = 0 → v = if s < 16 then s else if s = 16 then T (k - 1) else 0) (hk2 : f2 = 0 → k2 = k + t) : td_g A en L3 al m 0 k p T = td_g A en L3 al m2 w2 k2 a2 (fi_ T k t v) := by
  subst hm
  rw [td_g, if_pos rfl, if_pos hk, e1]
  by_cases c1 : f1 = 0
  · rw [oc_0 c1]
    show td_g A en L3 al m2 (if (nu_w A en (if 0 = 0 ∧ s = 16 ∧ k = 0 then 4 else 0) a1 (tb_ s)).1 = 0 ∧ _ then 4 else _) _ _ _ = _
    rw [show (if (0 : Int) = 0 ∧ s = 16 ∧ k = 0 then (4 : Int) else 0) = w1 by rw [hw1, c1], e2]
    by_cases c2 : f2 = 0
    · rw [oc_0 c2]
      have t1 := ht c2
      show td_g A en L3 al m2 (if 0 = 0 ∧ al - k < tl_ s + r then 4 else 0) (k + (tl_ s + r)) a2 (fi_ T k (tl_ s + r) (if s < 16 then s else if s = 16 then T (k - 1) else 0)) = _
      rw [← t1, ← hk2 c2, ← hv c2, hw2, c2]
    · rw [oc_w c2]
      show td_g A en L3 al m2 (if f2 = 0 ∧ _ then 4 else f2) _ _ _ = _
      rw [if_neg (fun z => c2 z.1), td_w c2, hw2, if_neg (fun z => c2 z.1), td_w c2]
  · rw [oc_w c1]
    have hw : w1 = f1 := by rw [hw1, if_neg (fun z => c1 z.1)]
    rw [hw, nu_ww c1] at e2
    have hf : f2 = f1 := by
      have z := congrArg Prod.fst e2
      rw [oc_1] at z
      exact z.symm
    dsimp only
    have i1 : (if f1 = 0 ∧ (0 : Int) = 16 ∧ k = 0 then (4 : Int) else f1) = f1 := if_neg (fun z => c1 z.1)
    rw [i1, nu_ww c1]
    dsimp only
    have i2 : ∀ q : Int, (if f1 = 0 ∧ al - k < q then (4 : Int) else f1) = f1 := fun q => if_neg (fun z => c1 z.1)
    rw [i2, td_w c1, hw2, hf, i2, td_w c1]
/-- the numbers of bits of the third code, in their order o -/
def th_g (A : Int → Int32) (en F : Int) (o : Int → Int) : Nat → Int → Int → Int → (Int → Int) → Int × Int × (Int → Int)
  | 0, w, _, p, T => if w = 0 then (0, p, T) else td_e w
  | m + 1, w, k, p, T => if w = 0 then (if k < F then (fun q : Int × Int × Int => th_g A en F o m q.1 (k + 1) q.2.2 (fi_ T (o k) 1 q.2.1)) (nu_w A en 0 p 3) else (0, p, T)) else td_e w
theorem th_w {A : Int → Int32} {en F w k p : Int} {o T : Int → Int} {m : Nat} (h : ¬ w = 0) : th_g A en F o m w k p T = td_e w := by
  cases m with
  | zero => rw [th_g, if_neg h]
  | succ m => rw [th_g, if_neg h]
theorem th_end {A : Int → Int32} {en F w k p : Int} {o T : Int → Int} {m : Nat} (h : w = 0) (hk : F ≤ k) : th_g A en F o m w k p T = (0, p, T) := by
  subst h
  cases m with
  | zero => rw [th_g, if_pos rfl]
  | succ m => rw [th_g, if_pos rfl, if_neg (by omega)]
theorem th_go {A : Int → Int32} {en F w k k2 p f r a : Int} {o T : Int → Int} {m m2 : Nat} (hm : m = m2 + 1) (hk : k < F) (e : nu_w A en w p 3 = oc_ f r a) (hk2 : k2 = k + 1) : th_g A en F o m w k p T = th_g A en F o m2 f k2 a (fi_ T (o k) 1 r) := by
  subst hm hk2
  by_cases c : w = 0
  · subst c
    rw [th_g, if_pos rfl, if_pos hk, e]
    by_cases c2 : f = 0
    · rw [oc_0 c2, c2]
    · rw [oc_w c2]
      show th_g A en F o m2 f (k + 1) 0 _ = _
      rw [th_w c2, th_w c2]
  · rw [nu_ww c] at e
    have hf : f = w := by
      have z := congrArg Prod.fst e
      rw [oc_1] at z
      exact z.symm
    rw [th_w c, hf, th_w c]
/-- the codes of a coded block: (fault, the bit behind, how many symbols of the first and of the second, their bits) -/
def ce_ (w : Int) : Int × Int × Int × Int × (Int → Int) := (w, 0, 0, 0, fun _ => 0)
def co_z (w p a b : Int) (T : Int → Int) : Int × Int × Int × Int × (Int → Int) := if w = 0 then (0, p, a, b, T) else ce_ w
def cc_ok (T : Int → Int) (a b : Int) : Prop := rt_f T a = 1 ∧ ¬ T 256 = 0 ∧ (lt_ (fun k => T (a + k)) 16 b.toNat = 0 ∨ rt_f (fun k => T (a + k)) b = 1)
noncomputable def cc_3 (a b : Int) (o : Int × Int × (Int → Int)) : Int × Int × Int × Int × (Int → Int) := @ite _ (o.1 = 0) (Classical.propDecidable _) (@ite _ (cc_ok o.2.2 a b) (Classical.propDecidable _) (0, o.2.1, a, b, o.2.2) (ce_ 4)) (ce_ o.1)
noncomputable def cc_2 (A : Int → Int32) (en a b : Int) (w p : Int) (T : Int → Int) : Int × Int × Int × Int × (Int → Int) := cc_3 a b (td_g A en T (a + b) (a + b).toNat w 0 p (fun _ => 0))
noncomputable def cc_1 (A : Int → Int32) (en : Int) (o : Int → Int) (w p a b c : Int) : Int × Int × Int × Int × (Int → Int) := (fun t : Int × Int × (Int → Int) => cc_2 A en a b (if t.1 = 0 ∧ ¬ rt_f t.2.2 19 = 1 then 4 else t.1) t.2.1 t.2.2) (th_g A en c o c.toNat w 0 p (fun _ => 0))
noncomputable def cc_f (A : Int → Int32) (en : Int) (o : Int → Int) (w p : Int) : Int × Int × Int × Int × (Int → Int) := (fun x : Int × Int × Int => (fun y : Int × Int × Int => (fun z : Int × Int × Int => cc_1 A en o (if z.1 = 0 ∧ (286 < 257 + x.2.1 ∨ 30 < 1 + y.2.1) then 4 else z.1) z.2.2 (257 + x.2.1) (1 + y.2.1) (4 + z.2.1)) (nu_w A en y.1 y.2.2 4)) (nu_w A en x.1 x.2.2 5)) (nu_w A en w p 5)
theorem cc_3w {a b : Int} {o : Int × Int × (Int → Int)} (h : ¬ o.1 = 0) : cc_3 a b o = ce_ o.1 := if_neg h
theorem cc_2w {A : Int → Int32} {en a b w p : Int} {T : Int → Int} (h : ¬ w = 0) : cc_2 A en a b w p T = ce_ w := by
  unfold cc_2
  rw [td_w h]
  exact if_neg h
theorem cc_1w {A : Int → Int32} {en w p a b c : Int} {o : Int → Int} (h : ¬ w = 0) : cc_1 A en o w p a b c = ce_ w := by
  unfold cc_1
  rw [th_w h]
  dsimp only [td_e]
  rw [if_neg (fun z => h z.1), cc_2w h]
/-- the three numbers of a coded block -/
theorem cc_go {A : Int → Int32} {en w p f1 r1 a1 f2 r2 a2 f3 r3 a3 w4 F1 F2 F3 : Int} {o : Int → Int} (e1 : nu_w A en w p 5 = oc_ f1 r1 a1) (e2 : nu_w A en f1 a1 5 = oc_ f2 r2 a2) (e3 : nu_w A en f2 a2 4 = oc_ f3 r3 a3) (h1 : F1 = 257 + r1) (h2 : F2 = 1 + r2) (h3 : F3 = 4 + r3) (hw : f3 = 0 ∧ (286 < F1 ∨ 30 < F2) ∧ w4 = 4 ∨ f3 = 0 ∧ F1 ≤ 286 ∧ F2 ≤ 30 ∧ w4 = 0 ∨ ¬ f3 = 0 ∧ w4 = f3) : cc_f A en o w p = cc_1 A en o w4 a3 F1 F2 F3 := by
  unfold cc_f
  rw [e1]
  by_cases c1 : f1 = 0
  · rw [oc_0 c1]
    rw [c1] at e2
    show (fun y : Int × Int × Int => _) (nu_w A en 0 a1 5) = _
    rw [e2]
    by_cases c2 : f2 = 0
    · rw [oc_0 c2]
      rw [c2] at e3
      show (fun z : Int × Int × Int => _) (nu_w A en 0 a2 4) = _
      rw [e3]
      by_cases c3 : f3 = 0
      · rw [oc_0 c3]
        show cc_1 A en o (if 0 = 0 ∧ (286 < 257 + r1 ∨ 30 < 1 + r2) then 4 else 0) a3 (257 + r1) (1 + r2) (4 + r3) = _
        rw [← h1, ← h2, ← h3]
        have : (if (0 : Int) = 0 ∧ (286 < F1 ∨ 30 < F2) then (4 : Int) else 0) = w4 := by
          split <;> omega
        rw [this]
      · rw [oc_w c3]
        show cc_1 A en o (if f3 = 0 ∧ _ then 4 else f3) _ _ _ _ = _
        have hw4 : w4 = f3 := by omega
        rw [if_neg (fun z => c3 z.1), cc_1w c3, hw4, cc_1w c3]
    · rw [oc_w c2]
      show (fun z : Int × Int × Int => _) (nu_w A en f2 0 4) = _
      rw [nu_ww c2] at e3 ⊢
      have hf : f3 = f2 := by
        have z := congrArg Prod.fst e3
        rw [oc_1] at z
        exact z.symm
      show cc_1 A en o (if f2 = 0 ∧ _ then 4 else f2) _ _ _ _ = _
      have hw4 : w4 = f2 := by omega
      rw [if_neg (fun z => c2 z.1), cc_1w c2, hw4, cc_1w c2]
  · rw [oc_w c1]
    show (fun y : Int × Int × Int => _) (nu_w A en f1 0 5) = _
    rw [nu_ww c1] at e2 ⊢
    have hf : f2 = f1 := by
      have z := congrArg Prod.fst e2
      rw [oc_1] at z
      exact z.symm
    show (fun z : Int × Int × Int => _) (nu_w A en f1 0 4) = _
    rw [hf, nu_ww c1] at e3
    rw [nu_ww c1]
    have hf3 : f3 = f1 := by
      have z := congrArg Prod.fst e3
      rw [oc_1] at z
      exact z.symm
    show cc_1 A en o (if f1 = 0 ∧ _ then 4 else f1) _ _ _ _ = _
    have hw4 : w4 = f1 := by omega
    rw [if_neg (fun z => c1 z.1), cc_1w c1, hw4, cc_1w c1]
/-- the third code is told -/
theorem cc_th {A : Int → Int32} {en w p a b c w2 w3 p2 r : Int} {o T : Int → Int} (e : th_g A en c o c.toNat w 0 p (fun _ => 0) = if w2 = 0 then (0, p2, T) else td_e w2) (hr : w2 = 0 → r = rt_f T 19) (hw : w2 = 0 ∧ r = 1 ∧ w3 = 0 ∨ w2 = 0 ∧ ¬ r = 1 ∧ w3 = 4 ∨ ¬ w2 = 0 ∧ w3 = w2) : cc_1 A en o w p a b c = cc_2 A en a b w3 p2 T := by
  unfold cc_1
  rw [e]
  by_cases c1 : w2 = 0
  · rw [if_pos c1]
    show cc_2 A en a b (if 0 = 0 ∧ ¬ rt_f T 19 = 1 then 4 else 0) p2 T = _
    rw [← hr c1]
    have : (if (0 : Int) = 0 ∧ ¬ r = 1 then (4 : Int) else 0) = w3 := by
      split <;> omega
    rw [this]
  · rw [if_neg c1]
    dsimp only [td_e]
    have hw3 : w3 = w2 := by omega
    rw [if_neg (fun z => c1 z.1), cc_2w c1, hw3, cc_2w c1]
/-- all is told -/
theorem cc_td {A : Int → Int32} {en a b w p w2 w3 p2 : Int} {T T3 : Int → Int} (e : td_g A en T3 (a + b) (a + b).toNat w 0 p (fun _ => 0) = if w2 = 0 then (0, p2, T) else td_e w2) (hw : w2 = 0 ∧ cc_ok T a b ∧ w3 = 0 ∨ w2 = 0 ∧ ¬ cc_ok T a b ∧ w3 = 4 ∨ ¬ w2 = 0 ∧ w3 = w2) : cc_2 A en a b w p T3 = co_z w3 p2 a b T := by
  unfold cc_2
  rw [e]
  rcases hw with ⟨h1, h2, h3⟩ | ⟨h1, h2, h3⟩ | ⟨h1, h3⟩
  · rw [if_pos h1]
    unfold cc_3 co_z
    rw [if_pos rfl, if_pos h2, if_pos h3]
  · rw [if_pos h1]
    unfold cc_3 co_z
    rw [if_pos rfl, if_neg h2, if_neg (by omega), h3]
  · rw [if_neg h1, cc_3w h1]
    unfold co_z
    rw [if_neg (by omega), h3]
    rfl
/-- lengths and distances -/
def ll_f (k : Int) : Int := if k < 8 then 3 + k else if k < 12 then 3 + 2 * (k - 4) else if k < 16 then 3 + 4 * (k - 8) else if k < 20 then 3 + 8 * (k - 12) else if k < 24 then 3 + 16 * (k - 16) else if k < 28 then 3 + 32 * (k - 20) else 258
def lb_f (k : Int) : Int := if k < 8 ∨ 28 ≤ k then 0 else k / 4 - 1
def ld_f (d : Int) : Int := if d < 4 then 1 + d else if d < 6 then 1 + 2 * (d - 2) else if d < 8 then 1 + 4 * (d - 4) else if d < 10 then 1 + 8 * (d - 6) else if d < 12 then 1 + 16 * (d - 8) else if d < 14 then 1 + 32 * (d - 10) else if d < 16 then 1 + 64 * (d - 12) else if d < 18 then 1 + 128 * (d - 14) else if d < 20 then 1 + 256 * (d - 16) else if d < 22 then 1 + 512 * (d - 18) else if d < 24 then 1 + 1024 * (d - 20) else if d < 26 then 1 + 2048 * (d - 22) else if d < 28 then 1 + 4096 * (d - 24) else 1 + 8192 * (d - 26)
def db_f (d : Int) : Int := if d < 4 then 0 else d / 2 - 1
/-- what came out: s bytes X -/
def er_ (w : Int) : Int × Int × Int × (Int → Int32) := (w, 0, 0, fun _ => 0)
def oz_ (w p s : Int) (X : Int → Int32) : Int × Int × Int × (Int → Int32) := if w = 0 then (0, p, s, X) else er_ w
theorem oz_0 {w p s : Int} {X : Int → Int32} (h : w = 0) : oz_ w p s X = (0, p, s, X) := if_pos h
theorem oz_w {w p s : Int} {X : Int → Int32} (h : ¬ w = 0) : oz_ w p s X = er_ w := if_neg h
def pu_ (X : Int → Int32) (s : Int) (v : Int32) : Int → Int32 := fun j => if j = s then v else X j
def cp_ (D : Int) : Nat → Int → (Int → Int32) → Int → Int32
  | 0, _, X => X
  | n + 1, s, X => cp_ D n (s + 1) (pu_ X s (X (s - D)))
def rp_6 (s : Int) (X : Int → Int32) (w p len D : Int) : Int × Int × Int × (Int → Int32) := if w = 0 then (0, p, s + len, cp_ D len.toNat s X) else er_ w
def rp_5 (s : Int) (X : Int → Int32) (w p len D : Int) : Int × Int × Int × (Int → Int32) := rp_6 s X (if w = 0 ∧ 4000 - s < len then 7 else w) p len D
def rp_4 (s : Int) (X : Int → Int32) (w p len D : Int) : Int × Int × Int × (Int → Int32) := rp_5 s X (if w = 0 ∧ s < D then 6 else w) p len D
def rp_3 (A : Int → Int32) (en s : Int) (X : Int → Int32) (len w p d : Int) : Int × Int × Int × (Int → Int32) := (fun q : Int × Int × Int => rp_4 s X q.1 q.2.2 len (ld_f d + q.2.1)) (nu_w A en w p (db_f d))
def rp_2 (A : Int → Int32) (en : Int) (L : Int → Int) (n s : Int) (X : Int → Int32) (len w p : Int) : Int × Int × Int × (Int → Int32) := (fun o : Int × Int × Int => rp_3 A en s X len (if o.1 = 0 ∧ 30 ≤ o.2.1 then 5 else o.1) o.2.2 o.2.1) (sy_w A en L n w p)
def rp_1 (A : Int → Int32) (en : Int) (L : Int → Int) (n s : Int) (X : Int → Int32) (k w p : Int) : Int × Int × Int × (Int → Int32) := (fun q : Int × Int × Int => rp_2 A en L n s X (ll_f k + q.2.1) q.1 q.2.2) (nu_w A en w p (lb_f k))
def rp_f (A : Int → Int32) (en : Int) (L : Int → Int) (n s : Int) (X : Int → Int32) (k w p : Int) : Int × Int × Int × (Int → Int32) := rp_1 A en L n s X k (if w = 0 ∧ 28 < k then 5 else w) p
theorem rp_6w {s w p len D : Int} {X : Int → Int32} (h : ¬ w = 0) : rp_6 s X w p len D = er_ w := if_neg h
theorem rp_5w {s w p len D : Int} {X : Int → Int32} (h : ¬ w = 0) : rp_5 s X w p len D = er_ w := by
  unfold rp_5
  rw [if_neg (fun z => h z.1), rp_6w h]
theorem rp_4w {s w p len D : Int} {X : Int → Int32} (h : ¬ w = 0) : rp_4 s X w p len D = er_ w := by
  unfold rp_4
  rw [if_neg (fun z => h z.1), rp_5w h]
theorem rp_3w {A : Int → Int32} {en s len w p d : Int} {X : Int → Int32} (h : ¬ w = 0) : rp_3 A en s X len w p d = er_ w := by
  unfold rp_3
  rw [nu_ww h]
  exact rp_4w h
theorem rp_2w {A : Int → Int32} {en n s len w p : Int} {L : Int → Int} {X : Int → Int32} (h : ¬ w = 0) : rp_2 A en L n s X len w p = er_ w := by
  unfold rp_2
  rw [sy_ww (w2 := w) (v := 0) (q := 0) h rfl, oc_w h]
  show rp_3 A en s X len (if w = 0 ∧ _ then 5 else w) 0 0 = _
  rw [if_neg (fun z => h z.1), rp_3w h]
theorem rp_1w {A : Int → Int32} {en n s k w p : Int} {L : Int → Int} {X : Int → Int32} (h : ¬ w = 0) : rp_1 A en L n s X k w p = er_ w := by
  unfold rp_1
  rw [nu_ww h]
  exact rp_2w h
theorem rp_fw {A : Int → Int32} {en n s k w p : Int} {L : Int → Int} {X : Int → Int32} (h : ¬ w = 0) : rp_f A en L n s X k w p = er_ w := by
  unfold rp_f
  rw [if_neg (fun z => h z.1), rp_1w h]
theorem ll_rng {k : Int} (h : 0 ≤ k) : 3 ≤ ll_f k ∧ ll_f k ≤ 258 := by
  unfold ll_f
  repeat (split; · omega)
  omega
theorem rp_1g {A : Int → Int32} {en n s k w p f r a len : Int} {L : Int → Int} {X : Int → Int32} (e : nu_w A en w p (lb_f k) = oc_ f r a) (hl : f = 0 → len = ll_f k + r) : rp_1 A en L n s X k w p = rp_2 A en L n s X len f a := by
  unfold rp_1
  rw [e]
  by_cases c : f = 0
  · rw [oc_0 c, hl c, c]
  · rw [oc_w c]
    show rp_2 A en L n s X (ll_f k + 0) f 0 = _
    rw [rp_2w c, rp_2w c]
theorem rp_2g {A : Int → Int32} {en n s len w p f d a w2 : Int} {L : Int → Int} {X : Int → Int32} (e : sy_w A en L n w p = oc_ f d a) (hw : f = 0 ∧ 30 ≤ d ∧ w2 = 5 ∨ ¬ (f = 0 ∧ 30 ≤ d) ∧ w2 = f) : rp_2 A en L n s X len w p = rp_3 A en s X len w2 a d := by
  unfold rp_2
  rw [e]
  by_cases c : f = 0
  · rw [oc_0 c]
    show rp_3 A en s X len (if 0 = 0 ∧ 30 ≤ d then 5 else 0) a d = _
    have : (if (0 : Int) = 0 ∧ 30 ≤ d then (5 : Int) else 0) = w2 := by
      split <;> omega
    rw [this]
  · rw [oc_w c]
    show rp_3 A en s X len (if f = 0 ∧ _ then 5 else f) 0 0 = _
    have hw2 : w2 = f := by omega
    rw [if_neg (fun z => c z.1), rp_3w c, hw2, rp_3w c]
theorem rp_3g {A : Int → Int32} {en s len w p d f r a D : Int} {X : Int → Int32} (e : nu_w A en w p (db_f d) = oc_ f r a) (hD : f = 0 → D = ld_f d + r) : rp_3 A en s X len w p d = rp_4 s X f a len D := by
  unfold rp_3
  rw [e]
  by_cases c : f = 0
  · rw [oc_0 c, hD c, c]
  · rw [oc_w c]
    show rp_4 s X f 0 len (ld_f d + 0) = _
    rw [rp_4w c, rp_4w c]
theorem rp_6g {s w p len D s9 : Int} {X X9 : Int → Int32} (hs : w = 0 → s9 = s + len) (hX : w = 0 → cp_ D 0 s9 X9 = cp_ D len.toNat s X) : rp_6 s X w p len D = oz_ w p s9 X9 := by
  by_cases c : w = 0
  · rw [oz_0 c, hs c]
    unfold rp_6
    rw [if_pos c, ← hX c]
    rfl
  · rw [oz_w c, rp_6w c]
theorem rp_4g {s w p len D w2 : Int} {X : Int → Int32} (hw : w = 0 ∧ s < D ∧ w2 = 6 ∨ ¬ (w = 0 ∧ s < D) ∧ w2 = w) : rp_4 s X w p len D = rp_5 s X w2 p len D := by
  unfold rp_4
  have : (if w = 0 ∧ s < D then (6 : Int) else w) = w2 := by
    split <;> omega
  rw [this]
theorem rp_5g {s w p len D w2 : Int} {X : Int → Int32} (hw : w = 0 ∧ 4000 - s < len ∧ w2 = 7 ∨ ¬ (w = 0 ∧ 4000 - s < len) ∧ w2 = w) : rp_5 s X w p len D = rp_6 s X w2 p len D := by
  unfold rp_5
  have : (if w = 0 ∧ 4000 - s < len then (7 : Int) else w) = w2 := by
    split <;> omega
  rw [this]
theorem rp_fg {A : Int → Int32} {en n s k w p w2 : Int} {L : Int → Int} {X : Int → Int32} (hw : w = 0 ∧ 28 < k ∧ w2 = 5 ∨ ¬ (w = 0 ∧ 28 < k) ∧ w2 = w) : rp_f A en L n s X k w p = rp_1 A en L n s X k w2 p := by
  unfold rp_f
  have : (if w = 0 ∧ 28 < k then (5 : Int) else w) = w2 := by
    split <;> omega
  rw [this]
/-- bytes that come behind the others -/
theorem sq_pu {f : Nat → Int32} {i v : Int32} {s s2 : Int} (hi : i.toInt = s) (h0 : 0 ≤ s) (hs : s2 = s + 1) : sq (upd f i.toNatClampNeg v) 0 s2 = pu_ (sq f 0 s) s v := by
  subst hs
  funext j
  unfold sq pu_
  try dsimp only
  by_cases c : j = s
  · rw [if_pos (by omega), if_pos c, Int.zero_add, gr_upd hi j h0 (by omega), if_pos c]
  · rw [if_neg c]
    by_cases c2 : 0 ≤ j ∧ j < s
    · rw [if_pos (by omega), if_pos c2, Int.zero_add, gr_upd hi j h0 (by omega), if_neg c]
    · rw [if_neg (by omega), if_neg c2]
theorem cp_st {D s s2 n n2 len : Int} {X Y : Int → Int32} {X0 : Int → Int32} {s0 : Int} {v : Int32} (h : cp_ D (len - n).toNat s X = cp_ D len.toNat s0 X0) (hn : n < len) (hn2 : n2 = n + 1) (hs : s2 = s + 1) (hY : Y = pu_ X s v) (hv : v = X (s - D)) : cp_ D (len - n2).toNat s2 Y = cp_ D len.toNat s0 X0 := by
  subst hn2 hs hY hv
  rw [← h, show (len - n).toNat = (len - (n + 1)).toNat + 1 by omega]
  rfl
theorem sq_0 (f : Nat → Int32) {s : Int} (h : s = 0) : sq f 0 s = fun _ => 0 := by
  subst h
  funext j
  exact if_neg (by omega)
theorem sq_ld {f : Nat → Int32} {s j : Int} (h0 : 0 ≤ j) (h1 : j < s) : sq f 0 s j = gr f j := by
  rw [sq_at h0 h1, Int.zero_add]
/-- bytes as they are -/
def st_l (A : Int → Int32) (en z : Int) : Nat → Int → Int → Int → Int → (Int → Int32) → Int × Int × Int × (Int → Int32)
  | 0, w, _, p, s, X => oz_ w p s X
  | m + 1, w, k, p, s, X => if w = 0 then (if k < z then (fun q : Int × Int × Int => if q.1 = 0 then (if s = 4000 then er_ 7 else st_l A en z m 0 (k + 1) q.2.2 (s + 1) (pu_ X s (by_ q.2.1))) else er_ q.1) (nu_w A en 0 p 8) else (0, p, s, X)) else er_ w
theorem st_lw {A : Int → Int32} {en z w k p s : Int} {X : Int → Int32} {m : Nat} (h : ¬ w = 0) : st_l A en z m w k p s X = er_ w := by
  cases m with
  | zero => exact if_neg h
  | succ m => rw [st_l, if_neg h]
theorem st_le {A : Int → Int32} {en z w k p s : Int} {X : Int → Int32} {m : Nat} (hk : z ≤ k) : st_l A en z m w k p s X = oz_ w p s X := by
  cases m with
  | zero => rfl
  | succ m =>
    by_cases c : w = 0
    · rw [st_l, if_pos c, if_neg (by omega), oz_0 c]
    · rw [st_lw c, oz_w c]
theorem st_lg {A : Int → Int32} {en z k k2 p s f r a w2 s2 : Int} {X X2 : Int → Int32} {v : Int32} {m m2 : Nat} (hm : m = m2 + 1) (hk : k < z) (e : nu_w A en 0 p 8 = oc_ f r a) (hw : ¬ f = 0 ∧ w2 = f ∨ f = 0 ∧ s = 4000 ∧ w2 = 7 ∨ f = 0 ∧ ¬ s = 4000 ∧ w2 = 0 ∧ s2 = s + 1) (hX : w2 = 0 → X2 = pu_ X s v) (hv : w2 = 0 → v = by_ r) (hk2 : k2 = k + 1) : st_l A en z m 0 k p s X = st_l A en z m2 w2 k2 a s2 X2 := by
  subst hm hk2
  rw [st_l, if_pos rfl, if_pos hk, e]
  rcases hw with ⟨h1, h2⟩ | ⟨h1, h2, h3⟩ | ⟨h1, h2, h3, h4⟩
  · rw [oc_w h1]
    show (if f = 0 then _ else er_ f) = _
    rw [if_neg h1, st_lw (by omega), h2]
  · rw [oc_0 h1]
    show (if (0 : Int) = 0 then (if s = 4000 then er_ 7 else _) else _) = _
    rw [if_pos rfl, if_pos h2, st_lw (by omega), h3]
  · rw [oc_0 h1]
    show (if (0 : Int) = 0 then (if s = 4000 then er_ 7 else st_l A en z m2 0 (k + 1) a (s + 1) (pu_ X s (by_ r))) else _) = _
    rw [if_pos rfl, if_neg h2, hX h3, hv h3, h4, h3]
def st_f (A : Int → Int32) (en w p s : Int) (X : Int → Int32) : Int × Int × Int × (Int → Int32) := (fun x : Int × Int × Int => (fun y : Int × Int × Int => st_l A en x.2.1 x.2.1.toNat (if y.1 = 0 ∧ ¬ y.2.1 = 65535 - x.2.1 then 3 else y.1) 0 y.2.2 s X) (nu_w A en x.1 x.2.2 16)) (nu_w A en w ((p + 7) / 8 * 8) 16)
theorem st_fg {A : Int → Int32} {en w p p0 s f1 z a1 f2 r a2 w3 : Int} {X : Int → Int32} (hp : p0 = (p + 7) / 8 * 8) (e1 : nu_w A en w p0 16 = oc_ f1 z a1) (e2 : nu_w A en f1 a1 16 = oc_ f2 r a2) (hw : f2 = 0 ∧ ¬ r = 65535 - z ∧ w3 = 3 ∨ ¬ (f2 = 0 ∧ ¬ r = 65535 - z) ∧ w3 = f2) : st_f A en w p s X = st_l A en z z.toNat w3 0 a2 s X := by
  subst hp
  unfold st_f
  rw [e1]
  by_cases c1 : f1 = 0
  · rw [oc_0 c1]
    rw [c1] at e2
    show (fun y : Int × Int × Int => _) (nu_w A en 0 a1 16) = _
    rw [e2]
    by_cases c2 : f2 = 0
    · rw [oc_0 c2]
      show st_l A en z z.toNat (if 0 = 0 ∧ ¬ r = 65535 - z then 3 else 0) 0 a2 s X = _
      have : (if (0 : Int) = 0 ∧ ¬ r = 65535 - z then (3 : Int) else 0) = w3 := by
        split <;> omega
      rw [this]
    · rw [oc_w c2]
      show st_l A en z z.toNat (if f2 = 0 ∧ _ then 3 else f2) 0 0 s X = _
      have hw3 : w3 = f2 := by omega
      rw [if_neg (fun q => c2 q.1), st_lw c2, hw3, st_lw c2]
  · rw [oc_w c1]
    rw [nu_ww c1] at e2
    have hf : f2 = f1 := by
      have q := congrArg Prod.fst e2
      rw [oc_1] at q
      exact q.symm
    show (fun y : Int × Int × Int => _) (nu_w A en f1 0 16) = _
    rw [nu_ww c1]
    show st_l A en 0 _ (if f1 = 0 ∧ _ then 3 else f1) 0 0 s X = _
    have hw3 : w3 = f1 := by omega
    rw [if_neg (fun q => c1 q.1), st_lw c1, hw3, st_lw c1]
theorem st_fw {A : Int → Int32} {en w p s : Int} {X : Int → Int32} (h : ¬ w = 0) : st_f A en w p s X = er_ w := by
  rw [st_fg (f1 := w) (z := 0) (a1 := 0) (f2 := w) (r := 0) (a2 := 0) (w3 := w) rfl (by rw [nu_ww h, oc_w h]) (by rw [nu_ww h, oc_w h]) (by omega), st_lw h]
/-- the symbols of a block -/
def sl_g (A : Int → Int32) (en : Int) (L : Int → Int) (n : Int) (M : Int → Int) (k : Int) : Nat → Int → Int → Int → (Int → Int32) → Int × Int × Int × (Int → Int32)
  | 0, w, _, _, _ => er_ w
  | m + 1, w, p, s, X => if w = 0 then (fun o : Int × Int × Int => if o.1 = 0 then (if o.2.1 = 256 then (0, o.2.2, s, X) else if o.2.1 < 256 then (if s = 4000 then er_ 7 else sl_g A en L n M k m 0 o.2.2 (s + 1) (pu_ X s (by_ o.2.1))) else (fun q : Int × Int × Int × (Int → Int32) => sl_g A en L n M k m q.1 q.2.1 q.2.2.1 q.2.2.2) (rp_f A en M k s X (o.2.1 - 257) 0 o.2.2)) else er_ o.1) (sy_w A en L n 0 p) else er_ w
theorem sl_w {A : Int → Int32} {en n k w p s : Int} {L M : Int → Int} {X : Int → Int32} {m : Nat} (h : ¬ w = 0) : sl_g A en L n M k m w p s X = er_ w := by
  cases m with
  | zero => rfl
  | succ m => rw [sl_g, if_neg h]
theorem sl_f5 {A : Int → Int32} {en n k p s f r a : Int} {L M : Int → Int} {X : Int → Int32} {m : Nat} (h0 : m ≠ 0) (e : sy_w A en L n 0 p = oc_ f r a) (h : ¬ f = 0) : sl_g A en L n M k m 0 p s X = er_ f := by
  cases m with
  | zero => exact absurd rfl h0
  | succ m =>
    rw [sl_g, if_pos rfl, e, oc_w h]
    exact if_neg h
theorem sl_256 {A : Int → Int32} {en n k p s f r a : Int} {L M : Int → Int} {X : Int → Int32} {m : Nat} (h0 : m ≠ 0) (e : sy_w A en L n 0 p = oc_ f r a) (h : f = 0) (hr : r = 256) : sl_g A en L n M k m 0 p s X = (0, a, s, X) := by
  cases m with
  | zero => exact absurd rfl h0
  | succ m =>
    rw [sl_g, if_pos rfl, e, oc_0 h]
    show (if (0 : Int) = 0 then (if r = 256 then _ else _) else _) = _
    rw [if_pos rfl, if_pos hr]
theorem sl_lit {A : Int → Int32} {en n k p s f r a w2 s2 : Int} {L M : Int → Int} {X X2 : Int → Int32} {v : Int32} {m m2 : Nat} (hm : m = m2 + 1) (e : sy_w A en L n 0 p = oc_ f r a) (h : f = 0) (hr : r < 256) (hw : s = 4000 ∧ w2 = 7 ∨ ¬ s = 4000 ∧ w2 = 0 ∧ s2 = s + 1) (hX : w2 = 0 → X2 = pu_ X s v) (hv : w2 = 0 → v = by_ r) : sl_g A en L n M k m 0 p s X = sl_g A en L n M k m2 w2 a s2 X2 := by
  subst hm
  rw [sl_g, if_pos rfl, e, oc_0 h]
  show (if (0 : Int) = 0 then (if r = 256 then _ else if r < 256 then (if s = 4000 then er_ 7 else sl_g A en L n M k m2 0 a (s + 1) (pu_ X s (by_ r))) else _) else _) = _
  rw [if_pos rfl, if_neg (by omega), if_pos hr]
  rcases hw with ⟨h1, h2⟩ | ⟨h1, h2, h3⟩
  · rw [if_pos h1, sl_w (by omega), h2]
  · rw [if_neg h1, hX h2, hv h2, h3, h2]
theorem sl_rep {A : Int → Int32} {en n k p s f r a j f2 a2 s2 : Int} {L M : Int → Int} {X X2 : Int → Int32} {m m2 : Nat} (hm : m = m2 + 1) (e : sy_w A en L n 0 p = oc_ f r a) (h : f = 0) (hr : 256 < r) (hj : j = r - 257) (e2 : rp_f A en M k s X j 0 a = oz_ f2 a2 s2 X2) : sl_g A en L n M k m 0 p s X = sl_g A en L n M k m2 f2 a2 s2 X2 := by
  subst hm hj
  rw [sl_g, if_pos rfl, e, oc_0 h]
  show (if (0 : Int) = 0 then (if r = 256 then _ else if r < 256 then _ else (fun q : Int × Int × Int × (Int → Int32) => sl_g A en L n M k m2 q.1 q.2.1 q.2.2.1 q.2.2.2) (rp_f A en M k s X (r - 257) 0 a)) else _) = _
  rw [if_pos rfl, if_neg (by omega), if_neg (by omega), e2]
  by_cases c : f2 = 0
  · rw [oz_0 c, c]
  · rw [oz_w c]
    show sl_g A en L n M k m2 f2 0 0 _ = _
    rw [sl_w c, sl_w c]
def sl_f (A : Int → Int32) (en : Int) (L : Int → Int) (n : Int) (M : Int → Int) (k w p s : Int) (X : Int → Int32) : Int × Int × Int × (Int → Int32) := sl_g A en L n M k (en - p + 1).toNat w p s X
/-- the fixed codes -/
def fx_1 (k : Int) : Int := if k < 144 then 8 else if k < 256 then 9 else if k < 280 then 7 else 8
def fx_2 (_ : Int) : Int := 5
/-- a block of a kind -/
noncomputable def bk_f (A : Int → Int32) (en : Int) (o : Int → Int) (w p s : Int) (X : Int → Int32) (kd : Int) : Int × Int × Int × (Int → Int32) := if w = 0 then (if kd = 0 then st_f A en 0 p s X else if kd = 1 then sl_f A en fx_1 288 fx_2 32 0 p s X else if kd = 2 then (fun c : Int × Int × Int × Int × (Int → Int) => sl_f A en c.2.2.2.2 c.2.2.1 (fun j => c.2.2.2.2 (c.2.2.1 + j)) c.2.2.2.1 c.1 c.2.1 s X) (cc_f A en o 0 p) else er_ 2) else er_ w
theorem bk_w {A : Int → Int32} {en w p s kd : Int} {o : Int → Int} {X : Int → Int32} (h : ¬ w = 0) : bk_f A en o w p s X kd = er_ w := if_neg h
theorem bk_0 {A : Int → Int32} {en p s kd : Int} {o : Int → Int} {X : Int → Int32} (h : kd = 0) : bk_f A en o 0 p s X kd = st_f A en 0 p s X := by
  unfold bk_f
  rw [if_pos rfl, if_pos h]
theorem bk_1 {A : Int → Int32} {en p s kd : Int} {o : Int → Int} {X : Int → Int32} (h : kd = 1) : bk_f A en o 0 p s X kd = sl_f A en fx_1 288 fx_2 32 0 p s X := by
  unfold bk_f
  rw [if_pos rfl, if_neg (by omega), if_pos h]
theorem bk_2 {A : Int → Int32} {en p s kd w2 p2 a b : Int} {o T : Int → Int} {X : Int → Int32} (h : kd = 2) (e : cc_f A en o 0 p = co_z w2 p2 a b T) : bk_f A en o 0 p s X kd = sl_f A en T a (fun j => T (a + j)) b w2 p2 s X := by
  unfold bk_f
  rw [if_pos rfl, if_neg (by omega), if_neg (by omega), if_pos h, e]
  unfold co_z
  by_cases c : w2 = 0
  · rw [if_pos c, c]
  · rw [if_neg c]
    unfold sl_f
    show sl_g A en _ _ _ _ _ w2 _ s X = _
    rw [sl_w c, sl_w c]
theorem bk_3 {A : Int → Int32} {en p s kd : Int} {o : Int → Int} {X : Int → Int32} (h : ¬ kd = 0 ∧ ¬ kd = 1 ∧ ¬ kd = 2) : bk_f A en o 0 p s X kd = er_ 2 := by
  unfold bk_f
  rw [if_pos rfl, if_neg h.1, if_neg h.2.1, if_neg h.2.2]
/-- blocks, one behind the other -/
def bl_e (en w p s : Int) (X : Int → Int32) : Int × Int × Int × (Int → Int32) := if w = 0 then (if p + 7 < en then er_ 8 else (0, p, s, X)) else er_ w
noncomputable def bl_g (A : Int → Int32) (en : Int) (o : Int → Int) : Nat → Int → Int → Int → (Int → Int32) → Int × Int × Int × (Int → Int32)
  | 0, w, _, _, _ => er_ w
  | m + 1, w, p, s, X => if w = 0 then (fun x : Int × Int × Int => (fun y : Int × Int × Int => (fun z : Int × Int × Int × (Int → Int32) => if x.2.1 = 1 then bl_e en z.1 z.2.1 z.2.2.1 z.2.2.2 else bl_g A en o m z.1 z.2.1 z.2.2.1 z.2.2.2) (bk_f A en o y.1 y.2.2 s X y.2.1)) (nu_w A en x.1 x.2.2 2)) (nu_w A en 0 p 1) else er_ w
theorem bl_w {A : Int → Int32} {en w p s : Int} {o : Int → Int} {X : Int → Int32} {m : Nat} (h : ¬ w = 0) : bl_g A en o m w p s X = er_ w := by
  cases m with
  | zero => rfl
  | succ m => rw [bl_g, if_neg h]
theorem bl_ew {en w p s : Int} {X : Int → Int32} (h : ¬ w = 0) : bl_e en w p s X = er_ w := if_neg h
theorem bl_go {A : Int → Int32} {en p s f1 la a1 f2 kd a2 w3 p3 s3 : Int} {o : Int → Int} {X X3 : Int → Int32} {m m2 : Nat} (hm : m = m2 + 1) (e1 : nu_w A en 0 p 1 = oc_ f1 la a1) (e2 : nu_w A en f1 a1 2 = oc_ f2 kd a2) (e3 : bk_f A en o f2 a2 s X kd = oz_ w3 p3 s3 X3) : bl_g A en o m 0 p s X = if la = 1 then bl_e en w3 p3 s3 X3 else bl_g A en o m2 w3 p3 s3 X3 := by
  subst hm
  rw [bl_g, if_pos rfl, e1]
  have fin : ∀ (x : Int), (fun z : Int × Int × Int × (Int → Int32) => if x = 1 then bl_e en z.1 z.2.1 z.2.2.1 z.2.2.2 else bl_g A en o m2 z.1 z.2.1 z.2.2.1 z.2.2.2) (oz_ w3 p3 s3 X3) = if x = 1 then bl_e en w3 p3 s3 X3 else bl_g A en o m2 w3 p3 s3 X3 := fun x => by
    by_cases c : w3 = 0
    · rw [oz_0 c, c]
    · rw [oz_w c]
      show (if x = 1 then bl_e en w3 0 0 _ else bl_g A en o m2 w3 0 0 _) = _
      rw [bl_ew c, bl_ew c, bl_w c, bl_w c]
  by_cases c1 : f1 = 0
  · rw [oc_0 c1]
    rw [c1] at e2
    show (fun y : Int × Int × Int => _) (nu_w A en 0 a1 2) = _
    rw [e2]
    by_cases c2 : f2 = 0
    · rw [oc_0 c2]
      rw [c2] at e3
      show (fun z : Int × Int × Int × (Int → Int32) => _) (bk_f A en o 0 a2 s X kd) = _
      rw [e3]
      exact fin la
    · rw [oc_w c2]
      rw [bk_w c2] at e3
      show (fun z : Int × Int × Int × (Int → Int32) => _) (bk_f A en o f2 0 s X 0) = _
      rw [bk_w c2, e3]
      exact fin la
  · rw [oc_w c1]
    rw [nu_ww c1] at e2
    have hf : f2 = f1 := by
      have q := congrArg Prod.fst e2
      rw [oc_1] at q
      exact q.symm
    rw [hf, bk_w c1] at e3
    show (fun y : Int × Int × Int => _) (nu_w A en f1 0 2) = _
    rw [nu_ww c1]
    show (fun z : Int × Int × Int × (Int → Int32) => _) (bk_f A en o f1 0 s X 0) = _
    rw [bk_w c1, e3]
    have hw3 : w3 = f1 := by
      have q := congrArg Prod.fst e3
      unfold oz_ er_ at q
      split at q
      · exact absurd q c1
      · exact q.symm
    have c3 : ¬ w3 = 0 := by omega
    rw [fin 0, bl_ew c3, bl_w c3]
    split <;> split <;> rfl
/-- a stream: n bytes from place x on -/
noncomputable def ex_f (A : Int → Int32) (o : Int → Int) (x n : Int) : Int × Int × Int × (Int → Int32) := bl_g A (8 * (x + n)) o (8 * n + 1).toNat 0 (8 * x) 0 (fun _ => 0)
theorem oz_inj {w p s w' p' s' : Int} {X X' : Int → Int32} (h : oz_ w p s X = oz_ w' p' s' X') : w = w' ∧ (w = 0 → p = p' ∧ s = s' ∧ X = X') := by
  by_cases c : w = 0
  · by_cases c' : w' = 0
    · rw [oz_0 c, oz_0 c'] at h
      have h1 := (Prod.mk.inj h).2
      have h2 := Prod.mk.inj h1
      have h3 := Prod.mk.inj h2.2
      exact ⟨by omega, fun _ => ⟨h2.1, h3.1, h3.2⟩⟩
    · rw [oz_0 c, oz_w c'] at h
      have h1 := (Prod.mk.inj h).1
      exact absurd h1.symm c'
  · by_cases c' : w' = 0
    · rw [oz_w c, oz_0 c'] at h
      have h1 := (Prod.mk.inj h).1
      exact absurd h1 c
    · rw [oz_w c, oz_w c'] at h
      have h1 := (Prod.mk.inj h).1
      exact ⟨h1, fun z => absurd z c⟩
theorem sq_pu2 {f g : Nat → Int32} {v : Int32} {s s2 : Int} (h : ∀ j : Int, 0 ≤ j → gr g j = if j = s then v else gr f j) (h0 : 0 ≤ s) (hs : s2 = s + 1) : sq g 0 s2 = pu_ (sq f 0 s) s v := by
  subst hs
  funext j
  unfold sq pu_
  try dsimp only
  by_cases c : j = s
  · rw [if_pos (by omega), if_pos c, Int.zero_add, h j (by omega), if_pos c]
  · rw [if_neg c]
    by_cases c2 : 0 ≤ j ∧ j < s
    · rw [if_pos (by omega), if_pos c2, Int.zero_add, h j c2.1, if_neg c]
    · rw [if_neg (by omega), if_neg c2]
theorem ti_and7 {x z : Int32} (e : z = x &&& 7) (h : 0 ≤ x.toInt) : z.toInt = x.toInt % 8 := by
  subst e
  obtain ⟨j, hj, rfl⟩ := ti_nat h
  have e1 := nI_toInt hj
  rw [pk_and _ 3 (by decide), pk_tn (by omega), nI_toInt (by omega), e1, show (2 : Nat) ^ 3 = 8 from rfl]
  omega
/-- the class's code while it is told: symbols of less than m bits, and those of m before k, are in their places -/
def tq_ (g : Nat → Int32) (L : Int → Int) (n m k : Int) : Prop := ∀ q : Int, 0 ≤ q → q < n → 1 ≤ L q → (L q < m ∨ L q = m ∧ q < k) → gx g (lt_ L (L q) n.toNat + ct_ L (L q) q.toNat) = q
theorem ct_lt {L : Int → Int} {q k : Int} (h0 : 0 ≤ q) (h : q < k) : ct_ L (L q) q.toNat < ct_ L (L q) k.toNat := by
  have a := ct_s (L := L) (b := L q) (k := q) (m := q + 1) h0 rfl
  rw [if_pos rfl] at a
  have b := ct_mono L (L q) (q + 1).toNat k.toNat (by omega)
  omega
theorem tq_skip {g : Nat → Int32} {L : Int → Int} {n m k k2 : Int} (h : tq_ g L n m k) (e : k2 = k + 1) (hk : ¬ L k = m) : tq_ g L n m k2 := fun q q0 q1 q2 q3 => by
  subst e
  refine h q q0 q1 q2 ?_
  rcases q3 with c | ⟨c, d⟩
  · exact Or.inl c
  · by_cases z : q = k
    · subst z
      exact absurd c hk
    · exact Or.inr ⟨c, by omega⟩
theorem tq_put {g : Nat → Int32} {L : Int → Int} {n m k k2 s : Int} {i v : Int32} (h : tq_ g L n m k) (e : k2 = k + 1) (k0 : 0 ≤ k) (hk : L k = m) (hm : 1 ≤ m) (hs : s = lt_ L m n.toNat + ct_ L m k.toNat) (s0 : 0 ≤ s) (hi : i.toInt = s) (hv : v.toInt = k) : tq_ (upd g i.toNatClampNeg v) L n m k2 := fun q q0 q1 q2 q3 => by
  subst e
  have r1 := ct_rng L (L q) q.toNat
  have ix : 0 ≤ lt_ L (L q) n.toNat + ct_ L (L q) q.toNat := by
    have := lt_mono L (m := 1) (k := L q) q2 n.toNat
    rw [lt_one] at this
    omega
  rw [gx_upd hi _ s0 ix]
  by_cases z : q = k
  · subst z
    rw [hk, if_pos hs.symm, hv]
  · have r2 := ct_lt (L := L) q0 q1
    have r3 := lt_sum L q2 n.toNat
    have r4 := ct_rng L m k.toNat
    rw [if_neg]
    · refine h q q0 q1 q2 ?_
      rcases q3 with c | ⟨c, d⟩
      · exact Or.inl c
      · exact Or.inr ⟨c, by omega⟩
    · rcases q3 with c | ⟨c, d⟩
      · have r5 := lt_mono L (m := L q + 1) (k := m) (by omega) n.toNat
        omega
      · have r6 := ct_lt (L := L) (q := q) (k := k) q0 (by omega)
        rw [c] at r6 ⊢
        omega
theorem tq_nx {g : Nat → Int32} {L : Int → Int} {n m k m2 : Int} (h : tq_ g L n m k) (hk : k = n) (e : m2 = m + 1) : tq_ g L n m2 0 := fun q q0 q1 q2 q3 => by
  subst e hk
  refine h q q0 q1 q2 ?_
  omega
theorem tq_go {g : Nat → Int32} {L : Int → Int} {n m : Int} (h : tq_ g L n m 0) : tq_ g L n m 0 := h
theorem tq_1 {g : Nat → Int32} {L : Int → Int} {n : Int} : tq_ g L n 1 0 := fun q q0 q1 q2 q3 => by omega
theorem cs_mk {sz n : Int} {fc fy : Nat → Int32} {L : Int → Int} {m : Int} (hm : m = 16) (h1 : ∀ b : Int, 1 ≤ b → b < m → gx fc b = ct_ L b n.toNat) (h2 : sz = lt_ L m n.toNat) (h3 : tq_ fy L n m 0) (h4 : ∀ k : Int, 0 ≤ k → k < n → 0 ≤ L k ∧ L k ≤ 15) : cs_R sz fc fy L n := by
  subst hm
  exact ⟨fun b b0 b1 => h1 b b0 (by omega), h2, fun q q0 q1 q2 q3 => h3 q q0 q1 q2 (Or.inl (by omega)), h4⟩
theorem sl_lit2 {A : Int → Int32} {en n k p s f r a w2 s2 : Int} {L M : Int → Int} {X X2 : Int → Int32} {v : Int32} {m m2 : Nat} (hm : m = m2 + 1) (e : sy_w A en L n 0 p = oc_ f r a) (hr : f = 0 → r < 256) (hw : ¬ f = 0 ∧ w2 = f ∨ f = 0 ∧ s = 4000 ∧ w2 = 7 ∨ f = 0 ∧ ¬ s = 4000 ∧ w2 = 0 ∧ s2 = s + 1) (hX : w2 = 0 → X2 = pu_ X s v) (hv : w2 = 0 → v = by_ r) : sl_g A en L n M k m 0 p s X = sl_g A en L n M k m2 w2 a s2 X2 := by
  by_cases c : f = 0
  · exact sl_lit hm e c (hr c) (by (exact omg_0ee14031cb hw c)) hX hv
  · have hw2 : w2 = f := by omega
    rw [sl_f5 (by omega) e c, hw2, sl_w c]
theorem sl_end {A : Int → Int32} {en n k p s f r a : Int} {L M : Int → Int} {X : Int → Int32} {m : Nat} (hm : m ≠ 0) (e : sy_w A en L n 0 p = oc_ f r a) (hr : f = 0 → r = 256) : sl_g A en L n M k m 0 p s X = oz_ f a s X := by
  by_cases c : f = 0
  · rw [sl_256 hm e c (hr c), oz_0 c]
  · rw [sl_f5 hm e c, oz_w c]
theorem oz_er {w p s f : Int} {X : Int → Int32} (h : er_ f = oz_ w p s X) (hf : ¬ f = 0) : w = f := by
  by_cases c : w = 0
  · rw [oz_0 c] at h
    have h1 : f = 0 := (Prod.mk.inj h).1
    exact absurd h1 hf
  · rw [oz_w c] at h
    have h1 : f = w := (Prod.mk.inj h).1
    exact h1.symm
theorem sl_rep2 {A : Int → Int32} {en n k p s f r a j f2 a2 s2 : Int} {L M : Int → Int} {X X2 : Int → Int32} {m m2 : Nat} (hm : m = m2 + 1) (e : sy_w A en L n 0 p = oc_ f r a) (hr : f = 0 → 256 < r ∧ j = r - 257) (e2 : rp_f A en M k s X j f a = oz_ f2 a2 s2 X2) : sl_g A en L n M k m 0 p s X = sl_g A en L n M k m2 f2 a2 s2 X2 := by
  by_cases c : f = 0
  · rw [c] at e2
    exact sl_rep hm e c (hr c).1 (hr c).2 e2
  · rw [rp_fw c] at e2
    have h := oz_er e2 c
    rw [sl_f5 (by omega) e c, h, sl_w c]
/-- numbers of an array as they are told -/
def tn_ (f : Nat → Int32) (n : Int) : Int → Int := fun j => if 0 ≤ j ∧ j < n then gx f j else 0
theorem tn_0 {f : Nat → Int32} {n : Int} (h : n ≤ 0) : tn_ f n = fun _ => 0 := by
  funext j
  exact if_neg (by omega)
theorem tn_at {f : Nat → Int32} {n j : Int} (h0 : 0 ≤ j) (h1 : j < n) : tn_ f n j = gx f j := if_pos ⟨h0, h1⟩
theorem tn_fi {f g : Nat → Int32} {k t v k2 e : Int} (h : ∀ j : Int, 0 ≤ j → gx g j = if k ≤ j ∧ j < e then v else gx f j) (h0 : 0 ≤ k) (h1 : 0 ≤ t) (he : e = k + t) (hk : k2 = k + t) : tn_ g k2 = fi_ (tn_ f k) k t v := by
  subst he hk
  funext j
  unfold tn_ fi_
  try dsimp only
  by_cases c : 0 ≤ j ∧ j < k + t
  · rw [if_pos c, h j c.1]
    by_cases c2 : k ≤ j ∧ j < k + t
    · rw [if_pos c2, if_pos c2]
    · rw [if_neg c2, if_neg c2, if_pos (by omega)]
  · rw [if_neg c, if_neg (by omega), if_neg (by omega)]
def tz_ (w p : Int) (T : Int → Int) : Int × Int × (Int → Int) := if w = 0 then (0, p, T) else td_e w
theorem td_fin {A : Int → Int32} {en al w k p : Int} {L3 T : Int → Int} {m : Nat} (h : w = 0 → al ≤ k) : td_g A en L3 al m w k p T = tz_ w p T := by
  unfold tz_
  by_cases c : w = 0
  · rw [td_end c (h c), if_pos c]
  · rw [td_w c, if_neg c]
theorem th_fin {A : Int → Int32} {en F w k p : Int} {o T : Int → Int} {m : Nat} (h : w = 0 → F ≤ k) : th_g A en F o m w k p T = tz_ w p T := by
  unfold tz_
  by_cases c : w = 0
  · rw [th_end c (h c), if_pos c]
  · rw [th_w c, if_neg c]
/-- the same, whatever stands behind a fault -/
theorem td_go2 {A : Int → Int32} {en al k k2 p s f1 a1 w1 r f2 a2 w2 t v : Int} {L3 T T2 : Int → Int} {m m2 : Nat} (hm : m = m2 + 1) (hk : k < al) (e1 : sy_w A en L3 19 0 p = oc_ f1 s a1) (hw1 : w1 = if f1 = 0 ∧ s = 16 ∧ k = 0 then 4 else f1) (e2 : nu_w A en w1 a1 (tb_ s) = oc_ f2 r a2) (ht : f2 = 0 → t = tl_ s + r) (hw2 : w2 = if f2 = 0 ∧ al - k < t then 4 else f2) (hv : w2 = 0 → v = if s < 16 then s else if s = 16 then T (k - 1) else 0) (hk2 : w2 = 0 → k2 = k + t) (hT : w2 = 0 → T2 = fi_ T k t v) : td_g A en L3 al m 0 k p T = td_g A en L3 al m2 w2 k2 a2 T2 := by
  have h := td_go (k2 := k + t) (v := if s < 16 then s else if s = 16 then T (k - 1) else 0) hm hk e1 hw1 e2 ht hw2 (fun _ => rfl) (fun _ => rfl)
  rw [h]
  by_cases c : w2 = 0
  · rw [hk2 c, hT c, hv c]
  · rw [td_w c, td_w c]
theorem cs_cong {sz n : Int} {fc fy : Nat → Int32} {L M : Int → Int} (h : cs_R sz fc fy L n) (e : L = M) : cs_R sz fc fy M n := by
  subst e
  exact h
/-- the order in which the third code's numbers of bits stand -/
def od_ (j : Int) : Int := (pb_third.getD j.toNat 0).toInt
theorem od_E {z i : Int32} (e : z = pb_third.getD i.toNatClampNeg 0) : z.toInt = od_ i.toInt := by
  rw [e]
  rfl
theorem tn_up {f : Nat → Int32} {i v : Int32} {o n r : Int} (hi : i.toInt = o) (h0 : 0 ≤ o) (h1 : o < n) (hv : v.toInt = r) : tn_ (upd f i.toNatClampNeg v) n = fi_ (tn_ f n) o 1 r := by
  funext j
  unfold tn_ fi_
  try dsimp only
  by_cases c : 0 ≤ j ∧ j < n
  · rw [if_pos c, gx_upd hi j h0 c.1]
    by_cases c2 : j = o
    · rw [if_pos c2, if_pos (by omega), hv]
    · rw [if_neg c2, if_neg (by omega), if_pos c]
  · rw [if_neg c, if_neg (by omega), if_neg c]
theorem co_zw {w p a b : Int} {T : Int → Int} (h : ¬ w = 0) : co_z w p a b T = ce_ w := if_neg h
/-- what the class looks at when all is told: whether the first is right, the symbol 256, whether the second has symbols and is right -/
theorem cc_fin {A : Int → Int32} {en a b w p w2 w3 p2 r1 r2 v s : Int} {T T3 : Int → Int} (e : td_g A en T3 (a + b) (a + b).toNat w 0 p (fun _ => 0) = tz_ w2 p2 T) (h1 : w2 = 0 → r1 = rt_f T a) (hv : w2 = 0 → v = T 256) (hs : w2 = 0 → s = lt_ (fun k => T (a + k)) 16 b.toNat) (h2 : w2 = 0 → r2 = rt_f (fun k => T (a + k)) b) (hw : (r1 = 1 ∧ ¬ v = 0 ∧ (s = 0 ∨ r2 = 1)) ∧ w3 = w2 ∨ ¬ (r1 = 1 ∧ ¬ v = 0 ∧ (s = 0 ∨ r2 = 1)) ∧ (w2 = 0 ∧ w3 = 4 ∨ ¬ w2 = 0 ∧ w3 = w2)) : cc_2 A en a b w p T3 = co_z w3 p2 a b T := by
  refine cc_td (w2 := w2) e ?_
  by_cases c : w2 = 0
  · have e1 := h1 c
    have e2 := hv c
    have e3 := hs c
    have e4 := h2 c
    by_cases ok : cc_ok T a b
    · refine Or.inl ⟨c, ok, ?_⟩
      unfold cc_ok at ok
      rw [← e1, ← e2, ← e3, ← e4] at ok
      rcases hw with ⟨_, h⟩ | ⟨h, _⟩
      · omega
      · exact absurd ok h
    · refine Or.inr (Or.inl ⟨c, ok, ?_⟩)
      unfold cc_ok at ok
      rw [← e1, ← e2, ← e3, ← e4] at ok
      rcases hw with ⟨h, _⟩ | ⟨_, h⟩
      · exact absurd h ok
      · omega
  · exact Or.inr (Or.inr ⟨c, by omega⟩)
theorem bk_st {A : Int → Int32} {en w p s kd w2 p2 s2 : Int} {o : Int → Int} {X X2 : Int → Int32} (e : st_f A en w p s X = oz_ w2 p2 s2 X2) (h : kd = 0) : bk_f A en o w p s X kd = oz_ w2 p2 s2 X2 := by
  by_cases c : w = 0
  · rw [c] at e ⊢
    rw [bk_0 h, e]
  · rw [bk_w c, ← e, st_fw c]
theorem sl_fw {A : Int → Int32} {en n k w p s : Int} {L M : Int → Int} {X : Int → Int32} (h : ¬ w = 0) : sl_f A en L n M k w p s X = er_ w := sl_w h
theorem bk_sy {A : Int → Int32} {en w p s kd w2 p2 s2 : Int} {o : Int → Int} {X X2 : Int → Int32} (e : sl_f A en fx_1 288 fx_2 32 w p s X = oz_ w2 p2 s2 X2) (h : kd = 1) : bk_f A en o w p s X kd = oz_ w2 p2 s2 X2 := by
  by_cases c : w = 0
  · rw [c] at e ⊢
    rw [bk_1 h, e]
  · rw [bk_w c, ← e, sl_fw c]
theorem cc_fw {A : Int → Int32} {en w p : Int} {o : Int → Int} (h : ¬ w = 0) : cc_f A en o w p = ce_ w := by
  rw [cc_go (f1 := w) (r1 := 0) (a1 := 0) (f2 := w) (r2 := 0) (a2 := 0) (f3 := w) (r3 := 0) (a3 := 0) (w4 := w) (F1 := 257) (F2 := 1) (F3 := 4) (by rw [nu_ww h, oc_w h]) (by rw [nu_ww h, oc_w h]) (by rw [nu_ww h, oc_w h]) (by omega) (by omega) (by omega) (by omega), cc_1w h]
theorem bk_co {A : Int → Int32} {en w p s kd w1 p1 a b w2 p2 s2 : Int} {o T : Int → Int} {X X2 : Int → Int32} (e1 : cc_f A en o w p = co_z w1 p1 a b T) (e2 : sl_f A en T a (fun j => T (a + j)) b w1 p1 s X = oz_ w2 p2 s2 X2) (h : kd = 2) : bk_f A en o w p s X kd = oz_ w2 p2 s2 X2 := by
  by_cases c : w = 0
  · rw [c] at e1 ⊢
    rw [bk_2 h e1, e2]
  · rw [cc_fw c] at e1
    have hw : w1 = w := by
      by_cases d : w1 = 0
      · have z := congrArg Prod.fst e1
        unfold co_z at z
        rw [if_pos d] at z
        exact absurd z c
      · rw [co_zw d] at e1
        exact (congrArg Prod.fst e1).symm
    rw [bk_w c, ← e2, hw, sl_fw c]
theorem bk_no {A : Int → Int32} {en w p s kd w2 p2 s2 : Int} {o : Int → Int} {X X2 : Int → Int32} (h : ¬ kd = 0 ∧ ¬ kd = 1 ∧ ¬ kd = 2) (hw : w = 0 ∧ w2 = 2 ∨ ¬ w = 0 ∧ w2 = w) : bk_f A en o w p s X kd = oz_ w2 p2 s2 X2 := by
  rw [oz_w (by omega)]
  by_cases c : w = 0
  · have e : w2 = 2 := by omega
    rw [c, bk_3 h, e]
  · have e : w2 = w := by omega
    rw [bk_w c, e]
theorem bl_fin {en f p s w : Int} {X : Int → Int32} {R : Int × Int × Int × (Int → Int32)} (h : R = bl_e en f p s X) (hw : f = 0 ∧ p + 7 < en ∧ w = 8 ∨ f = 0 ∧ ¬ p + 7 < en ∧ w = 0 ∨ ¬ f = 0 ∧ w = f) : R = oz_ w p s X := by
  rw [h]
  unfold bl_e
  rcases hw with ⟨h1, h2, h3⟩ | ⟨h1, h2, h3⟩ | ⟨h1, h3⟩
  · rw [if_pos h1, if_pos h2, oz_w (by omega), h3]
  · rw [if_pos h1, if_neg h2, oz_0 h3]
  · rw [if_neg h1, oz_w (by omega), h3]
/-- a block is read: the loop goes on, or is at its end -/
theorem bl_on {A : Int → Int32} {en p s f1 r1 a1 f2 kd a2 w3 p3 s3 : Int} {o : Int → Int} {X X3 : Int → Int32} {m m2 : Nat} {R : Int × Int × Int × (Int → Int32)} (h : bl_g A en o m 0 p s X = R) (hm : m = m2 + 1) (e1 : nu_w A en 0 p 1 = oc_ f1 r1 a1) (e2 : nu_w A en f1 a1 2 = oc_ f2 kd a2) (e3 : bk_f A en o f2 a2 s X kd = oz_ w3 p3 s3 X3) (hr : ¬ r1 = 1) : bl_g A en o m2 w3 p3 s3 X3 = R := by
  rw [← h, bl_go hm e1 e2 e3, if_neg hr]
theorem bl_of {A : Int → Int32} {en p s f1 r1 a1 f2 kd a2 w3 p3 s3 : Int} {o : Int → Int} {X X3 : Int → Int32} {m m2 : Nat} {R : Int × Int × Int × (Int → Int32)} (h : bl_g A en o m 0 p s X = R) (hm : m = m2 + 1) (e1 : nu_w A en 0 p 1 = oc_ f1 r1 a1) (e2 : nu_w A en f1 a1 2 = oc_ f2 kd a2) (e3 : bk_f A en o f2 a2 s X kd = oz_ w3 p3 s3 X3) (hr : r1 = 1) : R = bl_e en w3 p3 s3 X3 := by
  rw [← h, bl_go hm e1 e2 e3, if_pos hr]
/-- the reference's counting, on the numbers that it has in its array -/
theorem nt_no {L : Int → Int} {b s s2 i : Int} {m m2 : Nat} (hm : m = m2 + 1) (h : ¬ L s = b) (hs : s2 = s + 1) : nt_ L b m s i = nt_ L b m2 s2 i := by
  subst hm hs
  rw [nt_, if_neg h]
theorem nt_ye {L : Int → Int} {b s s2 i i2 : Int} {m m2 : Nat} (hm : m = m2 + 1) (h : L s = b) (hi : 0 < i) (hs : s2 = s + 1) (hi2 : i2 = i - 1) : nt_ L b m s i = nt_ L b m2 s2 i2 := by
  subst hm hs hi2
  rw [nt_, if_pos h, if_neg (by omega)]
theorem nt_fo {L : Int → Int} {b s i r : Int} {m : Nat} (h0 : m ≠ 0) (h : L s = b) (hi : i ≤ 0) (hr : r = s) : nt_ L b m s i = r := by
  subst hr
  cases m with
  | zero => exact absurd rfl h0
  | succ m => rw [nt_, if_pos h, if_pos hi]
theorem nu_b1 {A : Int → Int32} {en p w v q : Int} (h : nu_w A en 0 p 1 = oc_ w v q) : w = 0 ∧ v = bi_ A p ∧ q = p + 1 ∧ p < en ∨ w = 1 ∧ en ≤ p := by
  by_cases c : p + 1 ≤ en
  · rw [nu_w0 c] at h
    by_cases d : w = 0
    · rw [oc_0 d] at h
      have h1 := (Prod.mk.inj h).2
      have h2 := Prod.mk.inj h1
      have e : (nu_v A p (1 : Int).toNat).toInt = bi_ A p := nu_1 A p
      exact Or.inl ⟨d, by omega, by omega, by omega⟩
    · rw [oc_w d] at h
      exact absurd (Prod.mk.inj h).1.symm d
  · rw [nu_w1 c] at h
    by_cases d : w = 0
    · rw [oc_0 d] at h
      have h1 := (Prod.mk.inj h).1
      omega
    · rw [oc_w d] at h
      have h1 := (Prod.mk.inj h).1
      exact Or.inr ⟨h1.symm, by omega⟩
/-- where the reference keeps the j-th number of bits that is told, F symbols of the first code being told -/
def ta_ (F j : Int) : Int := if j < F then j else 300 + j - F
def tm_ (g : Nat → Int32) (F k : Int) : Int → Int := fun j => if 0 ≤ j ∧ j < k then gx g (ta_ F j) else 0
theorem tm_0 {g : Nat → Int32} {F k : Int} (h : k ≤ 0) : tm_ g F k = fun _ => 0 := by
  funext j
  exact if_neg (by omega)
theorem tm_at {g : Nat → Int32} {F k j : Int} (h0 : 0 ≤ j) (h1 : j < k) : tm_ g F k j = gx g (ta_ F j) := if_pos ⟨h0, h1⟩
theorem ta_lo {F j : Int} (h : j < F) : ta_ F j = j := if_pos h
theorem ta_hi {F j : Int} (h : ¬ j < F) : ta_ F j = 300 + j - F := if_neg h
theorem ta_inj {F i j : Int} (h0 : 0 ≤ i) (h1 : 0 ≤ j) (hF : F ≤ 300) (h : ta_ F i = ta_ F j) : i = j := by
  unfold ta_ at h
  split at h <;> split at h <;> omega
theorem ta_rng {F j al : Int} (h0 : 0 ≤ j) (h1 : j < al) (hF : 0 ≤ F) (hF2 : F ≤ 300) (ha : al - F ≤ 100) : 0 ≤ ta_ F j ∧ ta_ F j < 400 := by
  unfold ta_
  split <;> omega
theorem tm_fi {f g : Nat → Int32} {F al k t v k2 e : Int} (h : ∀ j : Int, 0 ≤ j → j < al → gx g (ta_ F j) = if k ≤ j ∧ j < e then v else gx f (ta_ F j)) (h0 : 0 ≤ k) (h1 : 0 ≤ t) (he : e = k + t) (ha : k + t ≤ al) (hk : k2 = k + t) : tm_ g F k2 = fi_ (tm_ f F k) k t v := by
  subst he hk
  funext j
  unfold tm_ fi_
  try dsimp only
  by_cases c : 0 ≤ j ∧ j < k + t
  · rw [if_pos c, h j c.1 (by omega)]
    by_cases c2 : k ≤ j ∧ j < k + t
    · rw [if_pos c2, if_pos c2]
    · rw [if_neg c2, if_neg c2, if_pos (by omega)]
  · rw [if_neg c, if_neg (by omega), if_neg (by omega)]
theorem tb_lo {s : Int} (h : s < 16) : tb_ s = 0 ∧ tl_ s = 1 := ⟨if_pos h, if_pos h⟩
theorem tb_16 {s : Int} (h : s = 16) : tb_ s = 2 ∧ tl_ s = 3 := by
  subst h
  exact ⟨rfl, rfl⟩
theorem tb_17 {s : Int} (h : s = 17) : tb_ s = 3 ∧ tl_ s = 3 := by
  subst h
  exact ⟨rfl, rfl⟩
theorem tb_18 {s : Int} (h : 18 ≤ s) : tb_ s = 7 ∧ tl_ s = 11 := by
  unfold tb_ tl_
  rw [if_neg (by omega), if_neg (by omega), if_neg (by omega), if_neg (by omega), if_neg (by omega)]
  exact ⟨rfl, rfl⟩
/-- what one call of tell does, from the symbol on -/
theorem tm_put {g f : Nat → Int32} {F al k i i2 v : Int} {r x : Int32} (h : ∀ j : Int, 0 ≤ j → j < al → gx g (ta_ F j) = if k ≤ j ∧ j < k + i then v else gx f (ta_ F j)) (hF : 0 ≤ F) (hF2 : F ≤ 300) (ha : al - F ≤ 100) (hk : 0 ≤ k) (h0 : 0 ≤ i) (hr : r.toInt = ta_ F (k + i)) (hx : x.toInt = v) (hi : i2 = i + 1) : ∀ j : Int, 0 ≤ j → j < al → gx (upd g r.toNatClampNeg x) (ta_ F j) = if k ≤ j ∧ j < k + i2 then v else gx f (ta_ F j) := fun j j0 j1 => by
  subst hi
  have b1 := ta_rng j0 j1 hF hF2 ha
  have b2 : 0 ≤ ta_ F (k + i) := by
    unfold ta_
    split <;> omega
  rw [gx_upd hr _ b2 b1.1]
  by_cases c : j = k + i
  · rw [c, if_pos rfl, if_pos (by omega), hx]
  · rw [if_neg (fun z => c (ta_inj j0 (by omega) hF2 z)), h j j0 j1]
    by_cases d : k ≤ j ∧ j < k + i
    · rw [if_pos d, if_pos (by omega)]
    · rw [if_neg d, if_neg (by omega)]
/-- the third code's numbers of bits, where the reference keeps them -/
def t3_ (g : Nat → Int32) : Int → Int := fun j => if 0 ≤ j ∧ j < 19 then gx g (400 + j) else 0
theorem t3_at {g : Nat → Int32} {j : Int} (h0 : 0 ≤ j) (h1 : j < 19) : t3_ g j = gx g (400 + j) := if_pos ⟨h0, h1⟩
theorem t3_0 {g : Nat → Int32} (h : ∀ j : Int, 0 ≤ j → j < 19 → gx g (400 + j) = 0) : t3_ g = fun _ => 0 := by
  funext j
  unfold t3_
  split
  · rename_i c
    exact h j c.1 c.2
  · rfl
theorem t3_up {f : Nat → Int32} {i v : Int32} {o r : Int} (hi : i.toInt = 400 + o) (h0 : 0 ≤ o) (h1 : o < 19) (hv : v.toInt = r) : t3_ (upd f i.toNatClampNeg v) = fi_ (t3_ f) o 1 r := by
  funext j
  unfold t3_ fi_
  try dsimp only
  by_cases c : 0 ≤ j ∧ j < 19
  · rw [if_pos c, gx_upd hi (400 + j) (by omega) (by omega)]
    by_cases c2 : j = o
    · rw [if_pos (by omega), if_pos (by omega), hv]
    · rw [if_neg (by omega), if_neg (by omega), if_pos c]
  · rw [if_neg c, if_neg (by omega), if_neg c]
theorem t3_eq {f g : Nat → Int32} (h : ∀ j : Int, 400 ≤ j → j < 420 → gx g j = gx f j) : t3_ g = t3_ f := by
  funext j
  unfold t3_
  by_cases c : 0 ≤ j ∧ j < 19
  · rw [if_pos c, if_pos c, h (400 + j) (by omega) (by omega)]
  · rw [if_neg c, if_neg c]
/-- the reference asks in two steps whether the codes are right -/
theorem cc_fin2 {A : Int → Int32} {en a b w p w2 w3 w4 p2 r1 r2 v s : Int} {T T3 : Int → Int} (e : td_g A en T3 (a + b) (a + b).toNat w 0 p (fun _ => 0) = tz_ w2 p2 T) (h1 : w2 = 0 → r1 = rt_f T a) (hv : w2 = 0 → v = T 256) (hw3 : w2 = 0 ∧ r1 = 1 ∧ ¬ v = 0 ∧ w3 = 0 ∨ w2 = 0 ∧ ¬ (r1 = 1 ∧ ¬ v = 0) ∧ w3 = 4 ∨ ¬ w2 = 0 ∧ w3 = w2) (hs : w3 = 0 → s = lt_ (fun k => T (a + k)) 16 b.toNat) (h2 : w3 = 0 → r2 = rt_f (fun k => T (a + k)) b) (hw4 : w3 = 0 ∧ (s = 0 ∨ r2 = 1) ∧ w4 = 0 ∨ w3 = 0 ∧ ¬ (s = 0 ∨ r2 = 1) ∧ w4 = 4 ∨ ¬ w3 = 0 ∧ w4 = w3) : cc_2 A en a b w p T3 = co_z w4 p2 a b T := by
  by_cases c : w3 = 0
  · have c2 : w2 = 0 := by omega
    exact cc_fin e h1 hv (fun _ => hs c) (fun _ => h2 c) (by (exact omg_854dd63b58 hw3 hw4))
  · by_cases c2 : w2 = 0
    · exact cc_fin (s := lt_ (fun k => T (a + k)) 16 b.toNat) (r2 := rt_f (fun k => T (a + k)) b) e h1 hv (fun _ => rfl) (fun _ => rfl) (by (exact omg_8ebc790f96 hw3 hw4 c))
    · exact cc_fin (r1 := 0) (v := 0) (s := 0) (r2 := 0) e (fun q => absurd q c2) (fun q => absurd q c2) (fun q => absurd q c2) (fun q => absurd q c2) (by (exact omg_84c38e9821 hw3 hw4 c2))
/-- a number of no bits is not read: the reference's way -/
theorem nu_lb {A : Int → Int32} {en w p k v q : Int} (h : k < 8 ∨ 28 ≤ k) (hp : p ≤ en) (hv : v = 0) (hq : q = p) : nu_w A en w p (lb_f k) = oc_ w v q := by
  rw [show lb_f k = 0 from if_pos h]
  exact nu_wz hp hv hq
theorem nu_db {A : Int → Int32} {en w p d v q : Int} (h : d < 4) (hp : p ≤ en) (hv : v = 0) (hq : q = p) : nu_w A en w p (db_f d) = oc_ w v q := by
  rw [show db_f d = 0 from if_pos h]
  exact nu_wz hp hv hq
theorem lb_E {k n : Int} (h : ¬ (k < 8 ∨ 28 ≤ k)) (hn : n = k / 4 - 1) : lb_f k = n := by
  unfold lb_f
  rw [if_neg h, hn]
theorem db_E {d n : Int} (h : ¬ d < 4) (hn : n = d / 2 - 1) : db_f d = n := by
  unfold db_f
  rw [if_neg h, hn]
theorem ll_E {k r : Int} (h : (k < 8 ∧ r = 3 + (k)) ∨ (8 ≤ k ∧ k < 12 ∧ r = 3 + 2 * (k - 4)) ∨ (12 ≤ k ∧ k < 16 ∧ r = 3 + 4 * (k - 8)) ∨ (16 ≤ k ∧ k < 20 ∧ r = 3 + 8 * (k - 12)) ∨ (20 ≤ k ∧ k < 24 ∧ r = 3 + 16 * (k - 16)) ∨ (24 ≤ k ∧ k < 28 ∧ r = 3 + 32 * (k - 20)) ∨ (k = 28 ∧ r = 258)) : r = ll_f k := by
  unfold ll_f
  repeat (split; · omega)
  omega
theorem ld_E {d r : Int} (h : (d < 4 ∧ r = 1 + (d)) ∨ (4 ≤ d ∧ d < 6 ∧ r = 1 + 2 * (d - 2)) ∨ (6 ≤ d ∧ d < 8 ∧ r = 1 + 4 * (d - 4)) ∨ (8 ≤ d ∧ d < 10 ∧ r = 1 + 8 * (d - 6)) ∨ (10 ≤ d ∧ d < 12 ∧ r = 1 + 16 * (d - 8)) ∨ (12 ≤ d ∧ d < 14 ∧ r = 1 + 32 * (d - 10)) ∨ (14 ≤ d ∧ d < 16 ∧ r = 1 + 64 * (d - 12)) ∨ (16 ≤ d ∧ d < 18 ∧ r = 1 + 128 * (d - 14)) ∨ (18 ≤ d ∧ d < 20 ∧ r = 1 + 256 * (d - 16)) ∨ (20 ≤ d ∧ d < 22 ∧ r = 1 + 512 * (d - 18)) ∨ (22 ≤ d ∧ d < 24 ∧ r = 1 + 1024 * (d - 20)) ∨ (24 ≤ d ∧ d < 26 ∧ r = 1 + 2048 * (d - 22)) ∨ (26 ≤ d ∧ d < 28 ∧ r = 1 + 4096 * (d - 24)) ∨ (28 ≤ d ∧ d < 30 ∧ r = 1 + 8192 * (d - 26))) : r = ld_f d := by
  unfold ld_f
  repeat (split; · omega)
  omega

theorem fx1_rng (k : Int) : 0 ≤ fx_1 k ∧ fx_1 k ≤ 15 := by
  unfold fx_1
  (repeat' split) <;> omega
theorem lit_od {f : Nat → Int32} (h : ∀ j : Nat, j < 19 → f j = pb_third.getD j 0) : ∀ x : Int, 0 ≤ x → x < 19 → gx f x = od_ x := fun x h0 h1 => by
  unfold gx od_
  rw [h x.toNat (by omega)]
/-- the answer of expand -/
def ea_ (o : Int × Int × Int × (Int → Int32)) : Int := if o.1 = 0 then o.2.2.1 else - o.1
theorem ea_E {R : Int × Int × Int × (Int → Int32)} {w p s r : Int} {X : Int → Int32} (h : R = oz_ w p s X) (hr : w = 0 ∧ r = s ∨ 0 < w ∧ r = - w) : r = ea_ R := by
  rw [h]
  rcases hr with ⟨h1, h2⟩ | ⟨h1, h2⟩
  · rw [oz_0 h1]
    show r = if (0 : Int) = 0 then s else - 0
    rw [if_pos rfl, h2]
  · rw [oz_w (by omega)]
    show r = if w = 0 then 0 else - w
    rw [if_neg (by omega), h2]

/-- what expand leaves, if it made something -/
def xo_ (R : Int × Int × Int × (Int → Int32)) (f : Nat → Int32) (z : Int) : Prop := R.1 = 0 ∧ R.2.2.1 = z ∧ R.2.2.2 = sq f 0 z
theorem xo_E {R : Int × Int × Int × (Int → Int32)} {w p s z : Int} {f g : Nat → Int32} (h : R = oz_ w p s (sq f 0 s)) (hw : w = 0) (hz : z = s) (r : rl_B f g s) : xo_ R g z := by
  subst hz
  rw [h, oz_0 hw]
  refine ⟨rfl, rfl, ?_⟩
  show sq f 0 z = sq g 0 z
  funext j
  unfold sq
  split
  · rename_i c
    rw [r (0 + j) (by omega) (by omega)]
  · rfl
theorem xo_law {R : Int × Int × Int × (Int → Int32)} {cf of cf0 of0 : Nat → Int32} {c o c0 o0 a b : Int} (l1 : a < 0 → c = c0 ∧ cf = cf0) (l2 : 0 ≤ a → xo_ R cf c) (m1 : b < 0 → o = o0 ∧ of = of0) (m2 : 0 ≤ b → xo_ R of o) (e : a = b) (r0 : c0 = o0) (r1 : rl_B cf0 of0 c0) : c = o ∧ rl_B cf of c := by
  by_cases h : a < 0
  · obtain ⟨a1, a2⟩ := l1 h
    obtain ⟨b1, b2⟩ := m1 (by omega)
    subst a1 a2 b1 b2
    exact ⟨r0, r1⟩
  · obtain ⟨_, a2, a3⟩ := l2 (by omega)
    obtain ⟨_, b2, b3⟩ := m2 (by omega)
    have hc : c = o := a2.symm.trans b2
    subst hc
    refine ⟨rfl, fun j j0 j1 => ?_⟩
    have q := congrFun (a3.symm.trans b3) j
    rw [sq_ld j0 j1, sq_ld j0 j1] at q
    exact q
theorem ou_law {cf of : Nat → Int32} {c o k th i ov : Int} {r : Int32} (r0 : c = o) (r1 : rl_B cf of c) (kk : k = 0 ∨ k = 1) (l0 : k = 0 → 0 ≤ i ∧ i < c ∧ ov = (gr cf i &&& 255).toInt) (l1 : k = 1 → ¬ (0 ≤ i ∧ i < c)) (m0 : th = 0 ∧ 0 ≤ i ∧ i < o ∨ th = 1 ∧ ¬ (0 ≤ i ∧ i < o)) (m1 : th = 0 → r = gr of i &&& 255) : k = th ∧ (k = 0 → ov = r.toInt) := by
  subst r0
  rcases kk with h | h
  · obtain ⟨a1, a2, a3⟩ := l0 h
    have ht : th = 0 := by omega
    refine ⟨by omega, fun _ => ?_⟩
    rw [a3, m1 ht, r1 i a1 a2]
  · have a1 := l1 h
    exact ⟨by omega, fun q => absurd q (by omega)⟩
/-! ROWS OF NUMBERS -/
theorem omg_8f8dd291d6 {x0 : Int} {x1 : Int} {x2 : Nat} {x3 : Nat} {x4 : Nat} {x5 : Int} {x6 : Nat} {x7 : Int} {x8 : Nat} {x9 : Nat} (a0 : ((x0 + x1) ≤ ((x2 : Nat) : Int))) (a1 : (x2 ≤ (100000 : Nat))) (a2 : (((x3 : Nat) : Int) = x0)) (a3 : (((x4 : Nat) : Int) = x1)) (a4 : (x5 = ((x6 : Nat) : Int))) (a5 : (x7 = (((x6 : Nat) : Int) + ((x8 : Nat) : Int)))) (a6 : ((x6 + x8) = x9)) (a7 : (x9 ≤ x4)) : ((x7 - x5) < (2147483648 : Int)) := by omega
theorem omg_da822fc3fa {x0 : Int} {x1 : Int} (a0 : (x0 ≤ x1)) (a1 : (x1 ≤ x0)) : ((Int.toNat x1) = (Int.toNat x0)) := by omega
theorem omg_4ae52722b8 {x0 : Int} {x1 : Int} {x2 : Nat} {x3 : Nat} {x4 : Int} (a0 : ((x0 + x1) ≤ ((x2 : Nat) : Int))) (a1 : (x2 ≤ (100000 : Nat))) (a2 : (((x3 : Nat) : Int) = x0)) (a3 : (¬ (x1 ≤ x4))) : ((x4 + (1 : Int)) < (2147483648 : Int)) := by omega
theorem omg_90e46e9da7 {x0 : Nat} {x1 : Int} {x2 : Int} {x3 : Nat} (a0 : (((x0 : Nat) : Int) = x1)) (a1 : (x2 = (x1 + (1 : Int)))) (a2 : (((x3 : Nat) : Int) = x2)) : (x3 = (x0 + (1 : Nat))) := by omega
theorem omg_796e88ddd9 {x0 : Int} {x1 : Int} {x2 : Int} (a0 : (x0 = x1)) (a1 : (x1 = x2)) : (x0 = x2) := by omega
theorem omg_ce8fc39c01 {x0 : Int} {x1 : Nat} {x2 : Nat} (a0 : (x0 = (((x1 : Nat) : Int) + ((x2 : Nat) : Int)))) : ((0 : Int) ≤ x0) := by omega
theorem omg_09b75e0929 {x0 : Int} {x1 : Nat} {x2 : Int} (a0 : ((Int.toNat ((16 : Int) - x0)) < (x1 + (1 : Nat)))) (a1 : (¬ ((15 : Int) < x0))) (a2 : (x2 = (x0 + (1 : Int)))) : ((Int.toNat ((16 : Int) - x2)) < x1) := by omega
theorem omg_4b44cbffe3 {x0 : Int} {x1 : Int} (a0 : (¬ ((15 : Int) < x0))) (a1 : (x1 = (x0 + (1 : Int)))) : ((Int.toNat ((16 : Int) - x0)) = ((Int.toNat ((16 : Int) - x1)) + (1 : Nat))) := by omega
theorem d_Code_tell_0 : decode prog_2_method_2_code 0 = .ok (.aload_n 0, 1) := by decide +kernel
theorem d_Code_tell_1 : decode prog_2_method_2_code 1 = .ok (.iconst 0, 1) := by decide +kernel
theorem d_Code_tell_2 : decode prog_2_method_2_code 2 = .ok (.putfield 16, 3) := by decide +kernel
theorem k_230 : (Jvm.Cond.fieldLink "PackageBook$Code" (16 : Nat) "PackageBook$Code" "size" "I") ∈ uW := uW_c0 113 rfl (by decide +kernel)
theorem d_Code_tell_5 : decode prog_2_method_2_code 5 = .ok (.aload_n 0, 1) := by decide +kernel
theorem d_Code_tell_6 : decode prog_2_method_2_code 6 = .ok (.getfield 9, 3) := by decide +kernel
theorem d_Code_tell_9 : decode prog_2_method_2_code 9 = .ok (.iconst 0, 1) := by decide +kernel
theorem d_Code_tell_10 : decode prog_2_method_2_code 10 = .ok (.iconst 0, 1) := by decide +kernel
theorem d_Code_tell_11 : decode prog_2_method_2_code 11 = .ok (.iastore, 1) := by decide +kernel
theorem d_Code_tell_12 : decode prog_2_method_2_code 12 = .ok (.iconst 1, 1) := by decide +kernel
theorem d_Code_tell_13 : decode prog_2_method_2_code 13 = .ok (.istore 4, 2) := by decide +kernel
theorem d_Code_tell_15 : decode prog_2_method_2_code 15 = .ok (.iload 4, 2) := by decide +kernel
theorem d_Code_tell_17 : decode prog_2_method_2_code 17 = .ok (.bipush 15, 2) := by decide +kernel
theorem d_Code_tell_19 : decode prog_2_method_2_code 19 = .ok (.if_icmp .gt 76, 3) := by decide +kernel
theorem d_Code_tell_95 : decode prog_2_method_2_code 95 = .ok (.return_, 1) := by decide +kernel
theorem d_Code_tell_22 : decode prog_2_method_2_code 22 = .ok (.aload_n 0, 1) := by decide +kernel
theorem d_Code_tell_23 : decode prog_2_method_2_code 23 = .ok (.getfield 16, 3) := by decide +kernel
theorem d_Code_tell_26 : decode prog_2_method_2_code 26 = .ok (.istore 5, 2) := by decide +kernel
theorem d_Code_tell_28 : decode prog_2_method_2_code 28 = .ok (.iconst 0, 1) := by decide +kernel
theorem d_Code_tell_29 : decode prog_2_method_2_code 29 = .ok (.istore 6, 2) := by decide +kernel
theorem d_Code_tell_31 : decode prog_2_method_2_code 31 = .ok (.iload 6, 2) := by decide +kernel
theorem d_Code_tell_33 : decode prog_2_method_2_code 33 = .ok (.iload_n 3, 1) := by decide +kernel
theorem d_Code_tell_34 : decode prog_2_method_2_code 34 = .ok (.if_icmp .ge 41, 3) := by decide +kernel
theorem d_Code_tell_75 : decode prog_2_method_2_code 75 = .ok (.aload_n 0, 1) := by decide +kernel
theorem d_Code_tell_76 : decode prog_2_method_2_code 76 = .ok (.getfield 9, 3) := by decide +kernel
theorem d_Code_tell_79 : decode prog_2_method_2_code 79 = .ok (.iload 4, 2) := by decide +kernel
theorem d_Code_tell_81 : decode prog_2_method_2_code 81 = .ok (.aload_n 0, 1) := by decide +kernel
theorem d_Code_tell_82 : decode prog_2_method_2_code 82 = .ok (.getfield 16, 3) := by decide +kernel
theorem d_Code_tell_85 : decode prog_2_method_2_code 85 = .ok (.iload 5, 2) := by decide +kernel
theorem d_Code_tell_87 : decode prog_2_method_2_code 87 = .ok (.isub, 1) := by decide +kernel
theorem d_Code_tell_88 : decode prog_2_method_2_code 88 = .ok (.iastore, 1) := by decide +kernel
theorem d_Code_tell_89 : decode prog_2_method_2_code 89 = .ok (.iinc 4 1, 3) := by decide +kernel
theorem d_Code_tell_92 : decode prog_2_method_2_code 92 = .ok (.goto (-77), 3) := by decide +kernel
theorem d_Code_tell_37 : decode prog_2_method_2_code 37 = .ok (.aload_n 1, 1) := by decide +kernel
theorem d_Code_tell_38 : decode prog_2_method_2_code 38 = .ok (.iload_n 2, 1) := by decide +kernel
theorem d_Code_tell_39 : decode prog_2_method_2_code 39 = .ok (.iload 6, 2) := by decide +kernel
theorem d_Code_tell_41 : decode prog_2_method_2_code 41 = .ok (.iadd, 1) := by decide +kernel
theorem d_Code_tell_42 : decode prog_2_method_2_code 42 = .ok (.iaload, 1) := by decide +kernel
theorem d_Code_tell_43 : decode prog_2_method_2_code 43 = .ok (.iload 4, 2) := by decide +kernel
theorem d_Code_tell_45 : decode prog_2_method_2_code 45 = .ok (.if_icmp .ne 24, 3) := by decide +kernel
theorem d_Code_tell_69 : decode prog_2_method_2_code 69 = .ok (.iinc 6 1, 3) := by decide +kernel
theorem d_Code_tell_72 : decode prog_2_method_2_code 72 = .ok (.goto (-41), 3) := by decide +kernel
theorem d_Code_tell_48 : decode prog_2_method_2_code 48 = .ok (.aload_n 0, 1) := by decide +kernel
theorem d_Code_tell_49 : decode prog_2_method_2_code 49 = .ok (.getfield 13, 3) := by decide +kernel
theorem d_Code_tell_52 : decode prog_2_method_2_code 52 = .ok (.aload_n 0, 1) := by decide +kernel
theorem d_Code_tell_53 : decode prog_2_method_2_code 53 = .ok (.getfield 16, 3) := by decide +kernel
theorem d_Code_tell_56 : decode prog_2_method_2_code 56 = .ok (.iload 6, 2) := by decide +kernel
theorem d_Code_tell_58 : decode prog_2_method_2_code 58 = .ok (.iastore, 1) := by decide +kernel
theorem d_Code_tell_59 : decode prog_2_method_2_code 59 = .ok (.aload_n 0, 1) := by decide +kernel
theorem d_Code_tell_60 : decode prog_2_method_2_code 60 = .ok (.dup, 1) := by decide +kernel
theorem d_Code_tell_61 : decode prog_2_method_2_code 61 = .ok (.getfield 16, 3) := by decide +kernel
theorem d_Code_tell_64 : decode prog_2_method_2_code 64 = .ok (.iconst 1, 1) := by decide +kernel
theorem d_Code_tell_65 : decode prog_2_method_2_code 65 = .ok (.iadd, 1) := by decide +kernel
theorem d_Code_tell_66 : decode prog_2_method_2_code 66 = .ok (.putfield 16, 3) := by decide +kernel
abbrev y_Code_tell : MethodName := ⟨"PackageBook$Code", "tell", "([III)V"⟩
abbrev i_Code_tell : pb_I := (y_Code_tell, prog_2_method_2_code, 7, (Option.none : Option Jvm.ClassFile.FieldType), [], { frames := 0, cells := 0, slots := 0, locals := 0 })
set_option maxRecDepth 100000 in
set_option maxHeartbeats 4000000 in
theorem g_Code_tell {l : Launch} (hl : l.stackTraces = false) (G : pb_G) (h : Nat) (c : Nat) (y : Nat) (b : Nat) (Ny : Nat) (Nb : Nat) (sz : Int32) (fc : Nat → Int32) (fy : Nat → Int32) (fb : Nat → Int32) (from_ : Int32) (n : Int32) (L : Int → Int) (h0 : 0 ≤ from_.toInt) (h1 : 0 ≤ n.toInt) (h2 : from_.toInt + n.toInt ≤ Nb) (h3 : n.toInt ≤ Ny) (h4 : Nb ≤ 100000) (h5 : Ny ≤ 100000) (hL : ∀ k : Int, 0 ≤ k → k < n.toInt → L k = gx fb (from_.toInt + k)) : Cn l G i_Code_tell [.ref h, .ref b, .int from_, .int n] [(h, .inr (1, [.ref c, .ref y, .int sz])), (c, .inl (G.2.2.1, 16, .inl fc)), (y, .inl (G.2.2.1, Ny, .inl fy)), (b, .inl (G.2.2.1, Nb, .inl fb))] (S := Int32 × (Nat → Int32) × (Nat → Int32)) (fun rv_ u => rv_ = none ∧ (co_I u.1.toInt u.2.1 u.2.2 n.toInt) ∧ (u.1.toInt ≤ n.toInt) ∧ ((∀ k : Int, 0 ≤ k → k < n.toInt → 0 ≤ L k ∧ L k ≤ 15) → cs_R u.1.toInt u.2.1 u.2.2 L n.toInt)) (fun u => [(h, .inr (1, [.ref c, .ref y, .int u.1])), (c, .inl (G.2.2.1, 16, .inl u.2.1)), (y, .inl (G.2.2.1, Ny, .inl u.2.2)), (b, .inl (G.2.2.1, Nb, .inl fb))]) := by
  refine Cn.of hl (by decide +kernel) rfl (Nat.le_of_ble_eq_true rfl) (fun M hQ => ?_)
  refine pb_eq (pc' := 0) (lo' := [(0, .ref h), (1, .ref b), (2, .int from_), (3, .int n)]) (rest' := []) (ws' := [(h, .inr (1, [.ref c, .ref y, .int sz])), (c, .inl (G.2.2.1, 16, .inl fc)), (y, .inl (G.2.2.1, Ny, .inl fy)), (b, .inl (G.2.2.1, Nb, .inl fb))]) ?_
  have zl0 : (0 : Int32).toInt = 0 := by decide
  have zl1 : (1 : Int32).toInt = 1 := by decide
  have zl15 : (15 : Int32).toInt = 15 := by decide
  have z2 : (0 : Int32).toNatClampNeg = 0 := by decide
  have c1 := ti_clamp h0
  have c4 := ti_clamp h1
  refine pb_aload_n (pc := 0) d_Code_tell_0 0 rfl rfl ?_
  refine pb_iconst (pc := 1) (v := 0) d_Code_tell_1 (by decide) ?_
  refine pb_put (pc := 2) (ty := .int) (ws' := [(h, .inr (1, [.ref c, .ref y, .int 0])), (c, .inl (G.2.2.1, 16, .inl fc)), (y, .inl (G.2.2.1, Ny, .inl fy)), (b, .inl (G.2.2.1, Nb, .inl fb))]) d_Code_tell_2 0 2 t_Code t_Code_ok n_Code rfl rfl (by decide) in_Code k_230 rfl (by decide +kernel) rfl rfl (Nat.le_of_ble_eq_true rfl) rfl ?_
  refine pb_aload_n (pc := 5) d_Code_tell_5 0 rfl rfl ?_
  refine pb_get (pc := 6) d_Code_tell_6 0 0 rfl rfl (by decide) in_Code k_226 rfl ?_
  refine pb_iconst (pc := 9) (v := 0) d_Code_tell_9 (by decide) ?_
  refine pb_iconst (pc := 10) (v := 0) d_Code_tell_10 (by decide) ?_
  refine pb_iast (pc := 11) (ws' := [(h, .inr (1, [.ref c, .ref y, .int 0])), (c, .inl (G.2.2.1, 16, .inl (upd fc ((0 : Int32).toNatClampNeg) 0))), (y, .inl (G.2.2.1, Ny, .inl fy)), (b, .inl (G.2.2.1, Nb, .inl fb))]) d_Code_tell_11 1 rfl (by unfold vp_in; decide) rfl ?_
  refine pb_iconst (pc := 12) (v := 1) d_Code_tell_12 (by decide) ?_
  refine pb_istore (pc := 13) (lo' := [(4, .int 1), (0, .ref h), (1, .ref b), (2, .int from_), (3, .int n)]) d_Code_tell_13 (by decide) rfl ?_
  have hL15_1 : ∀ (N9 : Nat) (m : Int32) (s1 : Int32) (g1 : Nat → Int32) (g2 : Nat → Int32), (1 ≤ m.toInt) → (m.toInt ≤ 16) → (s1.toInt = (cd_n fb from_.toNatClampNeg m.toInt n.toNatClampNeg : Int)) → (∀ j : Int, 1 ≤ j → j < m.toInt → 0 ≤ gx g1 j) → (co_s g1 (m.toInt - 1) = s1.toInt) → (∀ j : Int, 0 ≤ j → j < s1.toInt → 0 ≤ gx g2 j ∧ gx g2 j < n.toInt) → (s1.toInt = lt_ L m.toInt n.toInt.toNat) → (∀ b : Int, 1 ≤ b → b < m.toInt → gx g1 b = ct_ L b n.toInt.toNat) → (tq_ g2 L n.toInt m.toInt 0) → ((16 - m.toInt).toNat) < N9 → pb_P l G M i_Code_tell 15 [(4, .int m), (0, .ref h), (1, .ref b), (2, .int from_), (3, .int n)] [] [(h, .inr (1, [.ref c, .ref y, .int s1])), (c, .inl (G.2.2.1, 16, .inl g1)), (y, .inl (G.2.2.1, Ny, .inl g2)), (b, .inl (G.2.2.1, Nb, .inl fb))] 0 0 := by
    intro N9
    induction N9 with
    | zero => intro m s1 g1 g2 hm1 hm2 hs hc0 hc1 hy hl hcc hq hm9; exact absurd hm9 (Nat.not_lt_zero _)
    | succ N9 ih15 =>
      intro m s1 g1 g2 hm1 hm2 hs hc0 hc1 hy hl hcc hq hm9
      refine pb_iload (pc := 15) d_Code_tell_15 0 rfl ?_
      refine pb_bipush (pc := 17) (v := 15) d_Code_tell_17 (by decide) ?_
      refine pb_icmp_gt (pc := 19) (tgt := 95) d_Code_tell_19 (by decide) (fun w2 => ?_) (fun w2 => ?_)
      · have tw2 : 15 < m.toInt := (ti_lt (by decide) rfl).mp w2
        have hm3 : m.toInt = 16 := by omega
        rw [hm3] at hc0 hc1
        have hle := cd_le fb from_.toNatClampNeg m.toInt n.toNatClampNeg
        exact pb_vret (pc := 95) hQ d_Code_tell_95 rfl (s1, g1, g2) ⟨rfl, (show co_I s1.toInt g1 g2 n.toInt from ⟨(by (try dsimp only); omega), fun j h0 h1 => hc0 j h0 (by omega), hc1, hy⟩), (by (try dsimp only); first | done | (with_reducible assumption) | omega (splitDisjunctions := false) | assumption | omega | decide), (show (∀ k : Int, 0 ≤ k → k < n.toInt → 0 ≤ L k ∧ L k ≤ 15) → cs_R s1.toInt g1 g2 L n.toInt from (fun q9 => cs_mk (m := m.toInt) (by omega) hcc hl hq q9))⟩ [0, 1, 2, 3] (by decide) rfl rfl (by decide) (by decide)
      · have tw2 : ¬ 15 < m.toInt := fun z9 => w2 ((ti_lt (by decide) rfl).mpr z9)
        refine pb_aload_n (pc := 22) d_Code_tell_22 1 rfl rfl ?_
        refine pb_get (pc := 23) d_Code_tell_23 0 2 rfl rfl (by decide) in_Code k_230 rfl ?_
        refine pb_istore (pc := 26) (lo' := [(5, .int s1), (4, .int m), (0, .ref h), (1, .ref b), (2, .int from_), (3, .int n)]) d_Code_tell_26 (by decide) rfl ?_
        refine pb_iconst (pc := 28) (v := 0) d_Code_tell_28 (by decide) ?_
        refine pb_istore (pc := 29) (lo' := [(6, .int 0), (5, .int s1), (4, .int m), (0, .ref h), (1, .ref b), (2, .int from_), (3, .int n)]) d_Code_tell_29 (by decide) rfl ?_
        have hL31_3 : ∀ (N9 : Nat) (k : Int32) (s3 : Int32) (g4 : Nat → Int32), (0 ≤ k.toInt) → (k.toInt ≤ n.toInt) → (s3.toInt = (cd_n fb from_.toNatClampNeg m.toInt n.toNatClampNeg : Int) + (cd_e fb from_.toNatClampNeg m.toInt k.toNatClampNeg : Int)) → (∀ j : Int, 0 ≤ j → j < s3.toInt → 0 ≤ gx g4 j ∧ gx g4 j < n.toInt) → (s3.toInt = lt_ L m.toInt n.toInt.toNat + ct_ L m.toInt k.toInt.toNat) → (tq_ g4 L n.toInt m.toInt k.toInt) → ((n.toInt - k.toInt).toNat) < N9 → pb_P l G M i_Code_tell 31 [(6, .int k), (5, .int s1), (4, .int m), (0, .ref h), (1, .ref b), (2, .int from_), (3, .int n)] [] [(h, .inr (1, [.ref c, .ref y, .int s3])), (c, .inl (G.2.2.1, 16, .inl g1)), (y, .inl (G.2.2.1, Ny, .inl g4)), (b, .inl (G.2.2.1, Nb, .inl fb))] 0 0 := by
          intro N9
          induction N9 with
          | zero => intro k s3 g4 hk hk2 hs3 hy3 hl3 hq3 hm9; exact absurd hm9 (Nat.not_lt_zero _)
          | succ N9 ih31 =>
            intro k s3 g4 hk hk2 hs3 hy3 hl3 hq3 hm9
            refine pb_iload (pc := 31) d_Code_tell_31 0 rfl ?_
            refine pb_iload_n (pc := 33) d_Code_tell_33 6 rfl rfl ?_
            refine pb_icmp_ge (pc := 34) (tgt := 75) d_Code_tell_34 (by decide) (fun w4 => ?_) (fun w4 => ?_)
            · have tw4 : n.toInt ≤ k.toInt := (ti_le rfl rfl).mp w4
              have c2 := ti_clamp hk
              have hx := cd_sum fb from_.toNatClampNeg hm1 n.toNatClampNeg
              have hkn : k.toNatClampNeg = n.toNatClampNeg := by omega
              rw [hkn] at hs3
              have hle := cd_le fb from_.toNatClampNeg m.toInt n.toNatClampNeg
              have hle2 := cd_le fb from_.toNatClampNeg (m.toInt + 1) n.toNatClampNeg
              refine pb_aload_n (pc := 75) d_Code_tell_75 3 rfl rfl ?_
              refine pb_get (pc := 76) d_Code_tell_76 0 0 rfl rfl (by decide) in_Code k_226 rfl ?_
              refine pb_iload (pc := 79) d_Code_tell_79 2 rfl ?_
              refine pb_aload_n (pc := 81) d_Code_tell_81 3 rfl rfl ?_
              refine pb_get (pc := 82) d_Code_tell_82 0 2 rfl rfl (by decide) in_Code k_230 rfl ?_
              refine pb_iload (pc := 85) d_Code_tell_85 1 rfl ?_
              refine pb_isub (pc := 87) d_Code_tell_87 ?_
              refine pb_topi (fun i5 ei5 => ?_)
              try have ti5 : i5.toInt = s3.toInt - s1.toInt := ti_sub ei5 rfl rfl (by omega) (by (exact omg_8f8dd291d6 h2 h4 c1 c4 hs hs3 hx hle2))
              refine pb_iast (pc := 88) (ws' := [(h, .inr (1, [.ref c, .ref y, .int s3])), (c, .inl (G.2.2.1, 16, .inl (upd g1 ((m : Int32).toNatClampNeg) i5))), (y, .inl (G.2.2.1, Ny, .inl g4)), (b, .inl (G.2.2.1, Nb, .inl fb))]) d_Code_tell_88 1 rfl (vp_in_iff.mpr (by constructor <;> omega)) rfl ?_
              refine pb_iincN (pc := 89) (c := 1) d_Code_tell_89 2 rfl (by decide) (by decide) (fun i6 ei6 => ?_)
              have ti6 : i6.toInt = m.toInt + 1 := ti_add ei6 rfl (by decide) (by omega) (by omega)
              refine pb_eq (pc' := 92) (lo' := [(4, .int i6), (6, .int k), (5, .int s1), (0, .ref h), (1, .ref b), (2, .int from_), (3, .int n)]) (rest' := []) (ws' := [(h, .inr (1, [.ref c, .ref y, .int s3])), (c, .inl (G.2.2.1, 16, .inl (upd g1 ((m : Int32).toNatClampNeg) i5))), (y, .inl (G.2.2.1, Ny, .inl g4)), (b, .inl (G.2.2.1, Nb, .inl fb))]) ?_
              refine pb_goto (pc := 92) (tgt := 15) d_Code_tell_92 (by decide) ?_
              refine pb_re (ws' := [(h, .inr (1, [.ref c, .ref y, .int s3])), (c, .inl (G.2.2.1, 16, .inl (upd g1 ((m : Int32).toNatClampNeg) i5))), (y, .inl (G.2.2.1, Ny, .inl g4)), (b, .inl (G.2.2.1, Nb, .inl fb))]) (lo' := [(4, .int i6), (0, .ref h), (1, .ref b), (2, .int from_), (3, .int n)]) [0, 1, 2, 3] [0, 3, 4, 5, 6] (by decide) rfl rfl rfl ?_
              exact ih15 i6 s3 (upd g1 ((m : Int32).toNatClampNeg) i5) g4 (by first | (with_reducible assumption) | omega (splitDisjunctions := false) | assumption | omega | decide) (by first | (with_reducible assumption) | omega (splitDisjunctions := false) | assumption | omega | decide) (by rw [show i6.toInt = m.toInt + 1 by omega]; omega) (fun j h0 h1 => by rw [gx_upd rfl j (by omega) (by omega)]; split <;> first | omega | exact hc0 j h0 (by omega)) (by rw [show i6.toInt - 1 = m.toInt by omega]; exact co_put rfl hm1 hc1 (by omega)) hy3 (by rw [show i6.toInt = m.toInt + 1 by omega, ← lt_sum L hm1, show n.toInt.toNat = k.toInt.toNat by (exact omg_da822fc3fa hk2 tw4)] ; rw [show n.toInt.toNat = k.toInt.toNat by omega] at hl3; exact hl3) (fun b h0 h1 => by rw [gx_upd rfl b (by omega) (by omega)]; split <;> first | (rename_i w9; rw [w9]; rw [show n.toInt.toNat = k.toInt.toNat by (first | exact omg_da822fc3fa hk2 tw4 | omega)] at hl hl3 ⊢; omega) | exact hcc b h0 (by omega)) (tq_nx hq3 (by omega) (by omega)) (by omega)
            · have tw4 : ¬ n.toInt ≤ k.toInt := fun z9 => w4 ((ti_le rfl rfl).mpr z9)
              refine pb_aload_n (pc := 37) d_Code_tell_37 4 rfl rfl ?_
              refine pb_iload_n (pc := 38) d_Code_tell_38 5 rfl rfl ?_
              refine pb_iload (pc := 39) d_Code_tell_39 0 rfl ?_
              refine pb_iadd (pc := 41) d_Code_tell_41 ?_
              refine pb_topi (fun i7 ei7 => ?_)
              try have ti7 : i7.toInt = from_.toInt + k.toInt := ti_add ei7 rfl rfl (by omega) (by omega)
              refine pb_iald (pc := 42) d_Code_tell_42 3 rfl (vp_in_iff.mpr (by constructor <;> omega)) ?_
              refine pb_topi (fun i8 ei8 => ?_)
              have ti8 : i8.toInt = gx fb (i7.toInt) := gx_ld ei8 rfl
              have hLk := hL k.toInt hk (by omega)
              rw [show from_.toInt + k.toInt = i7.toInt by omega, ← ti8] at hLk
              have cS := ct_s (L := L) (b := m.toInt) (k := k.toInt) (m := k.toInt + 1) hk rfl
              refine pb_iload (pc := 43) d_Code_tell_43 2 rfl ?_
              have c2 := ti_clamp hk
              have hBB : (fb (from_.toNatClampNeg + k.toNatClampNeg)).toInt = i8.toInt := by rw [ei8, show from_.toNatClampNeg + k.toNatClampNeg = i7.toNatClampNeg by have := ti_clamp (x := i7) (by omega); omega]
              refine pb_icmp_ne (pc := 45) (tgt := 69) d_Code_tell_45 (by decide) (fun w9 => ?_) (fun w9 => ?_)
              · have tw9 : ¬ i8.toInt = m.toInt := fun z9 => w9 ((ti_eq rfl rfl).mpr z9)
                refine pb_iincN (pc := 69) (c := 1) d_Code_tell_69 0 rfl (by decide) (by decide) (fun i10 ei10 => ?_)
                have ti10 : i10.toInt = k.toInt + 1 := ti_add ei10 rfl (by decide) (by omega) (by (exact omg_4ae52722b8 h2 h4 c1 tw4))
                refine pb_eq (pc' := 72) (lo' := [(6, .int i10), (5, .int s1), (4, .int m), (0, .ref h), (1, .ref b), (2, .int from_), (3, .int n)]) (rest' := []) (ws' := [(h, .inr (1, [.ref c, .ref y, .int s3])), (c, .inl (G.2.2.1, 16, .inl g1)), (y, .inl (G.2.2.1, Ny, .inl g4)), (b, .inl (G.2.2.1, Nb, .inl fb))]) ?_
                refine pb_goto (pc := 72) (tgt := 31) d_Code_tell_72 (by decide) ?_
                exact ih31 i10 s3 g4 (by first | (with_reducible assumption) | omega (splitDisjunctions := false) | assumption | omega | decide) (by first | (with_reducible assumption) | omega (splitDisjunctions := false) | assumption | omega | decide) (by rw [show i10.toNatClampNeg = k.toNatClampNeg + 1 by have := ti_clamp (x := i10) (by omega); (exact omg_90e46e9da7 c2 ti10 this)]; simp only [cd_e]; split <;> omega) (by first | exact hy3 | exact fun j h0 h1 => by rw [gx_upd rfl j (by omega) h0]; split <;> first | omega | exact hy3 j h0 (by omega)) (by rw [show i10.toInt = k.toInt + 1 by omega, cS]; split <;> omega) (by first | exact tq_skip hq3 (by omega) (by omega) | exact tq_put hq3 (by omega) hk (by omega) hm1 hl3 (by omega) rfl rfl) (by (exact omg_7c8a06b1f5 hm9 tw4 ti10))
              · have tw9 : i8.toInt = m.toInt := (ti_eq rfl rfl).mp w9
                have hR := cd_room fb from_.toNatClampNeg hm1 (j := k.toNatClampNeg) (k := n.toNatClampNeg) (by omega) (by (exact omg_796e88ddd9 hBB tw9))
                refine pb_aload_n (pc := 48) d_Code_tell_48 3 rfl rfl ?_
                refine pb_get (pc := 49) d_Code_tell_49 0 1 rfl rfl (by decide) in_Code k_228 rfl ?_
                refine pb_aload_n (pc := 52) d_Code_tell_52 3 rfl rfl ?_
                refine pb_get (pc := 53) d_Code_tell_53 0 2 rfl rfl (by decide) in_Code k_230 rfl ?_
                refine pb_iload (pc := 56) d_Code_tell_56 0 rfl ?_
                refine pb_iast (pc := 58) (ws' := [(h, .inr (1, [.ref c, .ref y, .int s3])), (c, .inl (G.2.2.1, 16, .inl g1)), (y, .inl (G.2.2.1, Ny, .inl (upd g4 ((s3 : Int32).toNatClampNeg) k))), (b, .inl (G.2.2.1, Nb, .inl fb))]) d_Code_tell_58 2 rfl (vp_in_iff.mpr (by constructor <;> (first | exact omg_ce8fc39c01 hs3 | omega))) rfl ?_
                refine pb_aload_n (pc := 59) d_Code_tell_59 3 rfl rfl ?_
                refine pb_dup (pc := 60) d_Code_tell_60 rfl ?_
                refine pb_get (pc := 61) d_Code_tell_61 0 2 rfl rfl (by decide) in_Code k_230 rfl ?_
                refine pb_iconst (pc := 64) (v := 1) d_Code_tell_64 (by decide) ?_
                refine pb_iadd (pc := 65) d_Code_tell_65 ?_
                refine pb_topi (fun i11 ei11 => ?_)
                try have ti11 : i11.toInt = s3.toInt + 1 := ti_add ei11 rfl (by decide) (by omega) (by omega)
                refine pb_put (pc := 66) (ty := .int) (ws' := [(h, .inr (1, [.ref c, .ref y, .int i11])), (c, .inl (G.2.2.1, 16, .inl g1)), (y, .inl (G.2.2.1, Ny, .inl (upd g4 ((s3 : Int32).toNatClampNeg) k))), (b, .inl (G.2.2.1, Nb, .inl fb))]) d_Code_tell_66 0 2 t_Code t_Code_ok n_Code rfl rfl (by decide) in_Code k_230 rfl (by decide +kernel) rfl rfl (Nat.le_of_ble_eq_true rfl) rfl ?_
                refine pb_iincN (pc := 69) (c := 1) d_Code_tell_69 0 rfl (by decide) (by decide) (fun i12 ei12 => ?_)
                have ti12 : i12.toInt = k.toInt + 1 := ti_add ei12 rfl (by decide) (by omega) (by (exact omg_4ae52722b8 h2 h4 c1 tw4))
                refine pb_eq (pc' := 72) (lo' := [(6, .int i12), (5, .int s1), (4, .int m), (0, .ref h), (1, .ref b), (2, .int from_), (3, .int n)]) (rest' := []) (ws' := [(h, .inr (1, [.ref c, .ref y, .int i11])), (c, .inl (G.2.2.1, 16, .inl g1)), (y, .inl (G.2.2.1, Ny, .inl (upd g4 ((s3 : Int32).toNatClampNeg) k))), (b, .inl (G.2.2.1, Nb, .inl fb))]) ?_
                refine pb_goto (pc := 72) (tgt := 31) d_Code_tell_72 (by decide) ?_
                exact ih31 i12 i11 (upd g4 ((s3 : Int32).toNatClampNeg) k) (by first | (with_reducible assumption) | omega (splitDisjunctions := false) | assumption | omega | decide) (by first | (with_reducible assumption) | omega (splitDisjunctions := false) | assumption | omega | decide) (by rw [show i12.toNatClampNeg = k.toNatClampNeg + 1 by have := ti_clamp (x := i12) (by omega); (exact omg_90e46e9da7 c2 ti12 this)]; simp only [cd_e]; split <;> omega) (by first | exact hy3 | exact fun j h0 h1 => by rw [gx_upd rfl j (by (exact omg_ce8fc39c01 hs3)) h0]; split <;> first | omega | exact hy3 j h0 (by omega)) (by rw [show i12.toInt = k.toInt + 1 by omega, cS]; split <;> omega) (by first | exact tq_skip hq3 (by omega) (by omega) | exact tq_put hq3 (by omega) hk (by (exact omg_796e88ddd9 hLk tw9)) hm1 hl3 (by (exact omg_ce8fc39c01 hs3)) rfl rfl) (by (exact omg_7c8a06b1f5 hm9 tw4 ti12))
        exact hL31_3 _ 0 s1 g2 (by first | (with_reducible assumption) | omega (splitDisjunctions := false) | assumption | omega | decide) (by first | (with_reducible assumption) | omega (splitDisjunctions := false) | assumption | omega | decide) (by rw [z2]; simp only [cd_e]; omega) hy (by rw [zl0, show (0 : Int).toNat = 0 from rfl, ct_]; omega) (by rw [zl0]; exact hq) (Nat.lt_succ_self _)
  exact hL15_1 _ 1 0 (upd fc ((0 : Int32).toNatClampNeg) 0) fy (by first | (with_reducible assumption) | omega (splitDisjunctions := false) | assumption | omega | decide) (by first | (with_reducible assumption) | omega (splitDisjunctions := false) | assumption | omega | decide) (by rw [zl0, zl1, cd_one]; rfl) (fun j h0 h1 => absurd h1 (by omega)) (by rw [zl1, zl0]; rfl) (fun j h0 h1 => absurd h1 (by omega)) (by rw [zl1, lt_one, zl0]) (fun b h0 h1 => absurd h1 (by omega)) (by rw [zl1]; exact tq_1) (Nat.lt_succ_self _)

theorem d_Code_isRight_0 : decode prog_2_method_3_code 0 = .ok (.iconst 1, 1) := by decide +kernel
theorem d_Code_isRight_1 : decode prog_2_method_3_code 1 = .ok (.istore_n 1, 1) := by decide +kernel
theorem d_Code_isRight_2 : decode prog_2_method_3_code 2 = .ok (.iconst 1, 1) := by decide +kernel
theorem d_Code_isRight_3 : decode prog_2_method_3_code 3 = .ok (.istore_n 2, 1) := by decide +kernel
theorem d_Code_isRight_4 : decode prog_2_method_3_code 4 = .ok (.iload_n 2, 1) := by decide +kernel
theorem d_Code_isRight_5 : decode prog_2_method_3_code 5 = .ok (.bipush 15, 2) := by decide +kernel
theorem d_Code_isRight_7 : decode prog_2_method_3_code 7 = .ok (.if_icmp .gt 26, 3) := by decide +kernel
theorem d_Code_isRight_33 : decode prog_2_method_3_code 33 = .ok (.iload_n 1, 1) := by decide +kernel
theorem d_Code_isRight_34 : decode prog_2_method_3_code 34 = .ok (.ifCond .eq 21, 3) := by decide +kernel
theorem d_Code_isRight_55 : decode prog_2_method_3_code 55 = .ok (.iconst 1, 1) := by decide +kernel
theorem d_Code_isRight_56 : decode prog_2_method_3_code 56 = .ok (.goto 4, 3) := by decide +kernel
theorem d_Code_isRight_60 : decode prog_2_method_3_code 60 = .ok (.ireturn, 1) := by decide +kernel
theorem d_Code_isRight_37 : decode prog_2_method_3_code 37 = .ok (.aload_n 0, 1) := by decide +kernel
theorem d_Code_isRight_38 : decode prog_2_method_3_code 38 = .ok (.getfield 16, 3) := by decide +kernel
theorem d_Code_isRight_41 : decode prog_2_method_3_code 41 = .ok (.iconst 1, 1) := by decide +kernel
theorem d_Code_isRight_42 : decode prog_2_method_3_code 42 = .ok (.if_icmp .ne 17, 3) := by decide +kernel
theorem d_Code_isRight_59 : decode prog_2_method_3_code 59 = .ok (.iconst 0, 1) := by decide +kernel
theorem d_Code_isRight_45 : decode prog_2_method_3_code 45 = .ok (.aload_n 0, 1) := by decide +kernel
theorem d_Code_isRight_46 : decode prog_2_method_3_code 46 = .ok (.getfield 9, 3) := by decide +kernel
theorem d_Code_isRight_49 : decode prog_2_method_3_code 49 = .ok (.iconst 1, 1) := by decide +kernel
theorem d_Code_isRight_50 : decode prog_2_method_3_code 50 = .ok (.iaload, 1) := by decide +kernel
theorem d_Code_isRight_51 : decode prog_2_method_3_code 51 = .ok (.iconst 1, 1) := by decide +kernel
theorem d_Code_isRight_52 : decode prog_2_method_3_code 52 = .ok (.if_icmp .ne 7, 3) := by decide +kernel
theorem d_Code_isRight_10 : decode prog_2_method_3_code 10 = .ok (.iconst 2, 1) := by decide +kernel
theorem d_Code_isRight_11 : decode prog_2_method_3_code 11 = .ok (.iload_n 1, 1) := by decide +kernel
theorem d_Code_isRight_12 : decode prog_2_method_3_code 12 = .ok (.imul, 1) := by decide +kernel
theorem d_Code_isRight_13 : decode prog_2_method_3_code 13 = .ok (.aload_n 0, 1) := by decide +kernel
theorem d_Code_isRight_14 : decode prog_2_method_3_code 14 = .ok (.getfield 9, 3) := by decide +kernel
theorem d_Code_isRight_17 : decode prog_2_method_3_code 17 = .ok (.iload_n 2, 1) := by decide +kernel
theorem d_Code_isRight_18 : decode prog_2_method_3_code 18 = .ok (.iaload, 1) := by decide +kernel
theorem d_Code_isRight_19 : decode prog_2_method_3_code 19 = .ok (.isub, 1) := by decide +kernel
theorem d_Code_isRight_20 : decode prog_2_method_3_code 20 = .ok (.istore_n 1, 1) := by decide +kernel
theorem d_Code_isRight_21 : decode prog_2_method_3_code 21 = .ok (.iload_n 1, 1) := by decide +kernel
theorem d_Code_isRight_22 : decode prog_2_method_3_code 22 = .ok (.ifCond .ge 5, 3) := by decide +kernel
theorem d_Code_isRight_27 : decode prog_2_method_3_code 27 = .ok (.iinc 2 1, 3) := by decide +kernel
theorem d_Code_isRight_30 : decode prog_2_method_3_code 30 = .ok (.goto (-26), 3) := by decide +kernel
theorem d_Code_isRight_25 : decode prog_2_method_3_code 25 = .ok (.iconst 0, 1) := by decide +kernel
theorem d_Code_isRight_26 : decode prog_2_method_3_code 26 = .ok (.ireturn, 1) := by decide +kernel
abbrev y_Code_isRight : MethodName := ⟨"PackageBook$Code", "isRight", "()Z"⟩
abbrev i_Code_isRight : pb_I := (y_Code_isRight, prog_2_method_3_code, 3, (some Jvm.ClassFile.FieldType.boolean), [], { frames := 0, cells := 0, slots := 0, locals := 0 })
set_option maxRecDepth 100000 in
set_option maxHeartbeats 4000000 in
theorem g_Code_isRight {l : Launch} (hl : l.stackTraces = false) (G : pb_G) (h : Nat) (c : Nat) (y : Nat) (Ny : Nat) (sz : Int32) (fc : Nat → Int32) (fy : Nat → Int32) (B : Int) (L : Int → Int) (nL : Int) (hco : co_I sz.toInt fc fy B) : Cn l G i_Code_isRight [.ref h] [(h, .inr (1, [.ref c, .ref y, .int sz])), (c, .inl (G.2.2.1, 16, .inl fc)), (y, .inl (G.2.2.1, Ny, .inl fy))] (S := Int32) (fun rv_ u => rv_ = some (.int u) ∧ (u.toInt = 0 ∨ u.toInt = 1) ∧ (cs_R sz.toInt fc fy L nL → u.toInt = rt_f L nL)) (fun u => [(h, .inr (1, [.ref c, .ref y, .int sz])), (c, .inl (G.2.2.1, 16, .inl fc)), (y, .inl (G.2.2.1, Ny, .inl fy))]) := by
  refine Cn.of hl (by decide +kernel) rfl (Nat.le_of_ble_eq_true rfl) (fun M hQ => ?_)
  refine pb_eq (pc' := 0) (lo' := [(0, .ref h)]) (rest' := []) (ws' := [(h, .inr (1, [.ref c, .ref y, .int sz])), (c, .inl (G.2.2.1, 16, .inl fc)), (y, .inl (G.2.2.1, Ny, .inl fy))]) ?_
  have zl0 : (0 : Int32).toInt = 0 := by decide
  have zl1 : (1 : Int32).toInt = 1 := by decide
  have zl2 : (2 : Int32).toInt = 2 := by decide
  have zl15 : (15 : Int32).toInt = 15 := by decide
  have hsz := hco.1
  refine pb_iconst (pc := 0) (v := 1) d_Code_isRight_0 (by decide) ?_
  refine pb_istore_n (pc := 1) (lo' := [(1, .int 1), (0, .ref h)]) d_Code_isRight_1 rfl (by decide) rfl ?_
  refine pb_iconst (pc := 2) (v := 1) d_Code_isRight_2 (by decide) ?_
  refine pb_istore_n (pc := 3) (lo' := [(2, .int 1), (1, .int 1), (0, .ref h)]) d_Code_isRight_3 rfl (by decide) rfl ?_
  have hL4_1 : ∀ (N9 : Nat) (fr : Int32) (m : Int32), (1 ≤ m.toInt) → (m.toInt ≤ 16) → (0 ≤ fr.toInt) → (fr.toInt ≤ p2 (m.toInt - 1)) → (cs_R sz.toInt fc fy L nL → rt_l L nL (16 - m.toInt).toNat m.toInt fr.toInt = rt_f L nL) → ((16 - m.toInt).toNat) < N9 → pb_P l G M i_Code_isRight 4 [(1, .int fr), (2, .int m), (0, .ref h)] [] [(h, .inr (1, [.ref c, .ref y, .int sz])), (c, .inl (G.2.2.1, 16, .inl fc)), (y, .inl (G.2.2.1, Ny, .inl fy))] 0 0 := by
    intro N9
    induction N9 with
    | zero => intro fr m hm hm2 hf0 hf1 hR hm9; exact absurd hm9 (Nat.not_lt_zero _)
    | succ N9 ih4 =>
      intro fr m hm hm2 hf0 hf1 hR hm9
      refine pb_iload_n (pc := 4) d_Code_isRight_4 1 rfl rfl ?_
      refine pb_bipush (pc := 5) (v := 15) d_Code_isRight_5 (by decide) ?_
      refine pb_icmp_gt (pc := 7) (tgt := 33) d_Code_isRight_7 (by decide) (fun w2 => ?_) (fun w2 => ?_)
      · have tw2 : 15 < m.toInt := (ti_lt (by decide) rfl).mp w2
        refine pb_iload_n (pc := 33) d_Code_isRight_33 0 rfl rfl ?_
        refine pb_if_eq (pc := 34) (tgt := 55) d_Code_isRight_34 (by decide) (fun w3 => ?_) (fun w3 => ?_)
        · have tw3 : fr.toInt = 0 := (ti_eq rfl (by decide)).mp w3
          refine pb_iconst (pc := 55) (v := 1) d_Code_isRight_55 (by decide) ?_
          refine pb_goto (pc := 56) (tgt := 60) d_Code_isRight_56 (by decide) ?_
          exact pb_iret (pc := 60) hQ d_Code_isRight_60 rfl rfl (1) ⟨rfl, (by (try dsimp only); first | done | (with_reducible assumption) | omega (splitDisjunctions := false) | assumption | omega | decide), (show cs_R sz.toInt fc fy L nL → (1 : Int32).toInt = rt_f L nL from (fun q9 => (rt_end (t := sz.toInt) (c := gx fc 1) (by omega) q9.2.1 (q9.1 1 (by omega) (by omega)) (by omega)).symm.trans (hR q9)))⟩ [0, 1, 2] (by decide) rfl rfl (by decide) (by decide)
        · have tw3 : ¬ fr.toInt = 0 := fun z9 => w3 ((ti_eq rfl (by decide)).mpr z9)
          refine pb_aload_n (pc := 37) d_Code_isRight_37 2 rfl rfl ?_
          refine pb_get (pc := 38) d_Code_isRight_38 0 2 rfl rfl (by decide) in_Code k_230 rfl ?_
          refine pb_iconst (pc := 41) (v := 1) d_Code_isRight_41 (by decide) ?_
          refine pb_icmp_ne (pc := 42) (tgt := 59) d_Code_isRight_42 (by decide) (fun w4 => ?_) (fun w4 => ?_)
          · have tw4 : ¬ sz.toInt = 1 := fun z9 => w4 ((ti_eq rfl (by decide)).mpr z9)
            refine pb_iconst (pc := 59) (v := 0) d_Code_isRight_59 (by decide) ?_
            exact pb_iret (pc := 60) hQ d_Code_isRight_60 rfl rfl (0) ⟨rfl, (by (try dsimp only); first | done | (with_reducible assumption) | omega (splitDisjunctions := false) | assumption | omega | decide), (show cs_R sz.toInt fc fy L nL → (0 : Int32).toInt = rt_f L nL from (fun q9 => (rt_end (t := sz.toInt) (c := gx fc 1) (by omega) q9.2.1 (q9.1 1 (by omega) (by omega)) (by omega)).symm.trans (hR q9)))⟩ [0, 1, 2] (by decide) rfl rfl (by decide) (by decide)
          · have tw4 : sz.toInt = 1 := (ti_eq rfl (by decide)).mp w4
            refine pb_aload_n (pc := 45) d_Code_isRight_45 2 rfl rfl ?_
            refine pb_get (pc := 46) d_Code_isRight_46 0 0 rfl rfl (by decide) in_Code k_226 rfl ?_
            refine pb_iconst (pc := 49) (v := 1) d_Code_isRight_49 (by decide) ?_
            refine pb_iald (pc := 50) d_Code_isRight_50 1 rfl (by unfold vp_in; decide) ?_
            refine pb_topi (fun i5 ei5 => ?_)
            have ti5 : i5.toInt = gx fc (1) := gx_ld ei5 (by omega)
            refine pb_iconst (pc := 51) (v := 1) d_Code_isRight_51 (by decide) ?_
            refine pb_icmp_ne (pc := 52) (tgt := 59) d_Code_isRight_52 (by decide) (fun w6 => ?_) (fun w6 => ?_)
            · have tw6 : ¬ i5.toInt = 1 := fun z9 => w6 ((ti_eq rfl (by decide)).mpr z9)
              refine pb_iconst (pc := 59) (v := 0) d_Code_isRight_59 (by decide) ?_
              exact pb_iret (pc := 60) hQ d_Code_isRight_60 rfl rfl (0) ⟨rfl, (by (try dsimp only); first | done | (with_reducible assumption) | omega (splitDisjunctions := false) | assumption | omega | decide), (show cs_R sz.toInt fc fy L nL → (0 : Int32).toInt = rt_f L nL from (fun q9 => (rt_end (t := sz.toInt) (c := gx fc 1) (by omega) q9.2.1 (q9.1 1 (by omega) (by omega)) (by omega)).symm.trans (hR q9)))⟩ [0, 1, 2] (by decide) rfl rfl (by decide) (by decide)
            · have tw6 : i5.toInt = 1 := (ti_eq rfl (by decide)).mp w6
              refine pb_iconst (pc := 55) (v := 1) d_Code_isRight_55 (by decide) ?_
              refine pb_goto (pc := 56) (tgt := 60) d_Code_isRight_56 (by decide) ?_
              exact pb_iret (pc := 60) hQ d_Code_isRight_60 rfl rfl (1) ⟨rfl, (by (try dsimp only); first | done | (with_reducible assumption) | omega (splitDisjunctions := false) | assumption | omega | decide), (show cs_R sz.toInt fc fy L nL → (1 : Int32).toInt = rt_f L nL from (fun q9 => (rt_end (t := sz.toInt) (c := gx fc 1) (by omega) q9.2.1 (q9.1 1 (by omega) (by omega)) (by omega)).symm.trans (hR q9)))⟩ [0, 1, 2] (by decide) rfl rfl (by decide) (by decide)
      · have tw2 : ¬ 15 < m.toInt := fun z9 => w2 ((ti_lt (by decide) rfl).mpr z9)
        refine pb_iconst (pc := 10) (v := 2) d_Code_isRight_10 (by decide) ?_
        refine pb_iload_n (pc := 11) d_Code_isRight_11 0 rfl rfl ?_
        have q1 := hco.2.1 m.toInt (by omega) (by omega)
        have q2 := p2_s (k := m.toInt - 1) (m := m.toInt) (by omega) (by omega)
        have q3 := p2_le (k := m.toInt) (by omega)
        refine pb_imul (pc := 12) d_Code_isRight_12 ?_
        refine pb_topi (fun i7 ei7 => ?_)
        try have ti7 : i7.toInt = 2 * fr.toInt := ti_mul ei7 (by decide) rfl (by omega) (by omega)
        refine pb_aload_n (pc := 13) d_Code_isRight_13 2 rfl rfl ?_
        refine pb_get (pc := 14) d_Code_isRight_14 0 0 rfl rfl (by decide) in_Code k_226 rfl ?_
        refine pb_iload_n (pc := 17) d_Code_isRight_17 1 rfl rfl ?_
        refine pb_iald (pc := 18) d_Code_isRight_18 1 rfl (vp_in_iff.mpr (by constructor <;> omega)) ?_
        refine pb_topi (fun i8 ei8 => ?_)
        have ti8 : i8.toInt = gx fc (m.toInt) := gx_ld ei8 rfl
        have r8 := ti_rng i8
        refine pb_isub (pc := 19) d_Code_isRight_19 ?_
        refine pb_topi (fun i9 ei9 => ?_)
        try have ti9 : i9.toInt = i7.toInt - i8.toInt := ti_sub ei9 rfl rfl (by omega) (by omega)
        refine pb_istore_n (pc := 20) (lo' := [(1, .int i9), (2, .int m), (0, .ref h)]) d_Code_isRight_20 rfl (by decide) rfl ?_
        refine pb_iload_n (pc := 21) d_Code_isRight_21 0 rfl rfl ?_
        refine pb_if_ge (pc := 22) (tgt := 27) d_Code_isRight_22 (by decide) (fun w10 => ?_) (fun w10 => ?_)
        · have tw10 : 0 ≤ i9.toInt := (ti_le (by decide) rfl).mp w10
          refine pb_iincN (pc := 27) (c := 1) d_Code_isRight_27 1 rfl (by decide) (by decide) (fun i11 ei11 => ?_)
          have ti11 : i11.toInt = m.toInt + 1 := ti_add ei11 rfl (by decide) (by omega) (by omega)
          refine pb_eq (pc' := 30) (lo' := [(2, .int i11), (1, .int i9), (0, .ref h)]) (rest' := []) (ws' := [(h, .inr (1, [.ref c, .ref y, .int sz])), (c, .inl (G.2.2.1, 16, .inl fc)), (y, .inl (G.2.2.1, Ny, .inl fy))]) ?_
          refine pb_goto (pc := 30) (tgt := 4) d_Code_isRight_30 (by decide) ?_
          refine pb_re (ws' := [(h, .inr (1, [.ref c, .ref y, .int sz])), (c, .inl (G.2.2.1, 16, .inl fc)), (y, .inl (G.2.2.1, Ny, .inl fy))]) (lo' := [(1, .int i9), (2, .int i11), (0, .ref h)]) [0, 1, 2] [1, 0, 2] (by decide) rfl rfl rfl ?_
          exact ih4 i9 i11 (by first | (with_reducible assumption) | omega (splitDisjunctions := false) | assumption | omega | decide) (by first | (with_reducible assumption) | omega (splitDisjunctions := false) | assumption | omega | decide) (by first | (with_reducible assumption) | omega (splitDisjunctions := false) | assumption | omega | decide) (by rw [show i11.toInt - 1 = m.toInt by omega]; omega) (fun q9 => (rt_go (c := gx fc m.toInt) (by (exact omg_4b44cbffe3 tw2 ti11)) (q9.1 m.toInt (by omega) (by omega)) (by omega) (by omega) (by omega)).symm.trans (hR q9)) (by (exact omg_09b75e0929 hm9 tw2 ti11))
        · have tw10 : ¬ 0 ≤ i9.toInt := fun z9 => w10 ((ti_le (by decide) rfl).mpr z9)
          refine pb_iconst (pc := 25) (v := 0) d_Code_isRight_25 (by decide) ?_
          exact pb_iret (pc := 26) hQ d_Code_isRight_26 rfl rfl (0) ⟨rfl, (by (try dsimp only); first | done | (with_reducible assumption) | omega (splitDisjunctions := false) | assumption | omega | decide), (show cs_R sz.toInt fc fy L nL → (0 : Int32).toInt = rt_f L nL from (fun q9 => (rt_no (c := gx fc m.toInt) (by omega) (q9.1 m.toInt (by omega) (by omega)) (by omega) zl0).symm.trans (hR q9)))⟩ [0, 1, 2] (by decide) rfl rfl (by decide) (by decide)
  refine pb_re (ws' := [(h, .inr (1, [.ref c, .ref y, .int sz])), (c, .inl (G.2.2.1, 16, .inl fc)), (y, .inl (G.2.2.1, Ny, .inl fy))]) (lo' := [(1, .int 1), (2, .int 1), (0, .ref h)]) [0, 1, 2] [1, 0, 2] (by decide) rfl rfl rfl ?_
  exact hL4_1 _ 1 1 (by first | (with_reducible assumption) | omega (splitDisjunctions := false) | assumption | omega | decide) (by first | (with_reducible assumption) | omega (splitDisjunctions := false) | assumption | omega | decide) (by first | (with_reducible assumption) | omega (splitDisjunctions := false) | assumption | omega | decide) (by rw [zl1]; decide) (fun _ => by rw [zl1]; rfl) (Nat.lt_succ_self _)

theorem d_Expander_setAll_0 : decode prog_3_method_2_code 0 = .ok (.iload_n 1, 1) := by decide +kernel
theorem d_Expander_setAll_1 : decode prog_3_method_2_code 1 = .ok (.istore 4, 2) := by decide +kernel
theorem d_Expander_setAll_3 : decode prog_3_method_2_code 3 = .ok (.iload 4, 2) := by decide +kernel
theorem d_Expander_setAll_5 : decode prog_3_method_2_code 5 = .ok (.iload_n 2, 1) := by decide +kernel
theorem d_Expander_setAll_6 : decode prog_3_method_2_code 6 = .ok (.if_icmp .ge 14, 3) := by decide +kernel
theorem d_Expander_setAll_20 : decode prog_3_method_2_code 20 = .ok (.return_, 1) := by decide +kernel
theorem d_Expander_setAll_9 : decode prog_3_method_2_code 9 = .ok (.aload_n 0, 1) := by decide +kernel
theorem d_Expander_setAll_10 : decode prog_3_method_2_code 10 = .ok (.iload 4, 2) := by decide +kernel
theorem d_Expander_setAll_12 : decode prog_3_method_2_code 12 = .ok (.iload_n 3, 1) := by decide +kernel
theorem d_Expander_setAll_13 : decode prog_3_method_2_code 13 = .ok (.iastore, 1) := by decide +kernel
theorem d_Expander_setAll_14 : decode prog_3_method_2_code 14 = .ok (.iinc 4 1, 3) := by decide +kernel
theorem d_Expander_setAll_17 : decode prog_3_method_2_code 17 = .ok (.goto (-14), 3) := by decide +kernel
abbrev y_Expander_setAll : MethodName := ⟨"PackageBook$Expander", "setAll", "([IIII)V"⟩
abbrev i_Expander_setAll : pb_I := (y_Expander_setAll, prog_3_method_2_code, 5, (Option.none : Option Jvm.ClassFile.FieldType), [], { frames := 0, cells := 0, slots := 0, locals := 0 })
set_option maxRecDepth 100000 in
set_option maxHeartbeats 4000000 in
theorem g_Exp_setAll {l : Launch} (hl : l.stackTraces = false) (G : pb_G) (b : Nat) (N : Nat) (f : Nat → Int32) (from_ : Int32) (end_ : Int32) (v : Int32) (h0 : 0 ≤ from_.toInt) (h1 : end_.toInt ≤ N) (h2 : N ≤ 100000) : Cn l G i_Expander_setAll [.ref b, .int from_, .int end_, .int v] [(b, .inl (G.2.2.1, N, .inl f))] (S := (Nat → Int32)) (fun rv_ u => rv_ = none ∧ (∀ j : Int, 0 ≤ j → gx u j = if from_.toInt ≤ j ∧ j < end_.toInt then v.toInt else gx f j)) (fun u => [(b, .inl (G.2.2.1, N, .inl u))]) := by
  refine Cn.of hl (by decide +kernel) rfl (Nat.le_of_ble_eq_true rfl) (fun M hQ => ?_)
  refine pb_eq (pc' := 0) (lo' := [(0, .ref b), (1, .int from_), (2, .int end_), (3, .int v)]) (rest' := []) (ws' := [(b, .inl (G.2.2.1, N, .inl f))]) ?_
  have zl0 : (0 : Int32).toInt = 0 := by decide
  have zl1 : (1 : Int32).toInt = 1 := by decide
  refine pb_iload_n (pc := 0) d_Expander_setAll_0 1 rfl rfl ?_
  refine pb_istore (pc := 1) (lo' := [(4, .int from_), (0, .ref b), (1, .int from_), (2, .int end_), (3, .int v)]) d_Expander_setAll_1 (by decide) rfl ?_
  have hL3_1 : ∀ (N9 : Nat) (k : Int32) (g : Nat → Int32), (from_.toInt ≤ k.toInt) → (k.toInt ≤ end_.toInt ∨ k.toInt = from_.toInt) → (∀ j : Int, 0 ≤ j → gx g j = if from_.toInt ≤ j ∧ j < k.toInt then v.toInt else gx f j) → ((end_.toInt - k.toInt).toNat) < N9 → pb_P l G M i_Expander_setAll 3 [(4, .int k), (0, .ref b), (1, .int from_), (2, .int end_), (3, .int v)] [] [(b, .inl (G.2.2.1, N, .inl g))] 0 0 := by
    intro N9
    induction N9 with
    | zero => intro k g hk hk2 hg hm9; exact absurd hm9 (Nat.not_lt_zero _)
    | succ N9 ih3 =>
      intro k g hk hk2 hg hm9
      refine pb_iload (pc := 3) d_Expander_setAll_3 0 rfl ?_
      refine pb_iload_n (pc := 5) d_Expander_setAll_5 3 rfl rfl ?_
      refine pb_icmp_ge (pc := 6) (tgt := 20) d_Expander_setAll_6 (by decide) (fun w2 => ?_) (fun w2 => ?_)
      · have tw2 : end_.toInt ≤ k.toInt := (ti_le rfl rfl).mp w2
        exact pb_vret (pc := 20) hQ d_Expander_setAll_20 rfl (g) ⟨rfl, (show ∀ j : Int, 0 ≤ j → gx g j = if from_.toInt ≤ j ∧ j < end_.toInt then v.toInt else gx f j from (fun j hj => by rw [hg j hj]; (repeat' split) <;> first | rfl | omega))⟩ [0] (by decide) rfl rfl (by decide) (by decide)
      · have tw2 : ¬ end_.toInt ≤ k.toInt := fun z9 => w2 ((ti_le rfl rfl).mpr z9)
        refine pb_aload_n (pc := 9) d_Expander_setAll_9 1 rfl rfl ?_
        refine pb_iload (pc := 10) d_Expander_setAll_10 0 rfl ?_
        refine pb_iload_n (pc := 12) d_Expander_setAll_12 4 rfl rfl ?_
        refine pb_iast (pc := 13) (ws' := [(b, .inl (G.2.2.1, N, .inl (upd g ((k : Int32).toNatClampNeg) v)))]) d_Expander_setAll_13 0 rfl (vp_in_iff.mpr (by constructor <;> omega)) rfl ?_
        refine pb_iincN (pc := 14) (c := 1) d_Expander_setAll_14 0 rfl (by decide) (by decide) (fun i3 ei3 => ?_)
        have ti3 : i3.toInt = k.toInt + 1 := ti_add ei3 rfl (by decide) (by omega) (by omega)
        refine pb_eq (pc' := 17) (lo' := [(4, .int i3), (0, .ref b), (1, .int from_), (2, .int end_), (3, .int v)]) (rest' := []) (ws' := [(b, .inl (G.2.2.1, N, .inl (upd g ((k : Int32).toNatClampNeg) v)))]) ?_
        refine pb_goto (pc := 17) (tgt := 3) d_Expander_setAll_17 (by decide) ?_
        exact ih3 i3 (upd g ((k : Int32).toNatClampNeg) v) (by first | (with_reducible assumption) | omega (splitDisjunctions := false) | assumption | omega | decide) (by first | (with_reducible assumption) | omega (splitDisjunctions := false) | assumption | omega | decide) (fun j hj => by rw [gx_upd rfl j (by omega) hj, hg j hj]; (repeat' split) <;> first | rfl | omega) (by omega)
  exact hL3_1 _ from_ f (by first | (with_reducible assumption) | omega (splitDisjunctions := false) | assumption | omega | decide) (by first | (with_reducible assumption) | omega (splitDisjunctions := false) | assumption | omega | decide) (fun j hj => by rw [if_neg (by omega)]) (Nat.lt_succ_self _)
