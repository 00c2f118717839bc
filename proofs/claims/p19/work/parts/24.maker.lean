/-! ROWS OF NUMBERS -/
theorem omg_055b9d50e1 {x0 : Int} {x1 : Int} {x2 : Int} {x3 : Int} {x4 : Int} {x5 : Int} {x6 : Int} {x7 : Int} {x8 : Int} {x9 : Int} {x10 : Int} {x11 : Int} {x12 : Int} {x13 : Int} (a0 : ((x0 + (70 : Int)) ≤ (14006 : Int))) (a1 : (x1 = (26 : Int))) (a2 : ((x2 ≤ x3) ∧ ((x3 ≤ (x2 + (4000 : Int))) ∧ (((1 : Int) ≤ x4) ∧ (x4 ≤ (24 : Int)))))) (a3 : (x5 = (x0 + (4 : Int)))) (a4 : (x6 = (x5 + (2 : Int)))) (a5 : (x7 = (x6 + x1))) (a6 : (x8 = (x7 + (2 : Int)))) (a7 : (x9 = (x8 + (2 : Int)))) (a8 : (x10 = (x9 + (2 : Int)))) (a9 : (x11 = (x10 + (4 : Int)))) (a10 : (x12 = (x11 + (4 : Int)))) (a11 : (x13 = x4)) : ((x12 + x13) ≤ (((14006 : Nat) : Nat) : Int)) := by omega
theorem omg_be203c1c1f {x0 : Int} {x1 : Int} {x2 : Int} {x3 : Int} {x4 : Int} {x5 : Int} {x6 : Int} {x7 : Int} {x8 : Int} {x9 : Int} {x10 : Int} {x11 : Int} {x12 : Int} {x13 : Int} {x14 : Int} (a0 : (x0 = (26 : Int))) (a1 : ((x1 ≤ x2) ∧ ((x2 ≤ (x1 + (4000 : Int))) ∧ (((1 : Int) ≤ x3) ∧ (x3 ≤ (24 : Int)))))) (a2 : (x4 = (x5 + (4 : Int)))) (a3 : (x6 = (x4 + (2 : Int)))) (a4 : (x7 = (x6 + x0))) (a5 : (x8 = (x7 + (2 : Int)))) (a6 : (x9 = (x8 + (2 : Int)))) (a7 : (x10 = (x9 + (2 : Int)))) (a8 : (x11 = (x10 + (4 : Int)))) (a9 : (x12 = (x11 + (4 : Int)))) (a10 : (x13 = x3)) (a11 : (x14 = (x12 + x13))) : (x5 ≤ x14) := by omega
theorem omg_99b4580df8 {x0 : Int} {x1 : Int} {x2 : Int} (a0 : (x0 = x1)) (a1 : (x2 = x0)) : (x2 = x1) := by omega
theorem omg_0716e89b62 {x0 : Int} {x1 : Int} {x2 : Int} {x3 : Int} {x4 : Int} {x5 : Int} {x6 : Int} {x7 : Int} {x8 : Int} {x9 : Int} {x10 : Int} {x11 : Int} {x12 : Int} {x13 : Int} (a0 : (((x0 + (54 : Int)) + (x1 - x2)) ≤ (14006 : Int))) (a1 : ((x2 ≤ x1) ∧ ((x1 ≤ (x2 + (4000 : Int))) ∧ (((1 : Int) ≤ x3) ∧ (x3 ≤ (24 : Int)))))) (a2 : (x4 = (x0 + (4 : Int)))) (a3 : (x5 = (x4 + (2 : Int)))) (a4 : (x6 = (x5 + (2 : Int)))) (a5 : (x7 = (x6 + (2 : Int)))) (a6 : (x8 = (x7 + (2 : Int)))) (a7 : (x9 = (x8 + (2 : Int)))) (a8 : (x10 = (x9 + (4 : Int)))) (a9 : (x11 = (x10 + (4 : Int)))) (a10 : (x12 = (x11 + (4 : Int)))) (a11 : (x13 = (x12 + (2 : Int)))) : ((x13 + (2 : Int)) ≤ (((14006 : Nat) : Nat) : Int)) := by omega
theorem omg_8970a99139 {x0 : Int} {x1 : Int} {x2 : Int} {x3 : Int} {x4 : Int} {x5 : Int} {x6 : Int} {x7 : Int} {x8 : Int} {x9 : Int} {x10 : Int} {x11 : Int} {x12 : Int} {x13 : Int} {x14 : Int} {x15 : Int} (a0 : (((x0 + (54 : Int)) + (x1 - x2)) ≤ (14006 : Int))) (a1 : ((x2 ≤ x1) ∧ ((x1 ≤ (x2 + (4000 : Int))) ∧ (((1 : Int) ≤ x3) ∧ (x3 ≤ (24 : Int)))))) (a2 : (x4 = (x0 + (4 : Int)))) (a3 : (x5 = (x4 + (2 : Int)))) (a4 : (x6 = (x5 + (2 : Int)))) (a5 : (x7 = (x6 + (2 : Int)))) (a6 : (x8 = (x7 + (2 : Int)))) (a7 : (x9 = (x8 + (2 : Int)))) (a8 : (x10 = (x9 + (4 : Int)))) (a9 : (x11 = (x10 + (4 : Int)))) (a10 : (x12 = (x11 + (4 : Int)))) (a11 : (x13 = (x12 + (2 : Int)))) (a12 : (x14 = (x13 + (2 : Int)))) (a13 : (x15 = x3)) : ((x14 + x15) ≤ (((14006 : Nat) : Nat) : Int)) := by omega
theorem omg_607c2444b7 {x0 : Int} {x1 : Int} {x2 : Int} {x3 : Int} {x4 : Int} {x5 : Int} {x6 : Int} {x7 : Int} {x8 : Int} {x9 : Int} {x10 : Int} {x11 : Int} (a0 : ((0 : Int) ≤ x0)) (a1 : (x1 = (x0 + (4 : Int)))) (a2 : (x2 = (x1 + (2 : Int)))) (a3 : (x3 = (x2 + (2 : Int)))) (a4 : (x4 = (x3 + (2 : Int)))) (a5 : (x5 = (x4 + (2 : Int)))) (a6 : (x6 = (x5 + (2 : Int)))) (a7 : (x7 = (x6 + (4 : Int)))) (a8 : (x8 = (x7 + (4 : Int)))) (a9 : (x9 = (x8 + (4 : Int)))) (a10 : (x10 = (x9 + (2 : Int)))) (a11 : (x11 = (x10 + (2 : Int)))) : ((0 : Int) ≤ x11) := by omega
theorem omg_dbfc67ef73 {x0 : Int} {x1 : Int} {x2 : Int} {x3 : Int} {x4 : Int} {x5 : Int} {x6 : Int} {x7 : Int} {x8 : Int} {x9 : Int} {x10 : Int} {x11 : Int} {x12 : Int} {x13 : Int} {x14 : Int} {x15 : Int} {x16 : Int} {x17 : Int} (a0 : (((x0 + (54 : Int)) + (x1 - x2)) ≤ (14006 : Int))) (a1 : ((x2 ≤ x1) ∧ ((x1 ≤ (x2 + (4000 : Int))) ∧ (((1 : Int) ≤ x3) ∧ (x3 ≤ (24 : Int)))))) (a2 : (x4 = (x1 - x2))) (a3 : (x5 = (x0 + (4 : Int)))) (a4 : (x6 = (x5 + (2 : Int)))) (a5 : (x7 = (x6 + (2 : Int)))) (a6 : (x8 = (x7 + (2 : Int)))) (a7 : (x9 = (x8 + (2 : Int)))) (a8 : (x10 = (x9 + (2 : Int)))) (a9 : (x11 = (x10 + (4 : Int)))) (a10 : (x12 = (x11 + (4 : Int)))) (a11 : (x13 = (x12 + (4 : Int)))) (a12 : (x14 = (x13 + (2 : Int)))) (a13 : (x15 = (x14 + (2 : Int)))) (a14 : (x16 = x3)) (a15 : (x17 = (x15 + x16))) : ((x17 + x4) ≤ (((14006 : Nat) : Nat) : Int)) := by omega
theorem omg_2400f8bda4 {x0 : Int} {x1 : Int} {x2 : Int} {x3 : Int} {x4 : Int} {x5 : Int} {x6 : Int} {x7 : Int} {x8 : Int} {x9 : Int} {x10 : Int} {x11 : Int} {x12 : Int} {x13 : Int} {x14 : Int} {x15 : Int} {x16 : Int} (a0 : ((0 : Int) ≤ x0)) (a1 : ((x1 ≤ x2) ∧ ((x2 ≤ (x1 + (4000 : Int))) ∧ (((1 : Int) ≤ x3) ∧ (x3 ≤ (24 : Int)))))) (a2 : (x4 = (x0 + (4 : Int)))) (a3 : (x5 = (x4 + (2 : Int)))) (a4 : (x6 = (x5 + (2 : Int)))) (a5 : (x7 = (x6 + (2 : Int)))) (a6 : (x8 = (x7 + (2 : Int)))) (a7 : (x9 = (x8 + (2 : Int)))) (a8 : (x10 = (x9 + (4 : Int)))) (a9 : (x11 = (x10 + (4 : Int)))) (a10 : (x12 = (x11 + (4 : Int)))) (a11 : (x13 = (x12 + (2 : Int)))) (a12 : (x14 = (x13 + (2 : Int)))) (a13 : (x15 = x3)) (a14 : (x16 = (x14 + x15))) : ((0 : Int) ≤ x16) := by omega
theorem omg_0b60e4f8a6 {x0 : Int} {x1 : Int} {x2 : Int} {x3 : Int} {x4 : Int} {x5 : Int} {x6 : Int} {x7 : Int} {x8 : Int} {x9 : Int} {x10 : Int} {x11 : Int} {x12 : Int} {x13 : Int} {x14 : Int} {x15 : Int} {x16 : Int} {x17 : Int} {x18 : Int} (a0 : ((x0 ≤ x1) ∧ ((x1 ≤ (x0 + (4000 : Int))) ∧ (((1 : Int) ≤ x2) ∧ (x2 ≤ (24 : Int)))))) (a1 : (x3 = (x1 - x0))) (a2 : (x4 = (x5 + (4 : Int)))) (a3 : (x6 = (x4 + (2 : Int)))) (a4 : (x7 = (x6 + (2 : Int)))) (a5 : (x8 = (x7 + (2 : Int)))) (a6 : (x9 = (x8 + (2 : Int)))) (a7 : (x10 = (x9 + (2 : Int)))) (a8 : (x11 = (x10 + (4 : Int)))) (a9 : (x12 = (x11 + (4 : Int)))) (a10 : (x13 = (x12 + (4 : Int)))) (a11 : (x14 = (x13 + (2 : Int)))) (a12 : (x15 = (x14 + (2 : Int)))) (a13 : (x16 = x2)) (a14 : (x17 = (x15 + x16))) (a15 : (x18 = (x17 + x3))) : (x18 ≤ ((x5 + (54 : Int)) + (x1 - x0))) := by omega
theorem omg_f2858e9f71 {x0 : Int} {x1 : Int} {x2 : Int} {x3 : Int} {x4 : Int} {x5 : Int} {x6 : Int} {x7 : Int} {x8 : Int} {x9 : Int} {x10 : Int} {x11 : Int} {x12 : Int} {x13 : Int} {x14 : Int} {x15 : Int} {x16 : Int} {x17 : Int} {x18 : Int} (a0 : ((x0 ≤ x1) ∧ ((x1 ≤ (x0 + (4000 : Int))) ∧ (((1 : Int) ≤ x2) ∧ (x2 ≤ (24 : Int)))))) (a1 : (x3 = (x1 - x0))) (a2 : (x4 = (x5 + (4 : Int)))) (a3 : (x6 = (x4 + (2 : Int)))) (a4 : (x7 = (x6 + (2 : Int)))) (a5 : (x8 = (x7 + (2 : Int)))) (a6 : (x9 = (x8 + (2 : Int)))) (a7 : (x10 = (x9 + (2 : Int)))) (a8 : (x11 = (x10 + (4 : Int)))) (a9 : (x12 = (x11 + (4 : Int)))) (a10 : (x13 = (x12 + (4 : Int)))) (a11 : (x14 = (x13 + (2 : Int)))) (a12 : (x15 = (x14 + (2 : Int)))) (a13 : (x16 = x2)) (a14 : (x17 = (x15 + x16))) (a15 : (x18 = (x17 + x3))) : (x5 ≤ x18) := by omega
theorem omg_407dca8c26 {x0 : Int} {x1 : Int} {x2 : Int} {x3 : Int} {x4 : Int} {x5 : Int} {x6 : Int} {x7 : Int} {x8 : Int} {x9 : Int} {x10 : Int} {x11 : Int} {x12 : Int} {x13 : Int} {x14 : Int} {x15 : Int} {x16 : Int} {x17 : Int} {x18 : Int} (a0 : (((x0 + (54 : Int)) + (x1 - x2)) ≤ (14006 : Int))) (a1 : ((x2 ≤ x1) ∧ ((x1 ≤ (x2 + (4000 : Int))) ∧ (((1 : Int) ≤ x3) ∧ (x3 ≤ (24 : Int)))))) (a2 : (x4 = (x1 - x2))) (a3 : (¬ (x4 ≤ x5))) (a4 : (x6 = (x0 + (4 : Int)))) (a5 : (x7 = (x6 + (2 : Int)))) (a6 : (x8 = (x7 + (2 : Int)))) (a7 : (x9 = (x8 + (2 : Int)))) (a8 : (x10 = (x9 + (2 : Int)))) (a9 : (x11 = (x10 + (2 : Int)))) (a10 : (x12 = (x11 + (4 : Int)))) (a11 : (x13 = (x12 + (4 : Int)))) (a12 : (x14 = (x13 + (4 : Int)))) (a13 : (x15 = (x14 + (2 : Int)))) (a14 : (x16 = (x15 + (2 : Int)))) (a15 : (x17 = x3)) (a16 : (x18 = (x16 + x17))) : ((x18 + x5) ≤ (((14006 : Nat) : Nat) : Int)) := by omega
theorem omg_06778f34a9 {x0 : Int} {x1 : Int} {x2 : Int} {x3 : Int} {x4 : Int} {x5 : Int} {x6 : Int} {x7 : Int} {x8 : Int} {x9 : Int} {x10 : Int} {x11 : Int} {x12 : Int} {x13 : Int} {x14 : Int} {x15 : Int} {x16 : Int} {x17 : Int} {x18 : Int} {x19 : Int} (a0 : ((x0 ≤ x1) ∧ ((x1 ≤ (x0 + (4000 : Int))) ∧ (((1 : Int) ≤ x2) ∧ (x2 ≤ (24 : Int)))))) (a1 : (x3 = (x1 - x0))) (a2 : (¬ (x3 ≤ x4))) (a3 : (x5 = (x6 + (4 : Int)))) (a4 : (x7 = (x5 + (2 : Int)))) (a5 : (x8 = (x7 + (2 : Int)))) (a6 : (x9 = (x8 + (2 : Int)))) (a7 : (x10 = (x9 + (2 : Int)))) (a8 : (x11 = (x10 + (2 : Int)))) (a9 : (x12 = (x11 + (4 : Int)))) (a10 : (x13 = (x12 + (4 : Int)))) (a11 : (x14 = (x13 + (4 : Int)))) (a12 : (x15 = (x14 + (2 : Int)))) (a13 : (x16 = (x15 + (2 : Int)))) (a14 : (x17 = x2)) (a15 : (x18 = (x16 + x17))) (a16 : (x19 = (x18 + x4))) : (x19 ≤ ((x6 + (54 : Int)) + (x1 - x0))) := by omega
theorem omg_9134f4bced {x0 : Int} {x1 : Int} {x2 : Int} {x3 : Int} {x4 : Int} {x5 : Nat} {x6 : Int} {x7 : Int} {x8 : Int} {x9 : Int} {x10 : Int} {x11 : Int} {x12 : Int} {x13 : Int} {x14 : Int} {x15 : Int} {x16 : Int} {x17 : Int} {x18 : Int} {x19 : Int} {x20 : Int} (a0 : ((x0 ≤ x1) ∧ ((x1 ≤ (x0 + (4000 : Int))) ∧ (((1 : Int) ≤ x2) ∧ (x2 ≤ (24 : Int)))))) (a1 : (x3 = x4)) (a2 : (x3 = ((x5 : Nat) : Int))) (a3 : (x6 = (x7 + (4 : Int)))) (a4 : (x8 = (x6 + (2 : Int)))) (a5 : (x9 = (x8 + (2 : Int)))) (a6 : (x10 = (x9 + (2 : Int)))) (a7 : (x11 = (x10 + (2 : Int)))) (a8 : (x12 = (x11 + (2 : Int)))) (a9 : (x13 = (x12 + (4 : Int)))) (a10 : (x14 = (x13 + (4 : Int)))) (a11 : (x15 = (x14 + (4 : Int)))) (a12 : (x16 = (x15 + (2 : Int)))) (a13 : (x17 = (x16 + (2 : Int)))) (a14 : (x18 = x2)) (a15 : (x19 = (x17 + x18))) (a16 : (x20 = (x19 + x4))) : (x7 ≤ x20) := by omega
theorem omg_52b1024fe2 {x0 : Int} {x1 : Int} (a0 : (x0 ≤ x1)) (a1 : (x1 ≤ x0)) : ((Int.toNat x0) = (Int.toNat x1)) := by omega
theorem omg_5eb2dff31e {x0 : Int} {x1 : Int} (a0 : ((0 : Int) ≤ x0)) (a1 : (¬ (x1 ≤ x0))) : ((Int.toNat x0) < (Int.toNat x1)) := by omega
/-- the parts' bytes -/
def NL_ (V : VW_) (i : Int) : List Int32 := (List.range (vZ V i).toNat).map (fun (k : Nat) => Int32.ofInt (vN V i (k : Int)))
def DL_ (V : VW_) (i : Int) : List Int32 := (List.range (vS V i).toNat).map (fun (k : Nat) => vD V i (k : Int))
def sD_ (V : VW_) (i : Int) : Int → Int32 := fun j => if 0 ≤ j ∧ j < vS V i then vD V i j else 0
theorem NL_bl {f : Nat → Int32} {V : VW_} {i y n : Int} (e : n = vZ V i) (h : ∀ k : Int, 0 ≤ k → k < vZ V i → gx f (y + k) = vN V i k) : bl_ f y n = NL_ V i := by
  subst e
  refine mp_ext (α := Nat) (fun k hk => ?_)
  rw [← h (k : Int) (by omega) (by omega)]
  show gr f (y + (k : Int)) = Int32.ofInt (gr f (y + (k : Int))).toInt
  rw [Int32.ofInt_toInt]
theorem DL_bl {f : Nat → Int32} {V : VW_} {i y n : Int} (e : n = vS V i) (h : ∀ k : Int, 0 ≤ k → k < vS V i → gr f (y + k) = vD V i k) : bl_ f y n = DL_ V i := by
  subst e
  refine mp_ext (α := Nat) (fun k hk => ?_)
  exact h (k : Int) (by omega) (by omega)
theorem sD_sq {f : Nat → Int32} {V : VW_} {i y n : Int} (e : n = vS V i) (h : ∀ k : Int, 0 ≤ k → k < vS V i → gr f (y + k) = vD V i k) : sq f y n = sD_ V i := by
  subst e
  funext j
  unfold sq sD_
  by_cases c : 0 ≤ j ∧ j < vS V i
  · rw [if_pos c, if_pos c, h j c.1 c.2]
  · rw [if_neg c, if_neg c]
def PR_ (a : Int → Int32) (n : Int) (P : List Int32) : Prop := ∃ f : Nat → Int32, pF_ a n f (P.length : Int) ∧ P = bl_ f 0 (P.length : Int)
theorem PR_of {a : Int → Int32} {n z : Int} {f : Nat → Int32} (h : pF_ a n f z) (z0 : 0 ≤ z) : PR_ a n (bl_ f 0 z) := by
  have e : ((bl_ f 0 z).length : Int) = z := by
    rw [bl_len]
    omega
  refine ⟨f, ?_, ?_⟩
  · rw [e]
    exact h
  · rw [e]
theorem PR_u {a : Int → Int32} {n : Int} {P Q : List Int32} (h : PR_ a n P) (k : PR_ a n Q) : P = Q := by
  obtain ⟨f, h1, h2⟩ := h
  obtain ⟨g, k1, k2⟩ := k
  obtain ⟨u1, u2⟩ := pF_u h1 k1
  rw [h2, k2]
  exact bl_cg u1 (fun j j0 j1 => by
    rw [Int.zero_add]
    exact u2 j j0 j1)
def su_ (V : VW_) (i : Int) : Int := (cw_ (vD V i) (vS V i).toNat ^^^ (-1)).toInt
def mt_ (V : VW_) (i : Int) (P : List Int32) : Int := if (P.length : Int) < vS V i then 8 else 0
def hr_ (V : VW_) (i : Int) (P : List Int32) : Int := if (P.length : Int) < vS V i then (P.length : Int) else vS V i
/-- what record and entry both say; the twenty bytes of it that the reference takes out of the record -/
def s20_ (V : VW_) (i : Int) (P : List Int32) : List Int32 := nk_ (mt_ V i P) 2 ++ nk_ 0 2 ++ nk_ 33 2 ++ nk_ (su_ V i) 4 ++ nk_ (hr_ V i P) 4 ++ nk_ (vS V i) 4 ++ nk_ (vZ V i) 2
def sh_ (V : VW_) (i : Int) (P : List Int32) : List Int32 := nk_ 20 2 ++ nk_ 0 2 ++ s20_ V i P ++ nk_ 0 2
theorem s20_len (V : VW_) (i : Int) (P : List Int32) : (s20_ V i P).length = 20 := by
  unfold s20_
  rw [List.length_append, List.length_append, List.length_append, List.length_append, List.length_append, List.length_append, nk_len, nk_len, nk_len, nk_len, nk_len, nk_len, nk_len]
theorem sh_len (V : VW_) (i : Int) (P : List Int32) : (sh_ V i P).length = 26 := by
  unfold sh_
  rw [List.length_append, List.length_append, List.length_append, nk_len, nk_len, s20_len]
def bd_ (V : VW_) (i : Int) (P : List Int32) : List Int32 := if (P.length : Int) < vS V i then P else DL_ V i
def rc_ (V : VW_) (i : Int) (P : List Int32) : List Int32 := nk_ 67324752 4 ++ sh_ V i P ++ NL_ V i ++ bd_ V i P
def en_L (V : VW_) (i : Int) (P : List Int32) (w : Int) : List Int32 := nk_ 33639248 4 ++ nk_ 20 2 ++ sh_ V i P ++ nk_ 0 2 ++ nk_ 0 2 ++ nk_ 0 2 ++ nk_ 0 4 ++ nk_ w 4 ++ NL_ V i
def fE_ (c d w : Int) : List Int32 := nk_ 101010256 4 ++ nk_ 0 2 ++ nk_ 0 2 ++ nk_ c 2 ++ nk_ c 2 ++ nk_ d 4 ++ nk_ w 4 ++ nk_ 0 2
def fL_ (V : VW_) : Nat → List Int32 → List Int32 → Prop
  | 0, F, D => F = [] ∧ D = []
  | i + 1, F, D => ∃ (F1 D1 P : List Int32), fL_ V i F1 D1 ∧ PR_ (sD_ V (i : Int)) (vS V (i : Int)) P ∧ F = F1 ++ rc_ V (i : Int) P ∧ D = D1 ++ en_L V (i : Int) P (F1.length : Int)
theorem fL_u {V : VW_} : ∀ (i : Nat) {F D F' D' : List Int32}, fL_ V i F D → fL_ V i F' D' → F = F' ∧ D = D'
  | 0, _, _, _, _, h, k => ⟨h.1.trans k.1.symm, h.2.trans k.2.symm⟩
  | i + 1, _, _, _, _, ⟨F1, D1, P, h1, h2, h3, h4⟩, ⟨F2, D2, Q, k1, k2, k3, k4⟩ => by
    obtain ⟨u1, u2⟩ := fL_u i h1 k1
    have u3 := PR_u h2 k2
    subst u1 u2 u3
    exact ⟨h3.trans k3.symm, h4.trans k4.symm⟩
theorem fL_s {V : VW_} {i i2 w : Int} {F D F2 D2 P : List Int32} (h : fL_ V i.toNat F D) (i0 : 0 ≤ i) (hi : i2 = i + 1) (p : PR_ (sD_ V i) (vS V i) P) (hw : w = (F.length : Int)) (e1 : F2 = F ++ rc_ V i P) (e2 : D2 = D ++ en_L V i P w) : fL_ V i2.toNat F2 D2 := by
  rw [show i2.toNat = i.toNat + 1 by omega]
  have e : ((i.toNat : Nat) : Int) = i := by omega
  refine ⟨F, D, P, h, ?_, ?_, ?_⟩
  · rw [e]
    exact p
  · rw [e]
    exact e1
  · rw [e, ← hw]
    exact e2
def FI_ (V : VW_) (K : List Int32) : Prop := ∃ F D : List Int32, fL_ V (vC V).toNat F D ∧ K = F ++ D ++ fE_ (vC V) (D.length : Int) (F.length : Int)
theorem FI_u {V : VW_} {K L : List Int32} (h : FI_ V K) (k : FI_ V L) : K = L := by
  obtain ⟨F, D, h1, h2⟩ := h
  obtain ⟨G, E, k1, k2⟩ := k
  obtain ⟨u1, u2⟩ := fL_u _ h1 k1
  subst u1 u2
  exact h2.trans k2.symm
/-- a row that has these bytes -/
def fw_ (f : Nat → Int32) (s : Int) (K : List Int32) : Prop := s = (K.length : Int) ∧ ∀ k : Nat, k < K.length → K[k]? = some (gr f (k : Int))
theorem fw_ap {f g : Nat → Int32} {s t : Int} {K L : List Int32} (h : fw_ f s K) (a : ap_ f s g t L) : fw_ g t (K ++ L) := by
  obtain ⟨h1, h2⟩ := h
  obtain ⟨a1, a2, a3⟩ := a
  refine ⟨by rw [List.length_append, Int.natCast_add]; omega, fun k hk => ?_⟩
  rw [List.length_append] at hk
  by_cases c : k < K.length
  · rw [List.getElem?_append_left c, h2 k c, a2 _ (by omega) (by omega)]
  · rw [List.getElem?_append_right (by omega), a3 (k - K.length) (by omega)]
    exact congrArg (fun z => some (gr g z)) (by omega)
theorem fw_nil {f : Nat → Int32} {s : Int} (h : s = 0) : fw_ f s [] := ⟨h, fun k hk => absurd hk (Nat.not_lt_zero k)⟩
theorem fw_rl {f g : Nat → Int32} {s t : Int} {K : List Int32} (h : fw_ f s K) (k : fw_ g t K) : s = t ∧ rl_B f g s := by
  refine ⟨h.1.trans k.1.symm, fun j j0 j1 => ?_⟩
  have q := h.1
  have e1 := h.2 j.toNat (by omega)
  have e2 := k.2 j.toNat (by omega)
  rw [show ((j.toNat : Nat) : Int) = j by omega] at e1 e2
  exact Option.some.inj (e1.symm.trans e2)
/-- a piece of a row, taken out -/
theorem bl_sub {f : Nat → Int32} {s y n : Int} {K A B C : List Int32} (h : fw_ f s K) (e : K = A ++ (B ++ C)) (hy : y = (A.length : Int)) (hn : n = (B.length : Int)) : bl_ f y n = B := by
  subst e hy hn
  refine List.ext_getElem? (fun k => ?_)
  by_cases c : k < B.length
  · have q := h.2 (A.length + k) (by rw [List.length_append, List.length_append]; omega)
    rw [List.getElem?_append_right (by omega), show A.length + k - A.length = k by omega, List.getElem?_append_left c] at q
    rw [bl_get (by omega), q]
    exact congrArg (fun z => some (gr f z)) (by omega)
  · rw [List.getElem?_eq_none (by rw [bl_len]; omega), List.getElem?_eq_none (by omega)]
/-- every part's record stands in the file -/
theorem fL_in {V : VW_} : ∀ (n : Nat) {F D : List Int32}, fL_ V n F D → ∀ i : Nat, i < n → ∃ F1 D1 P T : List Int32, fL_ V i F1 D1 ∧ PR_ (sD_ V (i : Int)) (vS V (i : Int)) P ∧ F = F1 ++ (rc_ V (i : Int) P ++ T)
  | 0, _, _, _, i, hi => absurd hi (Nat.not_lt_zero i)
  | n + 1, _, _, ⟨F1, D1, P, h1, h2, h3, h4⟩, i, hi => by
    by_cases c : i = n
    · subst c
      exact ⟨F1, D1, P, [], h1, h2, by rw [List.append_nil]; exact h3⟩
    · obtain ⟨F2, D2, Q, T, k1, k2, k3⟩ := fL_in n h1 i (by omega)
      exact ⟨F2, D2, Q, T ++ rc_ V (n : Int) P, k1, k2, by rw [h3, k3]; simp only [List.append_assoc]⟩
theorem rc_E {V : VW_} {i m su hr s z k1 k2 k3 k4 k5 k6 : Int} {P N B : List Int32} (h1 : k1 = 67324752) (h2 : k2 = 20) (h3 : k3 = 0) (em : m = mt_ V i P) (h4 : k4 = 0) (h5 : k5 = 33) (es : su = su_ V i) (eh : hr = hr_ V i P) (e1 : s = vS V i) (e2 : z = vZ V i) (h6 : k6 = 0) (eN : N = NL_ V i) (eB : B = bd_ V i P) : [] ++ nk_ k1 4 ++ nk_ k2 2 ++ nk_ k3 2 ++ nk_ m 2 ++ nk_ k4 2 ++ nk_ k5 2 ++ nk_ su 4 ++ nk_ hr 4 ++ nk_ s 4 ++ nk_ z 2 ++ nk_ k6 2 ++ N ++ B = rc_ V i P := by
  subst h1 h2 h3 em h4 h5 es eh e1 e2 h6 eN eB
  unfold rc_ sh_ s20_
  simp only [List.append_assoc, List.nil_append]
theorem rc_len (V : VW_) (i : Int) (P : List Int32) : 30 ≤ (rc_ V i P).length := by
  unfold rc_
  rw [List.length_append, List.length_append, List.length_append, nk_len, sh_len]
  omega
theorem en_E {V : VW_} {i w k1 k2 k3 k4 k5 k6 : Int} {P N S : List Int32} (h1 : k1 = 33639248) (h2 : k2 = 20) (eS : S = sh_ V i P) (h3 : k3 = 0) (h4 : k4 = 0) (h5 : k5 = 0) (h6 : k6 = 0) (eN : N = NL_ V i) : [] ++ nk_ k1 4 ++ nk_ k2 2 ++ S ++ nk_ k3 2 ++ nk_ k4 2 ++ nk_ k5 2 ++ nk_ k6 4 ++ nk_ w 4 ++ N = en_L V i P w := by
  subst h1 h2 eS h3 h4 h5 h6 eN
  unfold en_L
  simp only [List.append_assoc, List.nil_append]
theorem fE_E {c d w k1 k2 k3 k4 : Int} (h1 : k1 = 101010256) (h2 : k2 = 0) (h3 : k3 = 0) (h4 : k4 = 0) : [] ++ nk_ k1 4 ++ nk_ k2 2 ++ nk_ k3 2 ++ nk_ c 2 ++ nk_ c 2 ++ nk_ d 4 ++ nk_ w 4 ++ nk_ k4 2 = fE_ c d w := by
  subst h1 h2 h3 h4
  unfold fE_
  simp only [List.append_assoc, List.nil_append]
theorem mt_y {V : VW_} {i m p : Int} {P : List Int32} (hp : p = (P.length : Int)) (h : p < vS V i) (hm : m = 8) : m = mt_ V i P := by
  unfold mt_
  rw [if_pos (by omega)]
  exact hm
theorem mt_n {V : VW_} {i m p : Int} {P : List Int32} (hp : p = (P.length : Int)) (h : ¬ p < vS V i) (hm : m = 0) : m = mt_ V i P := by
  unfold mt_
  rw [if_neg (by omega)]
  exact hm
theorem hr_y {V : VW_} {i m p : Int} {P : List Int32} (hp : p = (P.length : Int)) (h : p < vS V i) (hm : m = p) : m = hr_ V i P := by
  unfold hr_
  rw [if_pos (by omega)]
  omega
theorem hr_n {V : VW_} {i m p : Int} {P : List Int32} (hp : p = (P.length : Int)) (h : ¬ p < vS V i) (hm : m = vS V i) : m = hr_ V i P := by
  unfold hr_
  rw [if_neg (by omega)]
  exact hm
theorem bd_y {V : VW_} {i p : Int} {P B : List Int32} (hp : p = (P.length : Int)) (h : p < vS V i) (hm : B = P) : B = bd_ V i P := by
  unfold bd_
  rw [if_pos (by omega)]
  exact hm
theorem bd_n {V : VW_} {i p : Int} {P B : List Int32} (hp : p = (P.length : Int)) (h : ¬ p < vS V i) (hm : B = DL_ V i) : B = bd_ V i P := by
  unfold bd_
  rw [if_neg (by omega)]
  exact hm
theorem su_E {V : VW_} {i y n : Int} {f : Nat → Int32} {s : Int32} (e : s = cr_n f y n.toNat ^^^ (-1)) (en : n = vS V i) (h : ∀ k : Int, 0 ≤ k → k < vS V i → gr f (y + k) = vD V i k) (n0 : 0 ≤ n) : s.toInt = su_ V i := by
  subst en
  unfold su_
  rw [e, cr_cw (d := vD V i) _ (fun j j0 j1 => h j j0 (by omega))]
theorem sh_bl {V : VW_} {f : Nat → Int32} {s y i : Int} {K F D T P : List Int32} (h : fw_ f s (K ++ D)) (e : K = F ++ (rc_ V i P ++ T)) (hy : y = (F.length : Int) + 4) : bl_ f y 26 = sh_ V i P ∧ y + 26 ≤ s := by
  constructor
  · refine bl_sub (A := F ++ nk_ 67324752 4) (B := sh_ V i P) (C := NL_ V i ++ (bd_ V i P ++ (T ++ D))) h ?_ ?_ ?_
    · rw [e]
      unfold rc_
      simp only [List.append_assoc]
    · rw [List.length_append, nk_len]
      omega
    · rw [sh_len]
      rfl
  · have q := h.1
    have l := rc_len V i P
    rw [e, List.length_append, List.length_append, List.length_append] at q
    omega

theorem d_FileMaker_putEnd_0 : decode prog_4_method_5_code 0 = .ok (.aload_n 0, 1) := by decide +kernel
theorem d_FileMaker_putEnd_1 : decode prog_4_method_5_code 1 = .ok (.getfield 14, 3) := by decide +kernel
theorem d_FileMaker_putEnd_4 : decode prog_4_method_5_code 4 = .ok (.getfield 24, 3) := by decide +kernel
theorem k_163 : (Jvm.Cond.fieldLinkNest "PackageBook$FileMaker" (24 : Nat) "PackageBook$Row" "size" "I" "PackageBook") ∈ uN := uN_of 163 (by decide +kernel) (by decide +kernel)
theorem d_FileMaker_putEnd_7 : decode prog_4_method_5_code 7 = .ok (.iload_n 2, 1) := by decide +kernel
theorem d_FileMaker_putEnd_8 : decode prog_4_method_5_code 8 = .ok (.isub, 1) := by decide +kernel
theorem d_FileMaker_putEnd_9 : decode prog_4_method_5_code 9 = .ok (.istore_n 3, 1) := by decide +kernel
theorem d_FileMaker_putEnd_10 : decode prog_4_method_5_code 10 = .ok (.aload_n 0, 1) := by decide +kernel
theorem d_FileMaker_putEnd_11 : decode prog_4_method_5_code 11 = .ok (.getfield 14, 3) := by decide +kernel
theorem d_FileMaker_putEnd_14 : decode prog_4_method_5_code 14 = .ok (.ldc 87, 2) := by decide +kernel
theorem k_575 : (Jvm.Cond.constant "PackageBook$FileMaker" (87 : Nat) (101010256 : Int32)) ∈ uW := uW_of 575 (by decide +kernel) (by decide +kernel)
theorem d_FileMaker_putEnd_16 : decode prog_4_method_5_code 16 = .ok (.invokevirtual 66, 3) := by decide +kernel
theorem k_544 : (Jvm.Cond.methodLink "PackageBook$FileMaker" (66 : Nat) ({ cls := "PackageBook$Row", name := "putFour", desc := "(I)V" } : Jvm.MethodName)) ∈ uW := uW_of 544 (by decide +kernel) (by decide +kernel)
theorem k_547 : (Jvm.Cond.code ({ cls := "PackageBook$Row", name := "putFour", desc := "(I)V" } : Jvm.MethodName) prog_9_method_4_code (2 : Nat) (Option.none : Option Jvm.ClassFile.FieldType)) ∈ uW := uW_of 547 (by decide +kernel) (by decide +kernel)
theorem k_545 : (Jvm.Cond.instanceMethod ({ cls := "PackageBook$Row", name := "putFour", desc := "(I)V" } : Jvm.MethodName)) ∈ uW := uW_of 545 (by decide +kernel) (by decide +kernel)
theorem k_546 : (Jvm.Cond.selects "PackageBook$Row" ({ cls := "PackageBook$Row", name := "putFour", desc := "(I)V" } : Jvm.MethodName) ({ cls := "PackageBook$Row", name := "putFour", desc := "(I)V" } : Jvm.MethodName)) ∈ uW := uW_of 546 (by decide +kernel) (by decide +kernel)
theorem hy_Row_putFour : (y_Row_putFour).cls ≠ "java/lang/invoke/MethodHandle" ∧ (y_Row_putFour).cls ≠ "java/lang/invoke/VarHandle" ∧ (parseMethodDescriptor (y_Row_putFour).desc).map (fun d => d.parameters.length) = some 1 := by decide +kernel
theorem d_FileMaker_putEnd_19 : decode prog_4_method_5_code 19 = .ok (.aload_n 0, 1) := by decide +kernel
theorem d_FileMaker_putEnd_20 : decode prog_4_method_5_code 20 = .ok (.getfield 14, 3) := by decide +kernel
theorem d_FileMaker_putEnd_23 : decode prog_4_method_5_code 23 = .ok (.iconst 0, 1) := by decide +kernel
theorem d_FileMaker_putEnd_24 : decode prog_4_method_5_code 24 = .ok (.invokevirtual 69, 3) := by decide +kernel
theorem k_556 : (Jvm.Cond.methodLink "PackageBook$FileMaker" (69 : Nat) ({ cls := "PackageBook$Row", name := "putTwo", desc := "(I)V" } : Jvm.MethodName)) ∈ uW := uW_of 556 (by decide +kernel) (by decide +kernel)
theorem d_FileMaker_putEnd_27 : decode prog_4_method_5_code 27 = .ok (.aload_n 0, 1) := by decide +kernel
theorem d_FileMaker_putEnd_28 : decode prog_4_method_5_code 28 = .ok (.getfield 14, 3) := by decide +kernel
theorem d_FileMaker_putEnd_31 : decode prog_4_method_5_code 31 = .ok (.iconst 0, 1) := by decide +kernel
theorem d_FileMaker_putEnd_32 : decode prog_4_method_5_code 32 = .ok (.invokevirtual 69, 3) := by decide +kernel
theorem d_FileMaker_putEnd_35 : decode prog_4_method_5_code 35 = .ok (.aload_n 0, 1) := by decide +kernel
theorem d_FileMaker_putEnd_36 : decode prog_4_method_5_code 36 = .ok (.getfield 14, 3) := by decide +kernel
theorem d_FileMaker_putEnd_39 : decode prog_4_method_5_code 39 = .ok (.iload_n 1, 1) := by decide +kernel
theorem d_FileMaker_putEnd_40 : decode prog_4_method_5_code 40 = .ok (.invokevirtual 69, 3) := by decide +kernel
theorem d_FileMaker_putEnd_43 : decode prog_4_method_5_code 43 = .ok (.aload_n 0, 1) := by decide +kernel
theorem d_FileMaker_putEnd_44 : decode prog_4_method_5_code 44 = .ok (.getfield 14, 3) := by decide +kernel
theorem d_FileMaker_putEnd_47 : decode prog_4_method_5_code 47 = .ok (.iload_n 1, 1) := by decide +kernel
theorem d_FileMaker_putEnd_48 : decode prog_4_method_5_code 48 = .ok (.invokevirtual 69, 3) := by decide +kernel
theorem d_FileMaker_putEnd_51 : decode prog_4_method_5_code 51 = .ok (.aload_n 0, 1) := by decide +kernel
theorem d_FileMaker_putEnd_52 : decode prog_4_method_5_code 52 = .ok (.getfield 14, 3) := by decide +kernel
theorem d_FileMaker_putEnd_55 : decode prog_4_method_5_code 55 = .ok (.iload_n 3, 1) := by decide +kernel
theorem d_FileMaker_putEnd_56 : decode prog_4_method_5_code 56 = .ok (.invokevirtual 66, 3) := by decide +kernel
theorem d_FileMaker_putEnd_59 : decode prog_4_method_5_code 59 = .ok (.aload_n 0, 1) := by decide +kernel
theorem d_FileMaker_putEnd_60 : decode prog_4_method_5_code 60 = .ok (.getfield 14, 3) := by decide +kernel
theorem d_FileMaker_putEnd_63 : decode prog_4_method_5_code 63 = .ok (.iload_n 2, 1) := by decide +kernel
theorem d_FileMaker_putEnd_64 : decode prog_4_method_5_code 64 = .ok (.invokevirtual 66, 3) := by decide +kernel
theorem d_FileMaker_putEnd_67 : decode prog_4_method_5_code 67 = .ok (.aload_n 0, 1) := by decide +kernel
theorem d_FileMaker_putEnd_68 : decode prog_4_method_5_code 68 = .ok (.getfield 14, 3) := by decide +kernel
theorem d_FileMaker_putEnd_71 : decode prog_4_method_5_code 71 = .ok (.iconst 0, 1) := by decide +kernel
theorem d_FileMaker_putEnd_72 : decode prog_4_method_5_code 72 = .ok (.invokevirtual 69, 3) := by decide +kernel
theorem d_FileMaker_putEnd_75 : decode prog_4_method_5_code 75 = .ok (.return_, 1) := by decide +kernel
abbrev y_FileMaker_putEnd : MethodName := ⟨"PackageBook$FileMaker", "putEnd", "(II)V"⟩
abbrev i_FileMaker_putEnd : pb_I := (y_FileMaker_putEnd, prog_4_method_5_code, 4, (Option.none : Option Jvm.ClassFile.FieldType), [], { frames := 3, cells := 0, slots := 0, locals := 63 })
set_option maxRecDepth 100000 in
set_option maxHeartbeats 4000000 in
theorem g_Mk_putEnd {l : Launch} (hl : l.stackTraces = false) (G : pb_G) (h : Nat) (mm : Nat) (mr : Nat) (mb : Nat) (f : Nat → Int32) (s : Int32) (n : Int32) (d : Int32) (h0 : 0 ≤ s.toInt) (h1 : s.toInt + 22 ≤ 14006) (h2 : 0 ≤ d.toInt) (h3 : d.toInt ≤ s.toInt) (F_f : sb_Fit f) : Cn l G i_FileMaker_putEnd [.ref h, .int n, .int d] [(h, .inr (6, [.ref mm, .ref mr])), (mm, .inr (0, [.ref mb, .int s])), (mb, .inl (G.2.1, 14006, .inl f))] (S := Int32 × (Nat → Int32)) (fun rv_ u => rv_ = none ∧ (u.1.toInt = s.toInt + 22) ∧ (ap_ f s.toInt u.2 u.1.toInt (fE_ n.toInt (s.toInt - d.toInt) d.toInt)) ∧ (sb_Fit u.2)) (fun u => [(h, .inr (6, [.ref mm, .ref mr])), (mm, .inr (0, [.ref mb, .int u.1])), (mb, .inl (G.2.1, 14006, .inl u.2))]) := by
  refine Cn.of hl (by decide +kernel) rfl (Nat.le_of_ble_eq_true rfl) (fun M hQ => ?_)
  refine pb_eq (pc' := 0) (lo' := [(0, .ref h), (1, .int n), (2, .int d)]) (rest' := []) (ws' := [(h, .inr (6, [.ref mm, .ref mr])), (mm, .inr (0, [.ref mb, .int s])), (mb, .inl (G.2.1, 14006, .inl f))]) ?_
  have zl0 : (0 : Int32).toInt = 0 := by decide
  have zl1 : (1 : Int32).toInt = 1 := by decide
  have aK := ap_nil (f := f) (s := s.toInt) (t := s.toInt) rfl
  refine pb_aload_n (pc := 0) d_FileMaker_putEnd_0 0 rfl rfl ?_
  refine pb_get (pc := 1) d_FileMaker_putEnd_1 0 0 rfl rfl (by decide) in_FileMaker k_292 rfl ?_
  refine pb_getN (pc := 4) d_FileMaker_putEnd_4 1 1 rfl rfl (by decide) in_Row k_163 rfl ?_
  refine pb_iload_n (pc := 7) d_FileMaker_putEnd_7 2 rfl rfl ?_
  refine pb_isub (pc := 8) d_FileMaker_putEnd_8 ?_
  refine pb_topi (fun i1 ei1 => ?_)
  try have ti1 : i1.toInt = s.toInt - d.toInt := ti_sub ei1 rfl rfl (by omega) (by omega)
  refine pb_istore_n (pc := 9) (lo' := [(3, .int i1), (0, .ref h), (1, .int n), (2, .int d)]) d_FileMaker_putEnd_9 rfl (by decide) rfl ?_
  have eSz : i1.toInt = s.toInt - d.toInt := by omega
  refine pb_aload_n (pc := 10) d_FileMaker_putEnd_10 1 rfl rfl ?_
  refine pb_get (pc := 11) d_FileMaker_putEnd_11 0 0 rfl rfl (by decide) in_FileMaker k_292 rfl ?_
  refine pb_ldc (pc := 14) (v := 101010256) d_FileMaker_putEnd_14 k_575 ?_
  refine pb_callV (pc := 16) (I := i_FileMaker_putEnd) (qb := 1) (ci := 0) (nA := 1) (rest := []) (wr := [(h, .inr (6, [.ref mm, .ref mr]))]) d_FileMaker_putEnd_16 (g_Row_putFour hl G mm mb 14006 f s 101010256 (by first | (with_reducible assumption) | omega (splitDisjunctions := false) | assumption | omega | decide) (by first | (with_reducible assumption) | omega (splitDisjunctions := false) | assumption | omega | decide) (by first | (with_reducible assumption) | omega (splitDisjunctions := false) | assumption | omega | decide) F_f) rfl rfl [1, 2] [0] (by decide) rfl rfl rfl (by decide) (by decide) k_547 rfl k_119 k_544 k_545 k_546 ⟨rfl, hy_Row_putFour⟩ (by decide) rfl rfl (Nat.le_of_ble_eq_true rfl) (by decide) (fun v9 u3 ch2 => ?_)
  obtain ⟨s_4, f_5⟩ := u3
  obtain ⟨ech2, ch2⟩ := ch2
  have ech2 : v9 = none := ech2
  subst ech2
  obtain ⟨fh6, fh7, fh8⟩ : (s_4.toInt = s.toInt + 4) ∧ (ap_ f s.toInt f_5 s_4.toInt (nk_ (101010256 : Int32).toInt 4)) ∧ (sb_Fit f_5) := ch2
  have aK := ap_app h0 aK fh7
  refine pb_eq (pc' := 19) (lo' := [(3, .int i1), (0, .ref h), (1, .int n), (2, .int d)]) (rest' := []) (ws' := [(h, .inr (6, [.ref mm, .ref mr])), (mm, .inr (0, [.ref mb, .int s_4])), (mb, .inl (G.2.1, 14006, .inl f_5))]) ?_
  refine pb_aload_n (pc := 19) d_FileMaker_putEnd_19 1 rfl rfl ?_
  refine pb_get (pc := 20) d_FileMaker_putEnd_20 0 0 rfl rfl (by decide) in_FileMaker k_292 rfl ?_
  refine pb_iconst (pc := 23) (v := 0) d_FileMaker_putEnd_23 (by decide) ?_
  refine pb_callV (pc := 24) (I := i_FileMaker_putEnd) (qb := 1) (ci := 0) (nA := 1) (rest := []) (wr := [(h, .inr (6, [.ref mm, .ref mr]))]) d_FileMaker_putEnd_24 (g_Row_putTwo hl G mm mb 14006 f_5 s_4 0 (by first | (with_reducible assumption) | omega (splitDisjunctions := false) | assumption | omega | decide) (by first | (with_reducible assumption) | omega (splitDisjunctions := false) | assumption | omega | decide) (by first | (with_reducible assumption) | omega (splitDisjunctions := false) | assumption | omega | decide) fh8) rfl rfl [1, 2] [0] (by decide) rfl rfl rfl (by decide) (by decide) k_551 rfl k_119 k_556 k_549 k_550 ⟨rfl, hy_Row_putTwo⟩ (by decide) rfl rfl (Nat.le_of_ble_eq_true rfl) (by decide) (fun v9 u10 ch9 => ?_)
  obtain ⟨s_11, f_12⟩ := u10
  obtain ⟨ech9, ch9⟩ := ch9
  have ech9 : v9 = none := ech9
  subst ech9
  obtain ⟨fh13, fh14, fh15⟩ : (s_11.toInt = s_4.toInt + 2) ∧ (ap_ f_5 s_4.toInt f_12 s_11.toInt (nk_ (0 : Int32).toInt 2)) ∧ (sb_Fit f_12) := ch9
  have aK := ap_app h0 aK fh14
  refine pb_eq (pc' := 27) (lo' := [(3, .int i1), (0, .ref h), (1, .int n), (2, .int d)]) (rest' := []) (ws' := [(h, .inr (6, [.ref mm, .ref mr])), (mm, .inr (0, [.ref mb, .int s_11])), (mb, .inl (G.2.1, 14006, .inl f_12))]) ?_
  refine pb_aload_n (pc := 27) d_FileMaker_putEnd_27 1 rfl rfl ?_
  refine pb_get (pc := 28) d_FileMaker_putEnd_28 0 0 rfl rfl (by decide) in_FileMaker k_292 rfl ?_
  refine pb_iconst (pc := 31) (v := 0) d_FileMaker_putEnd_31 (by decide) ?_
  refine pb_callV (pc := 32) (I := i_FileMaker_putEnd) (qb := 1) (ci := 0) (nA := 1) (rest := []) (wr := [(h, .inr (6, [.ref mm, .ref mr]))]) d_FileMaker_putEnd_32 (g_Row_putTwo hl G mm mb 14006 f_12 s_11 0 (by first | (with_reducible assumption) | omega (splitDisjunctions := false) | assumption | omega | decide) (by first | (with_reducible assumption) | omega (splitDisjunctions := false) | assumption | omega | decide) (by first | (with_reducible assumption) | omega (splitDisjunctions := false) | assumption | omega | decide) fh15) rfl rfl [1, 2] [0] (by decide) rfl rfl rfl (by decide) (by decide) k_551 rfl k_119 k_556 k_549 k_550 ⟨rfl, hy_Row_putTwo⟩ (by decide) rfl rfl (Nat.le_of_ble_eq_true rfl) (by decide) (fun v9 u17 ch16 => ?_)
  obtain ⟨s_18, f_19⟩ := u17
  obtain ⟨ech16, ch16⟩ := ch16
  have ech16 : v9 = none := ech16
  subst ech16
  obtain ⟨fh20, fh21, fh22⟩ : (s_18.toInt = s_11.toInt + 2) ∧ (ap_ f_12 s_11.toInt f_19 s_18.toInt (nk_ (0 : Int32).toInt 2)) ∧ (sb_Fit f_19) := ch16
  have aK := ap_app h0 aK fh21
  refine pb_eq (pc' := 35) (lo' := [(3, .int i1), (0, .ref h), (1, .int n), (2, .int d)]) (rest' := []) (ws' := [(h, .inr (6, [.ref mm, .ref mr])), (mm, .inr (0, [.ref mb, .int s_18])), (mb, .inl (G.2.1, 14006, .inl f_19))]) ?_
  refine pb_aload_n (pc := 35) d_FileMaker_putEnd_35 1 rfl rfl ?_
  refine pb_get (pc := 36) d_FileMaker_putEnd_36 0 0 rfl rfl (by decide) in_FileMaker k_292 rfl ?_
  refine pb_iload_n (pc := 39) d_FileMaker_putEnd_39 2 rfl rfl ?_
  refine pb_callV (pc := 40) (I := i_FileMaker_putEnd) (qb := 1) (ci := 0) (nA := 1) (rest := []) (wr := [(h, .inr (6, [.ref mm, .ref mr]))]) d_FileMaker_putEnd_40 (g_Row_putTwo hl G mm mb 14006 f_19 s_18 n (by first | (with_reducible assumption) | omega (splitDisjunctions := false) | assumption | omega | decide) (by first | (with_reducible assumption) | omega (splitDisjunctions := false) | assumption | omega | decide) (by first | (with_reducible assumption) | omega (splitDisjunctions := false) | assumption | omega | decide) fh22) rfl rfl [1, 2] [0] (by decide) rfl rfl rfl (by decide) (by decide) k_551 rfl k_119 k_556 k_549 k_550 ⟨rfl, hy_Row_putTwo⟩ (by decide) rfl rfl (Nat.le_of_ble_eq_true rfl) (by decide) (fun v9 u24 ch23 => ?_)
  obtain ⟨s_25, f_26⟩ := u24
  obtain ⟨ech23, ch23⟩ := ch23
  have ech23 : v9 = none := ech23
  subst ech23
  obtain ⟨fh27, fh28, fh29⟩ : (s_25.toInt = s_18.toInt + 2) ∧ (ap_ f_19 s_18.toInt f_26 s_25.toInt (nk_ n.toInt 2)) ∧ (sb_Fit f_26) := ch23
  have aK := ap_app h0 aK fh28
  refine pb_eq (pc' := 43) (lo' := [(3, .int i1), (0, .ref h), (1, .int n), (2, .int d)]) (rest' := []) (ws' := [(h, .inr (6, [.ref mm, .ref mr])), (mm, .inr (0, [.ref mb, .int s_25])), (mb, .inl (G.2.1, 14006, .inl f_26))]) ?_
  refine pb_aload_n (pc := 43) d_FileMaker_putEnd_43 1 rfl rfl ?_
  refine pb_get (pc := 44) d_FileMaker_putEnd_44 0 0 rfl rfl (by decide) in_FileMaker k_292 rfl ?_
  refine pb_iload_n (pc := 47) d_FileMaker_putEnd_47 2 rfl rfl ?_
  refine pb_callV (pc := 48) (I := i_FileMaker_putEnd) (qb := 1) (ci := 0) (nA := 1) (rest := []) (wr := [(h, .inr (6, [.ref mm, .ref mr]))]) d_FileMaker_putEnd_48 (g_Row_putTwo hl G mm mb 14006 f_26 s_25 n (by first | (with_reducible assumption) | omega (splitDisjunctions := false) | assumption | omega | decide) (by first | (with_reducible assumption) | omega (splitDisjunctions := false) | assumption | omega | decide) (by first | (with_reducible assumption) | omega (splitDisjunctions := false) | assumption | omega | decide) fh29) rfl rfl [1, 2] [0] (by decide) rfl rfl rfl (by decide) (by decide) k_551 rfl k_119 k_556 k_549 k_550 ⟨rfl, hy_Row_putTwo⟩ (by decide) rfl rfl (Nat.le_of_ble_eq_true rfl) (by decide) (fun v9 u31 ch30 => ?_)
  obtain ⟨s_32, f_33⟩ := u31
  obtain ⟨ech30, ch30⟩ := ch30
  have ech30 : v9 = none := ech30
  subst ech30
  obtain ⟨fh34, fh35, fh36⟩ : (s_32.toInt = s_25.toInt + 2) ∧ (ap_ f_26 s_25.toInt f_33 s_32.toInt (nk_ n.toInt 2)) ∧ (sb_Fit f_33) := ch30
  have aK := ap_app h0 aK fh35
  refine pb_eq (pc' := 51) (lo' := [(3, .int i1), (0, .ref h), (1, .int n), (2, .int d)]) (rest' := []) (ws' := [(h, .inr (6, [.ref mm, .ref mr])), (mm, .inr (0, [.ref mb, .int s_32])), (mb, .inl (G.2.1, 14006, .inl f_33))]) ?_
  refine pb_aload_n (pc := 51) d_FileMaker_putEnd_51 1 rfl rfl ?_
  refine pb_get (pc := 52) d_FileMaker_putEnd_52 0 0 rfl rfl (by decide) in_FileMaker k_292 rfl ?_
  refine pb_iload_n (pc := 55) d_FileMaker_putEnd_55 0 rfl rfl ?_
  refine pb_callV (pc := 56) (I := i_FileMaker_putEnd) (qb := 1) (ci := 0) (nA := 1) (rest := []) (wr := [(h, .inr (6, [.ref mm, .ref mr]))]) d_FileMaker_putEnd_56 (g_Row_putFour hl G mm mb 14006 f_33 s_32 i1 (by first | (with_reducible assumption) | omega (splitDisjunctions := false) | assumption | omega | decide) (by first | (with_reducible assumption) | omega (splitDisjunctions := false) | assumption | omega | decide) (by first | (with_reducible assumption) | omega (splitDisjunctions := false) | assumption | omega | decide) fh36) rfl rfl [1, 2] [0] (by decide) rfl rfl rfl (by decide) (by decide) k_547 rfl k_119 k_544 k_545 k_546 ⟨rfl, hy_Row_putFour⟩ (by decide) rfl rfl (Nat.le_of_ble_eq_true rfl) (by decide) (fun v9 u38 ch37 => ?_)
  obtain ⟨s_39, f_40⟩ := u38
  obtain ⟨ech37, ch37⟩ := ch37
  have ech37 : v9 = none := ech37
  subst ech37
  obtain ⟨fh41, fh42, fh43⟩ : (s_39.toInt = s_32.toInt + 4) ∧ (ap_ f_33 s_32.toInt f_40 s_39.toInt (nk_ i1.toInt 4)) ∧ (sb_Fit f_40) := ch37
  have aK := ap_app h0 aK fh42
  refine pb_eq (pc' := 59) (lo' := [(3, .int i1), (0, .ref h), (1, .int n), (2, .int d)]) (rest' := []) (ws' := [(h, .inr (6, [.ref mm, .ref mr])), (mm, .inr (0, [.ref mb, .int s_39])), (mb, .inl (G.2.1, 14006, .inl f_40))]) ?_
  refine pb_aload_n (pc := 59) d_FileMaker_putEnd_59 1 rfl rfl ?_
  refine pb_get (pc := 60) d_FileMaker_putEnd_60 0 0 rfl rfl (by decide) in_FileMaker k_292 rfl ?_
  refine pb_iload_n (pc := 63) d_FileMaker_putEnd_63 3 rfl rfl ?_
  refine pb_callV (pc := 64) (I := i_FileMaker_putEnd) (qb := 1) (ci := 0) (nA := 1) (rest := []) (wr := [(h, .inr (6, [.ref mm, .ref mr]))]) d_FileMaker_putEnd_64 (g_Row_putFour hl G mm mb 14006 f_40 s_39 d (by first | (with_reducible assumption) | omega (splitDisjunctions := false) | assumption | omega | decide) (by first | (with_reducible assumption) | omega (splitDisjunctions := false) | assumption | omega | decide) (by first | (with_reducible assumption) | omega (splitDisjunctions := false) | assumption | omega | decide) fh43) rfl rfl [1, 2] [0] (by decide) rfl rfl rfl (by decide) (by decide) k_547 rfl k_119 k_544 k_545 k_546 ⟨rfl, hy_Row_putFour⟩ (by decide) rfl rfl (Nat.le_of_ble_eq_true rfl) (by decide) (fun v9 u45 ch44 => ?_)
  obtain ⟨s_46, f_47⟩ := u45
  obtain ⟨ech44, ch44⟩ := ch44
  have ech44 : v9 = none := ech44
  subst ech44
  obtain ⟨fh48, fh49, fh50⟩ : (s_46.toInt = s_39.toInt + 4) ∧ (ap_ f_40 s_39.toInt f_47 s_46.toInt (nk_ d.toInt 4)) ∧ (sb_Fit f_47) := ch44
  have aK := ap_app h0 aK fh49
  refine pb_eq (pc' := 67) (lo' := [(3, .int i1), (0, .ref h), (1, .int n), (2, .int d)]) (rest' := []) (ws' := [(h, .inr (6, [.ref mm, .ref mr])), (mm, .inr (0, [.ref mb, .int s_46])), (mb, .inl (G.2.1, 14006, .inl f_47))]) ?_
  refine pb_aload_n (pc := 67) d_FileMaker_putEnd_67 1 rfl rfl ?_
  refine pb_get (pc := 68) d_FileMaker_putEnd_68 0 0 rfl rfl (by decide) in_FileMaker k_292 rfl ?_
  refine pb_iconst (pc := 71) (v := 0) d_FileMaker_putEnd_71 (by decide) ?_
  refine pb_callV (pc := 72) (I := i_FileMaker_putEnd) (qb := 1) (ci := 0) (nA := 1) (rest := []) (wr := [(h, .inr (6, [.ref mm, .ref mr]))]) d_FileMaker_putEnd_72 (g_Row_putTwo hl G mm mb 14006 f_47 s_46 0 (by first | (with_reducible assumption) | omega (splitDisjunctions := false) | assumption | omega | decide) (by first | (with_reducible assumption) | omega (splitDisjunctions := false) | assumption | omega | decide) (by first | (with_reducible assumption) | omega (splitDisjunctions := false) | assumption | omega | decide) fh50) rfl rfl [1, 2] [0] (by decide) rfl rfl rfl (by decide) (by decide) k_551 rfl k_119 k_556 k_549 k_550 ⟨rfl, hy_Row_putTwo⟩ (by decide) rfl rfl (Nat.le_of_ble_eq_true rfl) (by decide) (fun v9 u52 ch51 => ?_)
  obtain ⟨s_53, f_54⟩ := u52
  obtain ⟨ech51, ch51⟩ := ch51
  have ech51 : v9 = none := ech51
  subst ech51
  obtain ⟨fh55, fh56, fh57⟩ : (s_53.toInt = s_46.toInt + 2) ∧ (ap_ f_47 s_46.toInt f_54 s_53.toInt (nk_ (0 : Int32).toInt 2)) ∧ (sb_Fit f_54) := ch51
  have aK := ap_app h0 aK fh56
  refine pb_eq (pc' := 75) (lo' := [(3, .int i1), (0, .ref h), (1, .int n), (2, .int d)]) (rest' := []) (ws' := [(h, .inr (6, [.ref mm, .ref mr])), (mm, .inr (0, [.ref mb, .int s_53])), (mb, .inl (G.2.1, 14006, .inl f_54))]) ?_
  exact pb_vret (pc := 75) hQ d_FileMaker_putEnd_75 rfl (s_53, f_54) ⟨rfl, (by (try dsimp only); first | done | (with_reducible assumption) | omega (splitDisjunctions := false) | assumption | omega | decide), (show ap_ f s.toInt f_54 s_53.toInt (fE_ n.toInt (s.toInt - d.toInt) d.toInt) from (ap_e aK (by rw [eSz]; exact fE_E (by first | decide | omega) (by first | decide | omega) (by first | decide | omega) (by first | decide | omega)))), fh57⟩ [0, 1, 2] (by decide) rfl rfl (by decide) (by decide)

theorem d_FileMaker_putEntry_0 : decode prog_4_method_4_code 0 = .ok (.aload_n 0, 1) := by decide +kernel
theorem d_FileMaker_putEntry_1 : decode prog_4_method_4_code 1 = .ok (.getfield 14, 3) := by decide +kernel
theorem d_FileMaker_putEntry_4 : decode prog_4_method_4_code 4 = .ok (.ldc 86, 2) := by decide +kernel
theorem k_570 : (Jvm.Cond.constant "PackageBook$FileMaker" (86 : Nat) (33639248 : Int32)) ∈ uW := uW_of 570 (by decide +kernel) (by decide +kernel)
theorem d_FileMaker_putEntry_6 : decode prog_4_method_4_code 6 = .ok (.invokevirtual 66, 3) := by decide +kernel
theorem d_FileMaker_putEntry_9 : decode prog_4_method_4_code 9 = .ok (.aload_n 0, 1) := by decide +kernel
theorem d_FileMaker_putEntry_10 : decode prog_4_method_4_code 10 = .ok (.getfield 14, 3) := by decide +kernel
theorem d_FileMaker_putEntry_13 : decode prog_4_method_4_code 13 = .ok (.bipush 20, 2) := by decide +kernel
theorem d_FileMaker_putEntry_15 : decode prog_4_method_4_code 15 = .ok (.invokevirtual 69, 3) := by decide +kernel
theorem d_FileMaker_putEntry_18 : decode prog_4_method_4_code 18 = .ok (.aload_n 0, 1) := by decide +kernel
theorem d_FileMaker_putEntry_19 : decode prog_4_method_4_code 19 = .ok (.getfield 14, 3) := by decide +kernel
theorem d_FileMaker_putEntry_22 : decode prog_4_method_4_code 22 = .ok (.aload_n 0, 1) := by decide +kernel
theorem d_FileMaker_putEntry_23 : decode prog_4_method_4_code 23 = .ok (.getfield 14, 3) := by decide +kernel
theorem d_FileMaker_putEntry_26 : decode prog_4_method_4_code 26 = .ok (.getfield 85, 3) := by decide +kernel
theorem k_158 : (Jvm.Cond.fieldLinkNest "PackageBook$FileMaker" (85 : Nat) "PackageBook$Row" "bytes" "[B" "PackageBook") ∈ uN := uN_of 158 (by decide +kernel) (by decide +kernel)
theorem d_FileMaker_putEntry_29 : decode prog_4_method_4_code 29 = .ok (.aload_n 0, 1) := by decide +kernel
theorem d_FileMaker_putEntry_30 : decode prog_4_method_4_code 30 = .ok (.getfield 20, 3) := by decide +kernel
theorem d_FileMaker_putEntry_33 : decode prog_4_method_4_code 33 = .ok (.iload_n 2, 1) := by decide +kernel
theorem d_FileMaker_putEntry_34 : decode prog_4_method_4_code 34 = .ok (.iaload, 1) := by decide +kernel
theorem d_FileMaker_putEntry_35 : decode prog_4_method_4_code 35 = .ok (.iconst 4, 1) := by decide +kernel
theorem d_FileMaker_putEntry_36 : decode prog_4_method_4_code 36 = .ok (.iadd, 1) := by decide +kernel
theorem d_FileMaker_putEntry_37 : decode prog_4_method_4_code 37 = .ok (.bipush 26, 2) := by decide +kernel
theorem d_FileMaker_putEntry_39 : decode prog_4_method_4_code 39 = .ok (.invokevirtual 82, 3) := by decide +kernel
theorem k_561 : (Jvm.Cond.methodLink "PackageBook$FileMaker" (82 : Nat) ({ cls := "PackageBook$Row", name := "putBytes", desc := "([BII)V" } : Jvm.MethodName)) ∈ uW := uW_of 561 (by decide +kernel) (by decide +kernel)
theorem d_FileMaker_putEntry_42 : decode prog_4_method_4_code 42 = .ok (.aload_n 0, 1) := by decide +kernel
theorem d_FileMaker_putEntry_43 : decode prog_4_method_4_code 43 = .ok (.getfield 14, 3) := by decide +kernel
theorem d_FileMaker_putEntry_46 : decode prog_4_method_4_code 46 = .ok (.iconst 0, 1) := by decide +kernel
theorem d_FileMaker_putEntry_47 : decode prog_4_method_4_code 47 = .ok (.invokevirtual 69, 3) := by decide +kernel
theorem d_FileMaker_putEntry_50 : decode prog_4_method_4_code 50 = .ok (.aload_n 0, 1) := by decide +kernel
theorem d_FileMaker_putEntry_51 : decode prog_4_method_4_code 51 = .ok (.getfield 14, 3) := by decide +kernel
theorem d_FileMaker_putEntry_54 : decode prog_4_method_4_code 54 = .ok (.iconst 0, 1) := by decide +kernel
theorem d_FileMaker_putEntry_55 : decode prog_4_method_4_code 55 = .ok (.invokevirtual 69, 3) := by decide +kernel
theorem d_FileMaker_putEntry_58 : decode prog_4_method_4_code 58 = .ok (.aload_n 0, 1) := by decide +kernel
theorem d_FileMaker_putEntry_59 : decode prog_4_method_4_code 59 = .ok (.getfield 14, 3) := by decide +kernel
theorem d_FileMaker_putEntry_62 : decode prog_4_method_4_code 62 = .ok (.iconst 0, 1) := by decide +kernel
theorem d_FileMaker_putEntry_63 : decode prog_4_method_4_code 63 = .ok (.invokevirtual 69, 3) := by decide +kernel
theorem d_FileMaker_putEntry_66 : decode prog_4_method_4_code 66 = .ok (.aload_n 0, 1) := by decide +kernel
theorem d_FileMaker_putEntry_67 : decode prog_4_method_4_code 67 = .ok (.getfield 14, 3) := by decide +kernel
theorem d_FileMaker_putEntry_70 : decode prog_4_method_4_code 70 = .ok (.iconst 0, 1) := by decide +kernel
theorem d_FileMaker_putEntry_71 : decode prog_4_method_4_code 71 = .ok (.invokevirtual 66, 3) := by decide +kernel
theorem d_FileMaker_putEntry_74 : decode prog_4_method_4_code 74 = .ok (.aload_n 0, 1) := by decide +kernel
theorem d_FileMaker_putEntry_75 : decode prog_4_method_4_code 75 = .ok (.getfield 14, 3) := by decide +kernel
theorem d_FileMaker_putEntry_78 : decode prog_4_method_4_code 78 = .ok (.aload_n 0, 1) := by decide +kernel
theorem d_FileMaker_putEntry_79 : decode prog_4_method_4_code 79 = .ok (.getfield 20, 3) := by decide +kernel
theorem d_FileMaker_putEntry_82 : decode prog_4_method_4_code 82 = .ok (.iload_n 2, 1) := by decide +kernel
theorem d_FileMaker_putEntry_83 : decode prog_4_method_4_code 83 = .ok (.iaload, 1) := by decide +kernel
theorem d_FileMaker_putEntry_84 : decode prog_4_method_4_code 84 = .ok (.invokevirtual 66, 3) := by decide +kernel
theorem d_FileMaker_putEntry_87 : decode prog_4_method_4_code 87 = .ok (.aload_n 0, 1) := by decide +kernel
theorem d_FileMaker_putEntry_88 : decode prog_4_method_4_code 88 = .ok (.getfield 14, 3) := by decide +kernel
theorem d_FileMaker_putEntry_91 : decode prog_4_method_4_code 91 = .ok (.aload_n 1, 1) := by decide +kernel
theorem d_FileMaker_putEntry_92 : decode prog_4_method_4_code 92 = .ok (.getfield 79, 3) := by decide +kernel
theorem k_390 : (Jvm.Cond.fieldLinkNest "PackageBook$FileMaker" (79 : Nat) "PackageBook$Shelf" "names" "[B" "PackageBook") ∈ uN := uN_of 390 (by decide +kernel) (by decide +kernel)
theorem d_FileMaker_putEntry_95 : decode prog_4_method_4_code 95 = .ok (.bipush 24, 2) := by decide +kernel
theorem d_FileMaker_putEntry_97 : decode prog_4_method_4_code 97 = .ok (.iload_n 2, 1) := by decide +kernel
theorem d_FileMaker_putEntry_98 : decode prog_4_method_4_code 98 = .ok (.imul, 1) := by decide +kernel
theorem d_FileMaker_putEntry_99 : decode prog_4_method_4_code 99 = .ok (.aload_n 1, 1) := by decide +kernel
theorem d_FileMaker_putEntry_100 : decode prog_4_method_4_code 100 = .ok (.getfield 76, 3) := by decide +kernel
theorem k_393 : (Jvm.Cond.fieldLinkNest "PackageBook$FileMaker" (76 : Nat) "PackageBook$Shelf" "nameSizes" "[I" "PackageBook") ∈ uN := uN_of 393 (by decide +kernel) (by decide +kernel)
theorem d_FileMaker_putEntry_103 : decode prog_4_method_4_code 103 = .ok (.iload_n 2, 1) := by decide +kernel
theorem d_FileMaker_putEntry_104 : decode prog_4_method_4_code 104 = .ok (.iaload, 1) := by decide +kernel
theorem d_FileMaker_putEntry_105 : decode prog_4_method_4_code 105 = .ok (.invokevirtual 82, 3) := by decide +kernel
theorem d_FileMaker_putEntry_108 : decode prog_4_method_4_code 108 = .ok (.return_, 1) := by decide +kernel
abbrev y_FileMaker_putEntry : MethodName := ⟨"PackageBook$FileMaker", "putEntry", "(LPackageBook$Shelf;I)V"⟩
abbrev i_FileMaker_putEntry : pb_I := (y_FileMaker_putEntry, prog_4_method_4_code, 3, (Option.none : Option Jvm.ClassFile.FieldType), [], { frames := 3, cells := 0, slots := 0, locals := 83 })
set_option maxRecDepth 100000 in
set_option maxHeartbeats 4000000 in
theorem g_Mk_putEntry {l : Launch} (hl : l.stackTraces = false) (G : pb_G) (h : Nat) (mm : Nat) (mr : Nat) (mb : Nat) (f : Nat → Int32) (s : Int32) (fr : Nat → Int32) (sp : Nat) (tn : Nat) (tz : Nat) (tb : Nat) (tg : Nat) (c : Int32) (tfn : Nat → Int32) (tfz : Nat → Int32) (tfg : Nat → Int32) (i : Int32) (V : VW_) (P9 : List Int32) (I : sh_I c.toInt tfz tfg) (h0 : 0 ≤ s.toInt) (h1 : s.toInt + 70 ≤ 14006) (h2 : 0 ≤ i.toInt) (h3 : i.toInt < c.toInt) (h4 : 0 ≤ gx fr i.toInt) (h5 : gx fr i.toInt ≤ 13000) (R : rN_ c.toInt tfn tfz V) (hS : bl_ f (gx fr i.toInt + 4) 26 = sh_ V i.toInt P9) (hS2 : gx fr i.toInt + 30 ≤ s.toInt) (F_f : sb_Fit f) (F_tfn : sb_Fit tfn) : Cn l G i_FileMaker_putEntry [.ref h, .ref sp, .int i] [(h, .inr (6, [.ref mm, .ref mr])), (mm, .inr (0, [.ref mb, .int s])), (mb, .inl (G.2.1, 14006, .inl f)), (mr, .inl (G.2.2.1, 16, .inl fr)), (sp, .inr (3, [.ref tn, .ref tz, .ref tb, .ref tg, .int c])), (tn, .inl (G.2.1, 384, .inl tfn)), (tz, .inl (G.2.2.1, 16, .inl tfz))] (S := Int32 × (Nat → Int32)) (fun rv_ u => rv_ = none ∧ (s.toInt ≤ u.1.toInt) ∧ (u.1.toInt ≤ s.toInt + 70) ∧ (ap_ f s.toInt u.2 u.1.toInt (en_L V i.toInt P9 (gx fr i.toInt))) ∧ (sb_Fit u.2)) (fun u => [(h, .inr (6, [.ref mm, .ref mr])), (mm, .inr (0, [.ref mb, .int u.1])), (mb, .inl (G.2.1, 14006, .inl u.2)), (mr, .inl (G.2.2.1, 16, .inl fr)), (sp, .inr (3, [.ref tn, .ref tz, .ref tb, .ref tg, .int c])), (tn, .inl (G.2.1, 384, .inl tfn)), (tz, .inl (G.2.2.1, 16, .inl tfz))]) := by
  refine Cn.of hl (by decide +kernel) rfl (Nat.le_of_ble_eq_true rfl) (fun M hQ => ?_)
  refine pb_eq (pc' := 0) (lo' := [(0, .ref h), (1, .ref sp), (2, .int i)]) (rest' := []) (ws' := [(h, .inr (6, [.ref mm, .ref mr])), (mm, .inr (0, [.ref mb, .int s])), (mb, .inl (G.2.1, 14006, .inl f)), (mr, .inl (G.2.2.1, 16, .inl fr)), (sp, .inr (3, [.ref tn, .ref tz, .ref tb, .ref tg, .int c])), (tn, .inl (G.2.1, 384, .inl tfn)), (tz, .inl (G.2.2.1, 16, .inl tfz))]) ?_
  have zl0 : (0 : Int32).toInt = 0 := by decide
  have zl1 : (1 : Int32).toInt = 1 := by decide
  have zl4 : (4 : Int32).toInt = 4 := by decide
  have zl20 : (20 : Int32).toInt = 20 := by decide
  have zl24 : (24 : Int32).toInt = 24 := by decide
  have zl26 : (26 : Int32).toInt = 26 := by decide
  have p2 := I.2.1
  have p5 := I.2.2.2.2 i.toInt (by omega) (by omega)
  have aK := ap_nil (f := f) (s := s.toInt) (t := s.toInt) rfl
  refine pb_aload_n (pc := 0) d_FileMaker_putEntry_0 0 rfl rfl ?_
  refine pb_get (pc := 1) d_FileMaker_putEntry_1 0 0 rfl rfl (by decide) in_FileMaker k_292 rfl ?_
  refine pb_ldc (pc := 4) (v := 33639248) d_FileMaker_putEntry_4 k_570 ?_
  refine pb_callV (pc := 6) (I := i_FileMaker_putEntry) (qb := 1) (ci := 0) (nA := 1) (rest := []) (wr := [(h, .inr (6, [.ref mm, .ref mr])), (mr, .inl (G.2.2.1, 16, .inl fr)), (sp, .inr (3, [.ref tn, .ref tz, .ref tb, .ref tg, .int c])), (tn, .inl (G.2.1, 384, .inl tfn)), (tz, .inl (G.2.2.1, 16, .inl tfz))]) d_FileMaker_putEntry_6 (g_Row_putFour hl G mm mb 14006 f s 33639248 (by first | (with_reducible assumption) | omega (splitDisjunctions := false) | assumption | omega | decide) (by first | (with_reducible assumption) | omega (splitDisjunctions := false) | assumption | omega | decide) (by first | (with_reducible assumption) | omega (splitDisjunctions := false) | assumption | omega | decide) F_f) rfl rfl [1, 2] [0, 3, 4, 5, 6] (by decide) rfl rfl rfl (by decide) (by decide) k_547 rfl k_119 k_544 k_545 k_546 ⟨rfl, hy_Row_putFour⟩ (by decide) rfl rfl (Nat.le_of_ble_eq_true rfl) (by decide) (fun v9 u2 ch1 => ?_)
  obtain ⟨s_3, f_4⟩ := u2
  obtain ⟨ech1, ch1⟩ := ch1
  have ech1 : v9 = none := ech1
  subst ech1
  obtain ⟨fh5, fh6, fh7⟩ : (s_3.toInt = s.toInt + 4) ∧ (ap_ f s.toInt f_4 s_3.toInt (nk_ (33639248 : Int32).toInt 4)) ∧ (sb_Fit f_4) := ch1
  have aK := ap_app h0 aK fh6
  refine pb_eq (pc' := 9) (lo' := [(0, .ref h), (1, .ref sp), (2, .int i)]) (rest' := []) (ws' := [(h, .inr (6, [.ref mm, .ref mr])), (mr, .inl (G.2.2.1, 16, .inl fr)), (sp, .inr (3, [.ref tn, .ref tz, .ref tb, .ref tg, .int c])), (tn, .inl (G.2.1, 384, .inl tfn)), (tz, .inl (G.2.2.1, 16, .inl tfz)), (mm, .inr (0, [.ref mb, .int s_3])), (mb, .inl (G.2.1, 14006, .inl f_4))]) ?_
  refine pb_aload_n (pc := 9) d_FileMaker_putEntry_9 0 rfl rfl ?_
  refine pb_get (pc := 10) d_FileMaker_putEntry_10 0 0 rfl rfl (by decide) in_FileMaker k_292 rfl ?_
  refine pb_bipush (pc := 13) (v := 20) d_FileMaker_putEntry_13 (by decide) ?_
  refine pb_callV (pc := 15) (I := i_FileMaker_putEntry) (qb := 5) (ci := 0) (nA := 1) (rest := []) (wr := [(h, .inr (6, [.ref mm, .ref mr])), (mr, .inl (G.2.2.1, 16, .inl fr)), (sp, .inr (3, [.ref tn, .ref tz, .ref tb, .ref tg, .int c])), (tn, .inl (G.2.1, 384, .inl tfn)), (tz, .inl (G.2.2.1, 16, .inl tfz))]) d_FileMaker_putEntry_15 (g_Row_putTwo hl G mm mb 14006 f_4 s_3 20 (by first | (with_reducible assumption) | omega (splitDisjunctions := false) | assumption | omega | decide) (by first | (with_reducible assumption) | omega (splitDisjunctions := false) | assumption | omega | decide) (by first | (with_reducible assumption) | omega (splitDisjunctions := false) | assumption | omega | decide) fh7) rfl rfl [5, 6] [0, 1, 2, 3, 4] (by decide) rfl rfl rfl (by decide) (by decide) k_551 rfl k_119 k_556 k_549 k_550 ⟨rfl, hy_Row_putTwo⟩ (by decide) rfl rfl (Nat.le_of_ble_eq_true rfl) (by decide) (fun v9 u9 ch8 => ?_)
  obtain ⟨s_10, f_11⟩ := u9
  obtain ⟨ech8, ch8⟩ := ch8
  have ech8 : v9 = none := ech8
  subst ech8
  obtain ⟨fh12, fh13, fh14⟩ : (s_10.toInt = s_3.toInt + 2) ∧ (ap_ f_4 s_3.toInt f_11 s_10.toInt (nk_ (20 : Int32).toInt 2)) ∧ (sb_Fit f_11) := ch8
  have aK := ap_app h0 aK fh13
  refine pb_eq (pc' := 18) (lo' := [(0, .ref h), (1, .ref sp), (2, .int i)]) (rest' := []) (ws' := [(h, .inr (6, [.ref mm, .ref mr])), (mr, .inl (G.2.2.1, 16, .inl fr)), (sp, .inr (3, [.ref tn, .ref tz, .ref tb, .ref tg, .int c])), (tn, .inl (G.2.1, 384, .inl tfn)), (tz, .inl (G.2.2.1, 16, .inl tfz)), (mm, .inr (0, [.ref mb, .int s_10])), (mb, .inl (G.2.1, 14006, .inl f_11))]) ?_
  refine pb_aload_n (pc := 18) d_FileMaker_putEntry_18 0 rfl rfl ?_
  refine pb_get (pc := 19) d_FileMaker_putEntry_19 0 0 rfl rfl (by decide) in_FileMaker k_292 rfl ?_
  refine pb_aload_n (pc := 22) d_FileMaker_putEntry_22 0 rfl rfl ?_
  refine pb_get (pc := 23) d_FileMaker_putEntry_23 0 0 rfl rfl (by decide) in_FileMaker k_292 rfl ?_
  refine pb_getN (pc := 26) d_FileMaker_putEntry_26 5 0 rfl rfl (by decide) in_Row k_158 rfl ?_
  refine pb_aload_n (pc := 29) d_FileMaker_putEntry_29 0 rfl rfl ?_
  refine pb_get (pc := 30) d_FileMaker_putEntry_30 0 1 rfl rfl (by decide) in_FileMaker k_294 rfl ?_
  refine pb_iload_n (pc := 33) d_FileMaker_putEntry_33 2 rfl rfl ?_
  refine pb_iald (pc := 34) d_FileMaker_putEntry_34 1 rfl (vp_in_iff.mpr (by constructor <;> omega)) ?_
  refine pb_topi (fun i15 ei15 => ?_)
  have ti15 : i15.toInt = gx fr (i.toInt) := gx_ld ei15 rfl
  refine pb_iconst (pc := 35) (v := 4) d_FileMaker_putEntry_35 (by decide) ?_
  refine pb_iadd (pc := 36) d_FileMaker_putEntry_36 ?_
  refine pb_topi (fun i16 ei16 => ?_)
  try have ti16 : i16.toInt = i15.toInt + 4 := ti_add ei16 rfl (by decide) (by omega) (by omega)
  refine pb_bipush (pc := 37) (v := 26) d_FileMaker_putEntry_37 (by decide) ?_
  refine pb_callV (pc := 39) (I := i_FileMaker_putEntry) (qb := 5) (ci := 0) (nA := 3) (rest := []) (wr := [(h, .inr (6, [.ref mm, .ref mr])), (mr, .inl (G.2.2.1, 16, .inl fr)), (sp, .inr (3, [.ref tn, .ref tz, .ref tb, .ref tg, .int c])), (tn, .inl (G.2.1, 384, .inl tfn)), (tz, .inl (G.2.2.1, 16, .inl tfz))]) d_FileMaker_putEntry_39 (g_Row_putBytes1 hl G mm mb 14006 f_11 s_10 i16 26 (by first | (with_reducible assumption) | omega (splitDisjunctions := false) | assumption | omega | decide) (by first | (with_reducible assumption) | omega (splitDisjunctions := false) | assumption | omega | decide) (by first | (with_reducible assumption) | omega (splitDisjunctions := false) | assumption | omega | decide) (by first | (with_reducible assumption) | omega (splitDisjunctions := false) | assumption | omega | decide) (by first | (with_reducible assumption) | omega (splitDisjunctions := false) | assumption | omega | decide) (by first | (with_reducible assumption) | omega (splitDisjunctions := false) | assumption | omega | decide) fh14) rfl rfl [5, 6] [0, 1, 2, 3, 4] (by decide) rfl rfl rfl (by decide) (by decide) k_564 rfl k_119 k_561 k_562 k_563 ⟨rfl, hy_Row_putBytes⟩ (by decide) rfl rfl (Nat.le_of_ble_eq_true rfl) (by decide) (fun v9 u18 ch17 => ?_)
  obtain ⟨s_19, f_20⟩ := u18
  obtain ⟨ech17, ch17⟩ := ch17
  have ech17 : v9 = none := ech17
  subst ech17
  obtain ⟨fh21, fh22, fh23, fh24⟩ : (s_19.toInt = s_10.toInt + (26 : Int32).toInt) ∧ (∀ j : Int, 0 ≤ j → gr f_20 j = if s_10.toInt ≤ j ∧ j < s_10.toInt + (26 : Int32).toInt then gr f_11 (i16.toInt + (j - s_10.toInt)) else gr f_11 j) ∧ (ap_ f_11 s_10.toInt f_20 s_19.toInt (bl_ f_11 i16.toInt (26 : Int32).toInt)) ∧ (sb_Fit f_20) := ch17
  have aK := ap_app h0 aK (ap_e fh23 ((bl_cg (by first | omega | decide) (fun k h0 h1 => (aK.2.1 _ (by omega) (by omega)).trans (congrArg (gr f) (by omega)))).trans hS))
  refine pb_eq (pc' := 42) (lo' := [(0, .ref h), (1, .ref sp), (2, .int i)]) (rest' := []) (ws' := [(h, .inr (6, [.ref mm, .ref mr])), (mr, .inl (G.2.2.1, 16, .inl fr)), (sp, .inr (3, [.ref tn, .ref tz, .ref tb, .ref tg, .int c])), (tn, .inl (G.2.1, 384, .inl tfn)), (tz, .inl (G.2.2.1, 16, .inl tfz)), (mm, .inr (0, [.ref mb, .int s_19])), (mb, .inl (G.2.1, 14006, .inl f_20))]) ?_
  refine pb_aload_n (pc := 42) d_FileMaker_putEntry_42 0 rfl rfl ?_
  refine pb_get (pc := 43) d_FileMaker_putEntry_43 0 0 rfl rfl (by decide) in_FileMaker k_292 rfl ?_
  refine pb_iconst (pc := 46) (v := 0) d_FileMaker_putEntry_46 (by decide) ?_
  refine pb_callV (pc := 47) (I := i_FileMaker_putEntry) (qb := 5) (ci := 0) (nA := 1) (rest := []) (wr := [(h, .inr (6, [.ref mm, .ref mr])), (mr, .inl (G.2.2.1, 16, .inl fr)), (sp, .inr (3, [.ref tn, .ref tz, .ref tb, .ref tg, .int c])), (tn, .inl (G.2.1, 384, .inl tfn)), (tz, .inl (G.2.2.1, 16, .inl tfz))]) d_FileMaker_putEntry_47 (g_Row_putTwo hl G mm mb 14006 f_20 s_19 0 (by first | (with_reducible assumption) | omega (splitDisjunctions := false) | assumption | omega | decide) (by first | (with_reducible assumption) | omega (splitDisjunctions := false) | assumption | omega | decide) (by first | (with_reducible assumption) | omega (splitDisjunctions := false) | assumption | omega | decide) fh24) rfl rfl [5, 6] [0, 1, 2, 3, 4] (by decide) rfl rfl rfl (by decide) (by decide) k_551 rfl k_119 k_556 k_549 k_550 ⟨rfl, hy_Row_putTwo⟩ (by decide) rfl rfl (Nat.le_of_ble_eq_true rfl) (by decide) (fun v9 u26 ch25 => ?_)
  obtain ⟨s_27, f_28⟩ := u26
  obtain ⟨ech25, ch25⟩ := ch25
  have ech25 : v9 = none := ech25
  subst ech25
  obtain ⟨fh29, fh30, fh31⟩ : (s_27.toInt = s_19.toInt + 2) ∧ (ap_ f_20 s_19.toInt f_28 s_27.toInt (nk_ (0 : Int32).toInt 2)) ∧ (sb_Fit f_28) := ch25
  have aK := ap_app h0 aK fh30
  refine pb_eq (pc' := 50) (lo' := [(0, .ref h), (1, .ref sp), (2, .int i)]) (rest' := []) (ws' := [(h, .inr (6, [.ref mm, .ref mr])), (mr, .inl (G.2.2.1, 16, .inl fr)), (sp, .inr (3, [.ref tn, .ref tz, .ref tb, .ref tg, .int c])), (tn, .inl (G.2.1, 384, .inl tfn)), (tz, .inl (G.2.2.1, 16, .inl tfz)), (mm, .inr (0, [.ref mb, .int s_27])), (mb, .inl (G.2.1, 14006, .inl f_28))]) ?_
  refine pb_aload_n (pc := 50) d_FileMaker_putEntry_50 0 rfl rfl ?_
  refine pb_get (pc := 51) d_FileMaker_putEntry_51 0 0 rfl rfl (by decide) in_FileMaker k_292 rfl ?_
  refine pb_iconst (pc := 54) (v := 0) d_FileMaker_putEntry_54 (by decide) ?_
  refine pb_callV (pc := 55) (I := i_FileMaker_putEntry) (qb := 5) (ci := 0) (nA := 1) (rest := []) (wr := [(h, .inr (6, [.ref mm, .ref mr])), (mr, .inl (G.2.2.1, 16, .inl fr)), (sp, .inr (3, [.ref tn, .ref tz, .ref tb, .ref tg, .int c])), (tn, .inl (G.2.1, 384, .inl tfn)), (tz, .inl (G.2.2.1, 16, .inl tfz))]) d_FileMaker_putEntry_55 (g_Row_putTwo hl G mm mb 14006 f_28 s_27 0 (by first | (with_reducible assumption) | omega (splitDisjunctions := false) | assumption | omega | decide) (by first | (with_reducible assumption) | omega (splitDisjunctions := false) | assumption | omega | decide) (by first | (with_reducible assumption) | omega (splitDisjunctions := false) | assumption | omega | decide) fh31) rfl rfl [5, 6] [0, 1, 2, 3, 4] (by decide) rfl rfl rfl (by decide) (by decide) k_551 rfl k_119 k_556 k_549 k_550 ⟨rfl, hy_Row_putTwo⟩ (by decide) rfl rfl (Nat.le_of_ble_eq_true rfl) (by decide) (fun v9 u33 ch32 => ?_)
  obtain ⟨s_34, f_35⟩ := u33
  obtain ⟨ech32, ch32⟩ := ch32
  have ech32 : v9 = none := ech32
  subst ech32
  obtain ⟨fh36, fh37, fh38⟩ : (s_34.toInt = s_27.toInt + 2) ∧ (ap_ f_28 s_27.toInt f_35 s_34.toInt (nk_ (0 : Int32).toInt 2)) ∧ (sb_Fit f_35) := ch32
  have aK := ap_app h0 aK fh37
  refine pb_eq (pc' := 58) (lo' := [(0, .ref h), (1, .ref sp), (2, .int i)]) (rest' := []) (ws' := [(h, .inr (6, [.ref mm, .ref mr])), (mr, .inl (G.2.2.1, 16, .inl fr)), (sp, .inr (3, [.ref tn, .ref tz, .ref tb, .ref tg, .int c])), (tn, .inl (G.2.1, 384, .inl tfn)), (tz, .inl (G.2.2.1, 16, .inl tfz)), (mm, .inr (0, [.ref mb, .int s_34])), (mb, .inl (G.2.1, 14006, .inl f_35))]) ?_
  refine pb_aload_n (pc := 58) d_FileMaker_putEntry_58 0 rfl rfl ?_
  refine pb_get (pc := 59) d_FileMaker_putEntry_59 0 0 rfl rfl (by decide) in_FileMaker k_292 rfl ?_
  refine pb_iconst (pc := 62) (v := 0) d_FileMaker_putEntry_62 (by decide) ?_
  refine pb_callV (pc := 63) (I := i_FileMaker_putEntry) (qb := 5) (ci := 0) (nA := 1) (rest := []) (wr := [(h, .inr (6, [.ref mm, .ref mr])), (mr, .inl (G.2.2.1, 16, .inl fr)), (sp, .inr (3, [.ref tn, .ref tz, .ref tb, .ref tg, .int c])), (tn, .inl (G.2.1, 384, .inl tfn)), (tz, .inl (G.2.2.1, 16, .inl tfz))]) d_FileMaker_putEntry_63 (g_Row_putTwo hl G mm mb 14006 f_35 s_34 0 (by first | (with_reducible assumption) | omega (splitDisjunctions := false) | assumption | omega | decide) (by first | (with_reducible assumption) | omega (splitDisjunctions := false) | assumption | omega | decide) (by first | (with_reducible assumption) | omega (splitDisjunctions := false) | assumption | omega | decide) fh38) rfl rfl [5, 6] [0, 1, 2, 3, 4] (by decide) rfl rfl rfl (by decide) (by decide) k_551 rfl k_119 k_556 k_549 k_550 ⟨rfl, hy_Row_putTwo⟩ (by decide) rfl rfl (Nat.le_of_ble_eq_true rfl) (by decide) (fun v9 u40 ch39 => ?_)
  obtain ⟨s_41, f_42⟩ := u40
  obtain ⟨ech39, ch39⟩ := ch39
  have ech39 : v9 = none := ech39
  subst ech39
  obtain ⟨fh43, fh44, fh45⟩ : (s_41.toInt = s_34.toInt + 2) ∧ (ap_ f_35 s_34.toInt f_42 s_41.toInt (nk_ (0 : Int32).toInt 2)) ∧ (sb_Fit f_42) := ch39
  have aK := ap_app h0 aK fh44
  refine pb_eq (pc' := 66) (lo' := [(0, .ref h), (1, .ref sp), (2, .int i)]) (rest' := []) (ws' := [(h, .inr (6, [.ref mm, .ref mr])), (mr, .inl (G.2.2.1, 16, .inl fr)), (sp, .inr (3, [.ref tn, .ref tz, .ref tb, .ref tg, .int c])), (tn, .inl (G.2.1, 384, .inl tfn)), (tz, .inl (G.2.2.1, 16, .inl tfz)), (mm, .inr (0, [.ref mb, .int s_41])), (mb, .inl (G.2.1, 14006, .inl f_42))]) ?_
  refine pb_aload_n (pc := 66) d_FileMaker_putEntry_66 0 rfl rfl ?_
  refine pb_get (pc := 67) d_FileMaker_putEntry_67 0 0 rfl rfl (by decide) in_FileMaker k_292 rfl ?_
  refine pb_iconst (pc := 70) (v := 0) d_FileMaker_putEntry_70 (by decide) ?_
  refine pb_callV (pc := 71) (I := i_FileMaker_putEntry) (qb := 5) (ci := 0) (nA := 1) (rest := []) (wr := [(h, .inr (6, [.ref mm, .ref mr])), (mr, .inl (G.2.2.1, 16, .inl fr)), (sp, .inr (3, [.ref tn, .ref tz, .ref tb, .ref tg, .int c])), (tn, .inl (G.2.1, 384, .inl tfn)), (tz, .inl (G.2.2.1, 16, .inl tfz))]) d_FileMaker_putEntry_71 (g_Row_putFour hl G mm mb 14006 f_42 s_41 0 (by first | (with_reducible assumption) | omega (splitDisjunctions := false) | assumption | omega | decide) (by first | (with_reducible assumption) | omega (splitDisjunctions := false) | assumption | omega | decide) (by first | (with_reducible assumption) | omega (splitDisjunctions := false) | assumption | omega | decide) fh45) rfl rfl [5, 6] [0, 1, 2, 3, 4] (by decide) rfl rfl rfl (by decide) (by decide) k_547 rfl k_119 k_544 k_545 k_546 ⟨rfl, hy_Row_putFour⟩ (by decide) rfl rfl (Nat.le_of_ble_eq_true rfl) (by decide) (fun v9 u47 ch46 => ?_)
  obtain ⟨s_48, f_49⟩ := u47
  obtain ⟨ech46, ch46⟩ := ch46
  have ech46 : v9 = none := ech46
  subst ech46
  obtain ⟨fh50, fh51, fh52⟩ : (s_48.toInt = s_41.toInt + 4) ∧ (ap_ f_42 s_41.toInt f_49 s_48.toInt (nk_ (0 : Int32).toInt 4)) ∧ (sb_Fit f_49) := ch46
  have aK := ap_app h0 aK fh51
  refine pb_eq (pc' := 74) (lo' := [(0, .ref h), (1, .ref sp), (2, .int i)]) (rest' := []) (ws' := [(h, .inr (6, [.ref mm, .ref mr])), (mr, .inl (G.2.2.1, 16, .inl fr)), (sp, .inr (3, [.ref tn, .ref tz, .ref tb, .ref tg, .int c])), (tn, .inl (G.2.1, 384, .inl tfn)), (tz, .inl (G.2.2.1, 16, .inl tfz)), (mm, .inr (0, [.ref mb, .int s_48])), (mb, .inl (G.2.1, 14006, .inl f_49))]) ?_
  refine pb_aload_n (pc := 74) d_FileMaker_putEntry_74 0 rfl rfl ?_
  refine pb_get (pc := 75) d_FileMaker_putEntry_75 0 0 rfl rfl (by decide) in_FileMaker k_292 rfl ?_
  refine pb_aload_n (pc := 78) d_FileMaker_putEntry_78 0 rfl rfl ?_
  refine pb_get (pc := 79) d_FileMaker_putEntry_79 0 1 rfl rfl (by decide) in_FileMaker k_294 rfl ?_
  refine pb_iload_n (pc := 82) d_FileMaker_putEntry_82 2 rfl rfl ?_
  refine pb_iald (pc := 83) d_FileMaker_putEntry_83 1 rfl (vp_in_iff.mpr (by constructor <;> omega)) ?_
  refine pb_topi (fun i53 ei53 => ?_)
  have ti53 : i53.toInt = gx fr (i.toInt) := gx_ld ei53 rfl
  have eRc : i53.toInt = gx fr i.toInt := by omega
  refine pb_callV (pc := 84) (I := i_FileMaker_putEntry) (qb := 5) (ci := 0) (nA := 1) (rest := []) (wr := [(h, .inr (6, [.ref mm, .ref mr])), (mr, .inl (G.2.2.1, 16, .inl fr)), (sp, .inr (3, [.ref tn, .ref tz, .ref tb, .ref tg, .int c])), (tn, .inl (G.2.1, 384, .inl tfn)), (tz, .inl (G.2.2.1, 16, .inl tfz))]) d_FileMaker_putEntry_84 (g_Row_putFour hl G mm mb 14006 f_49 s_48 i53 (by first | (with_reducible assumption) | omega (splitDisjunctions := false) | assumption | omega | decide) (by first | (with_reducible assumption) | omega (splitDisjunctions := false) | assumption | omega | decide) (by first | (with_reducible assumption) | omega (splitDisjunctions := false) | assumption | omega | decide) fh52) rfl rfl [5, 6] [0, 1, 2, 3, 4] (by decide) rfl rfl rfl (by decide) (by decide) k_547 rfl k_119 k_544 k_545 k_546 ⟨rfl, hy_Row_putFour⟩ (by decide) rfl rfl (Nat.le_of_ble_eq_true rfl) (by decide) (fun v9 u55 ch54 => ?_)
  obtain ⟨s_56, f_57⟩ := u55
  obtain ⟨ech54, ch54⟩ := ch54
  have ech54 : v9 = none := ech54
  subst ech54
  obtain ⟨fh58, fh59, fh60⟩ : (s_56.toInt = s_48.toInt + 4) ∧ (ap_ f_49 s_48.toInt f_57 s_56.toInt (nk_ i53.toInt 4)) ∧ (sb_Fit f_57) := ch54
  have aK := ap_app h0 aK fh59
  refine pb_eq (pc' := 87) (lo' := [(0, .ref h), (1, .ref sp), (2, .int i)]) (rest' := []) (ws' := [(h, .inr (6, [.ref mm, .ref mr])), (mr, .inl (G.2.2.1, 16, .inl fr)), (sp, .inr (3, [.ref tn, .ref tz, .ref tb, .ref tg, .int c])), (tn, .inl (G.2.1, 384, .inl tfn)), (tz, .inl (G.2.2.1, 16, .inl tfz)), (mm, .inr (0, [.ref mb, .int s_56])), (mb, .inl (G.2.1, 14006, .inl f_57))]) ?_
  refine pb_aload_n (pc := 87) d_FileMaker_putEntry_87 0 rfl rfl ?_
  refine pb_get (pc := 88) d_FileMaker_putEntry_88 0 0 rfl rfl (by decide) in_FileMaker k_292 rfl ?_
  refine pb_aload_n (pc := 91) d_FileMaker_putEntry_91 1 rfl rfl ?_
  refine pb_getN (pc := 92) d_FileMaker_putEntry_92 2 0 rfl rfl (by decide) in_Shelf k_390 rfl ?_
  refine pb_bipush (pc := 95) (v := 24) d_FileMaker_putEntry_95 (by decide) ?_
  refine pb_iload_n (pc := 97) d_FileMaker_putEntry_97 2 rfl rfl ?_
  refine pb_imul (pc := 98) d_FileMaker_putEntry_98 ?_
  refine pb_topi (fun i61 ei61 => ?_)
  try have ti61 : i61.toInt = 24 * i.toInt := ti_mul ei61 (by decide) rfl (by omega) (by omega)
  refine pb_aload_n (pc := 99) d_FileMaker_putEntry_99 1 rfl rfl ?_
  refine pb_getN (pc := 100) d_FileMaker_putEntry_100 2 1 rfl rfl (by decide) in_Shelf k_393 rfl ?_
  refine pb_iload_n (pc := 103) d_FileMaker_putEntry_103 2 rfl rfl ?_
  refine pb_iald (pc := 104) d_FileMaker_putEntry_104 4 rfl (vp_in_iff.mpr (by constructor <;> omega)) ?_
  refine pb_topi (fun i62 ei62 => ?_)
  have ti62 : i62.toInt = gx tfz (i.toInt) := gx_ld ei62 rfl
  have eNz : i62.toInt = vZ V i.toInt := by have q9 := (R.2 i.toInt (by omega) (by omega)).1; omega
  have eNx : i61.toInt = 24 * i.toInt := by omega
  refine pb_callV (pc := 105) (I := i_FileMaker_putEntry) (qb := 5) (ci := 0) (nA := 3) (rest := []) (wr := [(h, .inr (6, [.ref mm, .ref mr])), (mr, .inl (G.2.2.1, 16, .inl fr)), (sp, .inr (3, [.ref tn, .ref tz, .ref tb, .ref tg, .int c])), (tz, .inl (G.2.2.1, 16, .inl tfz))]) d_FileMaker_putEntry_105 (g_Row_putBytes hl G mm mb 14006 f_57 s_56 tn 384 tfn i61 i62 (by first | (with_reducible assumption) | omega (splitDisjunctions := false) | assumption | omega | decide) (by first | (with_reducible assumption) | omega (splitDisjunctions := false) | assumption | omega | decide) (by first | (with_reducible assumption) | (exact omg_055b9d50e1 h1 zl26 p5 fh5 fh12 fh21 fh29 fh36 fh43 fh50 fh58 ti62) | assumption | omega | decide) (by first | (with_reducible assumption) | omega (splitDisjunctions := false) | assumption | omega | decide) (by first | (with_reducible assumption) | omega (splitDisjunctions := false) | assumption | omega | decide) (by first | (with_reducible assumption) | omega (splitDisjunctions := false) | assumption | omega | decide) (by first | (with_reducible assumption) | omega (splitDisjunctions := false) | assumption | omega | decide) fh60 F_tfn) rfl rfl [5, 6, 3] [0, 1, 2, 4] (by decide) rfl rfl rfl (by decide) (by decide) k_564 rfl k_119 k_561 k_562 k_563 ⟨rfl, hy_Row_putBytes⟩ (by decide) rfl rfl (Nat.le_of_ble_eq_true rfl) (by decide) (fun v9 u64 ch63 => ?_)
  obtain ⟨s_65, f_66⟩ := u64
  obtain ⟨ech63, ch63⟩ := ch63
  have ech63 : v9 = none := ech63
  subst ech63
  obtain ⟨fh67, fh68, fh69, fh70⟩ : (s_65.toInt = s_56.toInt + i62.toInt) ∧ (∀ j : Int, 0 ≤ j → gr f_66 j = if s_56.toInt ≤ j ∧ j < s_56.toInt + i62.toInt then gr tfn (i61.toInt + (j - s_56.toInt)) else gr f_57 j) ∧ (ap_ f_57 s_56.toInt f_66 s_65.toInt (bl_ tfn i61.toInt i62.toInt)) ∧ (sb_Fit f_66) := ch63
  have aK := ap_app h0 aK fh69
  refine pb_eq (pc' := 108) (lo' := [(0, .ref h), (1, .ref sp), (2, .int i)]) (rest' := []) (ws' := [(h, .inr (6, [.ref mm, .ref mr])), (mr, .inl (G.2.2.1, 16, .inl fr)), (sp, .inr (3, [.ref tn, .ref tz, .ref tb, .ref tg, .int c])), (tz, .inl (G.2.2.1, 16, .inl tfz)), (mm, .inr (0, [.ref mb, .int s_65])), (mb, .inl (G.2.1, 14006, .inl f_66)), (tn, .inl (G.2.1, 384, .inl tfn))]) ?_
  exact pb_vret (pc := 108) hQ d_FileMaker_putEntry_108 rfl (s_65, f_66) ⟨rfl, (by (try dsimp only); first | done | (with_reducible assumption) | (exact omg_be203c1c1f zl26 p5 fh5 fh12 fh21 fh29 fh36 fh43 fh50 fh58 ti62 fh67) | assumption | omega | decide), (by (try dsimp only); first | done | (with_reducible assumption) | omega (splitDisjunctions := false) | assumption | omega | decide), (show ap_ f s.toInt f_66 s_65.toInt (en_L V i.toInt P9 (gx fr i.toInt)) from (ap_e aK (by rw [eRc]; exact en_E (by first | decide | omega) (by first | decide | omega) rfl (by first | decide | omega) (by first | decide | omega) (by first | decide | omega) (by first | decide | omega) (NL_bl eNz (fun k h0 h1 => (by rw [eNx]; exact (R.2 i.toInt (by omega) (by omega)).2 k h0 h1)))))), fh70⟩ [0, 4, 5, 1, 2, 6, 3] (by decide) rfl rfl (by decide) (by decide)

theorem d_FileMaker_putRecord_0 : decode prog_4_method_3_code 0 = .ok (.aload_n 1, 1) := by decide +kernel
theorem d_FileMaker_putRecord_1 : decode prog_4_method_3_code 1 = .ok (.getfield 45, 3) := by decide +kernel
theorem k_401 : (Jvm.Cond.fieldLinkNest "PackageBook$FileMaker" (45 : Nat) "PackageBook$Shelf" "begins" "[I" "PackageBook") ∈ uN := uN_of 401 (by decide +kernel) (by decide +kernel)
theorem d_FileMaker_putRecord_4 : decode prog_4_method_3_code 4 = .ok (.iload_n 2, 1) := by decide +kernel
theorem d_FileMaker_putRecord_5 : decode prog_4_method_3_code 5 = .ok (.iaload, 1) := by decide +kernel
theorem d_FileMaker_putRecord_6 : decode prog_4_method_3_code 6 = .ok (.istore 4, 2) := by decide +kernel
theorem d_FileMaker_putRecord_8 : decode prog_4_method_3_code 8 = .ok (.aload_n 1, 1) := by decide +kernel
theorem d_FileMaker_putRecord_9 : decode prog_4_method_3_code 9 = .ok (.iload_n 2, 1) := by decide +kernel
theorem d_FileMaker_putRecord_10 : decode prog_4_method_3_code 10 = .ok (.invokevirtual 48, 3) := by decide +kernel
theorem k_497 : (Jvm.Cond.methodLink "PackageBook$FileMaker" (48 : Nat) ({ cls := "PackageBook$Shelf", name := "sizeOf", desc := "(I)I" } : Jvm.MethodName)) ∈ uW := uW_of 497 (by decide +kernel) (by decide +kernel)
theorem d_FileMaker_putRecord_13 : decode prog_4_method_3_code 13 = .ok (.istore 5, 2) := by decide +kernel
theorem d_FileMaker_putRecord_15 : decode prog_4_method_3_code 15 = .ok (.aload_n 3, 1) := by decide +kernel
theorem d_FileMaker_putRecord_16 : decode prog_4_method_3_code 16 = .ok (.aload_n 1, 1) := by decide +kernel
theorem d_FileMaker_putRecord_17 : decode prog_4_method_3_code 17 = .ok (.getfield 52, 3) := by decide +kernel
theorem k_397 : (Jvm.Cond.fieldLinkNest "PackageBook$FileMaker" (52 : Nat) "PackageBook$Shelf" "bytes" "[B" "PackageBook") ∈ uN := uN_of 397 (by decide +kernel) (by decide +kernel)
theorem d_FileMaker_putRecord_20 : decode prog_4_method_3_code 20 = .ok (.iload 4, 2) := by decide +kernel
theorem d_FileMaker_putRecord_22 : decode prog_4_method_3_code 22 = .ok (.iload 5, 2) := by decide +kernel
theorem d_FileMaker_putRecord_24 : decode prog_4_method_3_code 24 = .ok (.invokevirtual 56, 3) := by decide +kernel
theorem k_498 : (Jvm.Cond.methodLink "PackageBook$FileMaker" (56 : Nat) ({ cls := "PackageBook$Presser", name := "run", desc := "([BII)V" } : Jvm.MethodName)) ∈ uW := uW_of 498 (by decide +kernel) (by decide +kernel)
theorem k_501 : (Jvm.Cond.code ({ cls := "PackageBook$Presser", name := "run", desc := "([BII)V" } : Jvm.MethodName) prog_8_method_2_code (6 : Nat) (Option.none : Option Jvm.ClassFile.FieldType)) ∈ uW := uW_of 501 (by decide +kernel) (by decide +kernel)
theorem k_499 : (Jvm.Cond.instanceMethod ({ cls := "PackageBook$Presser", name := "run", desc := "([BII)V" } : Jvm.MethodName)) ∈ uW := uW_of 499 (by decide +kernel) (by decide +kernel)
theorem k_500 : (Jvm.Cond.selects "PackageBook$Presser" ({ cls := "PackageBook$Presser", name := "run", desc := "([BII)V" } : Jvm.MethodName) ({ cls := "PackageBook$Presser", name := "run", desc := "([BII)V" } : Jvm.MethodName)) ∈ uW := uW_of 500 (by decide +kernel) (by decide +kernel)
theorem hy_Presser_run : (y_Presser_run).cls ≠ "java/lang/invoke/MethodHandle" ∧ (y_Presser_run).cls ≠ "java/lang/invoke/VarHandle" ∧ (parseMethodDescriptor (y_Presser_run).desc).map (fun d => d.parameters.length) = some 3 := by decide +kernel
theorem d_FileMaker_putRecord_27 : decode prog_4_method_3_code 27 = .ok (.aload_n 3, 1) := by decide +kernel
theorem d_FileMaker_putRecord_28 : decode prog_4_method_3_code 28 = .ok (.getfield 62, 3) := by decide +kernel
theorem k_182 : (Jvm.Cond.fieldLinkNest "PackageBook$FileMaker" (62 : Nat) "PackageBook$Presser" "pressed" "LPackageBook$Row;" "PackageBook") ∈ uN := uN_of 182 (by decide +kernel) (by decide +kernel)
theorem d_FileMaker_putRecord_31 : decode prog_4_method_3_code 31 = .ok (.getfield 24, 3) := by decide +kernel
theorem d_FileMaker_putRecord_34 : decode prog_4_method_3_code 34 = .ok (.iload 5, 2) := by decide +kernel
theorem d_FileMaker_putRecord_36 : decode prog_4_method_3_code 36 = .ok (.if_icmp .ge 7, 3) := by decide +kernel
theorem d_FileMaker_putRecord_43 : decode prog_4_method_3_code 43 = .ok (.iconst 0, 1) := by decide +kernel
theorem d_FileMaker_putRecord_44 : decode prog_4_method_3_code 44 = .ok (.istore 6, 2) := by decide +kernel
theorem d_FileMaker_putRecord_46 : decode prog_4_method_3_code 46 = .ok (.aload_n 0, 1) := by decide +kernel
theorem d_FileMaker_putRecord_47 : decode prog_4_method_3_code 47 = .ok (.getfield 14, 3) := by decide +kernel
theorem d_FileMaker_putRecord_50 : decode prog_4_method_3_code 50 = .ok (.ldc 65, 2) := by decide +kernel
theorem k_543 : (Jvm.Cond.constant "PackageBook$FileMaker" (65 : Nat) (67324752 : Int32)) ∈ uW := uW_of 543 (by decide +kernel) (by decide +kernel)
theorem d_FileMaker_putRecord_52 : decode prog_4_method_3_code 52 = .ok (.invokevirtual 66, 3) := by decide +kernel
theorem d_FileMaker_putRecord_55 : decode prog_4_method_3_code 55 = .ok (.aload_n 0, 1) := by decide +kernel
theorem d_FileMaker_putRecord_56 : decode prog_4_method_3_code 56 = .ok (.getfield 14, 3) := by decide +kernel
theorem d_FileMaker_putRecord_59 : decode prog_4_method_3_code 59 = .ok (.bipush 20, 2) := by decide +kernel
theorem d_FileMaker_putRecord_61 : decode prog_4_method_3_code 61 = .ok (.invokevirtual 69, 3) := by decide +kernel
theorem d_FileMaker_putRecord_64 : decode prog_4_method_3_code 64 = .ok (.aload_n 0, 1) := by decide +kernel
theorem d_FileMaker_putRecord_65 : decode prog_4_method_3_code 65 = .ok (.getfield 14, 3) := by decide +kernel
theorem d_FileMaker_putRecord_68 : decode prog_4_method_3_code 68 = .ok (.iconst 0, 1) := by decide +kernel
theorem d_FileMaker_putRecord_69 : decode prog_4_method_3_code 69 = .ok (.invokevirtual 69, 3) := by decide +kernel
theorem d_FileMaker_putRecord_72 : decode prog_4_method_3_code 72 = .ok (.aload_n 0, 1) := by decide +kernel
theorem d_FileMaker_putRecord_73 : decode prog_4_method_3_code 73 = .ok (.getfield 14, 3) := by decide +kernel
theorem d_FileMaker_putRecord_76 : decode prog_4_method_3_code 76 = .ok (.iload 6, 2) := by decide +kernel
theorem d_FileMaker_putRecord_78 : decode prog_4_method_3_code 78 = .ok (.ifCond .eq 8, 3) := by decide +kernel
theorem d_FileMaker_putRecord_86 : decode prog_4_method_3_code 86 = .ok (.iconst 0, 1) := by decide +kernel
theorem d_FileMaker_putRecord_87 : decode prog_4_method_3_code 87 = .ok (.invokevirtual 69, 3) := by decide +kernel
theorem d_FileMaker_putRecord_90 : decode prog_4_method_3_code 90 = .ok (.aload_n 0, 1) := by decide +kernel
theorem d_FileMaker_putRecord_91 : decode prog_4_method_3_code 91 = .ok (.getfield 14, 3) := by decide +kernel
theorem d_FileMaker_putRecord_94 : decode prog_4_method_3_code 94 = .ok (.iconst 0, 1) := by decide +kernel
theorem d_FileMaker_putRecord_95 : decode prog_4_method_3_code 95 = .ok (.invokevirtual 69, 3) := by decide +kernel
theorem d_FileMaker_putRecord_98 : decode prog_4_method_3_code 98 = .ok (.aload_n 0, 1) := by decide +kernel
theorem d_FileMaker_putRecord_99 : decode prog_4_method_3_code 99 = .ok (.getfield 14, 3) := by decide +kernel
theorem d_FileMaker_putRecord_102 : decode prog_4_method_3_code 102 = .ok (.bipush 33, 2) := by decide +kernel
theorem d_FileMaker_putRecord_104 : decode prog_4_method_3_code 104 = .ok (.invokevirtual 69, 3) := by decide +kernel
theorem d_FileMaker_putRecord_107 : decode prog_4_method_3_code 107 = .ok (.aload_n 0, 1) := by decide +kernel
theorem d_FileMaker_putRecord_108 : decode prog_4_method_3_code 108 = .ok (.getfield 14, 3) := by decide +kernel
theorem d_FileMaker_putRecord_111 : decode prog_4_method_3_code 111 = .ok (.aload_n 1, 1) := by decide +kernel
theorem d_FileMaker_putRecord_112 : decode prog_4_method_3_code 112 = .ok (.getfield 52, 3) := by decide +kernel
theorem d_FileMaker_putRecord_115 : decode prog_4_method_3_code 115 = .ok (.iload 4, 2) := by decide +kernel
theorem d_FileMaker_putRecord_117 : decode prog_4_method_3_code 117 = .ok (.iload 5, 2) := by decide +kernel
theorem d_FileMaker_putRecord_119 : decode prog_4_method_3_code 119 = .ok (.invokestatic 72, 3) := by decide +kernel
theorem k_557 : (Jvm.Cond.methodLinkNest "PackageBook$FileMaker" (72 : Nat) ({ cls := "PackageBook", name := "sumOf", desc := "([BII)I" } : Jvm.MethodName) "PackageBook") ∈ uN := uN_of 557 (by decide +kernel) (by decide +kernel)
theorem k_559 : (Jvm.Cond.code ({ cls := "PackageBook", name := "sumOf", desc := "([BII)I" } : Jvm.MethodName) prog_1_method_29_code (7 : Nat) (Option.some Jvm.ClassFile.FieldType.int)) ∈ uW := uW_of 559 (by decide +kernel) (by decide +kernel)
theorem k_558 : (Jvm.Cond.static ({ cls := "PackageBook", name := "sumOf", desc := "([BII)I" } : Jvm.MethodName)) ∈ uW := uW_of 558 (by decide +kernel) (by decide +kernel)
theorem hy_Book_sumOf : (y_Book_sumOf).cls ≠ "java/lang/invoke/MethodHandle" ∧ (y_Book_sumOf).cls ≠ "java/lang/invoke/VarHandle" ∧ (parseMethodDescriptor (y_Book_sumOf).desc).map (fun d => d.parameters.length) = some 3 := by decide +kernel
theorem d_FileMaker_putRecord_122 : decode prog_4_method_3_code 122 = .ok (.invokevirtual 66, 3) := by decide +kernel
theorem d_FileMaker_putRecord_125 : decode prog_4_method_3_code 125 = .ok (.aload_n 0, 1) := by decide +kernel
theorem d_FileMaker_putRecord_126 : decode prog_4_method_3_code 126 = .ok (.getfield 14, 3) := by decide +kernel
theorem d_FileMaker_putRecord_129 : decode prog_4_method_3_code 129 = .ok (.iload 6, 2) := by decide +kernel
theorem d_FileMaker_putRecord_131 : decode prog_4_method_3_code 131 = .ok (.ifCond .eq 13, 3) := by decide +kernel
theorem d_FileMaker_putRecord_144 : decode prog_4_method_3_code 144 = .ok (.iload 5, 2) := by decide +kernel
theorem d_FileMaker_putRecord_146 : decode prog_4_method_3_code 146 = .ok (.invokevirtual 66, 3) := by decide +kernel
theorem d_FileMaker_putRecord_149 : decode prog_4_method_3_code 149 = .ok (.aload_n 0, 1) := by decide +kernel
theorem d_FileMaker_putRecord_150 : decode prog_4_method_3_code 150 = .ok (.getfield 14, 3) := by decide +kernel
theorem d_FileMaker_putRecord_153 : decode prog_4_method_3_code 153 = .ok (.iload 5, 2) := by decide +kernel
theorem d_FileMaker_putRecord_155 : decode prog_4_method_3_code 155 = .ok (.invokevirtual 66, 3) := by decide +kernel
theorem d_FileMaker_putRecord_158 : decode prog_4_method_3_code 158 = .ok (.aload_n 0, 1) := by decide +kernel
theorem d_FileMaker_putRecord_159 : decode prog_4_method_3_code 159 = .ok (.getfield 14, 3) := by decide +kernel
theorem d_FileMaker_putRecord_162 : decode prog_4_method_3_code 162 = .ok (.aload_n 1, 1) := by decide +kernel
theorem d_FileMaker_putRecord_163 : decode prog_4_method_3_code 163 = .ok (.getfield 76, 3) := by decide +kernel
theorem d_FileMaker_putRecord_166 : decode prog_4_method_3_code 166 = .ok (.iload_n 2, 1) := by decide +kernel
theorem d_FileMaker_putRecord_167 : decode prog_4_method_3_code 167 = .ok (.iaload, 1) := by decide +kernel
theorem d_FileMaker_putRecord_168 : decode prog_4_method_3_code 168 = .ok (.invokevirtual 69, 3) := by decide +kernel
theorem d_FileMaker_putRecord_171 : decode prog_4_method_3_code 171 = .ok (.aload_n 0, 1) := by decide +kernel
theorem d_FileMaker_putRecord_172 : decode prog_4_method_3_code 172 = .ok (.getfield 14, 3) := by decide +kernel
theorem d_FileMaker_putRecord_175 : decode prog_4_method_3_code 175 = .ok (.iconst 0, 1) := by decide +kernel
theorem d_FileMaker_putRecord_176 : decode prog_4_method_3_code 176 = .ok (.invokevirtual 69, 3) := by decide +kernel
theorem d_FileMaker_putRecord_179 : decode prog_4_method_3_code 179 = .ok (.aload_n 0, 1) := by decide +kernel
theorem d_FileMaker_putRecord_180 : decode prog_4_method_3_code 180 = .ok (.getfield 14, 3) := by decide +kernel
theorem d_FileMaker_putRecord_183 : decode prog_4_method_3_code 183 = .ok (.aload_n 1, 1) := by decide +kernel
theorem d_FileMaker_putRecord_184 : decode prog_4_method_3_code 184 = .ok (.getfield 79, 3) := by decide +kernel
theorem d_FileMaker_putRecord_187 : decode prog_4_method_3_code 187 = .ok (.bipush 24, 2) := by decide +kernel
theorem d_FileMaker_putRecord_189 : decode prog_4_method_3_code 189 = .ok (.iload_n 2, 1) := by decide +kernel
theorem d_FileMaker_putRecord_190 : decode prog_4_method_3_code 190 = .ok (.imul, 1) := by decide +kernel
theorem d_FileMaker_putRecord_191 : decode prog_4_method_3_code 191 = .ok (.aload_n 1, 1) := by decide +kernel
theorem d_FileMaker_putRecord_192 : decode prog_4_method_3_code 192 = .ok (.getfield 76, 3) := by decide +kernel
theorem d_FileMaker_putRecord_195 : decode prog_4_method_3_code 195 = .ok (.iload_n 2, 1) := by decide +kernel
theorem d_FileMaker_putRecord_196 : decode prog_4_method_3_code 196 = .ok (.iaload, 1) := by decide +kernel
theorem d_FileMaker_putRecord_197 : decode prog_4_method_3_code 197 = .ok (.invokevirtual 82, 3) := by decide +kernel
theorem d_FileMaker_putRecord_200 : decode prog_4_method_3_code 200 = .ok (.iload 6, 2) := by decide +kernel
theorem d_FileMaker_putRecord_202 : decode prog_4_method_3_code 202 = .ok (.ifCond .eq 28, 3) := by decide +kernel
theorem d_FileMaker_putRecord_230 : decode prog_4_method_3_code 230 = .ok (.aload_n 0, 1) := by decide +kernel
theorem d_FileMaker_putRecord_231 : decode prog_4_method_3_code 231 = .ok (.getfield 14, 3) := by decide +kernel
theorem d_FileMaker_putRecord_234 : decode prog_4_method_3_code 234 = .ok (.aload_n 1, 1) := by decide +kernel
theorem d_FileMaker_putRecord_235 : decode prog_4_method_3_code 235 = .ok (.getfield 52, 3) := by decide +kernel
theorem d_FileMaker_putRecord_238 : decode prog_4_method_3_code 238 = .ok (.iload 4, 2) := by decide +kernel
theorem d_FileMaker_putRecord_240 : decode prog_4_method_3_code 240 = .ok (.iload 5, 2) := by decide +kernel
theorem d_FileMaker_putRecord_242 : decode prog_4_method_3_code 242 = .ok (.invokevirtual 82, 3) := by decide +kernel
theorem d_FileMaker_putRecord_245 : decode prog_4_method_3_code 245 = .ok (.return_, 1) := by decide +kernel
theorem d_FileMaker_putRecord_39 : decode prog_4_method_3_code 39 = .ok (.iconst 1, 1) := by decide +kernel
theorem d_FileMaker_putRecord_40 : decode prog_4_method_3_code 40 = .ok (.goto 4, 3) := by decide +kernel
theorem d_FileMaker_putRecord_81 : decode prog_4_method_3_code 81 = .ok (.bipush 8, 2) := by decide +kernel
theorem d_FileMaker_putRecord_83 : decode prog_4_method_3_code 83 = .ok (.goto 4, 3) := by decide +kernel
theorem d_FileMaker_putRecord_134 : decode prog_4_method_3_code 134 = .ok (.aload_n 3, 1) := by decide +kernel
theorem d_FileMaker_putRecord_135 : decode prog_4_method_3_code 135 = .ok (.getfield 62, 3) := by decide +kernel
theorem d_FileMaker_putRecord_138 : decode prog_4_method_3_code 138 = .ok (.getfield 24, 3) := by decide +kernel
theorem d_FileMaker_putRecord_141 : decode prog_4_method_3_code 141 = .ok (.goto 5, 3) := by decide +kernel
theorem d_FileMaker_putRecord_205 : decode prog_4_method_3_code 205 = .ok (.aload_n 0, 1) := by decide +kernel
theorem d_FileMaker_putRecord_206 : decode prog_4_method_3_code 206 = .ok (.getfield 14, 3) := by decide +kernel
theorem d_FileMaker_putRecord_209 : decode prog_4_method_3_code 209 = .ok (.aload_n 3, 1) := by decide +kernel
theorem d_FileMaker_putRecord_210 : decode prog_4_method_3_code 210 = .ok (.getfield 62, 3) := by decide +kernel
theorem d_FileMaker_putRecord_213 : decode prog_4_method_3_code 213 = .ok (.getfield 85, 3) := by decide +kernel
theorem d_FileMaker_putRecord_216 : decode prog_4_method_3_code 216 = .ok (.iconst 0, 1) := by decide +kernel
theorem d_FileMaker_putRecord_217 : decode prog_4_method_3_code 217 = .ok (.aload_n 3, 1) := by decide +kernel
theorem d_FileMaker_putRecord_218 : decode prog_4_method_3_code 218 = .ok (.getfield 62, 3) := by decide +kernel
theorem d_FileMaker_putRecord_221 : decode prog_4_method_3_code 221 = .ok (.getfield 24, 3) := by decide +kernel
theorem d_FileMaker_putRecord_224 : decode prog_4_method_3_code 224 = .ok (.invokevirtual 82, 3) := by decide +kernel
theorem d_FileMaker_putRecord_227 : decode prog_4_method_3_code 227 = .ok (.goto 18, 3) := by decide +kernel
abbrev y_FileMaker_putRecord : MethodName := ⟨"PackageBook$FileMaker", "putRecord", "(LPackageBook$Shelf;ILPackageBook$Presser;)V"⟩
abbrev i_FileMaker_putRecord : pb_I := (y_FileMaker_putRecord, prog_4_method_3_code, 7, (Option.none : Option Jvm.ClassFile.FieldType), [], { frames := 4, cells := 0, slots := 0, locals := 91 })
set_option maxRecDepth 100000 in
set_option maxHeartbeats 4000000 in
theorem g_Mk_putRecord {l : Launch} (hl : l.stackTraces = false) (G : pb_G) (h : Nat) (mm : Nat) (mr : Nat) (mb : Nat) (f : Nat → Int32) (s : Int32) (sp : Nat) (tn : Nat) (tz : Nat) (tb : Nat) (tg : Nat) (c : Int32) (tfn : Nat → Int32) (tfz : Nat → Int32) (tfb : Nat → Int32) (tfg : Nat → Int32) (q : Nat) (pp : Nat) (pl : Nat) (pe : Nat) (pr : Nat) (pb : Nat) (bg : Int32) (sz : Int32) (bt : Int32) (ln : Int32) (ds : Int32) (ps : Int32) (pf : Nat → Int32) (fl : Nat → Int32) (fe : Nat → Int32) (i : Int32) (V : VW_) (I : sh_I c.toInt tfz tfg) (h0 : 0 ≤ s.toInt) (h1 : s.toInt + 54 + (gx tfg (i.toInt + 1) - gx tfg i.toInt) ≤ 14006) (h2 : 0 ≤ i.toInt) (h3 : i.toInt < c.toInt) (R : rC_ c.toInt tfn tfz tfb tfg V) (F_f : sb_Fit f) (F_tfn : sb_Fit tfn) (F_tfb : sb_Fit tfb) (F_pf : sb_Fit pf) : Cn l G i_FileMaker_putRecord [.ref h, .ref sp, .int i, .ref q] [(h, .inr (6, [.ref mm, .ref mr])), (mm, .inr (0, [.ref mb, .int s])), (mb, .inl (G.2.1, 14006, .inl f)), (sp, .inr (3, [.ref tn, .ref tz, .ref tb, .ref tg, .int c])), (tn, .inl (G.2.1, 384, .inl tfn)), (tz, .inl (G.2.2.1, 16, .inl tfz)), (tb, .inl (G.2.1, 12000, .inl tfb)), (tg, .inl (G.2.2.1, 17, .inl tfg)), (q, .inr (4, [.ref pp, .ref pl, .ref pe, .ref pr, .int bg, .int sz, .int bt, .int ln, .int ds])), (pp, .inr (0, [.ref pb, .int ps])), (pb, .inl (G.2.1, 4502, .inl pf)), (pl, .inl (G.2.2.1, 1024, .inl fl)), (pe, .inl (G.2.2.1, 4000, .inl fe))] (S := Int32 × (Nat → Int32) × Nat × Int32 × Int32 × Int32 × Int32 × Int32 × Int32 × (Nat → Int32) × (Nat → Int32) × (Nat → Int32)) (fun rv_ u => rv_ = none ∧ (s.toInt ≤ u.1.toInt) ∧ (u.1.toInt ≤ s.toInt + 54 + (gx tfg (i.toInt + 1) - gx tfg i.toInt)) ∧ (hid_ (∃ P : List Int32, PR_ (sD_ V i.toInt) (vS V i.toInt) P ∧ ap_ f s.toInt u.2.1 u.1.toInt (rc_ V i.toInt P))) ∧ (sb_Fit u.2.1) ∧ (sb_Fit u.2.2.2.2.2.2.2.2.2.1)) (fun u => [(h, .inr (6, [.ref mm, .ref mr])), (mm, .inr (0, [.ref mb, .int u.1])), (mb, .inl (G.2.1, 14006, .inl u.2.1)), (sp, .inr (3, [.ref tn, .ref tz, .ref tb, .ref tg, .int c])), (tn, .inl (G.2.1, 384, .inl tfn)), (tz, .inl (G.2.2.1, 16, .inl tfz)), (tb, .inl (G.2.1, 12000, .inl tfb)), (tg, .inl (G.2.2.1, 17, .inl tfg)), (q, .inr (4, [.ref pp, .ref pl, .ref pe, .ref u.2.2.1, .int u.2.2.2.1, .int u.2.2.2.2.1, .int u.2.2.2.2.2.1, .int u.2.2.2.2.2.2.1, .int u.2.2.2.2.2.2.2.1])), (pp, .inr (0, [.ref pb, .int u.2.2.2.2.2.2.2.2.1])), (pb, .inl (G.2.1, 4502, .inl u.2.2.2.2.2.2.2.2.2.1)), (pl, .inl (G.2.2.1, 1024, .inl u.2.2.2.2.2.2.2.2.2.2.1)), (pe, .inl (G.2.2.1, 4000, .inl u.2.2.2.2.2.2.2.2.2.2.2))]) := by
  refine Cn.of hl (by decide +kernel) rfl (Nat.le_of_ble_eq_true rfl) (fun M hQ => ?_)
  refine pb_eq (pc' := 0) (lo' := [(0, .ref h), (1, .ref sp), (2, .int i), (3, .ref q)]) (rest' := []) (ws' := [(h, .inr (6, [.ref mm, .ref mr])), (mm, .inr (0, [.ref mb, .int s])), (mb, .inl (G.2.1, 14006, .inl f)), (sp, .inr (3, [.ref tn, .ref tz, .ref tb, .ref tg, .int c])), (tn, .inl (G.2.1, 384, .inl tfn)), (tz, .inl (G.2.2.1, 16, .inl tfz)), (tb, .inl (G.2.1, 12000, .inl tfb)), (tg, .inl (G.2.2.1, 17, .inl tfg)), (q, .inr (4, [.ref pp, .ref pl, .ref pe, .ref pr, .int bg, .int sz, .int bt, .int ln, .int ds])), (pp, .inr (0, [.ref pb, .int ps])), (pb, .inl (G.2.1, 4502, .inl pf)), (pl, .inl (G.2.2.1, 1024, .inl fl)), (pe, .inl (G.2.2.1, 4000, .inl fe))]) ?_
  have zl0 : (0 : Int32).toInt = 0 := by decide
  have zl1 : (1 : Int32).toInt = 1 := by decide
  have zl8 : (8 : Int32).toInt = 8 := by decide
  have zl20 : (20 : Int32).toInt = 20 := by decide
  have zl24 : (24 : Int32).toInt = 24 := by decide
  have zl33 : (33 : Int32).toInt = 33 := by decide
  have Ri := R.2 i.toInt (by omega) (by omega)
  have Rz := Ri.1
  have Rs := Ri.2.1
  have aK := ap_nil (f := f) (s := s.toInt) (t := s.toInt) rfl
  have p2 := I.2.1
  have p5 := I.2.2.2.2 i.toInt (by omega) (by omega)
  have p6 := sh_rng I (k := i.toInt) (by omega) (by omega)
  have p7 := sh_rng I (k := i.toInt + 1) (by omega) (by omega)
  refine pb_aload_n (pc := 0) d_FileMaker_putRecord_0 1 rfl rfl ?_
  refine pb_getN (pc := 1) d_FileMaker_putRecord_1 3 3 rfl rfl (by decide) in_Shelf k_401 rfl ?_
  refine pb_iload_n (pc := 4) d_FileMaker_putRecord_4 2 rfl rfl ?_
  refine pb_iald (pc := 5) d_FileMaker_putRecord_5 7 rfl (vp_in_iff.mpr (by constructor <;> omega)) ?_
  refine pb_topi (fun i1 ei1 => ?_)
  have ti1 : i1.toInt = gx tfg (i.toInt) := gx_ld ei1 rfl
  refine pb_istore (pc := 6) (lo' := [(4, .int i1), (0, .ref h), (1, .ref sp), (2, .int i), (3, .ref q)]) d_FileMaker_putRecord_6 (by decide) rfl ?_
  refine pb_aload_n (pc := 8) d_FileMaker_putRecord_8 2 rfl rfl ?_
  refine pb_iload_n (pc := 9) d_FileMaker_putRecord_9 3 rfl rfl ?_
  refine pb_callV (pc := 10) (I := i_FileMaker_putRecord) (qb := 3) (ci := 3) (nA := 1) (rest := []) (wr := [(h, .inr (6, [.ref mm, .ref mr])), (mm, .inr (0, [.ref mb, .int s])), (mb, .inl (G.2.1, 14006, .inl f)), (tn, .inl (G.2.1, 384, .inl tfn)), (tz, .inl (G.2.2.1, 16, .inl tfz)), (tb, .inl (G.2.1, 12000, .inl tfb)), (q, .inr (4, [.ref pp, .ref pl, .ref pe, .ref pr, .int bg, .int sz, .int bt, .int ln, .int ds])), (pp, .inr (0, [.ref pb, .int ps])), (pb, .inl (G.2.1, 4502, .inl pf)), (pl, .inl (G.2.2.1, 1024, .inl fl)), (pe, .inl (G.2.2.1, 4000, .inl fe))]) d_FileMaker_putRecord_10 (g_Shelf_sizeOf hl G sp tn tz tb tg c tfz tfg i (by first | (with_reducible assumption) | omega (splitDisjunctions := false) | assumption | omega | decide) (by first | (with_reducible assumption) | omega (splitDisjunctions := false) | assumption | omega | decide) (by first | (with_reducible assumption) | omega (splitDisjunctions := false) | assumption | omega | decide)) rfl rfl [3, 7] [0, 1, 2, 4, 5, 6, 8, 9, 10, 11, 12] (by decide) rfl rfl rfl (by decide) (by decide) k_477 rfl k_127 k_497 k_475 k_476 ⟨rfl, hy_Shelf_sizeOf⟩ (by decide) rfl rfl (Nat.le_of_ble_eq_true rfl) (by decide) (fun v9 u3 ch2 => ?_)
  obtain ⟨r_4, rfl⟩ : ∃ z9, z9 = u3 := ⟨_, rfl⟩
  obtain ⟨ech2, ch2⟩ := ch2
  have ech2 : v9 = some (.int r_4) := ech2
  subst ech2
  obtain ⟨fh5, fh6, fh7⟩ : (r_4.toInt = gx tfg (i.toInt + 1) - gx tfg i.toInt) ∧ (0 ≤ r_4.toInt) ∧ (r_4.toInt ≤ 4000) := ch2
  refine pb_eq (pc' := 13) (lo' := [(4, .int i1), (0, .ref h), (1, .ref sp), (2, .int i), (3, .ref q)]) (rest' := [.int r_4]) (ws' := [(h, .inr (6, [.ref mm, .ref mr])), (mm, .inr (0, [.ref mb, .int s])), (mb, .inl (G.2.1, 14006, .inl f)), (tn, .inl (G.2.1, 384, .inl tfn)), (tz, .inl (G.2.2.1, 16, .inl tfz)), (tb, .inl (G.2.1, 12000, .inl tfb)), (q, .inr (4, [.ref pp, .ref pl, .ref pe, .ref pr, .int bg, .int sz, .int bt, .int ln, .int ds])), (pp, .inr (0, [.ref pb, .int ps])), (pb, .inl (G.2.1, 4502, .inl pf)), (pl, .inl (G.2.2.1, 1024, .inl fl)), (pe, .inl (G.2.2.1, 4000, .inl fe)), (sp, .inr (3, [.ref tn, .ref tz, .ref tb, .ref tg, .int c])), (tg, .inl (G.2.2.1, 17, .inl tfg))]) ?_
  refine pb_istore (pc := 13) (lo' := [(5, .int r_4), (4, .int i1), (0, .ref h), (1, .ref sp), (2, .int i), (3, .ref q)]) d_FileMaker_putRecord_13 (by decide) rfl ?_
  refine pb_aload_n (pc := 15) d_FileMaker_putRecord_15 5 rfl rfl ?_
  refine pb_aload_n (pc := 16) d_FileMaker_putRecord_16 3 rfl rfl ?_
  refine pb_getN (pc := 17) d_FileMaker_putRecord_17 11 2 rfl rfl (by decide) in_Shelf k_397 rfl ?_
  refine pb_iload (pc := 20) d_FileMaker_putRecord_20 1 rfl ?_
  refine pb_iload (pc := 22) d_FileMaker_putRecord_22 0 rfl ?_
  refine pb_callV (pc := 24) (I := i_FileMaker_putRecord) (qb := 6) (ci := 4) (nA := 3) (rest := []) (wr := [(h, .inr (6, [.ref mm, .ref mr])), (mm, .inr (0, [.ref mb, .int s])), (mb, .inl (G.2.1, 14006, .inl f)), (tn, .inl (G.2.1, 384, .inl tfn)), (tz, .inl (G.2.2.1, 16, .inl tfz)), (sp, .inr (3, [.ref tn, .ref tz, .ref tb, .ref tg, .int c])), (tg, .inl (G.2.2.1, 17, .inl tfg))]) d_FileMaker_putRecord_24 (g_Pr_run hl G q pp pl pe pr pb bg sz bt ln ds tb 12000 pf tfb fl fe ps i1 r_4 (by first | (with_reducible assumption) | omega (splitDisjunctions := false) | assumption | omega | decide) (by first | (with_reducible assumption) | omega (splitDisjunctions := false) | assumption | omega | decide) (by first | (with_reducible assumption) | omega (splitDisjunctions := false) | assumption | omega | decide) (by first | (with_reducible assumption) | omega (splitDisjunctions := false) | assumption | omega | decide) (by first | (with_reducible assumption) | omega (splitDisjunctions := false) | assumption | omega | decide) F_pf F_tfb) rfl rfl [6, 7, 8, 9, 10, 5] [0, 1, 2, 3, 4, 11, 12] (by decide) rfl rfl rfl (by decide) (by decide) k_501 rfl k_120 k_498 k_499 k_500 ⟨rfl, hy_Presser_run⟩ (by decide) rfl rfl (Nat.le_of_ble_eq_true rfl) (by decide) (fun v9 u9 ch8 => ?_)
  obtain ⟨b_10, l_11, d_12, p_13, f_14, fl_15, fe_16⟩ := u9
  obtain ⟨ech8, ch8⟩ := ch8
  have ech8 : v9 = none := ech8
  subst ech8
  obtain ⟨fh17, fh18, fh19, fh20, fh21⟩ : (0 ≤ p_13.toInt) ∧ (p_13.toInt ≤ 4502) ∧ (pt_F (sq tfb i1.toInt r_4.toInt) r_4.toInt p_13.toInt) ∧ (pF_ (sq tfb i1.toInt r_4.toInt) r_4.toInt f_14 p_13.toInt) ∧ (sb_Fit f_14) := ch8
  have pPF := fh20
  obtain ⟨z9, ez9⟩ : ∃ z : Int, z = p_13.toInt := ⟨_, rfl⟩
  obtain ⟨P9, eP9⟩ : ∃ z : List Int32, z = bl_ f_14 0 p_13.toInt := ⟨_, rfl⟩
  have eL9 : z9 = (P9.length : Int) := by rw [eP9, bl_len]; omega
  have nS9 : r_4.toInt = vS V i.toInt := by omega
  have bB9 : ∀ k : Int, 0 ≤ k → k < vS V i.toInt → gr tfb (i1.toInt + k) = vD V i.toInt k := fun k h0 h1 => by rw [show i1.toInt = gx tfg i.toInt by omega]; exact Ri.2.2.2 k h0 h1
  rw [sD_sq nS9 bB9, nS9] at pPF
  have prF := PR_of pPF (by omega)
  rw [← eP9] at prF
  have pE9 : ∀ n9 : Int, n9 = z9 → bl_ f_14 (0 : Int32).toInt n9 = P9 := fun n9 h9 => by rw [eP9]; exact bl_cg (by (exact omg_99b4580df8 ez9 h9)) (fun k _ _ => congrArg (gr _) (by rw [zl0]))
  have dE9 : ∀ x9 n9 : Int, x9 = gx tfg i.toInt → n9 = vS V i.toInt → bl_ tfb x9 n9 = DL_ V i.toInt := fun x9 n9 h8 h9 => DL_bl h9 (fun k h0 h1 => by rw [h8]; exact Ri.2.2.2 k h0 h1)
  refine pb_eq (pc' := 27) (lo' := [(5, .int r_4), (4, .int i1), (0, .ref h), (1, .ref sp), (2, .int i), (3, .ref q)]) (rest' := []) (ws' := [(h, .inr (6, [.ref mm, .ref mr])), (mm, .inr (0, [.ref mb, .int s])), (mb, .inl (G.2.1, 14006, .inl f)), (tn, .inl (G.2.1, 384, .inl tfn)), (tz, .inl (G.2.2.1, 16, .inl tfz)), (sp, .inr (3, [.ref tn, .ref tz, .ref tb, .ref tg, .int c])), (tg, .inl (G.2.2.1, 17, .inl tfg)), (q, .inr (4, [.ref pp, .ref pl, .ref pe, .ref tb, .int i1, .int r_4, .int b_10, .int l_11, .int d_12])), (pp, .inr (0, [.ref pb, .int p_13])), (pb, .inl (G.2.1, 4502, .inl f_14)), (pl, .inl (G.2.2.1, 1024, .inl fl_15)), (pe, .inl (G.2.2.1, 4000, .inl fe_16)), (tb, .inl (G.2.1, 12000, .inl tfb))]) ?_
  refine pb_aload_n (pc := 27) d_FileMaker_putRecord_27 5 rfl rfl ?_
  refine pb_getN (pc := 28) d_FileMaker_putRecord_28 7 0 rfl rfl (by decide) in_Presser k_182 rfl ?_
  refine pb_getN (pc := 31) d_FileMaker_putRecord_31 8 1 rfl rfl (by decide) in_Row k_163 rfl ?_
  refine pb_iload (pc := 34) d_FileMaker_putRecord_34 0 rfl ?_
  refine pb_icmp_ge (pc := 36) (tgt := 43) d_FileMaker_putRecord_36 (by decide) (fun w22 => ?_) (fun w22 => ?_)
  · have tw22 : r_4.toInt ≤ p_13.toInt := (ti_le rfl rfl).mp w22
    refine pb_iconst (pc := 43) (v := 0) d_FileMaker_putRecord_43 (by decide) ?_
    refine pb_istore (pc := 44) (lo' := [(6, .int 0), (5, .int r_4), (4, .int i1), (0, .ref h), (1, .ref sp), (2, .int i), (3, .ref q)]) d_FileMaker_putRecord_44 (by decide) rfl ?_
    refine pb_aload_n (pc := 46) d_FileMaker_putRecord_46 3 rfl rfl ?_
    refine pb_get (pc := 47) d_FileMaker_putRecord_47 0 0 rfl rfl (by decide) in_FileMaker k_292 rfl ?_
    refine pb_ldc (pc := 50) (v := 67324752) d_FileMaker_putRecord_50 k_543 ?_
    refine pb_callV (pc := 52) (I := i_FileMaker_putRecord) (qb := 1) (ci := 0) (nA := 1) (rest := []) (wr := [(h, .inr (6, [.ref mm, .ref mr])), (tn, .inl (G.2.1, 384, .inl tfn)), (tz, .inl (G.2.2.1, 16, .inl tfz)), (sp, .inr (3, [.ref tn, .ref tz, .ref tb, .ref tg, .int c])), (tg, .inl (G.2.2.1, 17, .inl tfg)), (q, .inr (4, [.ref pp, .ref pl, .ref pe, .ref tb, .int i1, .int r_4, .int b_10, .int l_11, .int d_12])), (pp, .inr (0, [.ref pb, .int p_13])), (pb, .inl (G.2.1, 4502, .inl f_14)), (pl, .inl (G.2.2.1, 1024, .inl fl_15)), (pe, .inl (G.2.2.1, 4000, .inl fe_16)), (tb, .inl (G.2.1, 12000, .inl tfb))]) d_FileMaker_putRecord_52 (g_Row_putFour hl G mm mb 14006 f s 67324752 (by first | (with_reducible assumption) | omega (splitDisjunctions := false) | assumption | omega | decide) (by first | (with_reducible assumption) | omega (splitDisjunctions := false) | assumption | omega | decide) (by first | (with_reducible assumption) | omega (splitDisjunctions := false) | assumption | omega | decide) F_f) rfl rfl [1, 2] [0, 3, 4, 5, 6, 7, 8, 9, 10, 11, 12] (by decide) rfl rfl rfl (by decide) (by decide) k_547 rfl k_119 k_544 k_545 k_546 ⟨rfl, hy_Row_putFour⟩ (by decide) rfl rfl (Nat.le_of_ble_eq_true rfl) (by decide) (fun v9 u24 ch23 => ?_)
    obtain ⟨s_25, f_26⟩ := u24
    obtain ⟨ech23, ch23⟩ := ch23
    have ech23 : v9 = none := ech23
    subst ech23
    obtain ⟨fh27, fh28, fh29⟩ : (s_25.toInt = s.toInt + 4) ∧ (ap_ f s.toInt f_26 s_25.toInt (nk_ (67324752 : Int32).toInt 4)) ∧ (sb_Fit f_26) := ch23
    have aK := ap_app h0 aK fh28
    refine pb_eq (pc' := 55) (lo' := [(6, .int 0), (5, .int r_4), (4, .int i1), (0, .ref h), (1, .ref sp), (2, .int i), (3, .ref q)]) (rest' := []) (ws' := [(h, .inr (6, [.ref mm, .ref mr])), (tn, .inl (G.2.1, 384, .inl tfn)), (tz, .inl (G.2.2.1, 16, .inl tfz)), (sp, .inr (3, [.ref tn, .ref tz, .ref tb, .ref tg, .int c])), (tg, .inl (G.2.2.1, 17, .inl tfg)), (q, .inr (4, [.ref pp, .ref pl, .ref pe, .ref tb, .int i1, .int r_4, .int b_10, .int l_11, .int d_12])), (pp, .inr (0, [.ref pb, .int p_13])), (pb, .inl (G.2.1, 4502, .inl f_14)), (pl, .inl (G.2.2.1, 1024, .inl fl_15)), (pe, .inl (G.2.2.1, 4000, .inl fe_16)), (tb, .inl (G.2.1, 12000, .inl tfb)), (mm, .inr (0, [.ref mb, .int s_25])), (mb, .inl (G.2.1, 14006, .inl f_26))]) ?_
    refine pb_aload_n (pc := 55) d_FileMaker_putRecord_55 3 rfl rfl ?_
    refine pb_get (pc := 56) d_FileMaker_putRecord_56 0 0 rfl rfl (by decide) in_FileMaker k_292 rfl ?_
    refine pb_bipush (pc := 59) (v := 20) d_FileMaker_putRecord_59 (by decide) ?_
    refine pb_callV (pc := 61) (I := i_FileMaker_putRecord) (qb := 11) (ci := 0) (nA := 1) (rest := []) (wr := [(h, .inr (6, [.ref mm, .ref mr])), (tn, .inl (G.2.1, 384, .inl tfn)), (tz, .inl (G.2.2.1, 16, .inl tfz)), (sp, .inr (3, [.ref tn, .ref tz, .ref tb, .ref tg, .int c])), (tg, .inl (G.2.2.1, 17, .inl tfg)), (q, .inr (4, [.ref pp, .ref pl, .ref pe, .ref tb, .int i1, .int r_4, .int b_10, .int l_11, .int d_12])), (pp, .inr (0, [.ref pb, .int p_13])), (pb, .inl (G.2.1, 4502, .inl f_14)), (pl, .inl (G.2.2.1, 1024, .inl fl_15)), (pe, .inl (G.2.2.1, 4000, .inl fe_16)), (tb, .inl (G.2.1, 12000, .inl tfb))]) d_FileMaker_putRecord_61 (g_Row_putTwo hl G mm mb 14006 f_26 s_25 20 (by first | (with_reducible assumption) | omega (splitDisjunctions := false) | assumption | omega | decide) (by first | (with_reducible assumption) | omega (splitDisjunctions := false) | assumption | omega | decide) (by first | (with_reducible assumption) | omega (splitDisjunctions := false) | assumption | omega | decide) fh29) rfl rfl [11, 12] [0, 1, 2, 3, 4, 5, 6, 7, 8, 9, 10] (by decide) rfl rfl rfl (by decide) (by decide) k_551 rfl k_119 k_556 k_549 k_550 ⟨rfl, hy_Row_putTwo⟩ (by decide) rfl rfl (Nat.le_of_ble_eq_true rfl) (by decide) (fun v9 u31 ch30 => ?_)
    obtain ⟨s_32, f_33⟩ := u31
    obtain ⟨ech30, ch30⟩ := ch30
    have ech30 : v9 = none := ech30
    subst ech30
    obtain ⟨fh34, fh35, fh36⟩ : (s_32.toInt = s_25.toInt + 2) ∧ (ap_ f_26 s_25.toInt f_33 s_32.toInt (nk_ (20 : Int32).toInt 2)) ∧ (sb_Fit f_33) := ch30
    have aK := ap_app h0 aK fh35
    refine pb_eq (pc' := 64) (lo' := [(6, .int 0), (5, .int r_4), (4, .int i1), (0, .ref h), (1, .ref sp), (2, .int i), (3, .ref q)]) (rest' := []) (ws' := [(h, .inr (6, [.ref mm, .ref mr])), (tn, .inl (G.2.1, 384, .inl tfn)), (tz, .inl (G.2.2.1, 16, .inl tfz)), (sp, .inr (3, [.ref tn, .ref tz, .ref tb, .ref tg, .int c])), (tg, .inl (G.2.2.1, 17, .inl tfg)), (q, .inr (4, [.ref pp, .ref pl, .ref pe, .ref tb, .int i1, .int r_4, .int b_10, .int l_11, .int d_12])), (pp, .inr (0, [.ref pb, .int p_13])), (pb, .inl (G.2.1, 4502, .inl f_14)), (pl, .inl (G.2.2.1, 1024, .inl fl_15)), (pe, .inl (G.2.2.1, 4000, .inl fe_16)), (tb, .inl (G.2.1, 12000, .inl tfb)), (mm, .inr (0, [.ref mb, .int s_32])), (mb, .inl (G.2.1, 14006, .inl f_33))]) ?_
    refine pb_aload_n (pc := 64) d_FileMaker_putRecord_64 3 rfl rfl ?_
    refine pb_get (pc := 65) d_FileMaker_putRecord_65 0 0 rfl rfl (by decide) in_FileMaker k_292 rfl ?_
    refine pb_iconst (pc := 68) (v := 0) d_FileMaker_putRecord_68 (by decide) ?_
    refine pb_callV (pc := 69) (I := i_FileMaker_putRecord) (qb := 11) (ci := 0) (nA := 1) (rest := []) (wr := [(h, .inr (6, [.ref mm, .ref mr])), (tn, .inl (G.2.1, 384, .inl tfn)), (tz, .inl (G.2.2.1, 16, .inl tfz)), (sp, .inr (3, [.ref tn, .ref tz, .ref tb, .ref tg, .int c])), (tg, .inl (G.2.2.1, 17, .inl tfg)), (q, .inr (4, [.ref pp, .ref pl, .ref pe, .ref tb, .int i1, .int r_4, .int b_10, .int l_11, .int d_12])), (pp, .inr (0, [.ref pb, .int p_13])), (pb, .inl (G.2.1, 4502, .inl f_14)), (pl, .inl (G.2.2.1, 1024, .inl fl_15)), (pe, .inl (G.2.2.1, 4000, .inl fe_16)), (tb, .inl (G.2.1, 12000, .inl tfb))]) d_FileMaker_putRecord_69 (g_Row_putTwo hl G mm mb 14006 f_33 s_32 0 (by first | (with_reducible assumption) | omega (splitDisjunctions := false) | assumption | omega | decide) (by first | (with_reducible assumption) | omega (splitDisjunctions := false) | assumption | omega | decide) (by first | (with_reducible assumption) | omega (splitDisjunctions := false) | assumption | omega | decide) fh36) rfl rfl [11, 12] [0, 1, 2, 3, 4, 5, 6, 7, 8, 9, 10] (by decide) rfl rfl rfl (by decide) (by decide) k_551 rfl k_119 k_556 k_549 k_550 ⟨rfl, hy_Row_putTwo⟩ (by decide) rfl rfl (Nat.le_of_ble_eq_true rfl) (by decide) (fun v9 u38 ch37 => ?_)
    obtain ⟨s_39, f_40⟩ := u38
    obtain ⟨ech37, ch37⟩ := ch37
    have ech37 : v9 = none := ech37
    subst ech37
    obtain ⟨fh41, fh42, fh43⟩ : (s_39.toInt = s_32.toInt + 2) ∧ (ap_ f_33 s_32.toInt f_40 s_39.toInt (nk_ (0 : Int32).toInt 2)) ∧ (sb_Fit f_40) := ch37
    have aK := ap_app h0 aK fh42
    refine pb_eq (pc' := 72) (lo' := [(6, .int 0), (5, .int r_4), (4, .int i1), (0, .ref h), (1, .ref sp), (2, .int i), (3, .ref q)]) (rest' := []) (ws' := [(h, .inr (6, [.ref mm, .ref mr])), (tn, .inl (G.2.1, 384, .inl tfn)), (tz, .inl (G.2.2.1, 16, .inl tfz)), (sp, .inr (3, [.ref tn, .ref tz, .ref tb, .ref tg, .int c])), (tg, .inl (G.2.2.1, 17, .inl tfg)), (q, .inr (4, [.ref pp, .ref pl, .ref pe, .ref tb, .int i1, .int r_4, .int b_10, .int l_11, .int d_12])), (pp, .inr (0, [.ref pb, .int p_13])), (pb, .inl (G.2.1, 4502, .inl f_14)), (pl, .inl (G.2.2.1, 1024, .inl fl_15)), (pe, .inl (G.2.2.1, 4000, .inl fe_16)), (tb, .inl (G.2.1, 12000, .inl tfb)), (mm, .inr (0, [.ref mb, .int s_39])), (mb, .inl (G.2.1, 14006, .inl f_40))]) ?_
    refine pb_aload_n (pc := 72) d_FileMaker_putRecord_72 3 rfl rfl ?_
    refine pb_get (pc := 73) d_FileMaker_putRecord_73 0 0 rfl rfl (by decide) in_FileMaker k_292 rfl ?_
    refine pb_iload (pc := 76) d_FileMaker_putRecord_76 0 rfl ?_
    refine pb_if_eq (pc := 78) (tgt := 86) d_FileMaker_putRecord_78 (by decide) (fun _ => ?_) (fun h9 => absurd h9 (by decide))
    refine pb_iconst (pc := 86) (v := 0) d_FileMaker_putRecord_86 (by decide) ?_
    refine pb_callV (pc := 87) (I := i_FileMaker_putRecord) (qb := 11) (ci := 0) (nA := 1) (rest := []) (wr := [(h, .inr (6, [.ref mm, .ref mr])), (tn, .inl (G.2.1, 384, .inl tfn)), (tz, .inl (G.2.2.1, 16, .inl tfz)), (sp, .inr (3, [.ref tn, .ref tz, .ref tb, .ref tg, .int c])), (tg, .inl (G.2.2.1, 17, .inl tfg)), (q, .inr (4, [.ref pp, .ref pl, .ref pe, .ref tb, .int i1, .int r_4, .int b_10, .int l_11, .int d_12])), (pp, .inr (0, [.ref pb, .int p_13])), (pb, .inl (G.2.1, 4502, .inl f_14)), (pl, .inl (G.2.2.1, 1024, .inl fl_15)), (pe, .inl (G.2.2.1, 4000, .inl fe_16)), (tb, .inl (G.2.1, 12000, .inl tfb))]) d_FileMaker_putRecord_87 (g_Row_putTwo hl G mm mb 14006 f_40 s_39 0 (by first | (with_reducible assumption) | omega (splitDisjunctions := false) | assumption | omega | decide) (by first | (with_reducible assumption) | omega (splitDisjunctions := false) | assumption | omega | decide) (by first | (with_reducible assumption) | omega (splitDisjunctions := false) | assumption | omega | decide) fh43) rfl rfl [11, 12] [0, 1, 2, 3, 4, 5, 6, 7, 8, 9, 10] (by decide) rfl rfl rfl (by decide) (by decide) k_551 rfl k_119 k_556 k_549 k_550 ⟨rfl, hy_Row_putTwo⟩ (by decide) rfl rfl (Nat.le_of_ble_eq_true rfl) (by decide) (fun v9 u46 ch45 => ?_)
    obtain ⟨s_47, f_48⟩ := u46
    obtain ⟨ech45, ch45⟩ := ch45
    have ech45 : v9 = none := ech45
    subst ech45
    obtain ⟨fh49, fh50, fh51⟩ : (s_47.toInt = s_39.toInt + 2) ∧ (ap_ f_40 s_39.toInt f_48 s_47.toInt (nk_ (0 : Int32).toInt 2)) ∧ (sb_Fit f_48) := ch45
    have aK := ap_app h0 aK fh50
    refine pb_eq (pc' := 90) (lo' := [(6, .int 0), (5, .int r_4), (4, .int i1), (0, .ref h), (1, .ref sp), (2, .int i), (3, .ref q)]) (rest' := []) (ws' := [(h, .inr (6, [.ref mm, .ref mr])), (tn, .inl (G.2.1, 384, .inl tfn)), (tz, .inl (G.2.2.1, 16, .inl tfz)), (sp, .inr (3, [.ref tn, .ref tz, .ref tb, .ref tg, .int c])), (tg, .inl (G.2.2.1, 17, .inl tfg)), (q, .inr (4, [.ref pp, .ref pl, .ref pe, .ref tb, .int i1, .int r_4, .int b_10, .int l_11, .int d_12])), (pp, .inr (0, [.ref pb, .int p_13])), (pb, .inl (G.2.1, 4502, .inl f_14)), (pl, .inl (G.2.2.1, 1024, .inl fl_15)), (pe, .inl (G.2.2.1, 4000, .inl fe_16)), (tb, .inl (G.2.1, 12000, .inl tfb)), (mm, .inr (0, [.ref mb, .int s_47])), (mb, .inl (G.2.1, 14006, .inl f_48))]) ?_
    refine pb_aload_n (pc := 90) d_FileMaker_putRecord_90 3 rfl rfl ?_
    refine pb_get (pc := 91) d_FileMaker_putRecord_91 0 0 rfl rfl (by decide) in_FileMaker k_292 rfl ?_
    refine pb_iconst (pc := 94) (v := 0) d_FileMaker_putRecord_94 (by decide) ?_
    refine pb_callV (pc := 95) (I := i_FileMaker_putRecord) (qb := 11) (ci := 0) (nA := 1) (rest := []) (wr := [(h, .inr (6, [.ref mm, .ref mr])), (tn, .inl (G.2.1, 384, .inl tfn)), (tz, .inl (G.2.2.1, 16, .inl tfz)), (sp, .inr (3, [.ref tn, .ref tz, .ref tb, .ref tg, .int c])), (tg, .inl (G.2.2.1, 17, .inl tfg)), (q, .inr (4, [.ref pp, .ref pl, .ref pe, .ref tb, .int i1, .int r_4, .int b_10, .int l_11, .int d_12])), (pp, .inr (0, [.ref pb, .int p_13])), (pb, .inl (G.2.1, 4502, .inl f_14)), (pl, .inl (G.2.2.1, 1024, .inl fl_15)), (pe, .inl (G.2.2.1, 4000, .inl fe_16)), (tb, .inl (G.2.1, 12000, .inl tfb))]) d_FileMaker_putRecord_95 (g_Row_putTwo hl G mm mb 14006 f_48 s_47 0 (by first | (with_reducible assumption) | omega (splitDisjunctions := false) | assumption | omega | decide) (by first | (with_reducible assumption) | omega (splitDisjunctions := false) | assumption | omega | decide) (by first | (with_reducible assumption) | omega (splitDisjunctions := false) | assumption | omega | decide) fh51) rfl rfl [11, 12] [0, 1, 2, 3, 4, 5, 6, 7, 8, 9, 10] (by decide) rfl rfl rfl (by decide) (by decide) k_551 rfl k_119 k_556 k_549 k_550 ⟨rfl, hy_Row_putTwo⟩ (by decide) rfl rfl (Nat.le_of_ble_eq_true rfl) (by decide) (fun v9 u53 ch52 => ?_)
    obtain ⟨s_54, f_55⟩ := u53
    obtain ⟨ech52, ch52⟩ := ch52
    have ech52 : v9 = none := ech52
    subst ech52
    obtain ⟨fh56, fh57, fh58⟩ : (s_54.toInt = s_47.toInt + 2) ∧ (ap_ f_48 s_47.toInt f_55 s_54.toInt (nk_ (0 : Int32).toInt 2)) ∧ (sb_Fit f_55) := ch52
    have aK := ap_app h0 aK fh57
    refine pb_eq (pc' := 98) (lo' := [(6, .int 0), (5, .int r_4), (4, .int i1), (0, .ref h), (1, .ref sp), (2, .int i), (3, .ref q)]) (rest' := []) (ws' := [(h, .inr (6, [.ref mm, .ref mr])), (tn, .inl (G.2.1, 384, .inl tfn)), (tz, .inl (G.2.2.1, 16, .inl tfz)), (sp, .inr (3, [.ref tn, .ref tz, .ref tb, .ref tg, .int c])), (tg, .inl (G.2.2.1, 17, .inl tfg)), (q, .inr (4, [.ref pp, .ref pl, .ref pe, .ref tb, .int i1, .int r_4, .int b_10, .int l_11, .int d_12])), (pp, .inr (0, [.ref pb, .int p_13])), (pb, .inl (G.2.1, 4502, .inl f_14)), (pl, .inl (G.2.2.1, 1024, .inl fl_15)), (pe, .inl (G.2.2.1, 4000, .inl fe_16)), (tb, .inl (G.2.1, 12000, .inl tfb)), (mm, .inr (0, [.ref mb, .int s_54])), (mb, .inl (G.2.1, 14006, .inl f_55))]) ?_
    refine pb_aload_n (pc := 98) d_FileMaker_putRecord_98 3 rfl rfl ?_
    refine pb_get (pc := 99) d_FileMaker_putRecord_99 0 0 rfl rfl (by decide) in_FileMaker k_292 rfl ?_
    refine pb_bipush (pc := 102) (v := 33) d_FileMaker_putRecord_102 (by decide) ?_
    refine pb_callV (pc := 104) (I := i_FileMaker_putRecord) (qb := 11) (ci := 0) (nA := 1) (rest := []) (wr := [(h, .inr (6, [.ref mm, .ref mr])), (tn, .inl (G.2.1, 384, .inl tfn)), (tz, .inl (G.2.2.1, 16, .inl tfz)), (sp, .inr (3, [.ref tn, .ref tz, .ref tb, .ref tg, .int c])), (tg, .inl (G.2.2.1, 17, .inl tfg)), (q, .inr (4, [.ref pp, .ref pl, .ref pe, .ref tb, .int i1, .int r_4, .int b_10, .int l_11, .int d_12])), (pp, .inr (0, [.ref pb, .int p_13])), (pb, .inl (G.2.1, 4502, .inl f_14)), (pl, .inl (G.2.2.1, 1024, .inl fl_15)), (pe, .inl (G.2.2.1, 4000, .inl fe_16)), (tb, .inl (G.2.1, 12000, .inl tfb))]) d_FileMaker_putRecord_104 (g_Row_putTwo hl G mm mb 14006 f_55 s_54 33 (by first | (with_reducible assumption) | omega (splitDisjunctions := false) | assumption | omega | decide) (by first | (with_reducible assumption) | omega (splitDisjunctions := false) | assumption | omega | decide) (by first | (with_reducible assumption) | omega (splitDisjunctions := false) | assumption | omega | decide) fh58) rfl rfl [11, 12] [0, 1, 2, 3, 4, 5, 6, 7, 8, 9, 10] (by decide) rfl rfl rfl (by decide) (by decide) k_551 rfl k_119 k_556 k_549 k_550 ⟨rfl, hy_Row_putTwo⟩ (by decide) rfl rfl (Nat.le_of_ble_eq_true rfl) (by decide) (fun v9 u60 ch59 => ?_)
    obtain ⟨s_61, f_62⟩ := u60
    obtain ⟨ech59, ch59⟩ := ch59
    have ech59 : v9 = none := ech59
    subst ech59
    obtain ⟨fh63, fh64, fh65⟩ : (s_61.toInt = s_54.toInt + 2) ∧ (ap_ f_55 s_54.toInt f_62 s_61.toInt (nk_ (33 : Int32).toInt 2)) ∧ (sb_Fit f_62) := ch59
    have aK := ap_app h0 aK fh64
    refine pb_eq (pc' := 107) (lo' := [(6, .int 0), (5, .int r_4), (4, .int i1), (0, .ref h), (1, .ref sp), (2, .int i), (3, .ref q)]) (rest' := []) (ws' := [(h, .inr (6, [.ref mm, .ref mr])), (tn, .inl (G.2.1, 384, .inl tfn)), (tz, .inl (G.2.2.1, 16, .inl tfz)), (sp, .inr (3, [.ref tn, .ref tz, .ref tb, .ref tg, .int c])), (tg, .inl (G.2.2.1, 17, .inl tfg)), (q, .inr (4, [.ref pp, .ref pl, .ref pe, .ref tb, .int i1, .int r_4, .int b_10, .int l_11, .int d_12])), (pp, .inr (0, [.ref pb, .int p_13])), (pb, .inl (G.2.1, 4502, .inl f_14)), (pl, .inl (G.2.2.1, 1024, .inl fl_15)), (pe, .inl (G.2.2.1, 4000, .inl fe_16)), (tb, .inl (G.2.1, 12000, .inl tfb)), (mm, .inr (0, [.ref mb, .int s_61])), (mb, .inl (G.2.1, 14006, .inl f_62))]) ?_
    refine pb_aload_n (pc := 107) d_FileMaker_putRecord_107 3 rfl rfl ?_
    refine pb_get (pc := 108) d_FileMaker_putRecord_108 0 0 rfl rfl (by decide) in_FileMaker k_292 rfl ?_
    refine pb_aload_n (pc := 111) d_FileMaker_putRecord_111 4 rfl rfl ?_
    refine pb_getN (pc := 112) d_FileMaker_putRecord_112 3 2 rfl rfl (by decide) in_Shelf k_397 rfl ?_
    refine pb_iload (pc := 115) d_FileMaker_putRecord_115 2 rfl ?_
    refine pb_iload (pc := 117) d_FileMaker_putRecord_117 1 rfl ?_
    refine pb_callSN (pc := 119) (I := i_FileMaker_putRecord) (nA := 3) (rest := [.ref mm]) (wr := [(h, .inr (6, [.ref mm, .ref mr])), (tn, .inl (G.2.1, 384, .inl tfn)), (tz, .inl (G.2.2.1, 16, .inl tfz)), (sp, .inr (3, [.ref tn, .ref tz, .ref tb, .ref tg, .int c])), (tg, .inl (G.2.2.1, 17, .inl tfg)), (q, .inr (4, [.ref pp, .ref pl, .ref pe, .ref tb, .int i1, .int r_4, .int b_10, .int l_11, .int d_12])), (pp, .inr (0, [.ref pb, .int p_13])), (pb, .inl (G.2.1, 4502, .inl f_14)), (pl, .inl (G.2.2.1, 1024, .inl fl_15)), (pe, .inl (G.2.2.1, 4000, .inl fe_16)), (mm, .inr (0, [.ref mb, .int s_61])), (mb, .inl (G.2.1, 14006, .inl f_62))]) d_FileMaker_putRecord_119 (g_sumOf hl G tb 12000 tfb i1 r_4 (by first | (with_reducible assumption) | omega (splitDisjunctions := false) | assumption | omega | decide) (by first | (with_reducible assumption) | omega (splitDisjunctions := false) | assumption | omega | decide) (by first | (with_reducible assumption) | omega (splitDisjunctions := false) | assumption | omega | decide) (by first | (with_reducible assumption) | omega (splitDisjunctions := false) | assumption | omega | decide) F_tfb) [10] [0, 1, 2, 3, 4, 5, 6, 7, 8, 9, 11, 12] (by decide) rfl rfl rfl (by decide) (by decide) k_559 rfl k_118 k_557 k_558 hy_Book_sumOf (by decide) rfl rfl (Nat.le_of_ble_eq_true rfl) (by decide) (fun v9 u67 ch66 => ?_)
    obtain ⟨r_68, rfl⟩ : ∃ z9, z9 = u67 := ⟨_, rfl⟩
    obtain ⟨ech66, ch66⟩ := ch66
    have ech66 : v9 = some (.int r_68) := ech66
    subst ech66
    have fh69 : r_68 = cr_n tfb i1.toInt r_4.toInt.toNat ^^^ (-1) := ch66
    have suF := su_E fh69 (show r_4.toInt = vS V i.toInt by omega) (fun k h0 h1 => by rw [show i1.toInt = gx tfg i.toInt by omega]; exact Ri.2.2.2 k h0 h1) (by omega)
    refine pb_eq (pc' := 122) (lo' := [(6, .int 0), (5, .int r_4), (4, .int i1), (0, .ref h), (1, .ref sp), (2, .int i), (3, .ref q)]) (rest' := [.int r_68, .ref mm]) (ws' := [(h, .inr (6, [.ref mm, .ref mr])), (tn, .inl (G.2.1, 384, .inl tfn)), (tz, .inl (G.2.2.1, 16, .inl tfz)), (sp, .inr (3, [.ref tn, .ref tz, .ref tb, .ref tg, .int c])), (tg, .inl (G.2.2.1, 17, .inl tfg)), (q, .inr (4, [.ref pp, .ref pl, .ref pe, .ref tb, .int i1, .int r_4, .int b_10, .int l_11, .int d_12])), (pp, .inr (0, [.ref pb, .int p_13])), (pb, .inl (G.2.1, 4502, .inl f_14)), (pl, .inl (G.2.2.1, 1024, .inl fl_15)), (pe, .inl (G.2.2.1, 4000, .inl fe_16)), (mm, .inr (0, [.ref mb, .int s_61])), (mb, .inl (G.2.1, 14006, .inl f_62)), (tb, .inl (G.2.1, 12000, .inl tfb))]) ?_
    refine pb_callV (pc := 122) (I := i_FileMaker_putRecord) (qb := 10) (ci := 0) (nA := 1) (rest := []) (wr := [(h, .inr (6, [.ref mm, .ref mr])), (tn, .inl (G.2.1, 384, .inl tfn)), (tz, .inl (G.2.2.1, 16, .inl tfz)), (sp, .inr (3, [.ref tn, .ref tz, .ref tb, .ref tg, .int c])), (tg, .inl (G.2.2.1, 17, .inl tfg)), (q, .inr (4, [.ref pp, .ref pl, .ref pe, .ref tb, .int i1, .int r_4, .int b_10, .int l_11, .int d_12])), (pp, .inr (0, [.ref pb, .int p_13])), (pb, .inl (G.2.1, 4502, .inl f_14)), (pl, .inl (G.2.2.1, 1024, .inl fl_15)), (pe, .inl (G.2.2.1, 4000, .inl fe_16)), (tb, .inl (G.2.1, 12000, .inl tfb))]) d_FileMaker_putRecord_122 (g_Row_putFour hl G mm mb 14006 f_62 s_61 r_68 (by first | (with_reducible assumption) | omega (splitDisjunctions := false) | assumption | omega | decide) (by first | (with_reducible assumption) | omega (splitDisjunctions := false) | assumption | omega | decide) (by first | (with_reducible assumption) | omega (splitDisjunctions := false) | assumption | omega | decide) fh65) rfl rfl [10, 11] [0, 1, 2, 3, 4, 5, 6, 7, 8, 9, 12] (by decide) rfl rfl rfl (by decide) (by decide) k_547 rfl k_119 k_544 k_545 k_546 ⟨rfl, hy_Row_putFour⟩ (by decide) rfl rfl (Nat.le_of_ble_eq_true rfl) (by decide) (fun v9 u71 ch70 => ?_)
    obtain ⟨s_72, f_73⟩ := u71
    obtain ⟨ech70, ch70⟩ := ch70
    have ech70 : v9 = none := ech70
    subst ech70
    obtain ⟨fh74, fh75, fh76⟩ : (s_72.toInt = s_61.toInt + 4) ∧ (ap_ f_62 s_61.toInt f_73 s_72.toInt (nk_ r_68.toInt 4)) ∧ (sb_Fit f_73) := ch70
    have aK := ap_app h0 aK fh75
    refine pb_eq (pc' := 125) (lo' := [(6, .int 0), (5, .int r_4), (4, .int i1), (0, .ref h), (1, .ref sp), (2, .int i), (3, .ref q)]) (rest' := []) (ws' := [(h, .inr (6, [.ref mm, .ref mr])), (tn, .inl (G.2.1, 384, .inl tfn)), (tz, .inl (G.2.2.1, 16, .inl tfz)), (sp, .inr (3, [.ref tn, .ref tz, .ref tb, .ref tg, .int c])), (tg, .inl (G.2.2.1, 17, .inl tfg)), (q, .inr (4, [.ref pp, .ref pl, .ref pe, .ref tb, .int i1, .int r_4, .int b_10, .int l_11, .int d_12])), (pp, .inr (0, [.ref pb, .int p_13])), (pb, .inl (G.2.1, 4502, .inl f_14)), (pl, .inl (G.2.2.1, 1024, .inl fl_15)), (pe, .inl (G.2.2.1, 4000, .inl fe_16)), (tb, .inl (G.2.1, 12000, .inl tfb)), (mm, .inr (0, [.ref mb, .int s_72])), (mb, .inl (G.2.1, 14006, .inl f_73))]) ?_
    refine pb_aload_n (pc := 125) d_FileMaker_putRecord_125 3 rfl rfl ?_
    refine pb_get (pc := 126) d_FileMaker_putRecord_126 0 0 rfl rfl (by decide) in_FileMaker k_292 rfl ?_
    refine pb_iload (pc := 129) d_FileMaker_putRecord_129 0 rfl ?_
    refine pb_if_eq (pc := 131) (tgt := 144) d_FileMaker_putRecord_131 (by decide) (fun _ => ?_) (fun h9 => absurd h9 (by decide))
    refine pb_iload (pc := 144) d_FileMaker_putRecord_144 1 rfl ?_
    refine pb_callV (pc := 146) (I := i_FileMaker_putRecord) (qb := 11) (ci := 0) (nA := 1) (rest := []) (wr := [(h, .inr (6, [.ref mm, .ref mr])), (tn, .inl (G.2.1, 384, .inl tfn)), (tz, .inl (G.2.2.1, 16, .inl tfz)), (sp, .inr (3, [.ref tn, .ref tz, .ref tb, .ref tg, .int c])), (tg, .inl (G.2.2.1, 17, .inl tfg)), (q, .inr (4, [.ref pp, .ref pl, .ref pe, .ref tb, .int i1, .int r_4, .int b_10, .int l_11, .int d_12])), (pp, .inr (0, [.ref pb, .int p_13])), (pb, .inl (G.2.1, 4502, .inl f_14)), (pl, .inl (G.2.2.1, 1024, .inl fl_15)), (pe, .inl (G.2.2.1, 4000, .inl fe_16)), (tb, .inl (G.2.1, 12000, .inl tfb))]) d_FileMaker_putRecord_146 (g_Row_putFour hl G mm mb 14006 f_73 s_72 r_4 (by first | (with_reducible assumption) | omega (splitDisjunctions := false) | assumption | omega | decide) (by first | (with_reducible assumption) | omega (splitDisjunctions := false) | assumption | omega | decide) (by first | (with_reducible assumption) | omega (splitDisjunctions := false) | assumption | omega | decide) fh76) rfl rfl [11, 12] [0, 1, 2, 3, 4, 5, 6, 7, 8, 9, 10] (by decide) rfl rfl rfl (by decide) (by decide) k_547 rfl k_119 k_544 k_545 k_546 ⟨rfl, hy_Row_putFour⟩ (by decide) rfl rfl (Nat.le_of_ble_eq_true rfl) (by decide) (fun v9 u79 ch78 => ?_)
    obtain ⟨s_80, f_81⟩ := u79
    obtain ⟨ech78, ch78⟩ := ch78
    have ech78 : v9 = none := ech78
    subst ech78
    obtain ⟨fh82, fh83, fh84⟩ : (s_80.toInt = s_72.toInt + 4) ∧ (ap_ f_73 s_72.toInt f_81 s_80.toInt (nk_ r_4.toInt 4)) ∧ (sb_Fit f_81) := ch78
    have aK := ap_app h0 aK fh83
    refine pb_eq (pc' := 149) (lo' := [(6, .int 0), (5, .int r_4), (4, .int i1), (0, .ref h), (1, .ref sp), (2, .int i), (3, .ref q)]) (rest' := []) (ws' := [(h, .inr (6, [.ref mm, .ref mr])), (tn, .inl (G.2.1, 384, .inl tfn)), (tz, .inl (G.2.2.1, 16, .inl tfz)), (sp, .inr (3, [.ref tn, .ref tz, .ref tb, .ref tg, .int c])), (tg, .inl (G.2.2.1, 17, .inl tfg)), (q, .inr (4, [.ref pp, .ref pl, .ref pe, .ref tb, .int i1, .int r_4, .int b_10, .int l_11, .int d_12])), (pp, .inr (0, [.ref pb, .int p_13])), (pb, .inl (G.2.1, 4502, .inl f_14)), (pl, .inl (G.2.2.1, 1024, .inl fl_15)), (pe, .inl (G.2.2.1, 4000, .inl fe_16)), (tb, .inl (G.2.1, 12000, .inl tfb)), (mm, .inr (0, [.ref mb, .int s_80])), (mb, .inl (G.2.1, 14006, .inl f_81))]) ?_
    refine pb_aload_n (pc := 149) d_FileMaker_putRecord_149 3 rfl rfl ?_
    refine pb_get (pc := 150) d_FileMaker_putRecord_150 0 0 rfl rfl (by decide) in_FileMaker k_292 rfl ?_
    refine pb_iload (pc := 153) d_FileMaker_putRecord_153 1 rfl ?_
    refine pb_callV (pc := 155) (I := i_FileMaker_putRecord) (qb := 11) (ci := 0) (nA := 1) (rest := []) (wr := [(h, .inr (6, [.ref mm, .ref mr])), (tn, .inl (G.2.1, 384, .inl tfn)), (tz, .inl (G.2.2.1, 16, .inl tfz)), (sp, .inr (3, [.ref tn, .ref tz, .ref tb, .ref tg, .int c])), (tg, .inl (G.2.2.1, 17, .inl tfg)), (q, .inr (4, [.ref pp, .ref pl, .ref pe, .ref tb, .int i1, .int r_4, .int b_10, .int l_11, .int d_12])), (pp, .inr (0, [.ref pb, .int p_13])), (pb, .inl (G.2.1, 4502, .inl f_14)), (pl, .inl (G.2.2.1, 1024, .inl fl_15)), (pe, .inl (G.2.2.1, 4000, .inl fe_16)), (tb, .inl (G.2.1, 12000, .inl tfb))]) d_FileMaker_putRecord_155 (g_Row_putFour hl G mm mb 14006 f_81 s_80 r_4 (by first | (with_reducible assumption) | omega (splitDisjunctions := false) | assumption | omega | decide) (by first | (with_reducible assumption) | omega (splitDisjunctions := false) | assumption | omega | decide) (by first | (with_reducible assumption) | omega (splitDisjunctions := false) | assumption | omega | decide) fh84) rfl rfl [11, 12] [0, 1, 2, 3, 4, 5, 6, 7, 8, 9, 10] (by decide) rfl rfl rfl (by decide) (by decide) k_547 rfl k_119 k_544 k_545 k_546 ⟨rfl, hy_Row_putFour⟩ (by decide) rfl rfl (Nat.le_of_ble_eq_true rfl) (by decide) (fun v9 u86 ch85 => ?_)
    obtain ⟨s_87, f_88⟩ := u86
    obtain ⟨ech85, ch85⟩ := ch85
    have ech85 : v9 = none := ech85
    subst ech85
    obtain ⟨fh89, fh90, fh91⟩ : (s_87.toInt = s_80.toInt + 4) ∧ (ap_ f_81 s_80.toInt f_88 s_87.toInt (nk_ r_4.toInt 4)) ∧ (sb_Fit f_88) := ch85
    have aK := ap_app h0 aK fh90
    refine pb_eq (pc' := 158) (lo' := [(6, .int 0), (5, .int r_4), (4, .int i1), (0, .ref h), (1, .ref sp), (2, .int i), (3, .ref q)]) (rest' := []) (ws' := [(h, .inr (6, [.ref mm, .ref mr])), (tn, .inl (G.2.1, 384, .inl tfn)), (tz, .inl (G.2.2.1, 16, .inl tfz)), (sp, .inr (3, [.ref tn, .ref tz, .ref tb, .ref tg, .int c])), (tg, .inl (G.2.2.1, 17, .inl tfg)), (q, .inr (4, [.ref pp, .ref pl, .ref pe, .ref tb, .int i1, .int r_4, .int b_10, .int l_11, .int d_12])), (pp, .inr (0, [.ref pb, .int p_13])), (pb, .inl (G.2.1, 4502, .inl f_14)), (pl, .inl (G.2.2.1, 1024, .inl fl_15)), (pe, .inl (G.2.2.1, 4000, .inl fe_16)), (tb, .inl (G.2.1, 12000, .inl tfb)), (mm, .inr (0, [.ref mb, .int s_87])), (mb, .inl (G.2.1, 14006, .inl f_88))]) ?_
    refine pb_aload_n (pc := 158) d_FileMaker_putRecord_158 3 rfl rfl ?_
    refine pb_get (pc := 159) d_FileMaker_putRecord_159 0 0 rfl rfl (by decide) in_FileMaker k_292 rfl ?_
    refine pb_aload_n (pc := 162) d_FileMaker_putRecord_162 4 rfl rfl ?_
    refine pb_getN (pc := 163) d_FileMaker_putRecord_163 3 1 rfl rfl (by decide) in_Shelf k_393 rfl ?_
    refine pb_iload_n (pc := 166) d_FileMaker_putRecord_166 5 rfl rfl ?_
    refine pb_iald (pc := 167) d_FileMaker_putRecord_167 2 rfl (vp_in_iff.mpr (by constructor <;> omega)) ?_
    refine pb_topi (fun i92 ei92 => ?_)
    have ti92 : i92.toInt = gx tfz (i.toInt) := gx_ld ei92 rfl
    refine pb_callV (pc := 168) (I := i_FileMaker_putRecord) (qb := 11) (ci := 0) (nA := 1) (rest := []) (wr := [(h, .inr (6, [.ref mm, .ref mr])), (tn, .inl (G.2.1, 384, .inl tfn)), (tz, .inl (G.2.2.1, 16, .inl tfz)), (sp, .inr (3, [.ref tn, .ref tz, .ref tb, .ref tg, .int c])), (tg, .inl (G.2.2.1, 17, .inl tfg)), (q, .inr (4, [.ref pp, .ref pl, .ref pe, .ref tb, .int i1, .int r_4, .int b_10, .int l_11, .int d_12])), (pp, .inr (0, [.ref pb, .int p_13])), (pb, .inl (G.2.1, 4502, .inl f_14)), (pl, .inl (G.2.2.1, 1024, .inl fl_15)), (pe, .inl (G.2.2.1, 4000, .inl fe_16)), (tb, .inl (G.2.1, 12000, .inl tfb))]) d_FileMaker_putRecord_168 (g_Row_putTwo hl G mm mb 14006 f_88 s_87 i92 (by first | (with_reducible assumption) | omega (splitDisjunctions := false) | assumption | omega | decide) (by first | (with_reducible assumption) | omega (splitDisjunctions := false) | assumption | omega | decide) (by first | (with_reducible assumption) | omega (splitDisjunctions := false) | assumption | omega | decide) fh91) rfl rfl [11, 12] [0, 1, 2, 3, 4, 5, 6, 7, 8, 9, 10] (by decide) rfl rfl rfl (by decide) (by decide) k_551 rfl k_119 k_556 k_549 k_550 ⟨rfl, hy_Row_putTwo⟩ (by decide) rfl rfl (Nat.le_of_ble_eq_true rfl) (by decide) (fun v9 u94 ch93 => ?_)
    obtain ⟨s_95, f_96⟩ := u94
    obtain ⟨ech93, ch93⟩ := ch93
    have ech93 : v9 = none := ech93
    subst ech93
    obtain ⟨fh97, fh98, fh99⟩ : (s_95.toInt = s_87.toInt + 2) ∧ (ap_ f_88 s_87.toInt f_96 s_95.toInt (nk_ i92.toInt 2)) ∧ (sb_Fit f_96) := ch93
    have aK := ap_app h0 aK fh98
    refine pb_eq (pc' := 171) (lo' := [(6, .int 0), (5, .int r_4), (4, .int i1), (0, .ref h), (1, .ref sp), (2, .int i), (3, .ref q)]) (rest' := []) (ws' := [(h, .inr (6, [.ref mm, .ref mr])), (tn, .inl (G.2.1, 384, .inl tfn)), (tz, .inl (G.2.2.1, 16, .inl tfz)), (sp, .inr (3, [.ref tn, .ref tz, .ref tb, .ref tg, .int c])), (tg, .inl (G.2.2.1, 17, .inl tfg)), (q, .inr (4, [.ref pp, .ref pl, .ref pe, .ref tb, .int i1, .int r_4, .int b_10, .int l_11, .int d_12])), (pp, .inr (0, [.ref pb, .int p_13])), (pb, .inl (G.2.1, 4502, .inl f_14)), (pl, .inl (G.2.2.1, 1024, .inl fl_15)), (pe, .inl (G.2.2.1, 4000, .inl fe_16)), (tb, .inl (G.2.1, 12000, .inl tfb)), (mm, .inr (0, [.ref mb, .int s_95])), (mb, .inl (G.2.1, 14006, .inl f_96))]) ?_
    refine pb_aload_n (pc := 171) d_FileMaker_putRecord_171 3 rfl rfl ?_
    refine pb_get (pc := 172) d_FileMaker_putRecord_172 0 0 rfl rfl (by decide) in_FileMaker k_292 rfl ?_
    refine pb_iconst (pc := 175) (v := 0) d_FileMaker_putRecord_175 (by decide) ?_
    refine pb_callV (pc := 176) (I := i_FileMaker_putRecord) (qb := 11) (ci := 0) (nA := 1) (rest := []) (wr := [(h, .inr (6, [.ref mm, .ref mr])), (tn, .inl (G.2.1, 384, .inl tfn)), (tz, .inl (G.2.2.1, 16, .inl tfz)), (sp, .inr (3, [.ref tn, .ref tz, .ref tb, .ref tg, .int c])), (tg, .inl (G.2.2.1, 17, .inl tfg)), (q, .inr (4, [.ref pp, .ref pl, .ref pe, .ref tb, .int i1, .int r_4, .int b_10, .int l_11, .int d_12])), (pp, .inr (0, [.ref pb, .int p_13])), (pb, .inl (G.2.1, 4502, .inl f_14)), (pl, .inl (G.2.2.1, 1024, .inl fl_15)), (pe, .inl (G.2.2.1, 4000, .inl fe_16)), (tb, .inl (G.2.1, 12000, .inl tfb))]) d_FileMaker_putRecord_176 (g_Row_putTwo hl G mm mb 14006 f_96 s_95 0 (by first | (with_reducible assumption) | omega (splitDisjunctions := false) | assumption | omega | decide) (by first | (with_reducible assumption) | (exact omg_0716e89b62 h1 p5 fh27 fh34 fh41 fh49 fh56 fh63 fh74 fh82 fh89 fh97) | assumption | omega | decide) (by first | (with_reducible assumption) | omega (splitDisjunctions := false) | assumption | omega | decide) fh99) rfl rfl [11, 12] [0, 1, 2, 3, 4, 5, 6, 7, 8, 9, 10] (by decide) rfl rfl rfl (by decide) (by decide) k_551 rfl k_119 k_556 k_549 k_550 ⟨rfl, hy_Row_putTwo⟩ (by decide) rfl rfl (Nat.le_of_ble_eq_true rfl) (by decide) (fun v9 u101 ch100 => ?_)
    obtain ⟨s_102, f_103⟩ := u101
    obtain ⟨ech100, ch100⟩ := ch100
    have ech100 : v9 = none := ech100
    subst ech100
    obtain ⟨fh104, fh105, fh106⟩ : (s_102.toInt = s_95.toInt + 2) ∧ (ap_ f_96 s_95.toInt f_103 s_102.toInt (nk_ (0 : Int32).toInt 2)) ∧ (sb_Fit f_103) := ch100
    have aK := ap_app h0 aK fh105
    refine pb_eq (pc' := 179) (lo' := [(6, .int 0), (5, .int r_4), (4, .int i1), (0, .ref h), (1, .ref sp), (2, .int i), (3, .ref q)]) (rest' := []) (ws' := [(h, .inr (6, [.ref mm, .ref mr])), (tn, .inl (G.2.1, 384, .inl tfn)), (tz, .inl (G.2.2.1, 16, .inl tfz)), (sp, .inr (3, [.ref tn, .ref tz, .ref tb, .ref tg, .int c])), (tg, .inl (G.2.2.1, 17, .inl tfg)), (q, .inr (4, [.ref pp, .ref pl, .ref pe, .ref tb, .int i1, .int r_4, .int b_10, .int l_11, .int d_12])), (pp, .inr (0, [.ref pb, .int p_13])), (pb, .inl (G.2.1, 4502, .inl f_14)), (pl, .inl (G.2.2.1, 1024, .inl fl_15)), (pe, .inl (G.2.2.1, 4000, .inl fe_16)), (tb, .inl (G.2.1, 12000, .inl tfb)), (mm, .inr (0, [.ref mb, .int s_102])), (mb, .inl (G.2.1, 14006, .inl f_103))]) ?_
    refine pb_aload_n (pc := 179) d_FileMaker_putRecord_179 3 rfl rfl ?_
    refine pb_get (pc := 180) d_FileMaker_putRecord_180 0 0 rfl rfl (by decide) in_FileMaker k_292 rfl ?_
    refine pb_aload_n (pc := 183) d_FileMaker_putRecord_183 4 rfl rfl ?_
    refine pb_getN (pc := 184) d_FileMaker_putRecord_184 3 0 rfl rfl (by decide) in_Shelf k_390 rfl ?_
    refine pb_bipush (pc := 187) (v := 24) d_FileMaker_putRecord_187 (by decide) ?_
    refine pb_iload_n (pc := 189) d_FileMaker_putRecord_189 5 rfl rfl ?_
    refine pb_imul (pc := 190) d_FileMaker_putRecord_190 ?_
    refine pb_topi (fun i107 ei107 => ?_)
    try have ti107 : i107.toInt = 24 * i.toInt := ti_mul ei107 (by decide) rfl (by omega) (by omega)
    refine pb_aload_n (pc := 191) d_FileMaker_putRecord_191 4 rfl rfl ?_
    refine pb_getN (pc := 192) d_FileMaker_putRecord_192 3 1 rfl rfl (by decide) in_Shelf k_393 rfl ?_
    refine pb_iload_n (pc := 195) d_FileMaker_putRecord_195 5 rfl rfl ?_
    refine pb_iald (pc := 196) d_FileMaker_putRecord_196 2 rfl (vp_in_iff.mpr (by constructor <;> omega)) ?_
    refine pb_topi (fun i108 ei108 => ?_)
    have ti108 : i108.toInt = gx tfz (i.toInt) := gx_ld ei108 rfl
    have eNz : i108.toInt = vZ V i.toInt := by omega
    have eNx : i107.toInt = 24 * i.toInt := by omega
    refine pb_callV (pc := 197) (I := i_FileMaker_putRecord) (qb := 11) (ci := 0) (nA := 3) (rest := []) (wr := [(h, .inr (6, [.ref mm, .ref mr])), (tz, .inl (G.2.2.1, 16, .inl tfz)), (sp, .inr (3, [.ref tn, .ref tz, .ref tb, .ref tg, .int c])), (tg, .inl (G.2.2.1, 17, .inl tfg)), (q, .inr (4, [.ref pp, .ref pl, .ref pe, .ref tb, .int i1, .int r_4, .int b_10, .int l_11, .int d_12])), (pp, .inr (0, [.ref pb, .int p_13])), (pb, .inl (G.2.1, 4502, .inl f_14)), (pl, .inl (G.2.2.1, 1024, .inl fl_15)), (pe, .inl (G.2.2.1, 4000, .inl fe_16)), (tb, .inl (G.2.1, 12000, .inl tfb))]) d_FileMaker_putRecord_197 (g_Row_putBytes hl G mm mb 14006 f_103 s_102 tn 384 tfn i107 i108 (by first | (with_reducible assumption) | (exact omg_607c2444b7 h0 fh27 fh34 fh41 fh49 fh56 fh63 fh74 fh82 fh89 fh97 fh104) | assumption | omega | decide) (by first | (with_reducible assumption) | omega (splitDisjunctions := false) | assumption | omega | decide) (by first | (with_reducible assumption) | (exact omg_8970a99139 h1 p5 fh27 fh34 fh41 fh49 fh56 fh63 fh74 fh82 fh89 fh97 fh104 ti108) | assumption | omega | decide) (by first | (with_reducible assumption) | omega (splitDisjunctions := false) | assumption | omega | decide) (by first | (with_reducible assumption) | omega (splitDisjunctions := false) | assumption | omega | decide) (by first | (with_reducible assumption) | omega (splitDisjunctions := false) | assumption | omega | decide) (by first | (with_reducible assumption) | omega (splitDisjunctions := false) | assumption | omega | decide) fh106 F_tfn) rfl rfl [11, 12, 1] [0, 2, 3, 4, 5, 6, 7, 8, 9, 10] (by decide) rfl rfl rfl (by decide) (by decide) k_564 rfl k_119 k_561 k_562 k_563 ⟨rfl, hy_Row_putBytes⟩ (by decide) rfl rfl (Nat.le_of_ble_eq_true rfl) (by decide) (fun v9 u110 ch109 => ?_)
    obtain ⟨s_111, f_112⟩ := u110
    obtain ⟨ech109, ch109⟩ := ch109
    have ech109 : v9 = none := ech109
    subst ech109
    obtain ⟨fh113, fh114, fh115, fh116⟩ : (s_111.toInt = s_102.toInt + i108.toInt) ∧ (∀ j : Int, 0 ≤ j → gr f_112 j = if s_102.toInt ≤ j ∧ j < s_102.toInt + i108.toInt then gr tfn (i107.toInt + (j - s_102.toInt)) else gr f_103 j) ∧ (ap_ f_103 s_102.toInt f_112 s_111.toInt (bl_ tfn i107.toInt i108.toInt)) ∧ (sb_Fit f_112) := ch109
    have aK := ap_app h0 aK fh115
    refine pb_eq (pc' := 200) (lo' := [(6, .int 0), (5, .int r_4), (4, .int i1), (0, .ref h), (1, .ref sp), (2, .int i), (3, .ref q)]) (rest' := []) (ws' := [(h, .inr (6, [.ref mm, .ref mr])), (tz, .inl (G.2.2.1, 16, .inl tfz)), (sp, .inr (3, [.ref tn, .ref tz, .ref tb, .ref tg, .int c])), (tg, .inl (G.2.2.1, 17, .inl tfg)), (q, .inr (4, [.ref pp, .ref pl, .ref pe, .ref tb, .int i1, .int r_4, .int b_10, .int l_11, .int d_12])), (pp, .inr (0, [.ref pb, .int p_13])), (pb, .inl (G.2.1, 4502, .inl f_14)), (pl, .inl (G.2.2.1, 1024, .inl fl_15)), (pe, .inl (G.2.2.1, 4000, .inl fe_16)), (tb, .inl (G.2.1, 12000, .inl tfb)), (mm, .inr (0, [.ref mb, .int s_111])), (mb, .inl (G.2.1, 14006, .inl f_112)), (tn, .inl (G.2.1, 384, .inl tfn))]) ?_
    refine pb_iload (pc := 200) d_FileMaker_putRecord_200 0 rfl ?_
    refine pb_if_eq (pc := 202) (tgt := 230) d_FileMaker_putRecord_202 (by decide) (fun _ => ?_) (fun h9 => absurd h9 (by decide))
    refine pb_aload_n (pc := 230) d_FileMaker_putRecord_230 3 rfl rfl ?_
    refine pb_get (pc := 231) d_FileMaker_putRecord_231 0 0 rfl rfl (by decide) in_FileMaker k_292 rfl ?_
    refine pb_aload_n (pc := 234) d_FileMaker_putRecord_234 4 rfl rfl ?_
    refine pb_getN (pc := 235) d_FileMaker_putRecord_235 2 2 rfl rfl (by decide) in_Shelf k_397 rfl ?_
    refine pb_iload (pc := 238) d_FileMaker_putRecord_238 2 rfl ?_
    refine pb_iload (pc := 240) d_FileMaker_putRecord_240 1 rfl ?_
    refine pb_callV (pc := 242) (I := i_FileMaker_putRecord) (qb := 10) (ci := 0) (nA := 3) (rest := []) (wr := [(h, .inr (6, [.ref mm, .ref mr])), (tz, .inl (G.2.2.1, 16, .inl tfz)), (sp, .inr (3, [.ref tn, .ref tz, .ref tb, .ref tg, .int c])), (tg, .inl (G.2.2.1, 17, .inl tfg)), (q, .inr (4, [.ref pp, .ref pl, .ref pe, .ref tb, .int i1, .int r_4, .int b_10, .int l_11, .int d_12])), (pp, .inr (0, [.ref pb, .int p_13])), (pb, .inl (G.2.1, 4502, .inl f_14)), (pl, .inl (G.2.2.1, 1024, .inl fl_15)), (pe, .inl (G.2.2.1, 4000, .inl fe_16)), (tn, .inl (G.2.1, 384, .inl tfn))]) d_FileMaker_putRecord_242 (g_Row_putBytes hl G mm mb 14006 f_112 s_111 tb 12000 tfb i1 r_4 (by first | (with_reducible assumption) | (exact omg_2400f8bda4 h0 p5 fh27 fh34 fh41 fh49 fh56 fh63 fh74 fh82 fh89 fh97 fh104 ti108 fh113) | assumption | omega | decide) (by first | (with_reducible assumption) | omega (splitDisjunctions := false) | assumption | omega | decide) (by first | (with_reducible assumption) | (exact omg_dbfc67ef73 h1 p5 fh5 fh27 fh34 fh41 fh49 fh56 fh63 fh74 fh82 fh89 fh97 fh104 ti108 fh113) | assumption | omega | decide) (by first | (with_reducible assumption) | omega (splitDisjunctions := false) | assumption | omega | decide) (by first | (with_reducible assumption) | omega (splitDisjunctions := false) | assumption | omega | decide) (by first | (with_reducible assumption) | omega (splitDisjunctions := false) | assumption | omega | decide) (by first | (with_reducible assumption) | omega (splitDisjunctions := false) | assumption | omega | decide) fh116 F_tfb) rfl rfl [10, 11, 9] [0, 1, 2, 3, 4, 5, 6, 7, 8, 12] (by decide) rfl rfl rfl (by decide) (by decide) k_564 rfl k_119 k_561 k_562 k_563 ⟨rfl, hy_Row_putBytes⟩ (by decide) rfl rfl (Nat.le_of_ble_eq_true rfl) (by decide) (fun v9 u119 ch118 => ?_)
    obtain ⟨s_120, f_121⟩ := u119
    obtain ⟨ech118, ch118⟩ := ch118
    have ech118 : v9 = none := ech118
    subst ech118
    obtain ⟨fh122, fh123, fh124, fh125⟩ : (s_120.toInt = s_111.toInt + r_4.toInt) ∧ (∀ j : Int, 0 ≤ j → gr f_121 j = if s_111.toInt ≤ j ∧ j < s_111.toInt + r_4.toInt then gr tfb (i1.toInt + (j - s_111.toInt)) else gr f_112 j) ∧ (ap_ f_112 s_111.toInt f_121 s_120.toInt (bl_ tfb i1.toInt r_4.toInt)) ∧ (sb_Fit f_121) := ch118
    have aK := ap_app h0 aK fh124
    refine pb_eq (pc' := 245) (lo' := [(6, .int 0), (5, .int r_4), (4, .int i1), (0, .ref h), (1, .ref sp), (2, .int i), (3, .ref q)]) (rest' := []) (ws' := [(h, .inr (6, [.ref mm, .ref mr])), (tz, .inl (G.2.2.1, 16, .inl tfz)), (sp, .inr (3, [.ref tn, .ref tz, .ref tb, .ref tg, .int c])), (tg, .inl (G.2.2.1, 17, .inl tfg)), (q, .inr (4, [.ref pp, .ref pl, .ref pe, .ref tb, .int i1, .int r_4, .int b_10, .int l_11, .int d_12])), (pp, .inr (0, [.ref pb, .int p_13])), (pb, .inl (G.2.1, 4502, .inl f_14)), (pl, .inl (G.2.2.1, 1024, .inl fl_15)), (pe, .inl (G.2.2.1, 4000, .inl fe_16)), (tn, .inl (G.2.1, 384, .inl tfn)), (mm, .inr (0, [.ref mb, .int s_120])), (mb, .inl (G.2.1, 14006, .inl f_121)), (tb, .inl (G.2.1, 12000, .inl tfb))]) ?_
    exact pb_vret (pc := 245) hQ d_FileMaker_putRecord_245 rfl (s_120, f_121, tb, i1, r_4, b_10, l_11, d_12, p_13, f_14, fl_15, fe_16) ⟨rfl, (by (try dsimp only); first | done | (with_reducible assumption) | (exact omg_f2858e9f71 p5 fh5 fh27 fh34 fh41 fh49 fh56 fh63 fh74 fh82 fh89 fh97 fh104 ti108 fh113 fh122) | assumption | omega | decide), (by (try dsimp only); first | done | (with_reducible assumption) | (exact omg_0b60e4f8a6 p5 fh5 fh27 fh34 fh41 fh49 fh56 fh63 fh74 fh82 fh89 fh97 fh104 ti108 fh113 fh122) | assumption | omega | decide), (show hid_ (∃ P : List Int32, PR_ (sD_ V i.toInt) (vS V i.toInt) P ∧ ap_ f s.toInt f_121 s_120.toInt (rc_ V i.toInt P)) from (hid_i ⟨P9, prF, ap_e aK (by first | exact rc_E (by first | decide | omega) (by first | decide | omega) (by first | decide | omega) (mt_y eL9 (by omega) (by first | decide | omega)) (by first | decide | omega) (by first | decide | omega) suF (hr_y eL9 (by omega) (by omega)) (by omega) (by omega) (by first | decide | omega) (NL_bl eNz (fun k h0 h1 => (by rw [eNx]; exact Ri.2.2.1 k h0 h1))) (bd_y eL9 (by omega) (pE9 _ (by omega))) | exact rc_E (by first | decide | omega) (by first | decide | omega) (by first | decide | omega) (mt_n eL9 (by omega) (by first | decide | omega)) (by first | decide | omega) (by first | decide | omega) suF (hr_n eL9 (by omega) (by omega)) (by omega) (by omega) (by first | decide | omega) (NL_bl eNz (fun k h0 h1 => (by rw [eNx]; exact Ri.2.2.1 k h0 h1))) (bd_n eL9 (by omega) (dE9 _ _ (by omega) (by omega))))⟩)), fh125, fh21⟩ [0, 10, 11, 2, 9, 1, 12, 3, 4, 5, 6, 7, 8] (by decide) rfl rfl (by decide) (by decide)
  · have tw22 : ¬ r_4.toInt ≤ p_13.toInt := fun z9 => w22 ((ti_le rfl rfl).mpr z9)
    refine pb_iconst (pc := 39) (v := 1) d_FileMaker_putRecord_39 (by decide) ?_
    refine pb_goto (pc := 40) (tgt := 44) d_FileMaker_putRecord_40 (by decide) ?_
    refine pb_istore (pc := 44) (lo' := [(6, .int 1), (5, .int r_4), (4, .int i1), (0, .ref h), (1, .ref sp), (2, .int i), (3, .ref q)]) d_FileMaker_putRecord_44 (by decide) rfl ?_
    refine pb_aload_n (pc := 46) d_FileMaker_putRecord_46 3 rfl rfl ?_
    refine pb_get (pc := 47) d_FileMaker_putRecord_47 0 0 rfl rfl (by decide) in_FileMaker k_292 rfl ?_
    refine pb_ldc (pc := 50) (v := 67324752) d_FileMaker_putRecord_50 k_543 ?_
    refine pb_callV (pc := 52) (I := i_FileMaker_putRecord) (qb := 1) (ci := 0) (nA := 1) (rest := []) (wr := [(h, .inr (6, [.ref mm, .ref mr])), (tn, .inl (G.2.1, 384, .inl tfn)), (tz, .inl (G.2.2.1, 16, .inl tfz)), (sp, .inr (3, [.ref tn, .ref tz, .ref tb, .ref tg, .int c])), (tg, .inl (G.2.2.1, 17, .inl tfg)), (q, .inr (4, [.ref pp, .ref pl, .ref pe, .ref tb, .int i1, .int r_4, .int b_10, .int l_11, .int d_12])), (pp, .inr (0, [.ref pb, .int p_13])), (pb, .inl (G.2.1, 4502, .inl f_14)), (pl, .inl (G.2.2.1, 1024, .inl fl_15)), (pe, .inl (G.2.2.1, 4000, .inl fe_16)), (tb, .inl (G.2.1, 12000, .inl tfb))]) d_FileMaker_putRecord_52 (g_Row_putFour hl G mm mb 14006 f s 67324752 (by first | (with_reducible assumption) | omega (splitDisjunctions := false) | assumption | omega | decide) (by first | (with_reducible assumption) | omega (splitDisjunctions := false) | assumption | omega | decide) (by first | (with_reducible assumption) | omega (splitDisjunctions := false) | assumption | omega | decide) F_f) rfl rfl [1, 2] [0, 3, 4, 5, 6, 7, 8, 9, 10, 11, 12] (by decide) rfl rfl rfl (by decide) (by decide) k_547 rfl k_119 k_544 k_545 k_546 ⟨rfl, hy_Row_putFour⟩ (by decide) rfl rfl (Nat.le_of_ble_eq_true rfl) (by decide) (fun v9 u127 ch126 => ?_)
    obtain ⟨s_128, f_129⟩ := u127
    obtain ⟨ech126, ch126⟩ := ch126
    have ech126 : v9 = none := ech126
    subst ech126
    obtain ⟨fh130, fh131, fh132⟩ : (s_128.toInt = s.toInt + 4) ∧ (ap_ f s.toInt f_129 s_128.toInt (nk_ (67324752 : Int32).toInt 4)) ∧ (sb_Fit f_129) := ch126
    have aK := ap_app h0 aK fh131
    refine pb_eq (pc' := 55) (lo' := [(6, .int 1), (5, .int r_4), (4, .int i1), (0, .ref h), (1, .ref sp), (2, .int i), (3, .ref q)]) (rest' := []) (ws' := [(h, .inr (6, [.ref mm, .ref mr])), (tn, .inl (G.2.1, 384, .inl tfn)), (tz, .inl (G.2.2.1, 16, .inl tfz)), (sp, .inr (3, [.ref tn, .ref tz, .ref tb, .ref tg, .int c])), (tg, .inl (G.2.2.1, 17, .inl tfg)), (q, .inr (4, [.ref pp, .ref pl, .ref pe, .ref tb, .int i1, .int r_4, .int b_10, .int l_11, .int d_12])), (pp, .inr (0, [.ref pb, .int p_13])), (pb, .inl (G.2.1, 4502, .inl f_14)), (pl, .inl (G.2.2.1, 1024, .inl fl_15)), (pe, .inl (G.2.2.1, 4000, .inl fe_16)), (tb, .inl (G.2.1, 12000, .inl tfb)), (mm, .inr (0, [.ref mb, .int s_128])), (mb, .inl (G.2.1, 14006, .inl f_129))]) ?_
    refine pb_aload_n (pc := 55) d_FileMaker_putRecord_55 3 rfl rfl ?_
    refine pb_get (pc := 56) d_FileMaker_putRecord_56 0 0 rfl rfl (by decide) in_FileMaker k_292 rfl ?_
    refine pb_bipush (pc := 59) (v := 20) d_FileMaker_putRecord_59 (by decide) ?_
    refine pb_callV (pc := 61) (I := i_FileMaker_putRecord) (qb := 11) (ci := 0) (nA := 1) (rest := []) (wr := [(h, .inr (6, [.ref mm, .ref mr])), (tn, .inl (G.2.1, 384, .inl tfn)), (tz, .inl (G.2.2.1, 16, .inl tfz)), (sp, .inr (3, [.ref tn, .ref tz, .ref tb, .ref tg, .int c])), (tg, .inl (G.2.2.1, 17, .inl tfg)), (q, .inr (4, [.ref pp, .ref pl, .ref pe, .ref tb, .int i1, .int r_4, .int b_10, .int l_11, .int d_12])), (pp, .inr (0, [.ref pb, .int p_13])), (pb, .inl (G.2.1, 4502, .inl f_14)), (pl, .inl (G.2.2.1, 1024, .inl fl_15)), (pe, .inl (G.2.2.1, 4000, .inl fe_16)), (tb, .inl (G.2.1, 12000, .inl tfb))]) d_FileMaker_putRecord_61 (g_Row_putTwo hl G mm mb 14006 f_129 s_128 20 (by first | (with_reducible assumption) | omega (splitDisjunctions := false) | assumption | omega | decide) (by first | (with_reducible assumption) | omega (splitDisjunctions := false) | assumption | omega | decide) (by first | (with_reducible assumption) | omega (splitDisjunctions := false) | assumption | omega | decide) fh132) rfl rfl [11, 12] [0, 1, 2, 3, 4, 5, 6, 7, 8, 9, 10] (by decide) rfl rfl rfl (by decide) (by decide) k_551 rfl k_119 k_556 k_549 k_550 ⟨rfl, hy_Row_putTwo⟩ (by decide) rfl rfl (Nat.le_of_ble_eq_true rfl) (by decide) (fun v9 u134 ch133 => ?_)
    obtain ⟨s_135, f_136⟩ := u134
    obtain ⟨ech133, ch133⟩ := ch133
    have ech133 : v9 = none := ech133
    subst ech133
    obtain ⟨fh137, fh138, fh139⟩ : (s_135.toInt = s_128.toInt + 2) ∧ (ap_ f_129 s_128.toInt f_136 s_135.toInt (nk_ (20 : Int32).toInt 2)) ∧ (sb_Fit f_136) := ch133
    have aK := ap_app h0 aK fh138
    refine pb_eq (pc' := 64) (lo' := [(6, .int 1), (5, .int r_4), (4, .int i1), (0, .ref h), (1, .ref sp), (2, .int i), (3, .ref q)]) (rest' := []) (ws' := [(h, .inr (6, [.ref mm, .ref mr])), (tn, .inl (G.2.1, 384, .inl tfn)), (tz, .inl (G.2.2.1, 16, .inl tfz)), (sp, .inr (3, [.ref tn, .ref tz, .ref tb, .ref tg, .int c])), (tg, .inl (G.2.2.1, 17, .inl tfg)), (q, .inr (4, [.ref pp, .ref pl, .ref pe, .ref tb, .int i1, .int r_4, .int b_10, .int l_11, .int d_12])), (pp, .inr (0, [.ref pb, .int p_13])), (pb, .inl (G.2.1, 4502, .inl f_14)), (pl, .inl (G.2.2.1, 1024, .inl fl_15)), (pe, .inl (G.2.2.1, 4000, .inl fe_16)), (tb, .inl (G.2.1, 12000, .inl tfb)), (mm, .inr (0, [.ref mb, .int s_135])), (mb, .inl (G.2.1, 14006, .inl f_136))]) ?_
    refine pb_aload_n (pc := 64) d_FileMaker_putRecord_64 3 rfl rfl ?_
    refine pb_get (pc := 65) d_FileMaker_putRecord_65 0 0 rfl rfl (by decide) in_FileMaker k_292 rfl ?_
    refine pb_iconst (pc := 68) (v := 0) d_FileMaker_putRecord_68 (by decide) ?_
    refine pb_callV (pc := 69) (I := i_FileMaker_putRecord) (qb := 11) (ci := 0) (nA := 1) (rest := []) (wr := [(h, .inr (6, [.ref mm, .ref mr])), (tn, .inl (G.2.1, 384, .inl tfn)), (tz, .inl (G.2.2.1, 16, .inl tfz)), (sp, .inr (3, [.ref tn, .ref tz, .ref tb, .ref tg, .int c])), (tg, .inl (G.2.2.1, 17, .inl tfg)), (q, .inr (4, [.ref pp, .ref pl, .ref pe, .ref tb, .int i1, .int r_4, .int b_10, .int l_11, .int d_12])), (pp, .inr (0, [.ref pb, .int p_13])), (pb, .inl (G.2.1, 4502, .inl f_14)), (pl, .inl (G.2.2.1, 1024, .inl fl_15)), (pe, .inl (G.2.2.1, 4000, .inl fe_16)), (tb, .inl (G.2.1, 12000, .inl tfb))]) d_FileMaker_putRecord_69 (g_Row_putTwo hl G mm mb 14006 f_136 s_135 0 (by first | (with_reducible assumption) | omega (splitDisjunctions := false) | assumption | omega | decide) (by first | (with_reducible assumption) | omega (splitDisjunctions := false) | assumption | omega | decide) (by first | (with_reducible assumption) | omega (splitDisjunctions := false) | assumption | omega | decide) fh139) rfl rfl [11, 12] [0, 1, 2, 3, 4, 5, 6, 7, 8, 9, 10] (by decide) rfl rfl rfl (by decide) (by decide) k_551 rfl k_119 k_556 k_549 k_550 ⟨rfl, hy_Row_putTwo⟩ (by decide) rfl rfl (Nat.le_of_ble_eq_true rfl) (by decide) (fun v9 u141 ch140 => ?_)
    obtain ⟨s_142, f_143⟩ := u141
    obtain ⟨ech140, ch140⟩ := ch140
    have ech140 : v9 = none := ech140
    subst ech140
    obtain ⟨fh144, fh145, fh146⟩ : (s_142.toInt = s_135.toInt + 2) ∧ (ap_ f_136 s_135.toInt f_143 s_142.toInt (nk_ (0 : Int32).toInt 2)) ∧ (sb_Fit f_143) := ch140
    have aK := ap_app h0 aK fh145
    refine pb_eq (pc' := 72) (lo' := [(6, .int 1), (5, .int r_4), (4, .int i1), (0, .ref h), (1, .ref sp), (2, .int i), (3, .ref q)]) (rest' := []) (ws' := [(h, .inr (6, [.ref mm, .ref mr])), (tn, .inl (G.2.1, 384, .inl tfn)), (tz, .inl (G.2.2.1, 16, .inl tfz)), (sp, .inr (3, [.ref tn, .ref tz, .ref tb, .ref tg, .int c])), (tg, .inl (G.2.2.1, 17, .inl tfg)), (q, .inr (4, [.ref pp, .ref pl, .ref pe, .ref tb, .int i1, .int r_4, .int b_10, .int l_11, .int d_12])), (pp, .inr (0, [.ref pb, .int p_13])), (pb, .inl (G.2.1, 4502, .inl f_14)), (pl, .inl (G.2.2.1, 1024, .inl fl_15)), (pe, .inl (G.2.2.1, 4000, .inl fe_16)), (tb, .inl (G.2.1, 12000, .inl tfb)), (mm, .inr (0, [.ref mb, .int s_142])), (mb, .inl (G.2.1, 14006, .inl f_143))]) ?_
    refine pb_aload_n (pc := 72) d_FileMaker_putRecord_72 3 rfl rfl ?_
    refine pb_get (pc := 73) d_FileMaker_putRecord_73 0 0 rfl rfl (by decide) in_FileMaker k_292 rfl ?_
    refine pb_iload (pc := 76) d_FileMaker_putRecord_76 0 rfl ?_
    refine pb_if_eq (pc := 78) (tgt := 86) d_FileMaker_putRecord_78 (by decide) (fun h9 => absurd h9 (by decide)) (fun _ => ?_)
    refine pb_bipush (pc := 81) (v := 8) d_FileMaker_putRecord_81 (by decide) ?_
    refine pb_goto (pc := 83) (tgt := 87) d_FileMaker_putRecord_83 (by decide) ?_
    refine pb_callV (pc := 87) (I := i_FileMaker_putRecord) (qb := 11) (ci := 0) (nA := 1) (rest := []) (wr := [(h, .inr (6, [.ref mm, .ref mr])), (tn, .inl (G.2.1, 384, .inl tfn)), (tz, .inl (G.2.2.1, 16, .inl tfz)), (sp, .inr (3, [.ref tn, .ref tz, .ref tb, .ref tg, .int c])), (tg, .inl (G.2.2.1, 17, .inl tfg)), (q, .inr (4, [.ref pp, .ref pl, .ref pe, .ref tb, .int i1, .int r_4, .int b_10, .int l_11, .int d_12])), (pp, .inr (0, [.ref pb, .int p_13])), (pb, .inl (G.2.1, 4502, .inl f_14)), (pl, .inl (G.2.2.1, 1024, .inl fl_15)), (pe, .inl (G.2.2.1, 4000, .inl fe_16)), (tb, .inl (G.2.1, 12000, .inl tfb))]) d_FileMaker_putRecord_87 (g_Row_putTwo hl G mm mb 14006 f_143 s_142 8 (by first | (with_reducible assumption) | omega (splitDisjunctions := false) | assumption | omega | decide) (by first | (with_reducible assumption) | omega (splitDisjunctions := false) | assumption | omega | decide) (by first | (with_reducible assumption) | omega (splitDisjunctions := false) | assumption | omega | decide) fh146) rfl rfl [11, 12] [0, 1, 2, 3, 4, 5, 6, 7, 8, 9, 10] (by decide) rfl rfl rfl (by decide) (by decide) k_551 rfl k_119 k_556 k_549 k_550 ⟨rfl, hy_Row_putTwo⟩ (by decide) rfl rfl (Nat.le_of_ble_eq_true rfl) (by decide) (fun v9 u149 ch148 => ?_)
    obtain ⟨s_150, f_151⟩ := u149
    obtain ⟨ech148, ch148⟩ := ch148
    have ech148 : v9 = none := ech148
    subst ech148
    obtain ⟨fh152, fh153, fh154⟩ : (s_150.toInt = s_142.toInt + 2) ∧ (ap_ f_143 s_142.toInt f_151 s_150.toInt (nk_ (8 : Int32).toInt 2)) ∧ (sb_Fit f_151) := ch148
    have aK := ap_app h0 aK fh153
    refine pb_eq (pc' := 90) (lo' := [(6, .int 1), (5, .int r_4), (4, .int i1), (0, .ref h), (1, .ref sp), (2, .int i), (3, .ref q)]) (rest' := []) (ws' := [(h, .inr (6, [.ref mm, .ref mr])), (tn, .inl (G.2.1, 384, .inl tfn)), (tz, .inl (G.2.2.1, 16, .inl tfz)), (sp, .inr (3, [.ref tn, .ref tz, .ref tb, .ref tg, .int c])), (tg, .inl (G.2.2.1, 17, .inl tfg)), (q, .inr (4, [.ref pp, .ref pl, .ref pe, .ref tb, .int i1, .int r_4, .int b_10, .int l_11, .int d_12])), (pp, .inr (0, [.ref pb, .int p_13])), (pb, .inl (G.2.1, 4502, .inl f_14)), (pl, .inl (G.2.2.1, 1024, .inl fl_15)), (pe, .inl (G.2.2.1, 4000, .inl fe_16)), (tb, .inl (G.2.1, 12000, .inl tfb)), (mm, .inr (0, [.ref mb, .int s_150])), (mb, .inl (G.2.1, 14006, .inl f_151))]) ?_
    refine pb_aload_n (pc := 90) d_FileMaker_putRecord_90 3 rfl rfl ?_
    refine pb_get (pc := 91) d_FileMaker_putRecord_91 0 0 rfl rfl (by decide) in_FileMaker k_292 rfl ?_
    refine pb_iconst (pc := 94) (v := 0) d_FileMaker_putRecord_94 (by decide) ?_
    refine pb_callV (pc := 95) (I := i_FileMaker_putRecord) (qb := 11) (ci := 0) (nA := 1) (rest := []) (wr := [(h, .inr (6, [.ref mm, .ref mr])), (tn, .inl (G.2.1, 384, .inl tfn)), (tz, .inl (G.2.2.1, 16, .inl tfz)), (sp, .inr (3, [.ref tn, .ref tz, .ref tb, .ref tg, .int c])), (tg, .inl (G.2.2.1, 17, .inl tfg)), (q, .inr (4, [.ref pp, .ref pl, .ref pe, .ref tb, .int i1, .int r_4, .int b_10, .int l_11, .int d_12])), (pp, .inr (0, [.ref pb, .int p_13])), (pb, .inl (G.2.1, 4502, .inl f_14)), (pl, .inl (G.2.2.1, 1024, .inl fl_15)), (pe, .inl (G.2.2.1, 4000, .inl fe_16)), (tb, .inl (G.2.1, 12000, .inl tfb))]) d_FileMaker_putRecord_95 (g_Row_putTwo hl G mm mb 14006 f_151 s_150 0 (by first | (with_reducible assumption) | omega (splitDisjunctions := false) | assumption | omega | decide) (by first | (with_reducible assumption) | omega (splitDisjunctions := false) | assumption | omega | decide) (by first | (with_reducible assumption) | omega (splitDisjunctions := false) | assumption | omega | decide) fh154) rfl rfl [11, 12] [0, 1, 2, 3, 4, 5, 6, 7, 8, 9, 10] (by decide) rfl rfl rfl (by decide) (by decide) k_551 rfl k_119 k_556 k_549 k_550 ⟨rfl, hy_Row_putTwo⟩ (by decide) rfl rfl (Nat.le_of_ble_eq_true rfl) (by decide) (fun v9 u156 ch155 => ?_)
    obtain ⟨s_157, f_158⟩ := u156
    obtain ⟨ech155, ch155⟩ := ch155
    have ech155 : v9 = none := ech155
    subst ech155
    obtain ⟨fh159, fh160, fh161⟩ : (s_157.toInt = s_150.toInt + 2) ∧ (ap_ f_151 s_150.toInt f_158 s_157.toInt (nk_ (0 : Int32).toInt 2)) ∧ (sb_Fit f_158) := ch155
    have aK := ap_app h0 aK fh160
    refine pb_eq (pc' := 98) (lo' := [(6, .int 1), (5, .int r_4), (4, .int i1), (0, .ref h), (1, .ref sp), (2, .int i), (3, .ref q)]) (rest' := []) (ws' := [(h, .inr (6, [.ref mm, .ref mr])), (tn, .inl (G.2.1, 384, .inl tfn)), (tz, .inl (G.2.2.1, 16, .inl tfz)), (sp, .inr (3, [.ref tn, .ref tz, .ref tb, .ref tg, .int c])), (tg, .inl (G.2.2.1, 17, .inl tfg)), (q, .inr (4, [.ref pp, .ref pl, .ref pe, .ref tb, .int i1, .int r_4, .int b_10, .int l_11, .int d_12])), (pp, .inr (0, [.ref pb, .int p_13])), (pb, .inl (G.2.1, 4502, .inl f_14)), (pl, .inl (G.2.2.1, 1024, .inl fl_15)), (pe, .inl (G.2.2.1, 4000, .inl fe_16)), (tb, .inl (G.2.1, 12000, .inl tfb)), (mm, .inr (0, [.ref mb, .int s_157])), (mb, .inl (G.2.1, 14006, .inl f_158))]) ?_
    refine pb_aload_n (pc := 98) d_FileMaker_putRecord_98 3 rfl rfl ?_
    refine pb_get (pc := 99) d_FileMaker_putRecord_99 0 0 rfl rfl (by decide) in_FileMaker k_292 rfl ?_
    refine pb_bipush (pc := 102) (v := 33) d_FileMaker_putRecord_102 (by decide) ?_
    refine pb_callV (pc := 104) (I := i_FileMaker_putRecord) (qb := 11) (ci := 0) (nA := 1) (rest := []) (wr := [(h, .inr (6, [.ref mm, .ref mr])), (tn, .inl (G.2.1, 384, .inl tfn)), (tz, .inl (G.2.2.1, 16, .inl tfz)), (sp, .inr (3, [.ref tn, .ref tz, .ref tb, .ref tg, .int c])), (tg, .inl (G.2.2.1, 17, .inl tfg)), (q, .inr (4, [.ref pp, .ref pl, .ref pe, .ref tb, .int i1, .int r_4, .int b_10, .int l_11, .int d_12])), (pp, .inr (0, [.ref pb, .int p_13])), (pb, .inl (G.2.1, 4502, .inl f_14)), (pl, .inl (G.2.2.1, 1024, .inl fl_15)), (pe, .inl (G.2.2.1, 4000, .inl fe_16)), (tb, .inl (G.2.1, 12000, .inl tfb))]) d_FileMaker_putRecord_104 (g_Row_putTwo hl G mm mb 14006 f_158 s_157 33 (by first | (with_reducible assumption) | omega (splitDisjunctions := false) | assumption | omega | decide) (by first | (with_reducible assumption) | omega (splitDisjunctions := false) | assumption | omega | decide) (by first | (with_reducible assumption) | omega (splitDisjunctions := false) | assumption | omega | decide) fh161) rfl rfl [11, 12] [0, 1, 2, 3, 4, 5, 6, 7, 8, 9, 10] (by decide) rfl rfl rfl (by decide) (by decide) k_551 rfl k_119 k_556 k_549 k_550 ⟨rfl, hy_Row_putTwo⟩ (by decide) rfl rfl (Nat.le_of_ble_eq_true rfl) (by decide) (fun v9 u163 ch162 => ?_)
    obtain ⟨s_164, f_165⟩ := u163
    obtain ⟨ech162, ch162⟩ := ch162
    have ech162 : v9 = none := ech162
    subst ech162
    obtain ⟨fh166, fh167, fh168⟩ : (s_164.toInt = s_157.toInt + 2) ∧ (ap_ f_158 s_157.toInt f_165 s_164.toInt (nk_ (33 : Int32).toInt 2)) ∧ (sb_Fit f_165) := ch162
    have aK := ap_app h0 aK fh167
    refine pb_eq (pc' := 107) (lo' := [(6, .int 1), (5, .int r_4), (4, .int i1), (0, .ref h), (1, .ref sp), (2, .int i), (3, .ref q)]) (rest' := []) (ws' := [(h, .inr (6, [.ref mm, .ref mr])), (tn, .inl (G.2.1, 384, .inl tfn)), (tz, .inl (G.2.2.1, 16, .inl tfz)), (sp, .inr (3, [.ref tn, .ref tz, .ref tb, .ref tg, .int c])), (tg, .inl (G.2.2.1, 17, .inl tfg)), (q, .inr (4, [.ref pp, .ref pl, .ref pe, .ref tb, .int i1, .int r_4, .int b_10, .int l_11, .int d_12])), (pp, .inr (0, [.ref pb, .int p_13])), (pb, .inl (G.2.1, 4502, .inl f_14)), (pl, .inl (G.2.2.1, 1024, .inl fl_15)), (pe, .inl (G.2.2.1, 4000, .inl fe_16)), (tb, .inl (G.2.1, 12000, .inl tfb)), (mm, .inr (0, [.ref mb, .int s_164])), (mb, .inl (G.2.1, 14006, .inl f_165))]) ?_
    refine pb_aload_n (pc := 107) d_FileMaker_putRecord_107 3 rfl rfl ?_
    refine pb_get (pc := 108) d_FileMaker_putRecord_108 0 0 rfl rfl (by decide) in_FileMaker k_292 rfl ?_
    refine pb_aload_n (pc := 111) d_FileMaker_putRecord_111 4 rfl rfl ?_
    refine pb_getN (pc := 112) d_FileMaker_putRecord_112 3 2 rfl rfl (by decide) in_Shelf k_397 rfl ?_
    refine pb_iload (pc := 115) d_FileMaker_putRecord_115 2 rfl ?_
    refine pb_iload (pc := 117) d_FileMaker_putRecord_117 1 rfl ?_
    refine pb_callSN (pc := 119) (I := i_FileMaker_putRecord) (nA := 3) (rest := [.ref mm]) (wr := [(h, .inr (6, [.ref mm, .ref mr])), (tn, .inl (G.2.1, 384, .inl tfn)), (tz, .inl (G.2.2.1, 16, .inl tfz)), (sp, .inr (3, [.ref tn, .ref tz, .ref tb, .ref tg, .int c])), (tg, .inl (G.2.2.1, 17, .inl tfg)), (q, .inr (4, [.ref pp, .ref pl, .ref pe, .ref tb, .int i1, .int r_4, .int b_10, .int l_11, .int d_12])), (pp, .inr (0, [.ref pb, .int p_13])), (pb, .inl (G.2.1, 4502, .inl f_14)), (pl, .inl (G.2.2.1, 1024, .inl fl_15)), (pe, .inl (G.2.2.1, 4000, .inl fe_16)), (mm, .inr (0, [.ref mb, .int s_164])), (mb, .inl (G.2.1, 14006, .inl f_165))]) d_FileMaker_putRecord_119 (g_sumOf hl G tb 12000 tfb i1 r_4 (by first | (with_reducible assumption) | omega (splitDisjunctions := false) | assumption | omega | decide) (by first | (with_reducible assumption) | omega (splitDisjunctions := false) | assumption | omega | decide) (by first | (with_reducible assumption) | omega (splitDisjunctions := false) | assumption | omega | decide) (by first | (with_reducible assumption) | omega (splitDisjunctions := false) | assumption | omega | decide) F_tfb) [10] [0, 1, 2, 3, 4, 5, 6, 7, 8, 9, 11, 12] (by decide) rfl rfl rfl (by decide) (by decide) k_559 rfl k_118 k_557 k_558 hy_Book_sumOf (by decide) rfl rfl (Nat.le_of_ble_eq_true rfl) (by decide) (fun v9 u170 ch169 => ?_)
    obtain ⟨r_171, rfl⟩ : ∃ z9, z9 = u170 := ⟨_, rfl⟩
    obtain ⟨ech169, ch169⟩ := ch169
    have ech169 : v9 = some (.int r_171) := ech169
    subst ech169
    have fh172 : r_171 = cr_n tfb i1.toInt r_4.toInt.toNat ^^^ (-1) := ch169
    have suF := su_E fh172 (show r_4.toInt = vS V i.toInt by omega) (fun k h0 h1 => by rw [show i1.toInt = gx tfg i.toInt by omega]; exact Ri.2.2.2 k h0 h1) (by omega)
    refine pb_eq (pc' := 122) (lo' := [(6, .int 1), (5, .int r_4), (4, .int i1), (0, .ref h), (1, .ref sp), (2, .int i), (3, .ref q)]) (rest' := [.int r_171, .ref mm]) (ws' := [(h, .inr (6, [.ref mm, .ref mr])), (tn, .inl (G.2.1, 384, .inl tfn)), (tz, .inl (G.2.2.1, 16, .inl tfz)), (sp, .inr (3, [.ref tn, .ref tz, .ref tb, .ref tg, .int c])), (tg, .inl (G.2.2.1, 17, .inl tfg)), (q, .inr (4, [.ref pp, .ref pl, .ref pe, .ref tb, .int i1, .int r_4, .int b_10, .int l_11, .int d_12])), (pp, .inr (0, [.ref pb, .int p_13])), (pb, .inl (G.2.1, 4502, .inl f_14)), (pl, .inl (G.2.2.1, 1024, .inl fl_15)), (pe, .inl (G.2.2.1, 4000, .inl fe_16)), (mm, .inr (0, [.ref mb, .int s_164])), (mb, .inl (G.2.1, 14006, .inl f_165)), (tb, .inl (G.2.1, 12000, .inl tfb))]) ?_
    refine pb_callV (pc := 122) (I := i_FileMaker_putRecord) (qb := 10) (ci := 0) (nA := 1) (rest := []) (wr := [(h, .inr (6, [.ref mm, .ref mr])), (tn, .inl (G.2.1, 384, .inl tfn)), (tz, .inl (G.2.2.1, 16, .inl tfz)), (sp, .inr (3, [.ref tn, .ref tz, .ref tb, .ref tg, .int c])), (tg, .inl (G.2.2.1, 17, .inl tfg)), (q, .inr (4, [.ref pp, .ref pl, .ref pe, .ref tb, .int i1, .int r_4, .int b_10, .int l_11, .int d_12])), (pp, .inr (0, [.ref pb, .int p_13])), (pb, .inl (G.2.1, 4502, .inl f_14)), (pl, .inl (G.2.2.1, 1024, .inl fl_15)), (pe, .inl (G.2.2.1, 4000, .inl fe_16)), (tb, .inl (G.2.1, 12000, .inl tfb))]) d_FileMaker_putRecord_122 (g_Row_putFour hl G mm mb 14006 f_165 s_164 r_171 (by first | (with_reducible assumption) | omega (splitDisjunctions := false) | assumption | omega | decide) (by first | (with_reducible assumption) | omega (splitDisjunctions := false) | assumption | omega | decide) (by first | (with_reducible assumption) | omega (splitDisjunctions := false) | assumption | omega | decide) fh168) rfl rfl [10, 11] [0, 1, 2, 3, 4, 5, 6, 7, 8, 9, 12] (by decide) rfl rfl rfl (by decide) (by decide) k_547 rfl k_119 k_544 k_545 k_546 ⟨rfl, hy_Row_putFour⟩ (by decide) rfl rfl (Nat.le_of_ble_eq_true rfl) (by decide) (fun v9 u174 ch173 => ?_)
    obtain ⟨s_175, f_176⟩ := u174
    obtain ⟨ech173, ch173⟩ := ch173
    have ech173 : v9 = none := ech173
    subst ech173
    obtain ⟨fh177, fh178, fh179⟩ : (s_175.toInt = s_164.toInt + 4) ∧ (ap_ f_165 s_164.toInt f_176 s_175.toInt (nk_ r_171.toInt 4)) ∧ (sb_Fit f_176) := ch173
    have aK := ap_app h0 aK fh178
    refine pb_eq (pc' := 125) (lo' := [(6, .int 1), (5, .int r_4), (4, .int i1), (0, .ref h), (1, .ref sp), (2, .int i), (3, .ref q)]) (rest' := []) (ws' := [(h, .inr (6, [.ref mm, .ref mr])), (tn, .inl (G.2.1, 384, .inl tfn)), (tz, .inl (G.2.2.1, 16, .inl tfz)), (sp, .inr (3, [.ref tn, .ref tz, .ref tb, .ref tg, .int c])), (tg, .inl (G.2.2.1, 17, .inl tfg)), (q, .inr (4, [.ref pp, .ref pl, .ref pe, .ref tb, .int i1, .int r_4, .int b_10, .int l_11, .int d_12])), (pp, .inr (0, [.ref pb, .int p_13])), (pb, .inl (G.2.1, 4502, .inl f_14)), (pl, .inl (G.2.2.1, 1024, .inl fl_15)), (pe, .inl (G.2.2.1, 4000, .inl fe_16)), (tb, .inl (G.2.1, 12000, .inl tfb)), (mm, .inr (0, [.ref mb, .int s_175])), (mb, .inl (G.2.1, 14006, .inl f_176))]) ?_
    refine pb_aload_n (pc := 125) d_FileMaker_putRecord_125 3 rfl rfl ?_
    refine pb_get (pc := 126) d_FileMaker_putRecord_126 0 0 rfl rfl (by decide) in_FileMaker k_292 rfl ?_
    refine pb_iload (pc := 129) d_FileMaker_putRecord_129 0 rfl ?_
    refine pb_if_eq (pc := 131) (tgt := 144) d_FileMaker_putRecord_131 (by decide) (fun h9 => absurd h9 (by decide)) (fun _ => ?_)
    refine pb_aload_n (pc := 134) d_FileMaker_putRecord_134 6 rfl rfl ?_
    refine pb_getN (pc := 135) d_FileMaker_putRecord_135 5 0 rfl rfl (by decide) in_Presser k_182 rfl ?_
    refine pb_getN (pc := 138) d_FileMaker_putRecord_138 6 1 rfl rfl (by decide) in_Row k_163 rfl ?_
    refine pb_goto (pc := 141) (tgt := 146) d_FileMaker_putRecord_141 (by decide) ?_
    refine pb_callV (pc := 146) (I := i_FileMaker_putRecord) (qb := 11) (ci := 0) (nA := 1) (rest := []) (wr := [(h, .inr (6, [.ref mm, .ref mr])), (tn, .inl (G.2.1, 384, .inl tfn)), (tz, .inl (G.2.2.1, 16, .inl tfz)), (sp, .inr (3, [.ref tn, .ref tz, .ref tb, .ref tg, .int c])), (tg, .inl (G.2.2.1, 17, .inl tfg)), (q, .inr (4, [.ref pp, .ref pl, .ref pe, .ref tb, .int i1, .int r_4, .int b_10, .int l_11, .int d_12])), (pp, .inr (0, [.ref pb, .int p_13])), (pb, .inl (G.2.1, 4502, .inl f_14)), (pl, .inl (G.2.2.1, 1024, .inl fl_15)), (pe, .inl (G.2.2.1, 4000, .inl fe_16)), (tb, .inl (G.2.1, 12000, .inl tfb))]) d_FileMaker_putRecord_146 (g_Row_putFour hl G mm mb 14006 f_176 s_175 p_13 (by first | (with_reducible assumption) | omega (splitDisjunctions := false) | assumption | omega | decide) (by first | (with_reducible assumption) | omega (splitDisjunctions := false) | assumption | omega | decide) (by first | (with_reducible assumption) | omega (splitDisjunctions := false) | assumption | omega | decide) fh179) rfl rfl [11, 12] [0, 1, 2, 3, 4, 5, 6, 7, 8, 9, 10] (by decide) rfl rfl rfl (by decide) (by decide) k_547 rfl k_119 k_544 k_545 k_546 ⟨rfl, hy_Row_putFour⟩ (by decide) rfl rfl (Nat.le_of_ble_eq_true rfl) (by decide) (fun v9 u182 ch181 => ?_)
    obtain ⟨s_183, f_184⟩ := u182
    obtain ⟨ech181, ch181⟩ := ch181
    have ech181 : v9 = none := ech181
    subst ech181
    obtain ⟨fh185, fh186, fh187⟩ : (s_183.toInt = s_175.toInt + 4) ∧ (ap_ f_176 s_175.toInt f_184 s_183.toInt (nk_ p_13.toInt 4)) ∧ (sb_Fit f_184) := ch181
    have aK := ap_app h0 aK fh186
    refine pb_eq (pc' := 149) (lo' := [(6, .int 1), (5, .int r_4), (4, .int i1), (0, .ref h), (1, .ref sp), (2, .int i), (3, .ref q)]) (rest' := []) (ws' := [(h, .inr (6, [.ref mm, .ref mr])), (tn, .inl (G.2.1, 384, .inl tfn)), (tz, .inl (G.2.2.1, 16, .inl tfz)), (sp, .inr (3, [.ref tn, .ref tz, .ref tb, .ref tg, .int c])), (tg, .inl (G.2.2.1, 17, .inl tfg)), (q, .inr (4, [.ref pp, .ref pl, .ref pe, .ref tb, .int i1, .int r_4, .int b_10, .int l_11, .int d_12])), (pp, .inr (0, [.ref pb, .int p_13])), (pb, .inl (G.2.1, 4502, .inl f_14)), (pl, .inl (G.2.2.1, 1024, .inl fl_15)), (pe, .inl (G.2.2.1, 4000, .inl fe_16)), (tb, .inl (G.2.1, 12000, .inl tfb)), (mm, .inr (0, [.ref mb, .int s_183])), (mb, .inl (G.2.1, 14006, .inl f_184))]) ?_
    refine pb_aload_n (pc := 149) d_FileMaker_putRecord_149 3 rfl rfl ?_
    refine pb_get (pc := 150) d_FileMaker_putRecord_150 0 0 rfl rfl (by decide) in_FileMaker k_292 rfl ?_
    refine pb_iload (pc := 153) d_FileMaker_putRecord_153 1 rfl ?_
    refine pb_callV (pc := 155) (I := i_FileMaker_putRecord) (qb := 11) (ci := 0) (nA := 1) (rest := []) (wr := [(h, .inr (6, [.ref mm, .ref mr])), (tn, .inl (G.2.1, 384, .inl tfn)), (tz, .inl (G.2.2.1, 16, .inl tfz)), (sp, .inr (3, [.ref tn, .ref tz, .ref tb, .ref tg, .int c])), (tg, .inl (G.2.2.1, 17, .inl tfg)), (q, .inr (4, [.ref pp, .ref pl, .ref pe, .ref tb, .int i1, .int r_4, .int b_10, .int l_11, .int d_12])), (pp, .inr (0, [.ref pb, .int p_13])), (pb, .inl (G.2.1, 4502, .inl f_14)), (pl, .inl (G.2.2.1, 1024, .inl fl_15)), (pe, .inl (G.2.2.1, 4000, .inl fe_16)), (tb, .inl (G.2.1, 12000, .inl tfb))]) d_FileMaker_putRecord_155 (g_Row_putFour hl G mm mb 14006 f_184 s_183 r_4 (by first | (with_reducible assumption) | omega (splitDisjunctions := false) | assumption | omega | decide) (by first | (with_reducible assumption) | omega (splitDisjunctions := false) | assumption | omega | decide) (by first | (with_reducible assumption) | omega (splitDisjunctions := false) | assumption | omega | decide) fh187) rfl rfl [11, 12] [0, 1, 2, 3, 4, 5, 6, 7, 8, 9, 10] (by decide) rfl rfl rfl (by decide) (by decide) k_547 rfl k_119 k_544 k_545 k_546 ⟨rfl, hy_Row_putFour⟩ (by decide) rfl rfl (Nat.le_of_ble_eq_true rfl) (by decide) (fun v9 u189 ch188 => ?_)
    obtain ⟨s_190, f_191⟩ := u189
    obtain ⟨ech188, ch188⟩ := ch188
    have ech188 : v9 = none := ech188
    subst ech188
    obtain ⟨fh192, fh193, fh194⟩ : (s_190.toInt = s_183.toInt + 4) ∧ (ap_ f_184 s_183.toInt f_191 s_190.toInt (nk_ r_4.toInt 4)) ∧ (sb_Fit f_191) := ch188
    have aK := ap_app h0 aK fh193
    refine pb_eq (pc' := 158) (lo' := [(6, .int 1), (5, .int r_4), (4, .int i1), (0, .ref h), (1, .ref sp), (2, .int i), (3, .ref q)]) (rest' := []) (ws' := [(h, .inr (6, [.ref mm, .ref mr])), (tn, .inl (G.2.1, 384, .inl tfn)), (tz, .inl (G.2.2.1, 16, .inl tfz)), (sp, .inr (3, [.ref tn, .ref tz, .ref tb, .ref tg, .int c])), (tg, .inl (G.2.2.1, 17, .inl tfg)), (q, .inr (4, [.ref pp, .ref pl, .ref pe, .ref tb, .int i1, .int r_4, .int b_10, .int l_11, .int d_12])), (pp, .inr (0, [.ref pb, .int p_13])), (pb, .inl (G.2.1, 4502, .inl f_14)), (pl, .inl (G.2.2.1, 1024, .inl fl_15)), (pe, .inl (G.2.2.1, 4000, .inl fe_16)), (tb, .inl (G.2.1, 12000, .inl tfb)), (mm, .inr (0, [.ref mb, .int s_190])), (mb, .inl (G.2.1, 14006, .inl f_191))]) ?_
    refine pb_aload_n (pc := 158) d_FileMaker_putRecord_158 3 rfl rfl ?_
    refine pb_get (pc := 159) d_FileMaker_putRecord_159 0 0 rfl rfl (by decide) in_FileMaker k_292 rfl ?_
    refine pb_aload_n (pc := 162) d_FileMaker_putRecord_162 4 rfl rfl ?_
    refine pb_getN (pc := 163) d_FileMaker_putRecord_163 3 1 rfl rfl (by decide) in_Shelf k_393 rfl ?_
    refine pb_iload_n (pc := 166) d_FileMaker_putRecord_166 5 rfl rfl ?_
    refine pb_iald (pc := 167) d_FileMaker_putRecord_167 2 rfl (vp_in_iff.mpr (by constructor <;> omega)) ?_
    refine pb_topi (fun i195 ei195 => ?_)
    have ti195 : i195.toInt = gx tfz (i.toInt) := gx_ld ei195 rfl
    refine pb_callV (pc := 168) (I := i_FileMaker_putRecord) (qb := 11) (ci := 0) (nA := 1) (rest := []) (wr := [(h, .inr (6, [.ref mm, .ref mr])), (tn, .inl (G.2.1, 384, .inl tfn)), (tz, .inl (G.2.2.1, 16, .inl tfz)), (sp, .inr (3, [.ref tn, .ref tz, .ref tb, .ref tg, .int c])), (tg, .inl (G.2.2.1, 17, .inl tfg)), (q, .inr (4, [.ref pp, .ref pl, .ref pe, .ref tb, .int i1, .int r_4, .int b_10, .int l_11, .int d_12])), (pp, .inr (0, [.ref pb, .int p_13])), (pb, .inl (G.2.1, 4502, .inl f_14)), (pl, .inl (G.2.2.1, 1024, .inl fl_15)), (pe, .inl (G.2.2.1, 4000, .inl fe_16)), (tb, .inl (G.2.1, 12000, .inl tfb))]) d_FileMaker_putRecord_168 (g_Row_putTwo hl G mm mb 14006 f_191 s_190 i195 (by first | (with_reducible assumption) | omega (splitDisjunctions := false) | assumption | omega | decide) (by first | (with_reducible assumption) | omega (splitDisjunctions := false) | assumption | omega | decide) (by first | (with_reducible assumption) | omega (splitDisjunctions := false) | assumption | omega | decide) fh194) rfl rfl [11, 12] [0, 1, 2, 3, 4, 5, 6, 7, 8, 9, 10] (by decide) rfl rfl rfl (by decide) (by decide) k_551 rfl k_119 k_556 k_549 k_550 ⟨rfl, hy_Row_putTwo⟩ (by decide) rfl rfl (Nat.le_of_ble_eq_true rfl) (by decide) (fun v9 u197 ch196 => ?_)
    obtain ⟨s_198, f_199⟩ := u197
    obtain ⟨ech196, ch196⟩ := ch196
    have ech196 : v9 = none := ech196
    subst ech196
    obtain ⟨fh200, fh201, fh202⟩ : (s_198.toInt = s_190.toInt + 2) ∧ (ap_ f_191 s_190.toInt f_199 s_198.toInt (nk_ i195.toInt 2)) ∧ (sb_Fit f_199) := ch196
    have aK := ap_app h0 aK fh201
    refine pb_eq (pc' := 171) (lo' := [(6, .int 1), (5, .int r_4), (4, .int i1), (0, .ref h), (1, .ref sp), (2, .int i), (3, .ref q)]) (rest' := []) (ws' := [(h, .inr (6, [.ref mm, .ref mr])), (tn, .inl (G.2.1, 384, .inl tfn)), (tz, .inl (G.2.2.1, 16, .inl tfz)), (sp, .inr (3, [.ref tn, .ref tz, .ref tb, .ref tg, .int c])), (tg, .inl (G.2.2.1, 17, .inl tfg)), (q, .inr (4, [.ref pp, .ref pl, .ref pe, .ref tb, .int i1, .int r_4, .int b_10, .int l_11, .int d_12])), (pp, .inr (0, [.ref pb, .int p_13])), (pb, .inl (G.2.1, 4502, .inl f_14)), (pl, .inl (G.2.2.1, 1024, .inl fl_15)), (pe, .inl (G.2.2.1, 4000, .inl fe_16)), (tb, .inl (G.2.1, 12000, .inl tfb)), (mm, .inr (0, [.ref mb, .int s_198])), (mb, .inl (G.2.1, 14006, .inl f_199))]) ?_
    refine pb_aload_n (pc := 171) d_FileMaker_putRecord_171 3 rfl rfl ?_
    refine pb_get (pc := 172) d_FileMaker_putRecord_172 0 0 rfl rfl (by decide) in_FileMaker k_292 rfl ?_
    refine pb_iconst (pc := 175) (v := 0) d_FileMaker_putRecord_175 (by decide) ?_
    refine pb_callV (pc := 176) (I := i_FileMaker_putRecord) (qb := 11) (ci := 0) (nA := 1) (rest := []) (wr := [(h, .inr (6, [.ref mm, .ref mr])), (tn, .inl (G.2.1, 384, .inl tfn)), (tz, .inl (G.2.2.1, 16, .inl tfz)), (sp, .inr (3, [.ref tn, .ref tz, .ref tb, .ref tg, .int c])), (tg, .inl (G.2.2.1, 17, .inl tfg)), (q, .inr (4, [.ref pp, .ref pl, .ref pe, .ref tb, .int i1, .int r_4, .int b_10, .int l_11, .int d_12])), (pp, .inr (0, [.ref pb, .int p_13])), (pb, .inl (G.2.1, 4502, .inl f_14)), (pl, .inl (G.2.2.1, 1024, .inl fl_15)), (pe, .inl (G.2.2.1, 4000, .inl fe_16)), (tb, .inl (G.2.1, 12000, .inl tfb))]) d_FileMaker_putRecord_176 (g_Row_putTwo hl G mm mb 14006 f_199 s_198 0 (by first | (with_reducible assumption) | omega (splitDisjunctions := false) | assumption | omega | decide) (by first | (with_reducible assumption) | omega (splitDisjunctions := false) | assumption | omega | decide) (by first | (with_reducible assumption) | omega (splitDisjunctions := false) | assumption | omega | decide) fh202) rfl rfl [11, 12] [0, 1, 2, 3, 4, 5, 6, 7, 8, 9, 10] (by decide) rfl rfl rfl (by decide) (by decide) k_551 rfl k_119 k_556 k_549 k_550 ⟨rfl, hy_Row_putTwo⟩ (by decide) rfl rfl (Nat.le_of_ble_eq_true rfl) (by decide) (fun v9 u204 ch203 => ?_)
    obtain ⟨s_205, f_206⟩ := u204
    obtain ⟨ech203, ch203⟩ := ch203
    have ech203 : v9 = none := ech203
    subst ech203
    obtain ⟨fh207, fh208, fh209⟩ : (s_205.toInt = s_198.toInt + 2) ∧ (ap_ f_199 s_198.toInt f_206 s_205.toInt (nk_ (0 : Int32).toInt 2)) ∧ (sb_Fit f_206) := ch203
    have aK := ap_app h0 aK fh208
    refine pb_eq (pc' := 179) (lo' := [(6, .int 1), (5, .int r_4), (4, .int i1), (0, .ref h), (1, .ref sp), (2, .int i), (3, .ref q)]) (rest' := []) (ws' := [(h, .inr (6, [.ref mm, .ref mr])), (tn, .inl (G.2.1, 384, .inl tfn)), (tz, .inl (G.2.2.1, 16, .inl tfz)), (sp, .inr (3, [.ref tn, .ref tz, .ref tb, .ref tg, .int c])), (tg, .inl (G.2.2.1, 17, .inl tfg)), (q, .inr (4, [.ref pp, .ref pl, .ref pe, .ref tb, .int i1, .int r_4, .int b_10, .int l_11, .int d_12])), (pp, .inr (0, [.ref pb, .int p_13])), (pb, .inl (G.2.1, 4502, .inl f_14)), (pl, .inl (G.2.2.1, 1024, .inl fl_15)), (pe, .inl (G.2.2.1, 4000, .inl fe_16)), (tb, .inl (G.2.1, 12000, .inl tfb)), (mm, .inr (0, [.ref mb, .int s_205])), (mb, .inl (G.2.1, 14006, .inl f_206))]) ?_
    refine pb_aload_n (pc := 179) d_FileMaker_putRecord_179 3 rfl rfl ?_
    refine pb_get (pc := 180) d_FileMaker_putRecord_180 0 0 rfl rfl (by decide) in_FileMaker k_292 rfl ?_
    refine pb_aload_n (pc := 183) d_FileMaker_putRecord_183 4 rfl rfl ?_
    refine pb_getN (pc := 184) d_FileMaker_putRecord_184 3 0 rfl rfl (by decide) in_Shelf k_390 rfl ?_
    refine pb_bipush (pc := 187) (v := 24) d_FileMaker_putRecord_187 (by decide) ?_
    refine pb_iload_n (pc := 189) d_FileMaker_putRecord_189 5 rfl rfl ?_
    refine pb_imul (pc := 190) d_FileMaker_putRecord_190 ?_
    refine pb_topi (fun i210 ei210 => ?_)
    try have ti210 : i210.toInt = 24 * i.toInt := ti_mul ei210 (by decide) rfl (by omega) (by omega)
    refine pb_aload_n (pc := 191) d_FileMaker_putRecord_191 4 rfl rfl ?_
    refine pb_getN (pc := 192) d_FileMaker_putRecord_192 3 1 rfl rfl (by decide) in_Shelf k_393 rfl ?_
    refine pb_iload_n (pc := 195) d_FileMaker_putRecord_195 5 rfl rfl ?_
    refine pb_iald (pc := 196) d_FileMaker_putRecord_196 2 rfl (vp_in_iff.mpr (by constructor <;> omega)) ?_
    refine pb_topi (fun i211 ei211 => ?_)
    have ti211 : i211.toInt = gx tfz (i.toInt) := gx_ld ei211 rfl
    have eNz : i211.toInt = vZ V i.toInt := by omega
    have eNx : i210.toInt = 24 * i.toInt := by omega
    refine pb_callV (pc := 197) (I := i_FileMaker_putRecord) (qb := 11) (ci := 0) (nA := 3) (rest := []) (wr := [(h, .inr (6, [.ref mm, .ref mr])), (tz, .inl (G.2.2.1, 16, .inl tfz)), (sp, .inr (3, [.ref tn, .ref tz, .ref tb, .ref tg, .int c])), (tg, .inl (G.2.2.1, 17, .inl tfg)), (q, .inr (4, [.ref pp, .ref pl, .ref pe, .ref tb, .int i1, .int r_4, .int b_10, .int l_11, .int d_12])), (pp, .inr (0, [.ref pb, .int p_13])), (pb, .inl (G.2.1, 4502, .inl f_14)), (pl, .inl (G.2.2.1, 1024, .inl fl_15)), (pe, .inl (G.2.2.1, 4000, .inl fe_16)), (tb, .inl (G.2.1, 12000, .inl tfb))]) d_FileMaker_putRecord_197 (g_Row_putBytes hl G mm mb 14006 f_206 s_205 tn 384 tfn i210 i211 (by first | (with_reducible assumption) | omega (splitDisjunctions := false) | assumption | omega | decide) (by first | (with_reducible assumption) | omega (splitDisjunctions := false) | assumption | omega | decide) (by first | (with_reducible assumption) | omega (splitDisjunctions := false) | assumption | omega | decide) (by first | (with_reducible assumption) | omega (splitDisjunctions := false) | assumption | omega | decide) (by first | (with_reducible assumption) | omega (splitDisjunctions := false) | assumption | omega | decide) (by first | (with_reducible assumption) | omega (splitDisjunctions := false) | assumption | omega | decide) (by first | (with_reducible assumption) | omega (splitDisjunctions := false) | assumption | omega | decide) fh209 F_tfn) rfl rfl [11, 12, 1] [0, 2, 3, 4, 5, 6, 7, 8, 9, 10] (by decide) rfl rfl rfl (by decide) (by decide) k_564 rfl k_119 k_561 k_562 k_563 ⟨rfl, hy_Row_putBytes⟩ (by decide) rfl rfl (Nat.le_of_ble_eq_true rfl) (by decide) (fun v9 u213 ch212 => ?_)
    obtain ⟨s_214, f_215⟩ := u213
    obtain ⟨ech212, ch212⟩ := ch212
    have ech212 : v9 = none := ech212
    subst ech212
    obtain ⟨fh216, fh217, fh218, fh219⟩ : (s_214.toInt = s_205.toInt + i211.toInt) ∧ (∀ j : Int, 0 ≤ j → gr f_215 j = if s_205.toInt ≤ j ∧ j < s_205.toInt + i211.toInt then gr tfn (i210.toInt + (j - s_205.toInt)) else gr f_206 j) ∧ (ap_ f_206 s_205.toInt f_215 s_214.toInt (bl_ tfn i210.toInt i211.toInt)) ∧ (sb_Fit f_215) := ch212
    have aK := ap_app h0 aK fh218
    refine pb_eq (pc' := 200) (lo' := [(6, .int 1), (5, .int r_4), (4, .int i1), (0, .ref h), (1, .ref sp), (2, .int i), (3, .ref q)]) (rest' := []) (ws' := [(h, .inr (6, [.ref mm, .ref mr])), (tz, .inl (G.2.2.1, 16, .inl tfz)), (sp, .inr (3, [.ref tn, .ref tz, .ref tb, .ref tg, .int c])), (tg, .inl (G.2.2.1, 17, .inl tfg)), (q, .inr (4, [.ref pp, .ref pl, .ref pe, .ref tb, .int i1, .int r_4, .int b_10, .int l_11, .int d_12])), (pp, .inr (0, [.ref pb, .int p_13])), (pb, .inl (G.2.1, 4502, .inl f_14)), (pl, .inl (G.2.2.1, 1024, .inl fl_15)), (pe, .inl (G.2.2.1, 4000, .inl fe_16)), (tb, .inl (G.2.1, 12000, .inl tfb)), (mm, .inr (0, [.ref mb, .int s_214])), (mb, .inl (G.2.1, 14006, .inl f_215)), (tn, .inl (G.2.1, 384, .inl tfn))]) ?_
    refine pb_iload (pc := 200) d_FileMaker_putRecord_200 0 rfl ?_
    refine pb_if_eq (pc := 202) (tgt := 230) d_FileMaker_putRecord_202 (by decide) (fun h9 => absurd h9 (by decide)) (fun _ => ?_)
    refine pb_aload_n (pc := 205) d_FileMaker_putRecord_205 3 rfl rfl ?_
    refine pb_get (pc := 206) d_FileMaker_putRecord_206 0 0 rfl rfl (by decide) in_FileMaker k_292 rfl ?_
    refine pb_aload_n (pc := 209) d_FileMaker_putRecord_209 6 rfl rfl ?_
    refine pb_getN (pc := 210) d_FileMaker_putRecord_210 4 0 rfl rfl (by decide) in_Presser k_182 rfl ?_
    refine pb_getN (pc := 213) d_FileMaker_putRecord_213 5 0 rfl rfl (by decide) in_Row k_158 rfl ?_
    refine pb_iconst (pc := 216) (v := 0) d_FileMaker_putRecord_216 (by decide) ?_
    refine pb_aload_n (pc := 217) d_FileMaker_putRecord_217 6 rfl rfl ?_
    refine pb_getN (pc := 218) d_FileMaker_putRecord_218 4 0 rfl rfl (by decide) in_Presser k_182 rfl ?_
    refine pb_getN (pc := 221) d_FileMaker_putRecord_221 5 1 rfl rfl (by decide) in_Row k_163 rfl ?_
    refine pb_callV (pc := 224) (I := i_FileMaker_putRecord) (qb := 10) (ci := 0) (nA := 3) (rest := []) (wr := [(h, .inr (6, [.ref mm, .ref mr])), (tz, .inl (G.2.2.1, 16, .inl tfz)), (sp, .inr (3, [.ref tn, .ref tz, .ref tb, .ref tg, .int c])), (tg, .inl (G.2.2.1, 17, .inl tfg)), (q, .inr (4, [.ref pp, .ref pl, .ref pe, .ref tb, .int i1, .int r_4, .int b_10, .int l_11, .int d_12])), (pp, .inr (0, [.ref pb, .int p_13])), (pl, .inl (G.2.2.1, 1024, .inl fl_15)), (pe, .inl (G.2.2.1, 4000, .inl fe_16)), (tb, .inl (G.2.1, 12000, .inl tfb)), (tn, .inl (G.2.1, 384, .inl tfn))]) d_FileMaker_putRecord_224 (g_Row_putBytes hl G mm mb 14006 f_215 s_214 pb 4502 f_14 0 p_13 (by first | (with_reducible assumption) | omega (splitDisjunctions := false) | assumption | omega | decide) (by first | (with_reducible assumption) | omega (splitDisjunctions := false) | assumption | omega | decide) (by first | (with_reducible assumption) | (exact omg_407dca8c26 h1 p5 fh5 tw22 fh130 fh137 fh144 fh152 fh159 fh166 fh177 fh185 fh192 fh200 fh207 ti211 fh216) | assumption | omega | decide) (by first | (with_reducible assumption) | omega (splitDisjunctions := false) | assumption | omega | decide) (by first | (with_reducible assumption) | omega (splitDisjunctions := false) | assumption | omega | decide) (by first | (with_reducible assumption) | omega (splitDisjunctions := false) | assumption | omega | decide) (by first | (with_reducible assumption) | omega (splitDisjunctions := false) | assumption | omega | decide) fh219 fh21) rfl rfl [10, 11, 6] [0, 1, 2, 3, 4, 5, 7, 8, 9, 12] (by decide) rfl rfl rfl (by decide) (by decide) k_564 rfl k_119 k_561 k_562 k_563 ⟨rfl, hy_Row_putBytes⟩ (by decide) rfl rfl (Nat.le_of_ble_eq_true rfl) (by decide) (fun v9 u222 ch221 => ?_)
    obtain ⟨s_223, f_224⟩ := u222
    obtain ⟨ech221, ch221⟩ := ch221
    have ech221 : v9 = none := ech221
    subst ech221
    obtain ⟨fh225, fh226, fh227, fh228⟩ : (s_223.toInt = s_214.toInt + p_13.toInt) ∧ (∀ j : Int, 0 ≤ j → gr f_224 j = if s_214.toInt ≤ j ∧ j < s_214.toInt + p_13.toInt then gr f_14 ((0 : Int32).toInt + (j - s_214.toInt)) else gr f_215 j) ∧ (ap_ f_215 s_214.toInt f_224 s_223.toInt (bl_ f_14 (0 : Int32).toInt p_13.toInt)) ∧ (sb_Fit f_224) := ch221
    have aK := ap_app h0 aK fh227
    refine pb_eq (pc' := 227) (lo' := [(6, .int 1), (5, .int r_4), (4, .int i1), (0, .ref h), (1, .ref sp), (2, .int i), (3, .ref q)]) (rest' := []) (ws' := [(h, .inr (6, [.ref mm, .ref mr])), (tz, .inl (G.2.2.1, 16, .inl tfz)), (sp, .inr (3, [.ref tn, .ref tz, .ref tb, .ref tg, .int c])), (tg, .inl (G.2.2.1, 17, .inl tfg)), (q, .inr (4, [.ref pp, .ref pl, .ref pe, .ref tb, .int i1, .int r_4, .int b_10, .int l_11, .int d_12])), (pp, .inr (0, [.ref pb, .int p_13])), (pl, .inl (G.2.2.1, 1024, .inl fl_15)), (pe, .inl (G.2.2.1, 4000, .inl fe_16)), (tb, .inl (G.2.1, 12000, .inl tfb)), (tn, .inl (G.2.1, 384, .inl tfn)), (mm, .inr (0, [.ref mb, .int s_223])), (mb, .inl (G.2.1, 14006, .inl f_224)), (pb, .inl (G.2.1, 4502, .inl f_14))]) ?_
    refine pb_goto (pc := 227) (tgt := 245) d_FileMaker_putRecord_227 (by decide) ?_
    exact pb_vret (pc := 245) hQ d_FileMaker_putRecord_245 rfl (s_223, f_224, tb, i1, r_4, b_10, l_11, d_12, p_13, f_14, fl_15, fe_16) ⟨rfl, (by (try dsimp only); first | done | (with_reducible assumption) | (exact omg_9134f4bced p5 ez9 eL9 fh130 fh137 fh144 fh152 fh159 fh166 fh177 fh185 fh192 fh200 fh207 ti211 fh216 fh225) | assumption | omega | decide), (by (try dsimp only); first | done | (with_reducible assumption) | (exact omg_06778f34a9 p5 fh5 tw22 fh130 fh137 fh144 fh152 fh159 fh166 fh177 fh185 fh192 fh200 fh207 ti211 fh216 fh225) | assumption | omega | decide), (show hid_ (∃ P : List Int32, PR_ (sD_ V i.toInt) (vS V i.toInt) P ∧ ap_ f s.toInt f_224 s_223.toInt (rc_ V i.toInt P)) from (hid_i ⟨P9, prF, ap_e aK (by first | exact rc_E (by first | decide | omega) (by first | decide | omega) (by first | decide | omega) (mt_y eL9 (by omega) (by first | decide | omega)) (by first | decide | omega) (by first | decide | omega) suF (hr_y eL9 (by omega) (by omega)) (by omega) (by omega) (by first | decide | omega) (NL_bl eNz (fun k h0 h1 => (by rw [eNx]; exact Ri.2.2.1 k h0 h1))) (bd_y eL9 (by omega) (pE9 _ (by omega))) | exact rc_E (by first | decide | omega) (by first | decide | omega) (by first | decide | omega) (mt_n eL9 (by omega) (by first | decide | omega)) (by first | decide | omega) (by first | decide | omega) suF (hr_n eL9 (by omega) (by omega)) (by omega) (by omega) (by first | decide | omega) (NL_bl eNz (fun k h0 h1 => (by rw [eNx]; exact Ri.2.2.1 k h0 h1))) (bd_n eL9 (by omega) (dE9 _ _ (by omega) (by omega))))⟩)), fh228, fh21⟩ [0, 10, 11, 2, 9, 1, 8, 3, 4, 5, 12, 6, 7] (by decide) rfl rfl (by decide) (by decide)

theorem d_FileMaker_make_0 : decode prog_4_method_2_code 0 = .ok (.aload_n 0, 1) := by decide +kernel
theorem d_FileMaker_make_1 : decode prog_4_method_2_code 1 = .ok (.getfield 14, 3) := by decide +kernel
theorem d_FileMaker_make_4 : decode prog_4_method_2_code 4 = .ok (.iconst 0, 1) := by decide +kernel
theorem d_FileMaker_make_5 : decode prog_4_method_2_code 5 = .ok (.putfield 24, 3) := by decide +kernel
theorem d_FileMaker_make_8 : decode prog_4_method_2_code 8 = .ok (.iconst 0, 1) := by decide +kernel
theorem d_FileMaker_make_9 : decode prog_4_method_2_code 9 = .ok (.istore_n 3, 1) := by decide +kernel
theorem d_FileMaker_make_10 : decode prog_4_method_2_code 10 = .ok (.iload_n 3, 1) := by decide +kernel
theorem d_FileMaker_make_11 : decode prog_4_method_2_code 11 = .ok (.aload_n 1, 1) := by decide +kernel
theorem d_FileMaker_make_12 : decode prog_4_method_2_code 12 = .ok (.getfield 28, 3) := by decide +kernel
theorem k_404 : (Jvm.Cond.fieldLinkNest "PackageBook$FileMaker" (28 : Nat) "PackageBook$Shelf" "count" "I" "PackageBook") ∈ uN := uN_of 404 (by decide +kernel) (by decide +kernel)
theorem d_FileMaker_make_15 : decode prog_4_method_2_code 15 = .ok (.if_icmp .ge 29, 3) := by decide +kernel
theorem d_FileMaker_make_44 : decode prog_4_method_2_code 44 = .ok (.aload_n 0, 1) := by decide +kernel
theorem d_FileMaker_make_45 : decode prog_4_method_2_code 45 = .ok (.getfield 14, 3) := by decide +kernel
theorem d_FileMaker_make_48 : decode prog_4_method_2_code 48 = .ok (.getfield 24, 3) := by decide +kernel
theorem d_FileMaker_make_51 : decode prog_4_method_2_code 51 = .ok (.istore_n 3, 1) := by decide +kernel
theorem d_FileMaker_make_52 : decode prog_4_method_2_code 52 = .ok (.iconst 0, 1) := by decide +kernel
theorem d_FileMaker_make_53 : decode prog_4_method_2_code 53 = .ok (.istore 4, 2) := by decide +kernel
theorem d_FileMaker_make_55 : decode prog_4_method_2_code 55 = .ok (.iload 4, 2) := by decide +kernel
theorem d_FileMaker_make_57 : decode prog_4_method_2_code 57 = .ok (.aload_n 1, 1) := by decide +kernel
theorem d_FileMaker_make_58 : decode prog_4_method_2_code 58 = .ok (.getfield 28, 3) := by decide +kernel
theorem d_FileMaker_make_61 : decode prog_4_method_2_code 61 = .ok (.if_icmp .ge 16, 3) := by decide +kernel
theorem d_FileMaker_make_77 : decode prog_4_method_2_code 77 = .ok (.aload_n 0, 1) := by decide +kernel
theorem d_FileMaker_make_78 : decode prog_4_method_2_code 78 = .ok (.aload_n 1, 1) := by decide +kernel
theorem d_FileMaker_make_79 : decode prog_4_method_2_code 79 = .ok (.getfield 28, 3) := by decide +kernel
theorem d_FileMaker_make_82 : decode prog_4_method_2_code 82 = .ok (.iload_n 3, 1) := by decide +kernel
theorem d_FileMaker_make_83 : decode prog_4_method_2_code 83 = .ok (.invokevirtual 41, 3) := by decide +kernel
theorem k_571 : (Jvm.Cond.methodLink "PackageBook$FileMaker" (41 : Nat) ({ cls := "PackageBook$FileMaker", name := "putEnd", desc := "(II)V" } : Jvm.MethodName)) ∈ uW := uW_of 571 (by decide +kernel) (by decide +kernel)
theorem k_123 : (Jvm.Cond.initialized "PackageBook$FileMaker") ∈ uW := uW_of 123 (by decide +kernel) (by decide +kernel)
theorem k_574 : (Jvm.Cond.code ({ cls := "PackageBook$FileMaker", name := "putEnd", desc := "(II)V" } : Jvm.MethodName) prog_4_method_5_code (4 : Nat) (Option.none : Option Jvm.ClassFile.FieldType)) ∈ uW := uW_of 574 (by decide +kernel) (by decide +kernel)
theorem k_573 : (Jvm.Cond.instanceMethod ({ cls := "PackageBook$FileMaker", name := "putEnd", desc := "(II)V" } : Jvm.MethodName)) ∈ uW := uW_of 573 (by decide +kernel) (by decide +kernel)
theorem k_11 : Cond.selects "PackageBook$FileMaker" ⟨"PackageBook$FileMaker", "putEnd", "(II)V"⟩ ⟨"PackageBook$FileMaker", "putEnd", "(II)V"⟩ ∈ uW := uW_of 11 (by decide +kernel) (by decide +kernel)
theorem hy_FileMaker_putEnd : (y_FileMaker_putEnd).cls ≠ "java/lang/invoke/MethodHandle" ∧ (y_FileMaker_putEnd).cls ≠ "java/lang/invoke/VarHandle" ∧ (parseMethodDescriptor (y_FileMaker_putEnd).desc).map (fun d => d.parameters.length) = some 2 := by decide +kernel
theorem d_FileMaker_make_86 : decode prog_4_method_2_code 86 = .ok (.return_, 1) := by decide +kernel
theorem d_FileMaker_make_64 : decode prog_4_method_2_code 64 = .ok (.aload_n 0, 1) := by decide +kernel
theorem d_FileMaker_make_65 : decode prog_4_method_2_code 65 = .ok (.aload_n 1, 1) := by decide +kernel
theorem d_FileMaker_make_66 : decode prog_4_method_2_code 66 = .ok (.iload 4, 2) := by decide +kernel
theorem d_FileMaker_make_68 : decode prog_4_method_2_code 68 = .ok (.invokevirtual 37, 3) := by decide +kernel
theorem k_566 : (Jvm.Cond.methodLink "PackageBook$FileMaker" (37 : Nat) ({ cls := "PackageBook$FileMaker", name := "putEntry", desc := "(LPackageBook$Shelf;I)V" } : Jvm.MethodName)) ∈ uW := uW_of 566 (by decide +kernel) (by decide +kernel)
theorem k_569 : (Jvm.Cond.code ({ cls := "PackageBook$FileMaker", name := "putEntry", desc := "(LPackageBook$Shelf;I)V" } : Jvm.MethodName) prog_4_method_4_code (3 : Nat) (Option.none : Option Jvm.ClassFile.FieldType)) ∈ uW := uW_of 569 (by decide +kernel) (by decide +kernel)
theorem k_568 : (Jvm.Cond.instanceMethod ({ cls := "PackageBook$FileMaker", name := "putEntry", desc := "(LPackageBook$Shelf;I)V" } : Jvm.MethodName)) ∈ uW := uW_of 568 (by decide +kernel) (by decide +kernel)
theorem k_10 : Cond.selects "PackageBook$FileMaker" ⟨"PackageBook$FileMaker", "putEntry", "(LPackageBook$Shelf;I)V"⟩ ⟨"PackageBook$FileMaker", "putEntry", "(LPackageBook$Shelf;I)V"⟩ ∈ uW := uW_of 10 (by decide +kernel) (by decide +kernel)
theorem hy_FileMaker_putEntry : (y_FileMaker_putEntry).cls ≠ "java/lang/invoke/MethodHandle" ∧ (y_FileMaker_putEntry).cls ≠ "java/lang/invoke/VarHandle" ∧ (parseMethodDescriptor (y_FileMaker_putEntry).desc).map (fun d => d.parameters.length) = some 2 := by decide +kernel
theorem d_FileMaker_make_71 : decode prog_4_method_2_code 71 = .ok (.iinc 4 1, 3) := by decide +kernel
theorem d_FileMaker_make_74 : decode prog_4_method_2_code 74 = .ok (.goto (-19), 3) := by decide +kernel
theorem d_FileMaker_make_18 : decode prog_4_method_2_code 18 = .ok (.aload_n 0, 1) := by decide +kernel
theorem d_FileMaker_make_19 : decode prog_4_method_2_code 19 = .ok (.getfield 20, 3) := by decide +kernel
theorem d_FileMaker_make_22 : decode prog_4_method_2_code 22 = .ok (.iload_n 3, 1) := by decide +kernel
theorem d_FileMaker_make_23 : decode prog_4_method_2_code 23 = .ok (.aload_n 0, 1) := by decide +kernel
theorem d_FileMaker_make_24 : decode prog_4_method_2_code 24 = .ok (.getfield 14, 3) := by decide +kernel
theorem d_FileMaker_make_27 : decode prog_4_method_2_code 27 = .ok (.getfield 24, 3) := by decide +kernel
theorem d_FileMaker_make_30 : decode prog_4_method_2_code 30 = .ok (.iastore, 1) := by decide +kernel
theorem d_FileMaker_make_31 : decode prog_4_method_2_code 31 = .ok (.aload_n 0, 1) := by decide +kernel
theorem d_FileMaker_make_32 : decode prog_4_method_2_code 32 = .ok (.aload_n 1, 1) := by decide +kernel
theorem d_FileMaker_make_33 : decode prog_4_method_2_code 33 = .ok (.iload_n 3, 1) := by decide +kernel
theorem d_FileMaker_make_34 : decode prog_4_method_2_code 34 = .ok (.aload_n 2, 1) := by decide +kernel
theorem d_FileMaker_make_35 : decode prog_4_method_2_code 35 = .ok (.invokevirtual 33, 3) := by decide +kernel
theorem k_493 : (Jvm.Cond.methodLink "PackageBook$FileMaker" (33 : Nat) ({ cls := "PackageBook$FileMaker", name := "putRecord", desc := "(LPackageBook$Shelf;ILPackageBook$Presser;)V" } : Jvm.MethodName)) ∈ uW := uW_of 493 (by decide +kernel) (by decide +kernel)
theorem k_496 : (Jvm.Cond.code ({ cls := "PackageBook$FileMaker", name := "putRecord", desc := "(LPackageBook$Shelf;ILPackageBook$Presser;)V" } : Jvm.MethodName) prog_4_method_3_code (7 : Nat) (Option.none : Option Jvm.ClassFile.FieldType)) ∈ uW := uW_of 496 (by decide +kernel) (by decide +kernel)
theorem k_495 : (Jvm.Cond.instanceMethod ({ cls := "PackageBook$FileMaker", name := "putRecord", desc := "(LPackageBook$Shelf;ILPackageBook$Presser;)V" } : Jvm.MethodName)) ∈ uW := uW_of 495 (by decide +kernel) (by decide +kernel)
theorem k_1 : Cond.selects "PackageBook$FileMaker" ⟨"PackageBook$FileMaker", "putRecord", "(LPackageBook$Shelf;ILPackageBook$Presser;)V"⟩ ⟨"PackageBook$FileMaker", "putRecord", "(LPackageBook$Shelf;ILPackageBook$Presser;)V"⟩ ∈ uW := uW_of 1 (by decide +kernel) (by decide +kernel)
theorem hy_FileMaker_putRecord : (y_FileMaker_putRecord).cls ≠ "java/lang/invoke/MethodHandle" ∧ (y_FileMaker_putRecord).cls ≠ "java/lang/invoke/VarHandle" ∧ (parseMethodDescriptor (y_FileMaker_putRecord).desc).map (fun d => d.parameters.length) = some 3 := by decide +kernel
theorem d_FileMaker_make_38 : decode prog_4_method_2_code 38 = .ok (.iinc 3 1, 3) := by decide +kernel
theorem d_FileMaker_make_41 : decode prog_4_method_2_code 41 = .ok (.goto (-31), 3) := by decide +kernel
abbrev y_FileMaker_make : MethodName := ⟨"PackageBook$FileMaker", "make", "(LPackageBook$Shelf;LPackageBook$Presser;)V"⟩
abbrev i_FileMaker_make : pb_I := (y_FileMaker_make, prog_4_method_2_code, 5, (Option.none : Option Jvm.ClassFile.FieldType), [], { frames := 5, cells := 0, slots := 0, locals := 117 })
set_option maxRecDepth 100000 in
set_option maxHeartbeats 4000000 in
theorem g_Mk_make {l : Launch} (hl : l.stackTraces = false) (G : pb_G) (h : Nat) (mm : Nat) (mr : Nat) (mb : Nat) (f : Nat → Int32) (s : Int32) (fr : Nat → Int32) (sp : Nat) (tn : Nat) (tz : Nat) (tb : Nat) (tg : Nat) (c : Int32) (tfn : Nat → Int32) (tfz : Nat → Int32) (tfb : Nat → Int32) (tfg : Nat → Int32) (q : Nat) (pp : Nat) (pl : Nat) (pe : Nat) (pr : Nat) (pb : Nat) (bg : Int32) (sz : Int32) (bt : Int32) (ln : Int32) (ds : Int32) (ps : Int32) (pf : Nat → Int32) (fl : Nat → Int32) (fe : Nat → Int32) (V : VW_) (I : sh_I c.toInt tfz tfg) (R : rC_ c.toInt tfn tfz tfb tfg V) (F_f : sb_Fit f) (F_tfn : sb_Fit tfn) (F_tfb : sb_Fit tfb) (F_pf : sb_Fit pf) : Cn l G i_FileMaker_make [.ref h, .ref sp, .ref q] [(h, .inr (6, [.ref mm, .ref mr])), (mm, .inr (0, [.ref mb, .int s])), (mb, .inl (G.2.1, 14006, .inl f)), (mr, .inl (G.2.2.1, 16, .inl fr)), (sp, .inr (3, [.ref tn, .ref tz, .ref tb, .ref tg, .int c])), (tn, .inl (G.2.1, 384, .inl tfn)), (tz, .inl (G.2.2.1, 16, .inl tfz)), (tb, .inl (G.2.1, 12000, .inl tfb)), (tg, .inl (G.2.2.1, 17, .inl tfg)), (q, .inr (4, [.ref pp, .ref pl, .ref pe, .ref pr, .int bg, .int sz, .int bt, .int ln, .int ds])), (pp, .inr (0, [.ref pb, .int ps])), (pb, .inl (G.2.1, 4502, .inl pf)), (pl, .inl (G.2.2.1, 1024, .inl fl)), (pe, .inl (G.2.2.1, 4000, .inl fe))] (S := Int32 × (Nat → Int32) × (Nat → Int32) × Nat × Int32 × Int32 × Int32 × Int32 × Int32 × Int32 × (Nat → Int32) × (Nat → Int32) × (Nat → Int32)) (fun rv_ u => rv_ = none ∧ (0 ≤ u.1.toInt) ∧ (u.1.toInt ≤ 14006) ∧ (hid_ (∃ K : List Int32, FI_ V K ∧ fw_ u.2.1 u.1.toInt K)) ∧ (sb_Fit u.2.1) ∧ (sb_Fit u.2.2.2.2.2.2.2.2.2.2.1)) (fun u => [(h, .inr (6, [.ref mm, .ref mr])), (mm, .inr (0, [.ref mb, .int u.1])), (mb, .inl (G.2.1, 14006, .inl u.2.1)), (mr, .inl (G.2.2.1, 16, .inl u.2.2.1)), (sp, .inr (3, [.ref tn, .ref tz, .ref tb, .ref tg, .int c])), (tn, .inl (G.2.1, 384, .inl tfn)), (tz, .inl (G.2.2.1, 16, .inl tfz)), (tb, .inl (G.2.1, 12000, .inl tfb)), (tg, .inl (G.2.2.1, 17, .inl tfg)), (q, .inr (4, [.ref pp, .ref pl, .ref pe, .ref u.2.2.2.1, .int u.2.2.2.2.1, .int u.2.2.2.2.2.1, .int u.2.2.2.2.2.2.1, .int u.2.2.2.2.2.2.2.1, .int u.2.2.2.2.2.2.2.2.1])), (pp, .inr (0, [.ref pb, .int u.2.2.2.2.2.2.2.2.2.1])), (pb, .inl (G.2.1, 4502, .inl u.2.2.2.2.2.2.2.2.2.2.1)), (pl, .inl (G.2.2.1, 1024, .inl u.2.2.2.2.2.2.2.2.2.2.2.1)), (pe, .inl (G.2.2.1, 4000, .inl u.2.2.2.2.2.2.2.2.2.2.2.2))]) := by
  refine Cn.of hl (by decide +kernel) rfl (Nat.le_of_ble_eq_true rfl) (fun M hQ => ?_)
  refine pb_eq (pc' := 0) (lo' := [(0, .ref h), (1, .ref sp), (2, .ref q)]) (rest' := []) (ws' := [(h, .inr (6, [.ref mm, .ref mr])), (mm, .inr (0, [.ref mb, .int s])), (mb, .inl (G.2.1, 14006, .inl f)), (mr, .inl (G.2.2.1, 16, .inl fr)), (sp, .inr (3, [.ref tn, .ref tz, .ref tb, .ref tg, .int c])), (tn, .inl (G.2.1, 384, .inl tfn)), (tz, .inl (G.2.2.1, 16, .inl tfz)), (tb, .inl (G.2.1, 12000, .inl tfb)), (tg, .inl (G.2.2.1, 17, .inl tfg)), (q, .inr (4, [.ref pp, .ref pl, .ref pe, .ref pr, .int bg, .int sz, .int bt, .int ln, .int ds])), (pp, .inr (0, [.ref pb, .int ps])), (pb, .inl (G.2.1, 4502, .inl pf)), (pl, .inl (G.2.2.1, 1024, .inl fl)), (pe, .inl (G.2.2.1, 4000, .inl fe))]) ?_
  have zl0 : (0 : Int32).toInt = 0 := by decide
  have zl1 : (1 : Int32).toInt = 1 := by decide
  have p1 := I.1
  have p2 := I.2.1
  have p3 := I.2.2.1
  have p4 := I.2.2.2.1
  refine pb_aload_n (pc := 0) d_FileMaker_make_0 0 rfl rfl ?_
  refine pb_get (pc := 1) d_FileMaker_make_1 0 0 rfl rfl (by decide) in_FileMaker k_292 rfl ?_
  refine pb_iconst (pc := 4) (v := 0) d_FileMaker_make_4 (by decide) ?_
  refine pb_putN (pc := 5) (ty := .int) (ws' := [(h, .inr (6, [.ref mm, .ref mr])), (mm, .inr (0, [.ref mb, .int 0])), (mb, .inl (G.2.1, 14006, .inl f)), (mr, .inl (G.2.2.1, 16, .inl fr)), (sp, .inr (3, [.ref tn, .ref tz, .ref tb, .ref tg, .int c])), (tn, .inl (G.2.1, 384, .inl tfn)), (tz, .inl (G.2.2.1, 16, .inl tfz)), (tb, .inl (G.2.1, 12000, .inl tfb)), (tg, .inl (G.2.2.1, 17, .inl tfg)), (q, .inr (4, [.ref pp, .ref pl, .ref pe, .ref pr, .int bg, .int sz, .int bt, .int ln, .int ds])), (pp, .inr (0, [.ref pb, .int ps])), (pb, .inl (G.2.1, 4502, .inl pf)), (pl, .inl (G.2.2.1, 1024, .inl fl)), (pe, .inl (G.2.2.1, 4000, .inl fe))]) d_FileMaker_make_5 1 1 t_Row t_Row_ok n_Row rfl rfl (by decide) in_Row k_163 rfl (by decide +kernel) rfl rfl (Nat.le_of_ble_eq_true rfl) rfl ?_
  refine pb_iconst (pc := 8) (v := 0) d_FileMaker_make_8 (by decide) ?_
  refine pb_istore_n (pc := 9) (lo' := [(3, .int 0), (0, .ref h), (1, .ref sp), (2, .ref q)]) d_FileMaker_make_9 rfl (by decide) rfl ?_
  have hL10_1 : ∀ (N9 : Nat) (i : Int32) (s_ : Int32) (f_ : Nat → Int32) (fr_ : Nat → Int32) (pr_ : Nat) (bg_ : Int32) (sz_ : Int32) (bt_ : Int32) (ln_ : Int32) (ds_ : Int32) (ps_ : Int32) (pf_ : Nat → Int32) (fl_ : Nat → Int32) (fe_ : Nat → Int32), (sb_Fit f_) → (sb_Fit pf_) → (0 ≤ i.toInt) → (i.toInt ≤ c.toInt) → (0 ≤ s_.toInt) → (s_.toInt ≤ gx tfg i.toInt + 54 * i.toInt) → (∀ j : Int, 0 ≤ j → j < i.toInt → 0 ≤ gx fr_ j ∧ gx fr_ j ≤ 13000) → (hid_ (∃ F D : List Int32, fL_ V i.toInt.toNat F D ∧ fw_ f_ s_.toInt F)) → (∀ j : Int, 0 ≤ j → j < i.toInt → hid_ (∃ F D : List Int32, fL_ V j.toNat F D ∧ gx fr_ j = (F.length : Int))) → ((c.toInt - i.toInt).toNat) < N9 → pb_P l G M i_FileMaker_make 10 [(3, .int i), (0, .ref h), (1, .ref sp), (2, .ref q)] [] [(h, .inr (6, [.ref mm, .ref mr])), (mm, .inr (0, [.ref mb, .int s_])), (mb, .inl (G.2.1, 14006, .inl f_)), (mr, .inl (G.2.2.1, 16, .inl fr_)), (sp, .inr (3, [.ref tn, .ref tz, .ref tb, .ref tg, .int c])), (tn, .inl (G.2.1, 384, .inl tfn)), (tz, .inl (G.2.2.1, 16, .inl tfz)), (tb, .inl (G.2.1, 12000, .inl tfb)), (tg, .inl (G.2.2.1, 17, .inl tfg)), (q, .inr (4, [.ref pp, .ref pl, .ref pe, .ref pr_, .int bg_, .int sz_, .int bt_, .int ln_, .int ds_])), (pp, .inr (0, [.ref pb, .int ps_])), (pb, .inl (G.2.1, 4502, .inl pf_)), (pl, .inl (G.2.2.1, 1024, .inl fl_)), (pe, .inl (G.2.2.1, 4000, .inl fe_))] 0 0 := by
    intro N9
    induction N9 with
    | zero => intro i s_ f_ fr_ pr_ bg_ sz_ bt_ ln_ ds_ ps_ pf_ fl_ fe_ F_f_ F_pf_ hi hi2 hs0 hs1 hr hF hR5 hm9; exact absurd hm9 (Nat.not_lt_zero _)
    | succ N9 ih10 =>
      intro i s_ f_ fr_ pr_ bg_ sz_ bt_ ln_ ds_ ps_ pf_ fl_ fe_ F_f_ F_pf_ hi hi2 hs0 hs1 hr hF hR5 hm9
      refine pb_iload_n (pc := 10) d_FileMaker_make_10 0 rfl rfl ?_
      refine pb_aload_n (pc := 11) d_FileMaker_make_11 2 rfl rfl ?_
      refine pb_getN (pc := 12) d_FileMaker_make_12 4 4 rfl rfl (by decide) in_Shelf k_404 rfl ?_
      refine pb_icmp_ge (pc := 15) (tgt := 44) d_FileMaker_make_15 (by decide) (fun w2 => ?_) (fun w2 => ?_)
      · have tw2 : c.toInt ≤ i.toInt := (ti_le rfl rfl).mp w2
        have ic : i.toInt = c.toInt := by omega
        have p8 : gx tfg i.toInt ≤ 12000 := by rw [ic]; exact p4
        obtain ⟨F9, D9, flF, fwF⟩ := hid_o hF
        rw [ic] at flF hR5
        refine pb_aload_n (pc := 44) d_FileMaker_make_44 1 rfl rfl ?_
        refine pb_get (pc := 45) d_FileMaker_make_45 0 0 rfl rfl (by decide) in_FileMaker k_292 rfl ?_
        refine pb_getN (pc := 48) d_FileMaker_make_48 1 1 rfl rfl (by decide) in_Row k_163 rfl ?_
        refine pb_istore_n (pc := 51) (lo' := [(3, .int s_), (0, .ref h), (1, .ref sp), (2, .ref q)]) d_FileMaker_make_51 rfl (by decide) rfl ?_
        refine pb_iconst (pc := 52) (v := 0) d_FileMaker_make_52 (by decide) ?_
        refine pb_istore (pc := 53) (lo' := [(4, .int 0), (3, .int s_), (0, .ref h), (1, .ref sp), (2, .ref q)]) d_FileMaker_make_53 (by decide) rfl ?_
        have hL55_3 : ∀ (N9 : Nat) (i4 : Int32) (d4 : Int32) (s4 : Int32) (f4 : Nat → Int32), (sb_Fit f4) → (0 ≤ i4.toInt) → (i4.toInt ≤ c.toInt) → (0 ≤ s4.toInt) → (s4.toInt ≤ 12864 + 70 * i4.toInt) → (d4.toInt = (F9.length : Int)) → (hid_ (∃ D : List Int32, (∃ F : List Int32, fL_ V i4.toInt.toNat F D) ∧ fw_ f4 s4.toInt (F9 ++ D))) → ((c.toInt - i4.toInt).toNat) < N9 → pb_P l G M i_FileMaker_make 55 [(4, .int i4), (3, .int d4), (0, .ref h), (1, .ref sp), (2, .ref q)] [] [(h, .inr (6, [.ref mm, .ref mr])), (mm, .inr (0, [.ref mb, .int s4])), (mb, .inl (G.2.1, 14006, .inl f4)), (mr, .inl (G.2.2.1, 16, .inl fr_)), (sp, .inr (3, [.ref tn, .ref tz, .ref tb, .ref tg, .int c])), (tn, .inl (G.2.1, 384, .inl tfn)), (tz, .inl (G.2.2.1, 16, .inl tfz)), (tb, .inl (G.2.1, 12000, .inl tfb)), (tg, .inl (G.2.2.1, 17, .inl tfg)), (q, .inr (4, [.ref pp, .ref pl, .ref pe, .ref pr_, .int bg_, .int sz_, .int bt_, .int ln_, .int ds_])), (pp, .inr (0, [.ref pb, .int ps_])), (pb, .inl (G.2.1, 4502, .inl pf_)), (pl, .inl (G.2.2.1, 1024, .inl fl_)), (pe, .inl (G.2.2.1, 4000, .inl fe_))] 0 0 := by
          intro N9
          induction N9 with
          | zero => intro i4 d4 s4 f4 F_f4 hi4 hi5 hs4 hs5 hd4 hF4 hm9; exact absurd hm9 (Nat.not_lt_zero _)
          | succ N9 ih55 =>
            intro i4 d4 s4 f4 F_f4 hi4 hi5 hs4 hs5 hd4 hF4 hm9
            refine pb_iload (pc := 55) d_FileMaker_make_55 0 rfl ?_
            refine pb_aload_n (pc := 57) d_FileMaker_make_57 3 rfl rfl ?_
            refine pb_getN (pc := 58) d_FileMaker_make_58 4 4 rfl rfl (by decide) in_Shelf k_404 rfl ?_
            refine pb_icmp_ge (pc := 61) (tgt := 77) d_FileMaker_make_61 (by decide) (fun w4 => ?_) (fun w4 => ?_)
            · have tw4 : c.toInt ≤ i4.toInt := (ti_le rfl rfl).mp w4
              obtain ⟨D8, ⟨F8, flE⟩, fwE⟩ := hid_o hF4
              rw [show i4.toInt.toNat = c.toInt.toNat by (exact omg_52b1024fe2 hi5 tw4)] at flE
              obtain ⟨e1_, e2_⟩ := fL_u _ flE flF
              subst e1_
              have l9 := fwE.1
              rw [List.length_append] at l9
              refine pb_aload_n (pc := 77) d_FileMaker_make_77 2 rfl rfl ?_
              refine pb_aload_n (pc := 78) d_FileMaker_make_78 3 rfl rfl ?_
              refine pb_getN (pc := 79) d_FileMaker_make_79 4 4 rfl rfl (by decide) in_Shelf k_404 rfl ?_
              refine pb_iload_n (pc := 82) d_FileMaker_make_82 1 rfl rfl ?_
              refine pb_callV (pc := 83) (I := i_FileMaker_make) (qb := 0) (ci := 6) (nA := 2) (rest := []) (wr := [(mr, .inl (G.2.2.1, 16, .inl fr_)), (sp, .inr (3, [.ref tn, .ref tz, .ref tb, .ref tg, .int c])), (tn, .inl (G.2.1, 384, .inl tfn)), (tz, .inl (G.2.2.1, 16, .inl tfz)), (tb, .inl (G.2.1, 12000, .inl tfb)), (tg, .inl (G.2.2.1, 17, .inl tfg)), (q, .inr (4, [.ref pp, .ref pl, .ref pe, .ref pr_, .int bg_, .int sz_, .int bt_, .int ln_, .int ds_])), (pp, .inr (0, [.ref pb, .int ps_])), (pb, .inl (G.2.1, 4502, .inl pf_)), (pl, .inl (G.2.2.1, 1024, .inl fl_)), (pe, .inl (G.2.2.1, 4000, .inl fe_))]) d_FileMaker_make_83 (g_Mk_putEnd hl G h mm mr mb f4 s4 c d4 (by first | (with_reducible assumption) | omega (splitDisjunctions := false) | assumption | omega | decide) (by first | (with_reducible assumption) | omega (splitDisjunctions := false) | assumption | omega | decide) (by first | (with_reducible assumption) | omega (splitDisjunctions := false) | assumption | omega | decide) (by first | (with_reducible assumption) | omega (splitDisjunctions := false) | assumption | omega | decide) F_f4) rfl rfl [0, 1, 2] [3, 4, 5, 6, 7, 8, 9, 10, 11, 12, 13] (by decide) rfl rfl rfl (by decide) (by decide) k_574 rfl k_123 k_571 k_573 k_11 ⟨rfl, hy_FileMaker_putEnd⟩ (by decide) rfl rfl (Nat.le_of_ble_eq_true rfl) (by decide) (fun v9 u6 ch5 => ?_)
              obtain ⟨s_7, f_8⟩ := u6
              obtain ⟨ech5, ch5⟩ := ch5
              have ech5 : v9 = none := ech5
              subst ech5
              obtain ⟨fh9, fh10, fh11⟩ : (s_7.toInt = s4.toInt + 22) ∧ (ap_ f4 s4.toInt f_8 s_7.toInt (fE_ c.toInt (s4.toInt - d4.toInt) d4.toInt)) ∧ (sb_Fit f_8) := ch5
              have enF := fh10
              refine pb_eq (pc' := 86) (lo' := [(4, .int i4), (3, .int d4), (0, .ref h), (1, .ref sp), (2, .ref q)]) (rest' := []) (ws' := [(mr, .inl (G.2.2.1, 16, .inl fr_)), (sp, .inr (3, [.ref tn, .ref tz, .ref tb, .ref tg, .int c])), (tn, .inl (G.2.1, 384, .inl tfn)), (tz, .inl (G.2.2.1, 16, .inl tfz)), (tb, .inl (G.2.1, 12000, .inl tfb)), (tg, .inl (G.2.2.1, 17, .inl tfg)), (q, .inr (4, [.ref pp, .ref pl, .ref pe, .ref pr_, .int bg_, .int sz_, .int bt_, .int ln_, .int ds_])), (pp, .inr (0, [.ref pb, .int ps_])), (pb, .inl (G.2.1, 4502, .inl pf_)), (pl, .inl (G.2.2.1, 1024, .inl fl_)), (pe, .inl (G.2.2.1, 4000, .inl fe_)), (h, .inr (6, [.ref mm, .ref mr])), (mm, .inr (0, [.ref mb, .int s_7])), (mb, .inl (G.2.1, 14006, .inl f_8))]) ?_
              exact pb_vret (pc := 86) hQ d_FileMaker_make_86 rfl (s_7, f_8, fr_, pr_, bg_, sz_, bt_, ln_, ds_, ps_, pf_, fl_, fe_) ⟨rfl, (by (try dsimp only); first | done | (with_reducible assumption) | omega (splitDisjunctions := false) | assumption | omega | decide), (by (try dsimp only); first | done | (with_reducible assumption) | omega (splitDisjunctions := false) | assumption | omega | decide), (show hid_ (∃ K : List Int32, FI_ V K ∧ fw_ f_8 s_7.toInt K) from (hid_i ⟨_, ⟨F8, D8, (by rw [← R.1]; exact flE), rfl⟩, fw_ap fwE (ap_e enF (by rw [← R.1, show s4.toInt - d4.toInt = (D8.length : Int) by omega, show d4.toInt = (F8.length : Int) by omega]))⟩)), fh11, F_pf_⟩ [11, 12, 13, 0, 1, 2, 3, 4, 5, 6, 7, 8, 9, 10] (by decide) rfl rfl (by decide) (by decide)
            · have tw4 : ¬ c.toInt ≤ i4.toInt := fun z9 => w4 ((ti_le rfl rfl).mpr z9)
              have r4 := hr i4.toInt (by omega) (by omega)
              obtain ⟨D8, ⟨F8, flE⟩, fwE⟩ := hid_o hF4
              obtain ⟨F7, D7, P7, T7, g1, g2, g3⟩ := fL_in _ flF i4.toInt.toNat (by (exact omg_5eb2dff31e hi4 tw4))
              rw [show ((i4.toInt.toNat : Nat) : Int) = i4.toInt by omega] at g2 g3
              obtain ⟨e1_, e2_⟩ := fL_u _ flE g1
              subst e1_ e2_
              obtain ⟨F6, D6, r5, r6⟩ := hid_o (hR5 i4.toInt (by omega) (by omega))
              obtain ⟨e3_, e4_⟩ := fL_u _ r5 flE
              rw [e3_] at r6
              have shF := sh_bl (y := gx fr_ i4.toInt + 4) fwE g3 (by omega)
              refine pb_aload_n (pc := 64) d_FileMaker_make_64 2 rfl rfl ?_
              refine pb_aload_n (pc := 65) d_FileMaker_make_65 3 rfl rfl ?_
              refine pb_iload (pc := 66) d_FileMaker_make_66 0 rfl ?_
              refine pb_callV (pc := 68) (I := i_FileMaker_make) (qb := 0) (ci := 6) (nA := 2) (rest := []) (wr := [(tb, .inl (G.2.1, 12000, .inl tfb)), (tg, .inl (G.2.2.1, 17, .inl tfg)), (q, .inr (4, [.ref pp, .ref pl, .ref pe, .ref pr_, .int bg_, .int sz_, .int bt_, .int ln_, .int ds_])), (pp, .inr (0, [.ref pb, .int ps_])), (pb, .inl (G.2.1, 4502, .inl pf_)), (pl, .inl (G.2.2.1, 1024, .inl fl_)), (pe, .inl (G.2.2.1, 4000, .inl fe_))]) d_FileMaker_make_68 (g_Mk_putEntry hl G h mm mr mb f4 s4 fr_ sp tn tz tb tg c tfn tfz tfg i4 V P7 (by first | (with_reducible assumption) | omega (splitDisjunctions := false) | assumption | omega | decide) (by first | (with_reducible assumption) | omega (splitDisjunctions := false) | assumption | omega | decide) (by first | (with_reducible assumption) | omega (splitDisjunctions := false) | assumption | omega | decide) (by first | (with_reducible assumption) | omega (splitDisjunctions := false) | assumption | omega | decide) (by first | (with_reducible assumption) | omega (splitDisjunctions := false) | assumption | omega | decide) (by first | (with_reducible assumption) | omega (splitDisjunctions := false) | assumption | omega | decide) (by first | (with_reducible assumption) | omega (splitDisjunctions := false) | assumption | omega | decide) (rC_N R) shF.1 (by have q9 := shF.2; omega) F_f4 F_tfn) rfl rfl [0, 1, 2, 3, 4, 5, 6] [7, 8, 9, 10, 11, 12, 13] (by decide) rfl rfl rfl (by decide) (by decide) k_569 rfl k_123 k_566 k_568 k_10 ⟨rfl, hy_FileMaker_putEntry⟩ (by decide) rfl rfl (Nat.le_of_ble_eq_true rfl) (by decide) (fun v9 u13 ch12 => ?_)
              obtain ⟨s_14, f_15⟩ := u13
              obtain ⟨ech12, ch12⟩ := ch12
              have ech12 : v9 = none := ech12
              subst ech12
              obtain ⟨fh16, fh17, fh18, fh19⟩ : (s4.toInt ≤ s_14.toInt) ∧ (s_14.toInt ≤ s4.toInt + 70) ∧ (ap_ f4 s4.toInt f_15 s_14.toInt (en_L V i4.toInt P7 (gx fr_ i4.toInt))) ∧ (sb_Fit f_15) := ch12
              have peF := fh18
              rw [r6] at peF
              refine pb_eq (pc' := 71) (lo' := [(4, .int i4), (3, .int d4), (0, .ref h), (1, .ref sp), (2, .ref q)]) (rest' := []) (ws' := [(tb, .inl (G.2.1, 12000, .inl tfb)), (tg, .inl (G.2.2.1, 17, .inl tfg)), (q, .inr (4, [.ref pp, .ref pl, .ref pe, .ref pr_, .int bg_, .int sz_, .int bt_, .int ln_, .int ds_])), (pp, .inr (0, [.ref pb, .int ps_])), (pb, .inl (G.2.1, 4502, .inl pf_)), (pl, .inl (G.2.2.1, 1024, .inl fl_)), (pe, .inl (G.2.2.1, 4000, .inl fe_)), (h, .inr (6, [.ref mm, .ref mr])), (mm, .inr (0, [.ref mb, .int s_14])), (mb, .inl (G.2.1, 14006, .inl f_15)), (mr, .inl (G.2.2.1, 16, .inl fr_)), (sp, .inr (3, [.ref tn, .ref tz, .ref tb, .ref tg, .int c])), (tn, .inl (G.2.1, 384, .inl tfn)), (tz, .inl (G.2.2.1, 16, .inl tfz))]) ?_
              refine pb_iincN (pc := 71) (c := 1) d_FileMaker_make_71 0 rfl (by decide) (by decide) (fun i20 ei20 => ?_)
              have ti20 : i20.toInt = i4.toInt + 1 := ti_add ei20 rfl (by decide) (by omega) (by omega)
              refine pb_eq (pc' := 74) (lo' := [(4, .int i20), (3, .int d4), (0, .ref h), (1, .ref sp), (2, .ref q)]) (rest' := []) (ws' := [(tb, .inl (G.2.1, 12000, .inl tfb)), (tg, .inl (G.2.2.1, 17, .inl tfg)), (q, .inr (4, [.ref pp, .ref pl, .ref pe, .ref pr_, .int bg_, .int sz_, .int bt_, .int ln_, .int ds_])), (pp, .inr (0, [.ref pb, .int ps_])), (pb, .inl (G.2.1, 4502, .inl pf_)), (pl, .inl (G.2.2.1, 1024, .inl fl_)), (pe, .inl (G.2.2.1, 4000, .inl fe_)), (h, .inr (6, [.ref mm, .ref mr])), (mm, .inr (0, [.ref mb, .int s_14])), (mb, .inl (G.2.1, 14006, .inl f_15)), (mr, .inl (G.2.2.1, 16, .inl fr_)), (sp, .inr (3, [.ref tn, .ref tz, .ref tb, .ref tg, .int c])), (tn, .inl (G.2.1, 384, .inl tfn)), (tz, .inl (G.2.2.1, 16, .inl tfz))]) ?_
              refine pb_goto (pc := 74) (tgt := 55) d_FileMaker_make_74 (by decide) ?_
              refine pb_re (ws' := [(h, .inr (6, [.ref mm, .ref mr])), (mm, .inr (0, [.ref mb, .int s_14])), (mb, .inl (G.2.1, 14006, .inl f_15)), (mr, .inl (G.2.2.1, 16, .inl fr_)), (sp, .inr (3, [.ref tn, .ref tz, .ref tb, .ref tg, .int c])), (tn, .inl (G.2.1, 384, .inl tfn)), (tz, .inl (G.2.2.1, 16, .inl tfz)), (tb, .inl (G.2.1, 12000, .inl tfb)), (tg, .inl (G.2.2.1, 17, .inl tfg)), (q, .inr (4, [.ref pp, .ref pl, .ref pe, .ref pr_, .int bg_, .int sz_, .int bt_, .int ln_, .int ds_])), (pp, .inr (0, [.ref pb, .int ps_])), (pb, .inl (G.2.1, 4502, .inl pf_)), (pl, .inl (G.2.2.1, 1024, .inl fl_)), (pe, .inl (G.2.2.1, 4000, .inl fe_))]) (lo' := [(4, .int i20), (3, .int d4), (0, .ref h), (1, .ref sp), (2, .ref q)]) [7, 8, 9, 10, 11, 12, 13, 0, 1, 2, 3, 4, 5, 6] [0, 1, 2, 3, 4] (by decide) rfl rfl rfl ?_
              exact ih55 i20 d4 s_14 f_15 fh19 (by first | (with_reducible assumption) | omega (splitDisjunctions := false) | assumption | omega | decide) (by first | (with_reducible assumption) | omega (splitDisjunctions := false) | assumption | omega | decide) (by first | (with_reducible assumption) | omega (splitDisjunctions := false) | assumption | omega | decide) (by first | (with_reducible assumption) | omega (splitDisjunctions := false) | assumption | omega | decide) (by first | (with_reducible assumption) | omega (splitDisjunctions := false) | assumption | omega | decide) (hid_i ⟨D8 ++ en_L V i4.toInt P7 (F8.length : Int), ⟨_, fL_s flE (by omega) (by omega) g2 rfl rfl rfl⟩, (by rw [← List.append_assoc]; exact fw_ap fwE peF)⟩) (by (exact omg_7c8a06b1f5 hm9 tw4 ti20))
        exact hL55_3 _ 0 s_ s_ f_ F_f_ (by first | (with_reducible assumption) | omega (splitDisjunctions := false) | assumption | omega | decide) (by first | (with_reducible assumption) | omega (splitDisjunctions := false) | assumption | omega | decide) (by first | (with_reducible assumption) | omega (splitDisjunctions := false) | assumption | omega | decide) (by first | (with_reducible assumption) | omega (splitDisjunctions := false) | assumption | omega | decide) fwF.1 (hid_i ⟨[], ⟨[], (by rw [show (0 : Int32).toInt.toNat = 0 by omega]; exact ⟨rfl, rfl⟩)⟩, (by rw [List.append_nil]; exact fwF)⟩) (Nat.lt_succ_self _)
      · have tw2 : ¬ c.toInt ≤ i.toInt := fun z9 => w2 ((ti_le rfl rfl).mpr z9)
        obtain ⟨F9, D9, flF, fwF⟩ := hid_o hF
        have p6 := sh_rng I (k := i.toInt) (by omega) (by omega)
        have p7 := sh_rng I (k := i.toInt + 1) (by omega) (by omega)
        have p5 := I.2.2.2.2 i.toInt (by omega) (by omega)
        refine pb_aload_n (pc := 18) d_FileMaker_make_18 1 rfl rfl ?_
        refine pb_get (pc := 19) d_FileMaker_make_19 0 1 rfl rfl (by decide) in_FileMaker k_294 rfl ?_
        refine pb_iload_n (pc := 22) d_FileMaker_make_22 0 rfl rfl ?_
        refine pb_aload_n (pc := 23) d_FileMaker_make_23 1 rfl rfl ?_
        refine pb_get (pc := 24) d_FileMaker_make_24 0 0 rfl rfl (by decide) in_FileMaker k_292 rfl ?_
        refine pb_getN (pc := 27) d_FileMaker_make_27 1 1 rfl rfl (by decide) in_Row k_163 rfl ?_
        refine pb_iast (pc := 30) (ws' := [(h, .inr (6, [.ref mm, .ref mr])), (mm, .inr (0, [.ref mb, .int s_])), (mb, .inl (G.2.1, 14006, .inl f_)), (mr, .inl (G.2.2.1, 16, .inl (upd fr_ ((i : Int32).toNatClampNeg) s_))), (sp, .inr (3, [.ref tn, .ref tz, .ref tb, .ref tg, .int c])), (tn, .inl (G.2.1, 384, .inl tfn)), (tz, .inl (G.2.2.1, 16, .inl tfz)), (tb, .inl (G.2.1, 12000, .inl tfb)), (tg, .inl (G.2.2.1, 17, .inl tfg)), (q, .inr (4, [.ref pp, .ref pl, .ref pe, .ref pr_, .int bg_, .int sz_, .int bt_, .int ln_, .int ds_])), (pp, .inr (0, [.ref pb, .int ps_])), (pb, .inl (G.2.1, 4502, .inl pf_)), (pl, .inl (G.2.2.1, 1024, .inl fl_)), (pe, .inl (G.2.2.1, 4000, .inl fe_))]) d_FileMaker_make_30 3 rfl (vp_in_iff.mpr (by constructor <;> omega)) rfl ?_
        refine pb_aload_n (pc := 31) d_FileMaker_make_31 1 rfl rfl ?_
        refine pb_aload_n (pc := 32) d_FileMaker_make_32 2 rfl rfl ?_
        refine pb_iload_n (pc := 33) d_FileMaker_make_33 0 rfl rfl ?_
        refine pb_aload_n (pc := 34) d_FileMaker_make_34 3 rfl rfl ?_
        refine pb_callV (pc := 35) (I := i_FileMaker_make) (qb := 0) (ci := 6) (nA := 3) (rest := []) (wr := [(mr, .inl (G.2.2.1, 16, .inl (upd fr_ ((i : Int32).toNatClampNeg) s_)))]) d_FileMaker_make_35 (g_Mk_putRecord hl G h mm mr mb f_ s_ sp tn tz tb tg c tfn tfz tfb tfg q pp pl pe pr_ pb bg_ sz_ bt_ ln_ ds_ ps_ pf_ fl_ fe_ i V (by first | (with_reducible assumption) | omega (splitDisjunctions := false) | assumption | omega | decide) (by first | (with_reducible assumption) | omega (splitDisjunctions := false) | assumption | omega | decide) (by first | (with_reducible assumption) | omega (splitDisjunctions := false) | assumption | omega | decide) (by first | (with_reducible assumption) | omega (splitDisjunctions := false) | assumption | omega | decide) (by first | (with_reducible assumption) | omega (splitDisjunctions := false) | assumption | omega | decide) (by first | (with_reducible assumption) | omega (splitDisjunctions := false) | assumption | omega | decide) F_f_ F_tfn F_tfb F_pf_) rfl rfl [0, 1, 2, 4, 5, 6, 7, 8, 9, 10, 11, 12, 13] [3] (by decide) rfl rfl rfl (by decide) (by decide) k_496 rfl k_123 k_493 k_495 k_1 ⟨rfl, hy_FileMaker_putRecord⟩ (by decide) rfl rfl (Nat.le_of_ble_eq_true rfl) (by decide) (fun v9 u22 ch21 => ?_)
        obtain ⟨s_23, f_24, pr_25, bg_26, sz_27, bt_28, ln_29, ds_30, ps_31, pf_32, fl_33, fe_34⟩ := u22
        obtain ⟨ech21, ch21⟩ := ch21
        have ech21 : v9 = none := ech21
        subst ech21
        obtain ⟨fh35, fh36, fh37, fh38, fh39⟩ : (s_.toInt ≤ s_23.toInt) ∧ (s_23.toInt ≤ s_.toInt + 54 + (gx tfg (i.toInt + 1) - gx tfg i.toInt)) ∧ (hid_ (∃ P : List Int32, PR_ (sD_ V i.toInt) (vS V i.toInt) P ∧ ap_ f_ s_.toInt f_24 s_23.toInt (rc_ V i.toInt P))) ∧ (sb_Fit f_24) ∧ (sb_Fit pf_32) := ch21
        have prF := fh37
        refine pb_eq (pc' := 38) (lo' := [(3, .int i), (0, .ref h), (1, .ref sp), (2, .ref q)]) (rest' := []) (ws' := [(mr, .inl (G.2.2.1, 16, .inl (upd fr_ ((i : Int32).toNatClampNeg) s_))), (h, .inr (6, [.ref mm, .ref mr])), (mm, .inr (0, [.ref mb, .int s_23])), (mb, .inl (G.2.1, 14006, .inl f_24)), (sp, .inr (3, [.ref tn, .ref tz, .ref tb, .ref tg, .int c])), (tn, .inl (G.2.1, 384, .inl tfn)), (tz, .inl (G.2.2.1, 16, .inl tfz)), (tb, .inl (G.2.1, 12000, .inl tfb)), (tg, .inl (G.2.2.1, 17, .inl tfg)), (q, .inr (4, [.ref pp, .ref pl, .ref pe, .ref pr_25, .int bg_26, .int sz_27, .int bt_28, .int ln_29, .int ds_30])), (pp, .inr (0, [.ref pb, .int ps_31])), (pb, .inl (G.2.1, 4502, .inl pf_32)), (pl, .inl (G.2.2.1, 1024, .inl fl_33)), (pe, .inl (G.2.2.1, 4000, .inl fe_34))]) ?_
        refine pb_iincN (pc := 38) (c := 1) d_FileMaker_make_38 0 rfl (by decide) (by decide) (fun i40 ei40 => ?_)
        have ti40 : i40.toInt = i.toInt + 1 := ti_add ei40 rfl (by decide) (by omega) (by omega)
        refine pb_eq (pc' := 41) (lo' := [(3, .int i40), (0, .ref h), (1, .ref sp), (2, .ref q)]) (rest' := []) (ws' := [(mr, .inl (G.2.2.1, 16, .inl (upd fr_ ((i : Int32).toNatClampNeg) s_))), (h, .inr (6, [.ref mm, .ref mr])), (mm, .inr (0, [.ref mb, .int s_23])), (mb, .inl (G.2.1, 14006, .inl f_24)), (sp, .inr (3, [.ref tn, .ref tz, .ref tb, .ref tg, .int c])), (tn, .inl (G.2.1, 384, .inl tfn)), (tz, .inl (G.2.2.1, 16, .inl tfz)), (tb, .inl (G.2.1, 12000, .inl tfb)), (tg, .inl (G.2.2.1, 17, .inl tfg)), (q, .inr (4, [.ref pp, .ref pl, .ref pe, .ref pr_25, .int bg_26, .int sz_27, .int bt_28, .int ln_29, .int ds_30])), (pp, .inr (0, [.ref pb, .int ps_31])), (pb, .inl (G.2.1, 4502, .inl pf_32)), (pl, .inl (G.2.2.1, 1024, .inl fl_33)), (pe, .inl (G.2.2.1, 4000, .inl fe_34))]) ?_
        refine pb_goto (pc := 41) (tgt := 10) d_FileMaker_make_41 (by decide) ?_
        refine pb_re (ws' := [(h, .inr (6, [.ref mm, .ref mr])), (mm, .inr (0, [.ref mb, .int s_23])), (mb, .inl (G.2.1, 14006, .inl f_24)), (mr, .inl (G.2.2.1, 16, .inl (upd fr_ ((i : Int32).toNatClampNeg) s_))), (sp, .inr (3, [.ref tn, .ref tz, .ref tb, .ref tg, .int c])), (tn, .inl (G.2.1, 384, .inl tfn)), (tz, .inl (G.2.2.1, 16, .inl tfz)), (tb, .inl (G.2.1, 12000, .inl tfb)), (tg, .inl (G.2.2.1, 17, .inl tfg)), (q, .inr (4, [.ref pp, .ref pl, .ref pe, .ref pr_25, .int bg_26, .int sz_27, .int bt_28, .int ln_29, .int ds_30])), (pp, .inr (0, [.ref pb, .int ps_31])), (pb, .inl (G.2.1, 4502, .inl pf_32)), (pl, .inl (G.2.2.1, 1024, .inl fl_33)), (pe, .inl (G.2.2.1, 4000, .inl fe_34))]) (lo' := [(3, .int i40), (0, .ref h), (1, .ref sp), (2, .ref q)]) [1, 2, 3, 0, 4, 5, 6, 7, 8, 9, 10, 11, 12, 13] [0, 1, 2, 3] (by decide) rfl rfl rfl ?_
        exact ih10 i40 s_23 f_24 (upd fr_ ((i : Int32).toNatClampNeg) s_) pr_25 bg_26 sz_27 bt_28 ln_29 ds_30 ps_31 pf_32 fl_33 fe_34 fh38 fh39 (by first | (with_reducible assumption) | omega (splitDisjunctions := false) | assumption | omega | decide) (by first | (with_reducible assumption) | omega (splitDisjunctions := false) | assumption | omega | decide) (by first | (with_reducible assumption) | omega (splitDisjunctions := false) | assumption | omega | decide) (by rw [show i40.toInt = i.toInt + 1 by omega]; omega) (fun j h0 h1 => by rw [gx_upd rfl j (by omega) h0]; split <;> first | omega | exact hr j h0 (by omega)) (by obtain ⟨P8, p1_, p2_⟩ := hid_o prF; exact hid_i ⟨_, _, fL_s flF (by omega) (by omega) p1_ rfl rfl rfl, fw_ap fwF p2_⟩) (fun j h0 h1 => if w9 : j = i.toInt then hid_i ⟨F9, D9, (by rw [w9]; exact flF), (by rw [gx_upd rfl j (by omega) h0, if_pos w9]; exact fwF.1)⟩ else (by obtain ⟨F8, D8, q1, q2⟩ := hid_o (hR5 j h0 (by omega)); exact hid_i ⟨F8, D8, q1, (by rw [gx_upd rfl j (by omega) h0, if_neg w9]; exact q2)⟩)) (by (exact omg_7c8a06b1f5 hm9 tw2 ti40))
  exact hL10_1 _ 0 0 f fr pr bg sz bt ln ds ps pf fl fe F_f F_pf (by first | (with_reducible assumption) | omega (splitDisjunctions := false) | assumption | omega | decide) (by first | (with_reducible assumption) | omega (splitDisjunctions := false) | assumption | omega | decide) (by first | (with_reducible assumption) | omega (splitDisjunctions := false) | assumption | omega | decide) (by rw [show (0 : Int32).toInt = 0 by decide, p3]; omega) (fun j h0 h1 => absurd h1 (by omega)) (hid_i ⟨[], [], (by rw [show (0 : Int32).toInt.toNat = 0 by omega]; exact ⟨rfl, rfl⟩), fw_nil (by omega)⟩) (fun j h0 h1 => absurd h1 (by omega)) (Nat.lt_succ_self _)
