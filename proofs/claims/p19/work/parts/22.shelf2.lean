/-! ROWS OF NUMBERS -/
theorem omg_0f40257777 {x0 : Int} {x1 : Int} {x2 : Int} {x3 : Int} {x4 : Int} {x5 : Int} {x6 : Int} (a0 : ((x0 ≤ x1) ∧ ((x1 ≤ (x0 + (4000 : Int))) ∧ (((1 : Int) ≤ x2) ∧ (x2 ≤ (24 : Int)))))) (a1 : (x3 = (x2 - x4))) (a2 : (((0 : Int) < x5) → ((0 : Int) ≤ x3))) (a3 : (x6 = x4)) (a4 : (x6 ≤ x5)) : (x4 ≤ x2) := by omega
theorem omg_edbe65595c {x0 : Int} {x1 : Int} {x2 : Int} {x3 : Int} {x4 : Int} {x5 : Int} (a0 : (x0 = (x1 - x2))) (a1 : (((0 : Int) < x3) → ((0 : Int) ≤ x0))) (a2 : (x4 = x2)) (a3 : (x4 ≤ x3)) : ((x5 = (1 : Int)) → (((0 : Int) < x2) → (x2 ≤ x1))) := by omega
theorem omg_a45382f626 {x0 : Int} {x1 : Int} {x2 : Int} {x3 : Int} {x4 : Int} (a0 : ((0 : Int) ≤ x0)) (a1 : ((0 : Int) ≤ x1)) (a2 : (¬ (x2 < (0 : Int)))) (a3 : (x3 = ((24 : Int) * x0))) (a4 : (x4 = (x3 + x2))) : ((-(2147483648 : Int)) ≤ (x4 + x1)) := by omega
theorem omg_b30a0bed9f {x0 : Int} {x1 : Int} {x2 : Nat} {x3 : Int} {x4 : Int} (a0 : ((Int.toNat (x0 - x1)) < (x2 + (1 : Nat)))) (a1 : (x3 = x0)) (a2 : (¬ (x3 ≤ x1))) (a3 : (x4 = (x1 + (1 : Int)))) : ((Int.toNat (x0 - x4)) < x2) := by omega
theorem omg_e822e67b55 {x0 : Int} {x1 : Int} {x2 : Int} (a0 : (x0 = (x1 + (1 : Int)))) (a1 : (x2 < x0)) (a2 : (¬ (x2 < x1))) : (x2 = x1) := by omega
theorem omg_717929f615 {x0 : Int} {x1 : Int} {x2 : Int} {x3 : Int} (a0 : (x0 = x1)) (a1 : (¬ (x0 ≤ x2))) (a2 : (x3 = (x2 + (1 : Int)))) : (x3 ≤ x1) := by omega
theorem omg_3cda784dae {x0 : Int} {x1 : Int} {x2 : Int} {x3 : Int} {x4 : Int} {x5 : Int} {x6 : Int} (a0 : (x0 ≤ (16 : Int))) (a1 : ((x1 ≤ x2) ∧ ((x2 ≤ (x1 + (4000 : Int))) ∧ (((1 : Int) ≤ x3) ∧ (x3 ≤ (24 : Int)))))) (a2 : (x4 = x3)) (a3 : (¬ (x0 ≤ x5))) (a4 : (x6 = ((24 : Int) * x5))) : ((x6 + x4) ≤ (((384 : Nat) : Nat) : Int)) := by omega
theorem omg_43afb53601 {x0 : Int} {x1 : Int} {x2 : Int} {x3 : Int} {x4 : Int} {x5 : Int} {x6 : Int} (a0 : (x0 = (5 : Int))) (a1 : (x1 = x2)) (a2 : (x3 = x4)) (a3 : (x5 = x0)) (a4 : (x6 = (x1 + x5))) (a5 : (x3 = x6)) : (x4 = (x2 + (5 : Int))) := by omega
/-! who tells a part's relations -/
def tr_ (j : Int) : Int := ([46, 114, 101, 108, 115] : List Int).getD j.toNat 0
theorem tr_0 : (st_byts.getD 0 []).map Int32.toInt = [46, 114, 101, 108, 115] := by decide +kernel
theorem tr_c (j : Int) : st_c 0 j = tr_ j := by
  unfold st_c tr_
  rw [← tr_0]
  generalize st_byts.getD 0 [] = S
  rw [List.getD_eq_getElem?_getD, List.getD_eq_getElem?_getD, List.getElem?_map]
  cases c : S[j.toNat]? with
  | none => rfl
  | some x => rfl
def en6_ (n z : Nat → Int32) (i : Int) (k : Nat) : Prop := st_len k ≤ gx z i ∧ ∀ j : Int, 0 ≤ j → j < st_len k → gx n (24 * i + (gx z i - st_len k) + j) = st_c k j
/-- the name of part i, and .rels behind it -/
def tn6_ (V : VW_) (i k : Int) : Int := if k < vZ V i then vN V i k else tr_ (k - vZ V i)
theorem tn_z {c x i : Int} {n z : Nat → Int32} (h : ¬ gx z x = gx z i + 5) : ¬ nE_ (cN_ c n z) x (gx z i + 5) (tn6_ (cN_ c n z) i) := fun q => h q.1
theorem tn_nm {c i k : Int} {n z : Nat → Int32} (h : k < gx z i) : tn6_ (cN_ c n z) i k = gx n (24 * i + k) := if_pos h
theorem tn_rl {c i k : Int} {n z : Nat → Int32} (h : ¬ k < gx z i) : tn6_ (cN_ c n z) i k = tr_ (k - gx z i) := if_neg h
theorem tn_y {c x i : Int} {n z : Nat → Int32} (hz : gx z x = gx z i + 5) (hl : st_len 0 = 5) (he : en6_ n z x 0) (hs : ∀ j : Int, 0 ≤ j → j < gx z i → gx n (24 * i + j) = gx n (24 * x + j)) : nE_ (cN_ c n z) x (gx z i + 5) (tn6_ (cN_ c n z) i) := by
  refine ⟨hz, fun k k0 k1 => ?_⟩
  show gx n (24 * x + k) = _
  by_cases w : k < gx z i
  · rw [tn_nm w, hs k k0 w]
  · have e := he.2 (k - gx z i) (by omega) (by omega)
    rw [hl] at e
    rw [tn_rl w, ← tr_c, ← e]
    exact congrArg (gx n) (by omega)
theorem tn_e {c x i : Int} {n z : Nat → Int32} (hz : gx z x = gx z i + 5) (h0 : 0 ≤ gx z i) (hl : st_len 0 = 5) (he : ¬ en6_ n z x 0) : ¬ nE_ (cN_ c n z) x (gx z i + 5) (tn6_ (cN_ c n z) i) := fun q => he ⟨by omega, fun j j0 j1 => by
  have e : gx n (24 * x + (gx z i + j)) = tn6_ (cN_ c n z) i (gx z i + j) := q.2 (gx z i + j) (by omega) (by omega)
  rw [tn_rl (by omega), show gx z i + j - gx z i = j by omega] at e
  rw [tr_c, ← e]
  exact congrArg (gx n) (by omega)⟩
theorem tn_d {c x i : Int} {n z : Nat → Int32} (hs : ¬ ∀ j : Int, 0 ≤ j → j < gx z i → gx n (24 * i + j) = gx n (24 * x + j)) : ¬ nE_ (cN_ c n z) x (gx z i + 5) (tn6_ (cN_ c n z) i) := fun q => hs (fun j j0 j1 => by
  have e : gx n (24 * x + j) = tn6_ (cN_ c n z) i j := q.2 j j0 (by omega)
  rw [tn_nm j1] at e
  exact e.symm)
/-- the names alone say which part has a name -/
theorem isF_N {c m r : Int} {n z : Nat → Int32} {V : VW_} {a : Int → Int} (R : rN_ c n z V) (h : isF_ (cN_ c n z) m a r) : isF_ V m a r := by
  have key : ∀ i : Int, 0 ≤ i → i < c → (nE_ (cN_ c n z) i m a ↔ nE_ V i m a) := fun i i0 i1 => by
    have q := R.2 i i0 i1
    constructor
    · intro w
      have w1 : gx z i = m := w.1
      refine ⟨by rw [← q.1]; exact w1, fun k k0 k1 => ?_⟩
      rw [← q.2 k k0 (by rw [← q.1, w1]; exact k1)]
      exact w.2 k k0 k1
    · intro w
      have w1 : gx z i = m := by rw [q.1]; exact w.1
      refine ⟨w1, fun k k0 k1 => ?_⟩
      show gx n (24 * i + k) = a k
      rw [q.2 k k0 (by rw [← q.1, w1]; exact k1)]
      exact w.2 k k0 k1
  rcases h with ⟨h0, h1, h2⟩ | ⟨h0, h1⟩
  · have h3 : r < c := h1
    exact Or.inl ⟨h0, by rw [← R.1]; exact h3, (key r h0 h3).mp h2⟩
  · refine Or.inr ⟨h0, fun i i0 i1 q => ?_⟩
    have i2 : i < c := by rw [R.1]; exact i1
    exact h1 i i0 i2 ((key i i0 i2).mpr q)
theorem tn_N {c i : Int} {n z : Nat → Int32} {V : VW_} (R : rN_ c n z V) (i0 : 0 ≤ i) (i1 : i < c) (k : Int) (k0 : 0 ≤ k) : tn6_ (cN_ c n z) i k = tn6_ V i k := by
  have q := R.2 i i0 i1
  by_cases w : k < gx z i
  · rw [tn_nm w, q.2 k k0 (by rw [← q.1]; exact w)]
    exact (if_pos (show k < vZ V i by rw [← q.1]; exact w)).symm
  · rw [tn_rl w, q.1]
    exact (if_neg (show ¬ k < vZ V i by rw [← q.1]; exact w)).symm
theorem tl_N {c i r : Int} {n z : Nat → Int32} {V : VW_} (R : rN_ c n z V) (i0 : 0 ≤ i) (i1 : i < c) (h : isF_ (cN_ c n z) (gx z i + 5) (tn6_ (cN_ c n z) i) r) : isF_ V (vZ V i + 5) (tn6_ V i) r := by
  have q := (R.2 i i0 i1).1
  rw [q] at h
  exact isF_cg (isF_N R h) (fun k k0 _ => tn_N R i0 i1 k k0)

theorem d_Shelf_endsWith_0 : decode prog_10_method_13_code 0 = .ok (.aload_n 0, 1) := by decide +kernel
theorem d_Shelf_endsWith_1 : decode prog_10_method_13_code 1 = .ok (.getfield 15, 3) := by decide +kernel
theorem d_Shelf_endsWith_4 : decode prog_10_method_13_code 4 = .ok (.iload_n 1, 1) := by decide +kernel
theorem d_Shelf_endsWith_5 : decode prog_10_method_13_code 5 = .ok (.iaload, 1) := by decide +kernel
theorem d_Shelf_endsWith_6 : decode prog_10_method_13_code 6 = .ok (.aload_n 2, 1) := by decide +kernel
theorem d_Shelf_endsWith_7 : decode prog_10_method_13_code 7 = .ok (.invokevirtual 59, 3) := by decide +kernel
theorem k_741 : (Jvm.Cond.methodLink "PackageBook$Shelf" (59 : Nat) ({ cls := "java/lang/String", name := "length", desc := "()I" } : Jvm.MethodName)) ∈ uW := uW_of 741 (by decide +kernel) (by decide +kernel)
theorem k_744 : (Jvm.Cond.code ({ cls := "java/lang/String", name := "length", desc := "()I" } : Jvm.MethodName) prog_18_method_54_code (1 : Nat) (Option.some Jvm.ClassFile.FieldType.int)) ∈ uW := uW_of 744 (by decide +kernel) (by decide +kernel)
theorem k_742 : (Jvm.Cond.instanceMethod ({ cls := "java/lang/String", name := "length", desc := "()I" } : Jvm.MethodName)) ∈ uW := uW_of 742 (by decide +kernel) (by decide +kernel)
theorem k_743 : (Jvm.Cond.selects "java/lang/String" ({ cls := "java/lang/String", name := "length", desc := "()I" } : Jvm.MethodName) ({ cls := "java/lang/String", name := "length", desc := "()I" } : Jvm.MethodName)) ∈ uW := uW_of 743 (by decide +kernel) (by decide +kernel)
theorem hy_JString_length : (y_JString_length).cls ≠ "java/lang/invoke/MethodHandle" ∧ (y_JString_length).cls ≠ "java/lang/invoke/VarHandle" ∧ (parseMethodDescriptor (y_JString_length).desc).map (fun d => d.parameters.length) = some 0 := by decide +kernel
theorem d_Shelf_endsWith_10 : decode prog_10_method_13_code 10 = .ok (.isub, 1) := by decide +kernel
theorem d_Shelf_endsWith_11 : decode prog_10_method_13_code 11 = .ok (.istore_n 3, 1) := by decide +kernel
theorem d_Shelf_endsWith_12 : decode prog_10_method_13_code 12 = .ok (.iconst 0, 1) := by decide +kernel
theorem d_Shelf_endsWith_13 : decode prog_10_method_13_code 13 = .ok (.istore 4, 2) := by decide +kernel
theorem d_Shelf_endsWith_15 : decode prog_10_method_13_code 15 = .ok (.iload 4, 2) := by decide +kernel
theorem d_Shelf_endsWith_17 : decode prog_10_method_13_code 17 = .ok (.aload_n 2, 1) := by decide +kernel
theorem d_Shelf_endsWith_18 : decode prog_10_method_13_code 18 = .ok (.invokevirtual 59, 3) := by decide +kernel
theorem d_Shelf_endsWith_21 : decode prog_10_method_13_code 21 = .ok (.if_icmp .ge 38, 3) := by decide +kernel
theorem d_Shelf_endsWith_59 : decode prog_10_method_13_code 59 = .ok (.iconst 1, 1) := by decide +kernel
theorem d_Shelf_endsWith_60 : decode prog_10_method_13_code 60 = .ok (.ireturn, 1) := by decide +kernel
theorem d_Shelf_endsWith_24 : decode prog_10_method_13_code 24 = .ok (.iload_n 3, 1) := by decide +kernel
theorem d_Shelf_endsWith_25 : decode prog_10_method_13_code 25 = .ok (.ifCond .lt 26, 3) := by decide +kernel
theorem d_Shelf_endsWith_51 : decode prog_10_method_13_code 51 = .ok (.iconst 0, 1) := by decide +kernel
theorem d_Shelf_endsWith_52 : decode prog_10_method_13_code 52 = .ok (.ireturn, 1) := by decide +kernel
theorem d_Shelf_endsWith_28 : decode prog_10_method_13_code 28 = .ok (.aload_n 0, 1) := by decide +kernel
theorem d_Shelf_endsWith_29 : decode prog_10_method_13_code 29 = .ok (.getfield 9, 3) := by decide +kernel
theorem d_Shelf_endsWith_32 : decode prog_10_method_13_code 32 = .ok (.bipush 24, 2) := by decide +kernel
theorem d_Shelf_endsWith_34 : decode prog_10_method_13_code 34 = .ok (.iload_n 1, 1) := by decide +kernel
theorem d_Shelf_endsWith_35 : decode prog_10_method_13_code 35 = .ok (.imul, 1) := by decide +kernel
theorem d_Shelf_endsWith_36 : decode prog_10_method_13_code 36 = .ok (.iload_n 3, 1) := by decide +kernel
theorem d_Shelf_endsWith_37 : decode prog_10_method_13_code 37 = .ok (.iadd, 1) := by decide +kernel
theorem d_Shelf_endsWith_38 : decode prog_10_method_13_code 38 = .ok (.iload 4, 2) := by decide +kernel
theorem d_Shelf_endsWith_40 : decode prog_10_method_13_code 40 = .ok (.iadd, 1) := by decide +kernel
theorem d_Shelf_endsWith_41 : decode prog_10_method_13_code 41 = .ok (.baload, 1) := by decide +kernel
theorem d_Shelf_endsWith_42 : decode prog_10_method_13_code 42 = .ok (.aload_n 2, 1) := by decide +kernel
theorem d_Shelf_endsWith_43 : decode prog_10_method_13_code 43 = .ok (.iload 4, 2) := by decide +kernel
theorem d_Shelf_endsWith_45 : decode prog_10_method_13_code 45 = .ok (.invokevirtual 68, 3) := by decide +kernel
theorem k_751 : (Jvm.Cond.methodLink "PackageBook$Shelf" (68 : Nat) ({ cls := "java/lang/String", name := "charAt", desc := "(I)C" } : Jvm.MethodName)) ∈ uW := uW_of 751 (by decide +kernel) (by decide +kernel)
theorem k_754 : (Jvm.Cond.code ({ cls := "java/lang/String", name := "charAt", desc := "(I)C" } : Jvm.MethodName) prog_18_method_56_code (2 : Nat) (Option.some Jvm.ClassFile.FieldType.char)) ∈ uW := uW_of 754 (by decide +kernel) (by decide +kernel)
theorem k_752 : (Jvm.Cond.instanceMethod ({ cls := "java/lang/String", name := "charAt", desc := "(I)C" } : Jvm.MethodName)) ∈ uW := uW_of 752 (by decide +kernel) (by decide +kernel)
theorem k_753 : (Jvm.Cond.selects "java/lang/String" ({ cls := "java/lang/String", name := "charAt", desc := "(I)C" } : Jvm.MethodName) ({ cls := "java/lang/String", name := "charAt", desc := "(I)C" } : Jvm.MethodName)) ∈ uW := uW_of 753 (by decide +kernel) (by decide +kernel)
theorem hy_JString_charAt : (y_JString_charAt).cls ≠ "java/lang/invoke/MethodHandle" ∧ (y_JString_charAt).cls ≠ "java/lang/invoke/VarHandle" ∧ (parseMethodDescriptor (y_JString_charAt).desc).map (fun d => d.parameters.length) = some 1 := by decide +kernel
theorem d_Shelf_endsWith_48 : decode prog_10_method_13_code 48 = .ok (.if_icmp .eq 5, 3) := by decide +kernel
theorem d_Shelf_endsWith_53 : decode prog_10_method_13_code 53 = .ok (.iinc 4 1, 3) := by decide +kernel
theorem d_Shelf_endsWith_56 : decode prog_10_method_13_code 56 = .ok (.goto (-41), 3) := by decide +kernel
abbrev y_Shelf_endsWith : MethodName := ⟨"PackageBook$Shelf", "endsWith", "(ILjava/lang/String;)Z"⟩
abbrev i_Shelf_endsWith : pb_I := (y_Shelf_endsWith, prog_10_method_13_code, 5, (some Jvm.ClassFile.FieldType.boolean), [], { frames := 4, cells := 0, slots := 0, locals := 85 })
set_option maxRecDepth 100000 in
set_option maxHeartbeats 4000000 in
theorem g_Shelf_endsWith {l : Launch} (hl : l.stackTraces = false) (G : pb_G) (h : Nat) (sn : Nat) (sz : Nat) (sb : Nat) (sg : Nat) (c : Int32) (sfn : Nat → Int32) (sfz : Nat → Int32) (sfg : Nat → Int32) (i : Int32) (k : Nat) (I : sh_I c.toInt sfz sfg) (i0 : 0 ≤ i.toInt) (i1 : i.toInt < c.toInt) (hk : k < st_n) (F_sfn : sb_Fit sfn) : Cn l G i_Shelf_endsWith [.ref h, .int i, .ref (G.2.2.2.2.2.1 k)] [(h, .inr (3, [.ref sn, .ref sz, .ref sb, .ref sg, .int c])), (sn, .inl (G.2.1, 384, .inl sfn)), (sz, .inl (G.2.2.1, 16, .inl sfz))] (S := Int32) (fun rv_ u => rv_ = some (.int u) ∧ (u.toInt = 0 ∨ u.toInt = 1) ∧ (u.toInt = 1 → 0 < st_len k → st_len k ≤ gx sfz i.toInt) ∧ (hid_ (u.toInt = 1 ↔ en6_ sfn sfz i.toInt k))) (fun u => [(h, .inr (3, [.ref sn, .ref sz, .ref sb, .ref sg, .int c])), (sn, .inl (G.2.1, 384, .inl sfn)), (sz, .inl (G.2.2.1, 16, .inl sfz))]) := by
  refine Cn.of hl (by decide +kernel) rfl (Nat.le_of_ble_eq_true rfl) (fun M hQ => ?_)
  refine pb_eq (pc' := 0) (lo' := [(0, .ref h), (1, .int i), (2, .ref (G.2.2.2.2.2.1 k))]) (rest' := []) (ws' := [(h, .inr (3, [.ref sn, .ref sz, .ref sb, .ref sg, .int c])), (sn, .inl (G.2.1, 384, .inl sfn)), (sz, .inl (G.2.2.1, 16, .inl sfz))]) ?_
  have zl0 : (0 : Int32).toInt = 0 := by decide
  have zl1 : (1 : Int32).toInt = 1 := by decide
  have zl24 : (24 : Int32).toInt = 24 := by decide
  have q9 := I.2.1
  have q8 := I.2.2.2.2 i.toInt (by omega) (by omega)
  have sl := st_len_rng k
  refine pb_aload_n (pc := 0) d_Shelf_endsWith_0 0 rfl rfl ?_
  refine pb_get (pc := 1) d_Shelf_endsWith_1 0 1 rfl rfl (by decide) in_Shelf k_392 rfl ?_
  refine pb_iload_n (pc := 4) d_Shelf_endsWith_4 1 rfl rfl ?_
  refine pb_iald (pc := 5) d_Shelf_endsWith_5 2 rfl (vp_in_iff.mpr (by constructor <;> omega)) ?_
  refine pb_topi (fun i1 ei1 => ?_)
  have ti1 : i1.toInt = gx sfz (i.toInt) := gx_ld ei1 rfl
  refine pb_aload_n (pc := 6) d_Shelf_endsWith_6 2 rfl rfl ?_
  refine pb_callVS (pc := 7) (I := i_Shelf_endsWith) (k := k) (nA := 0) (rest := [.int i1]) (wr := [(h, .inr (3, [.ref sn, .ref sz, .ref sb, .ref sg, .int c])), (sn, .inl (G.2.1, 384, .inl sfn)), (sz, .inl (G.2.2.1, 16, .inl sfz))]) d_Shelf_endsWith_7 (g_Str_length hl G k (by first | (with_reducible assumption) | omega (splitDisjunctions := false) | assumption | omega | decide)) hk rfl [] [0, 1, 2] (by decide) rfl rfl rfl (by decide) (by decide) k_744 rfl k_138 k_741 k_742 k_743 ⟨rfl, hy_JString_length⟩ (by decide) rfl rfl (Nat.le_of_ble_eq_true rfl) (by decide) (fun v9 u3 ch2 => ?_)
  obtain ⟨r_4, rfl⟩ : ∃ z9, z9 = u3 := ⟨_, rfl⟩
  obtain ⟨ech2, ch2⟩ := ch2
  have ech2 : v9 = some (.int r_4) := ech2
  subst ech2
  have fh5 : r_4.toInt = st_len k := ch2
  refine pb_eq (pc' := 10) (lo' := [(0, .ref h), (1, .int i), (2, .ref (G.2.2.2.2.2.1 k))]) (rest' := [.int r_4, .int i1]) (ws' := [(h, .inr (3, [.ref sn, .ref sz, .ref sb, .ref sg, .int c])), (sn, .inl (G.2.1, 384, .inl sfn)), (sz, .inl (G.2.2.1, 16, .inl sfz))]) ?_
  refine pb_isub (pc := 10) d_Shelf_endsWith_10 ?_
  refine pb_topi (fun i6 ei6 => ?_)
  try have ti6 : i6.toInt = i1.toInt - r_4.toInt := ti_sub ei6 rfl rfl (by omega) (by omega)
  refine pb_istore_n (pc := 11) (lo' := [(3, .int i6), (0, .ref h), (1, .int i), (2, .ref (G.2.2.2.2.2.1 k))]) d_Shelf_endsWith_11 rfl (by decide) rfl ?_
  refine pb_iconst (pc := 12) (v := 0) d_Shelf_endsWith_12 (by decide) ?_
  refine pb_istore (pc := 13) (lo' := [(4, .int 0), (3, .int i6), (0, .ref h), (1, .int i), (2, .ref (G.2.2.2.2.2.1 k))]) d_Shelf_endsWith_13 (by decide) rfl ?_
  have hL15_7 : ∀ (N9 : Nat) (fr : Int32) (j : Int32), (0 ≤ j.toInt) → (j.toInt ≤ st_len k) → (fr.toInt = gx sfz i.toInt - st_len k) → (0 < j.toInt → 0 ≤ fr.toInt) → (∀ x : Int, 0 ≤ x → x < j.toInt → gx sfn (24 * i.toInt + fr.toInt + x) = st_c k x) → ((st_len k - j.toInt).toNat) < N9 → pb_P l G M i_Shelf_endsWith 15 [(3, .int fr), (4, .int j), (0, .ref h), (1, .int i), (2, .ref (G.2.2.2.2.2.1 k))] [] [(h, .inr (3, [.ref sn, .ref sz, .ref sb, .ref sg, .int c])), (sn, .inl (G.2.1, 384, .inl sfn)), (sz, .inl (G.2.2.1, 16, .inl sfz))] 0 0 := by
    intro N9
    induction N9 with
    | zero => intro fr j j0 j1 f0 f1 je hm9; exact absurd hm9 (Nat.not_lt_zero _)
    | succ N9 ih15 =>
      intro fr j j0 j1 f0 f1 je hm9
      refine pb_iload (pc := 15) d_Shelf_endsWith_15 1 rfl ?_
      refine pb_aload_n (pc := 17) d_Shelf_endsWith_17 4 rfl rfl ?_
      refine pb_callVS (pc := 18) (I := i_Shelf_endsWith) (k := k) (nA := 0) (rest := [.int j]) (wr := [(h, .inr (3, [.ref sn, .ref sz, .ref sb, .ref sg, .int c])), (sn, .inl (G.2.1, 384, .inl sfn)), (sz, .inl (G.2.2.1, 16, .inl sfz))]) d_Shelf_endsWith_18 (g_Str_length hl G k (by first | (with_reducible assumption) | omega (splitDisjunctions := false) | assumption | omega | decide)) hk rfl [] [0, 1, 2] (by decide) rfl rfl rfl (by decide) (by decide) k_744 rfl k_138 k_741 k_742 k_743 ⟨rfl, hy_JString_length⟩ (by decide) rfl rfl (Nat.le_of_ble_eq_true rfl) (by decide) (fun v9 u9 ch8 => ?_)
      obtain ⟨r_10, rfl⟩ : ∃ z9, z9 = u9 := ⟨_, rfl⟩
      obtain ⟨ech8, ch8⟩ := ch8
      have ech8 : v9 = some (.int r_10) := ech8
      subst ech8
      have fh11 : r_10.toInt = st_len k := ch8
      refine pb_eq (pc' := 21) (lo' := [(3, .int fr), (4, .int j), (0, .ref h), (1, .int i), (2, .ref (G.2.2.2.2.2.1 k))]) (rest' := [.int r_10, .int j]) (ws' := [(h, .inr (3, [.ref sn, .ref sz, .ref sb, .ref sg, .int c])), (sn, .inl (G.2.1, 384, .inl sfn)), (sz, .inl (G.2.2.1, 16, .inl sfz))]) ?_
      refine pb_icmp_ge (pc := 21) (tgt := 59) d_Shelf_endsWith_21 (by decide) (fun w12 => ?_) (fun w12 => ?_)
      · have tw12 : r_10.toInt ≤ j.toInt := (ti_le rfl rfl).mp w12
        refine pb_iconst (pc := 59) (v := 1) d_Shelf_endsWith_59 (by decide) ?_
        exact pb_iret (pc := 60) hQ d_Shelf_endsWith_60 rfl rfl (1) ⟨rfl, (by (try dsimp only); first | done | (with_reducible assumption) | omega (splitDisjunctions := false) | assumption | omega | decide), (by (try dsimp only); first | done | (with_reducible assumption) | omega (splitDisjunctions := false) | assumption | (exact omg_edbe65595c f0 f1 ch8 tw12) | decide), (show hid_ ((1 : Int32).toInt = 1 ↔ en6_ sfn sfz i.toInt k) from (hid_i ⟨fun _ => ⟨by (exact omg_0f40257777 q8 f0 f1 ch8 tw12), fun x x0 x1 => by rw [← f0]; exact je x x0 (by omega)⟩, fun _ => zl1⟩))⟩ [0, 1, 2] (by decide) rfl rfl (by decide) (by decide)
      · have tw12 : ¬ r_10.toInt ≤ j.toInt := fun z9 => w12 ((ti_le rfl rfl).mpr z9)
        refine pb_iload_n (pc := 24) d_Shelf_endsWith_24 0 rfl rfl ?_
        refine pb_if_lt (pc := 25) (tgt := 51) d_Shelf_endsWith_25 (by decide) (fun w13 => ?_) (fun w13 => ?_)
        · have tw13 : fr.toInt < 0 := (ti_lt rfl (by decide)).mp w13
          refine pb_iconst (pc := 51) (v := 0) d_Shelf_endsWith_51 (by decide) ?_
          exact pb_iret (pc := 52) hQ d_Shelf_endsWith_52 rfl rfl (0) ⟨rfl, (by (try dsimp only); first | done | (with_reducible assumption) | omega (splitDisjunctions := false) | assumption | omega | decide), (by (try dsimp only); first | done | (with_reducible assumption) | omega (splitDisjunctions := false) | assumption | omega | decide), (show hid_ ((0 : Int32).toInt = 1 ↔ en6_ sfn sfz i.toInt k) from (hid_i ⟨fun q9 => absurd q9 (by omega), fun q9 => by have q8 := q9.1; have q7 := q9.2 j.toInt j0 (by omega); rw [← f0] at q7; omega⟩))⟩ [0, 1, 2] (by decide) rfl rfl (by decide) (by decide)
        · have tw13 : ¬ fr.toInt < 0 := fun z9 => w13 ((ti_lt rfl (by decide)).mpr z9)
          refine pb_aload_n (pc := 28) d_Shelf_endsWith_28 2 rfl rfl ?_
          refine pb_get (pc := 29) d_Shelf_endsWith_29 0 0 rfl rfl (by decide) in_Shelf k_389 rfl ?_
          refine pb_bipush (pc := 32) (v := 24) d_Shelf_endsWith_32 (by decide) ?_
          refine pb_iload_n (pc := 34) d_Shelf_endsWith_34 3 rfl rfl ?_
          refine pb_imul (pc := 35) d_Shelf_endsWith_35 ?_
          refine pb_topi (fun i14 ei14 => ?_)
          try have ti14 : i14.toInt = 24 * i.toInt := ti_mul ei14 (by decide) rfl (by omega) (by omega)
          refine pb_iload_n (pc := 36) d_Shelf_endsWith_36 0 rfl rfl ?_
          refine pb_iadd (pc := 37) d_Shelf_endsWith_37 ?_
          refine pb_topi (fun i15 ei15 => ?_)
          try have ti15 : i15.toInt = i14.toInt + fr.toInt := ti_add ei15 rfl rfl (by omega) (by omega)
          refine pb_iload (pc := 38) d_Shelf_endsWith_38 1 rfl ?_
          refine pb_iadd (pc := 40) d_Shelf_endsWith_40 ?_
          refine pb_topi (fun i16 ei16 => ?_)
          try have ti16 : i16.toInt = i15.toInt + j.toInt := ti_add ei16 rfl rfl (by (exact omg_a45382f626 i0 j0 tw13 ti14 ti15)) (by omega)
          refine pb_bald (pc := 41) d_Shelf_endsWith_41 1 rfl (vp_in_iff.mpr (by constructor <;> omega)) ?_
          refine pb_topi (fun i17 ei17 => ?_)
          have xi17 : i17 = gr sfn (24 * i.toInt + fr.toInt + j.toInt) := gr_ld ei17 (by omega)
          have yi17 : i17.toInt = gx sfn (24 * i.toInt + fr.toInt + j.toInt) := congrArg Int32.toInt xi17
          have ti17 : -128 ≤ i17.toInt ∧ i17.toInt ≤ 127 := ti_fit (F_sfn _) ei17
          have yN := yi17
          refine pb_aload_n (pc := 42) d_Shelf_endsWith_42 4 rfl rfl ?_
          refine pb_iload (pc := 43) d_Shelf_endsWith_43 1 rfl ?_
          refine pb_callVS (pc := 45) (I := i_Shelf_endsWith) (k := k) (nA := 1) (rest := [.int i17]) (wr := [(h, .inr (3, [.ref sn, .ref sz, .ref sb, .ref sg, .int c])), (sn, .inl (G.2.1, 384, .inl sfn)), (sz, .inl (G.2.2.1, 16, .inl sfz))]) d_Shelf_endsWith_45 (g_Str_charAt hl G k j (by first | (with_reducible assumption) | omega (splitDisjunctions := false) | assumption | omega | decide) (by first | (with_reducible assumption) | omega (splitDisjunctions := false) | assumption | omega | decide) (by first | (with_reducible assumption) | omega (splitDisjunctions := false) | assumption | omega | decide)) hk rfl [] [0, 1, 2] (by decide) rfl rfl rfl (by decide) (by decide) k_754 rfl k_138 k_751 k_752 k_753 ⟨rfl, hy_JString_charAt⟩ (by decide) rfl rfl (Nat.le_of_ble_eq_true rfl) (by decide) (fun v9 u19 ch18 => ?_)
          obtain ⟨r_20, rfl⟩ : ∃ z9, z9 = u19 := ⟨_, rfl⟩
          obtain ⟨ech18, ch18⟩ := ch18
          have ech18 : v9 = some (.int r_20) := ech18
          subst ech18
          obtain ⟨fh21, fh22, fh23⟩ : (0 ≤ r_20.toInt) ∧ (r_20.toInt ≤ 255) ∧ (r_20.toInt = st_c k j.toInt) := ch18
          have cF9 := fh23
          refine pb_eq (pc' := 48) (lo' := [(3, .int fr), (4, .int j), (0, .ref h), (1, .int i), (2, .ref (G.2.2.2.2.2.1 k))]) (rest' := [.int r_20, .int i17]) (ws' := [(h, .inr (3, [.ref sn, .ref sz, .ref sb, .ref sg, .int c])), (sn, .inl (G.2.1, 384, .inl sfn)), (sz, .inl (G.2.2.1, 16, .inl sfz))]) ?_
          refine pb_icmp_eq (pc := 48) (tgt := 53) d_Shelf_endsWith_48 (by decide) (fun w24 => ?_) (fun w24 => ?_)
          · have tw24 : i17.toInt = r_20.toInt := (ti_eq rfl rfl).mp w24
            refine pb_iincN (pc := 53) (c := 1) d_Shelf_endsWith_53 1 rfl (by decide) (by decide) (fun i25 ei25 => ?_)
            have ti25 : i25.toInt = j.toInt + 1 := ti_add ei25 rfl (by decide) (by omega) (by omega)
            refine pb_eq (pc' := 56) (lo' := [(4, .int i25), (3, .int fr), (0, .ref h), (1, .int i), (2, .ref (G.2.2.2.2.2.1 k))]) (rest' := []) (ws' := [(h, .inr (3, [.ref sn, .ref sz, .ref sb, .ref sg, .int c])), (sn, .inl (G.2.1, 384, .inl sfn)), (sz, .inl (G.2.2.1, 16, .inl sfz))]) ?_
            refine pb_goto (pc := 56) (tgt := 15) d_Shelf_endsWith_56 (by decide) ?_
            refine pb_re (ws' := [(h, .inr (3, [.ref sn, .ref sz, .ref sb, .ref sg, .int c])), (sn, .inl (G.2.1, 384, .inl sfn)), (sz, .inl (G.2.2.1, 16, .inl sfz))]) (lo' := [(3, .int fr), (4, .int i25), (0, .ref h), (1, .int i), (2, .ref (G.2.2.2.2.2.1 k))]) [0, 1, 2] [1, 0, 2, 3, 4] (by decide) rfl rfl rfl ?_
            exact ih15 fr i25 (by first | (with_reducible assumption) | omega (splitDisjunctions := false) | assumption | omega | decide) (by first | (with_reducible assumption) | (exact omg_717929f615 ch8 tw12 ti25) | assumption | omega | decide) (by first | (with_reducible assumption) | omega (splitDisjunctions := false) | assumption | omega | decide) (by first | (with_reducible assumption) | omega (splitDisjunctions := false) | assumption | omega | decide) (fun x x0 x1 => if w9 : x < j.toInt then je x x0 w9 else by rw [show x = j.toInt by (exact omg_e822e67b55 ti25 x1 w9)]; omega) (by (exact omg_b30a0bed9f hm9 ch8 tw12 ti25))
          · have tw24 : ¬ i17.toInt = r_20.toInt := fun z9 => w24 ((ti_eq rfl rfl).mpr z9)
            refine pb_iconst (pc := 51) (v := 0) d_Shelf_endsWith_51 (by decide) ?_
            exact pb_iret (pc := 52) hQ d_Shelf_endsWith_52 rfl rfl (0) ⟨rfl, (by (try dsimp only); first | done | (with_reducible assumption) | omega (splitDisjunctions := false) | assumption | omega | decide), (by (try dsimp only); first | done | (with_reducible assumption) | omega (splitDisjunctions := false) | assumption | omega | decide), (show hid_ ((0 : Int32).toInt = 1 ↔ en6_ sfn sfz i.toInt k) from (hid_i ⟨fun q9 => absurd q9 (by omega), fun q9 => by have q8 := q9.1; have q7 := q9.2 j.toInt j0 (by omega); rw [← f0] at q7; omega⟩))⟩ [0, 1, 2] (by decide) rfl rfl (by decide) (by decide)
  refine pb_re (ws' := [(h, .inr (3, [.ref sn, .ref sz, .ref sb, .ref sg, .int c])), (sn, .inl (G.2.1, 384, .inl sfn)), (sz, .inl (G.2.2.1, 16, .inl sfz))]) (lo' := [(3, .int i6), (4, .int 0), (0, .ref h), (1, .int i), (2, .ref (G.2.2.2.2.2.1 k))]) [0, 1, 2] [1, 0, 2, 3, 4] (by decide) rfl rfl rfl ?_
  exact hL15_7 _ i6 0 (by first | (with_reducible assumption) | omega (splitDisjunctions := false) | assumption | omega | decide) (by first | (with_reducible assumption) | omega (splitDisjunctions := false) | assumption | omega | decide) (by first | (with_reducible assumption) | omega (splitDisjunctions := false) | assumption | omega | decide) (by first | (with_reducible assumption) | omega (splitDisjunctions := false) | assumption | omega | decide) (fun x x0 x1 => absurd x1 (by omega)) (Nat.lt_succ_self _)

theorem d_Shelf_isNamed_0 : decode prog_10_method_12_code 0 = .ok (.aload_n 0, 1) := by decide +kernel
theorem d_Shelf_isNamed_1 : decode prog_10_method_12_code 1 = .ok (.getfield 15, 3) := by decide +kernel
theorem d_Shelf_isNamed_4 : decode prog_10_method_12_code 4 = .ok (.iload_n 1, 1) := by decide +kernel
theorem d_Shelf_isNamed_5 : decode prog_10_method_12_code 5 = .ok (.iaload, 1) := by decide +kernel
theorem d_Shelf_isNamed_6 : decode prog_10_method_12_code 6 = .ok (.aload_n 2, 1) := by decide +kernel
theorem d_Shelf_isNamed_7 : decode prog_10_method_12_code 7 = .ok (.invokevirtual 59, 3) := by decide +kernel
theorem d_Shelf_isNamed_10 : decode prog_10_method_12_code 10 = .ok (.if_icmp .ne 16, 3) := by decide +kernel
theorem d_Shelf_isNamed_26 : decode prog_10_method_12_code 26 = .ok (.iconst 0, 1) := by decide +kernel
theorem d_Shelf_isNamed_27 : decode prog_10_method_12_code 27 = .ok (.ireturn, 1) := by decide +kernel
theorem d_Shelf_isNamed_13 : decode prog_10_method_12_code 13 = .ok (.aload_n 0, 1) := by decide +kernel
theorem d_Shelf_isNamed_14 : decode prog_10_method_12_code 14 = .ok (.iload_n 1, 1) := by decide +kernel
theorem d_Shelf_isNamed_15 : decode prog_10_method_12_code 15 = .ok (.aload_n 2, 1) := by decide +kernel
theorem d_Shelf_isNamed_16 : decode prog_10_method_12_code 16 = .ok (.invokevirtual 64, 3) := by decide +kernel
theorem k_737 : (Jvm.Cond.methodLink "PackageBook$Shelf" (64 : Nat) ({ cls := "PackageBook$Shelf", name := "endsWith", desc := "(ILjava/lang/String;)Z" } : Jvm.MethodName)) ∈ uW := uW_of 737 (by decide +kernel) (by decide +kernel)
theorem k_740 : (Jvm.Cond.code ({ cls := "PackageBook$Shelf", name := "endsWith", desc := "(ILjava/lang/String;)Z" } : Jvm.MethodName) prog_10_method_13_code (5 : Nat) (Option.some Jvm.ClassFile.FieldType.boolean)) ∈ uW := uW_of 740 (by decide +kernel) (by decide +kernel)
theorem k_739 : (Jvm.Cond.instanceMethod ({ cls := "PackageBook$Shelf", name := "endsWith", desc := "(ILjava/lang/String;)Z" } : Jvm.MethodName)) ∈ uW := uW_of 739 (by decide +kernel) (by decide +kernel)
theorem k_29 : Cond.selects "PackageBook$Shelf" ⟨"PackageBook$Shelf", "endsWith", "(ILjava/lang/String;)Z"⟩ ⟨"PackageBook$Shelf", "endsWith", "(ILjava/lang/String;)Z"⟩ ∈ uW := uW_of 29 (by decide +kernel) (by decide +kernel)
theorem hy_Shelf_endsWith : (y_Shelf_endsWith).cls ≠ "java/lang/invoke/MethodHandle" ∧ (y_Shelf_endsWith).cls ≠ "java/lang/invoke/VarHandle" ∧ (parseMethodDescriptor (y_Shelf_endsWith).desc).map (fun d => d.parameters.length) = some 2 := by decide +kernel
theorem d_Shelf_isNamed_19 : decode prog_10_method_12_code 19 = .ok (.ifCond .eq 7, 3) := by decide +kernel
theorem d_Shelf_isNamed_22 : decode prog_10_method_12_code 22 = .ok (.iconst 1, 1) := by decide +kernel
theorem d_Shelf_isNamed_23 : decode prog_10_method_12_code 23 = .ok (.goto 4, 3) := by decide +kernel
abbrev y_Shelf_isNamed : MethodName := ⟨"PackageBook$Shelf", "isNamed", "(ILjava/lang/String;)Z"⟩
abbrev i_Shelf_isNamed : pb_I := (y_Shelf_isNamed, prog_10_method_12_code, 3, (some Jvm.ClassFile.FieldType.boolean), [], { frames := 5, cells := 0, slots := 0, locals := 109 })
set_option maxRecDepth 100000 in
set_option maxHeartbeats 4000000 in
theorem g_Shelf_isNamed {l : Launch} (hl : l.stackTraces = false) (G : pb_G) (h : Nat) (sn : Nat) (sz : Nat) (sb : Nat) (sg : Nat) (c : Int32) (sfn : Nat → Int32) (sfz : Nat → Int32) (sfg : Nat → Int32) (i : Int32) (k : Nat) (I : sh_I c.toInt sfz sfg) (i0 : 0 ≤ i.toInt) (i1 : i.toInt < c.toInt) (hk : k < st_n) (F_sfn : sb_Fit sfn) : Cn l G i_Shelf_isNamed [.ref h, .int i, .ref (G.2.2.2.2.2.1 k)] [(h, .inr (3, [.ref sn, .ref sz, .ref sb, .ref sg, .int c])), (sn, .inl (G.2.1, 384, .inl sfn)), (sz, .inl (G.2.2.1, 16, .inl sfz))] (S := Int32) (fun rv_ u => rv_ = some (.int u) ∧ (u.toInt = 0 ∨ u.toInt = 1)) (fun u => [(h, .inr (3, [.ref sn, .ref sz, .ref sb, .ref sg, .int c])), (sn, .inl (G.2.1, 384, .inl sfn)), (sz, .inl (G.2.2.1, 16, .inl sfz))]) := by
  refine Cn.of hl (by decide +kernel) rfl (Nat.le_of_ble_eq_true rfl) (fun M hQ => ?_)
  refine pb_eq (pc' := 0) (lo' := [(0, .ref h), (1, .int i), (2, .ref (G.2.2.2.2.2.1 k))]) (rest' := []) (ws' := [(h, .inr (3, [.ref sn, .ref sz, .ref sb, .ref sg, .int c])), (sn, .inl (G.2.1, 384, .inl sfn)), (sz, .inl (G.2.2.1, 16, .inl sfz))]) ?_
  have zl0 : (0 : Int32).toInt = 0 := by decide
  have zl1 : (1 : Int32).toInt = 1 := by decide
  have q9 := I.2.1
  have q8 := I.2.2.2.2 i.toInt (by omega) (by omega)
  refine pb_aload_n (pc := 0) d_Shelf_isNamed_0 0 rfl rfl ?_
  refine pb_get (pc := 1) d_Shelf_isNamed_1 0 1 rfl rfl (by decide) in_Shelf k_392 rfl ?_
  refine pb_iload_n (pc := 4) d_Shelf_isNamed_4 1 rfl rfl ?_
  refine pb_iald (pc := 5) d_Shelf_isNamed_5 2 rfl (vp_in_iff.mpr (by constructor <;> omega)) ?_
  refine pb_topi (fun i1 ei1 => ?_)
  have ti1 : i1.toInt = gx sfz (i.toInt) := gx_ld ei1 rfl
  refine pb_aload_n (pc := 6) d_Shelf_isNamed_6 2 rfl rfl ?_
  refine pb_callVS (pc := 7) (I := i_Shelf_isNamed) (k := k) (nA := 0) (rest := [.int i1]) (wr := [(h, .inr (3, [.ref sn, .ref sz, .ref sb, .ref sg, .int c])), (sn, .inl (G.2.1, 384, .inl sfn)), (sz, .inl (G.2.2.1, 16, .inl sfz))]) d_Shelf_isNamed_7 (g_Str_length hl G k (by first | (with_reducible assumption) | omega (splitDisjunctions := false) | assumption | omega | decide)) hk rfl [] [0, 1, 2] (by decide) rfl rfl rfl (by decide) (by decide) k_744 rfl k_138 k_741 k_742 k_743 ⟨rfl, hy_JString_length⟩ (by decide) rfl rfl (Nat.le_of_ble_eq_true rfl) (by decide) (fun v9 u3 ch2 => ?_)
  obtain ⟨r_4, rfl⟩ : ∃ z9, z9 = u3 := ⟨_, rfl⟩
  obtain ⟨ech2, ch2⟩ := ch2
  have ech2 : v9 = some (.int r_4) := ech2
  subst ech2
  have fh5 : r_4.toInt = st_len k := ch2
  refine pb_eq (pc' := 10) (lo' := [(0, .ref h), (1, .int i), (2, .ref (G.2.2.2.2.2.1 k))]) (rest' := [.int r_4, .int i1]) (ws' := [(h, .inr (3, [.ref sn, .ref sz, .ref sb, .ref sg, .int c])), (sn, .inl (G.2.1, 384, .inl sfn)), (sz, .inl (G.2.2.1, 16, .inl sfz))]) ?_
  refine pb_icmp_ne (pc := 10) (tgt := 26) d_Shelf_isNamed_10 (by decide) (fun w6 => ?_) (fun w6 => ?_)
  · have tw6 : ¬ i1.toInt = r_4.toInt := fun z9 => w6 ((ti_eq rfl rfl).mpr z9)
    refine pb_iconst (pc := 26) (v := 0) d_Shelf_isNamed_26 (by decide) ?_
    exact pb_iret (pc := 27) hQ d_Shelf_isNamed_27 rfl rfl (0) ⟨rfl, (by (try dsimp only); first | done | (with_reducible assumption) | omega (splitDisjunctions := false) | assumption | omega | decide)⟩ [0, 1, 2] (by decide) rfl rfl (by decide) (by decide)
  · have tw6 : i1.toInt = r_4.toInt := (ti_eq rfl rfl).mp w6
    refine pb_aload_n (pc := 13) d_Shelf_isNamed_13 0 rfl rfl ?_
    refine pb_iload_n (pc := 14) d_Shelf_isNamed_14 1 rfl rfl ?_
    refine pb_aload_n (pc := 15) d_Shelf_isNamed_15 2 rfl rfl ?_
    refine pb_callV (pc := 16) (I := i_Shelf_isNamed) (qb := 0) (ci := 3) (nA := 2) (rest := []) (wr := []) d_Shelf_isNamed_16 (g_Shelf_endsWith hl G h sn sz sb sg c sfn sfz sfg i k (by first | (with_reducible assumption) | omega (splitDisjunctions := false) | assumption | omega | decide) (by first | (with_reducible assumption) | omega (splitDisjunctions := false) | assumption | omega | decide) (by first | (with_reducible assumption) | omega (splitDisjunctions := false) | assumption | omega | decide) (by first | (with_reducible assumption) | omega (splitDisjunctions := false) | assumption | omega | decide) F_sfn) rfl rfl [0, 1, 2] [] (by decide) rfl rfl rfl (by decide) (by decide) k_740 rfl k_127 k_737 k_739 k_29 ⟨rfl, hy_Shelf_endsWith⟩ (by decide) rfl rfl (Nat.le_of_ble_eq_true rfl) (by decide) (fun v9 u8 ch7 => ?_)
    obtain ⟨r_9, rfl⟩ : ∃ z9, z9 = u8 := ⟨_, rfl⟩
    obtain ⟨ech7, ch7⟩ := ch7
    have ech7 : v9 = some (.int r_9) := ech7
    subst ech7
    obtain ⟨fh10, fh11, fh12⟩ : (r_9.toInt = 0 ∨ r_9.toInt = 1) ∧ (r_9.toInt = 1 → 0 < st_len k → st_len k ≤ gx sfz i.toInt) ∧ (hid_ (r_9.toInt = 1 ↔ en6_ sfn sfz i.toInt k)) := ch7
    refine pb_eq (pc' := 19) (lo' := [(0, .ref h), (1, .int i), (2, .ref (G.2.2.2.2.2.1 k))]) (rest' := [.int r_9]) (ws' := [(h, .inr (3, [.ref sn, .ref sz, .ref sb, .ref sg, .int c])), (sn, .inl (G.2.1, 384, .inl sfn)), (sz, .inl (G.2.2.1, 16, .inl sfz))]) ?_
    refine pb_if_eq (pc := 19) (tgt := 26) d_Shelf_isNamed_19 (by decide) (fun w13 => ?_) (fun w13 => ?_)
    · have tw13 : r_9.toInt = 0 := (ti_eq rfl (by decide)).mp w13
      refine pb_iconst (pc := 26) (v := 0) d_Shelf_isNamed_26 (by decide) ?_
      exact pb_iret (pc := 27) hQ d_Shelf_isNamed_27 rfl rfl (0) ⟨rfl, (by (try dsimp only); first | done | (with_reducible assumption) | omega (splitDisjunctions := false) | assumption | omega | decide)⟩ [0, 1, 2] (by decide) rfl rfl (by decide) (by decide)
    · have tw13 : ¬ r_9.toInt = 0 := fun z9 => w13 ((ti_eq rfl (by decide)).mpr z9)
      refine pb_iconst (pc := 22) (v := 1) d_Shelf_isNamed_22 (by decide) ?_
      refine pb_goto (pc := 23) (tgt := 27) d_Shelf_isNamed_23 (by decide) ?_
      exact pb_iret (pc := 27) hQ d_Shelf_isNamed_27 rfl rfl (1) ⟨rfl, (by (try dsimp only); first | done | (with_reducible assumption) | omega (splitDisjunctions := false) | assumption | omega | decide)⟩ [0, 1, 2] (by decide) rfl rfl (by decide) (by decide)

theorem d_Shelf_isTeller_0 : decode prog_10_method_14_code 0 = .ok (.aload_n 0, 1) := by decide +kernel
theorem d_Shelf_isTeller_1 : decode prog_10_method_14_code 1 = .ok (.iload_n 1, 1) := by decide +kernel
theorem d_Shelf_isTeller_2 : decode prog_10_method_14_code 2 = .ok (.ldc 72, 2) := by decide +kernel
theorem d_Shelf_isTeller_4 : decode prog_10_method_14_code 4 = .ok (.invokevirtual 64, 3) := by decide +kernel
theorem d_Shelf_isTeller_7 : decode prog_10_method_14_code 7 = .ok (.ifCond .eq 34, 3) := by decide +kernel
theorem d_Shelf_isTeller_41 : decode prog_10_method_14_code 41 = .ok (.iconst 0, 1) := by decide +kernel
theorem d_Shelf_isTeller_42 : decode prog_10_method_14_code 42 = .ok (.ireturn, 1) := by decide +kernel
theorem d_Shelf_isTeller_10 : decode prog_10_method_14_code 10 = .ok (.aload_n 0, 1) := by decide +kernel
theorem d_Shelf_isTeller_11 : decode prog_10_method_14_code 11 = .ok (.aload_n 0, 1) := by decide +kernel
theorem d_Shelf_isTeller_12 : decode prog_10_method_14_code 12 = .ok (.getfield 9, 3) := by decide +kernel
theorem d_Shelf_isTeller_15 : decode prog_10_method_14_code 15 = .ok (.bipush 24, 2) := by decide +kernel
theorem d_Shelf_isTeller_17 : decode prog_10_method_14_code 17 = .ok (.iload_n 1, 1) := by decide +kernel
theorem d_Shelf_isTeller_18 : decode prog_10_method_14_code 18 = .ok (.imul, 1) := by decide +kernel
theorem d_Shelf_isTeller_19 : decode prog_10_method_14_code 19 = .ok (.aload_n 0, 1) := by decide +kernel
theorem d_Shelf_isTeller_20 : decode prog_10_method_14_code 20 = .ok (.getfield 15, 3) := by decide +kernel
theorem d_Shelf_isTeller_23 : decode prog_10_method_14_code 23 = .ok (.iload_n 1, 1) := by decide +kernel
theorem d_Shelf_isTeller_24 : decode prog_10_method_14_code 24 = .ok (.iaload, 1) := by decide +kernel
theorem d_Shelf_isTeller_25 : decode prog_10_method_14_code 25 = .ok (.ldc 72, 2) := by decide +kernel
theorem d_Shelf_isTeller_27 : decode prog_10_method_14_code 27 = .ok (.invokevirtual 59, 3) := by decide +kernel
theorem d_Shelf_isTeller_30 : decode prog_10_method_14_code 30 = .ok (.isub, 1) := by decide +kernel
theorem d_Shelf_isTeller_31 : decode prog_10_method_14_code 31 = .ok (.invokevirtual 74, 3) := by decide +kernel
theorem k_789 : (Jvm.Cond.methodLink "PackageBook$Shelf" (74 : Nat) ({ cls := "PackageBook$Shelf", name := "find", desc := "([BII)I" } : Jvm.MethodName)) ∈ uW := uW_of 789 (by decide +kernel) (by decide +kernel)
theorem k_462 : (Jvm.Cond.code ({ cls := "PackageBook$Shelf", name := "find", desc := "([BII)I" } : Jvm.MethodName) prog_10_method_6_code (5 : Nat) (Option.some Jvm.ClassFile.FieldType.int)) ∈ uW := uW_of 462 (by decide +kernel) (by decide +kernel)
theorem k_460 : (Jvm.Cond.instanceMethod ({ cls := "PackageBook$Shelf", name := "find", desc := "([BII)I" } : Jvm.MethodName)) ∈ uW := uW_of 460 (by decide +kernel) (by decide +kernel)
theorem k_461 : (Jvm.Cond.selects "PackageBook$Shelf" ({ cls := "PackageBook$Shelf", name := "find", desc := "([BII)I" } : Jvm.MethodName) ({ cls := "PackageBook$Shelf", name := "find", desc := "([BII)I" } : Jvm.MethodName)) ∈ uW := uW_of 461 (by decide +kernel) (by decide +kernel)
theorem hy_Shelf_find : (y_Shelf_find).cls ≠ "java/lang/invoke/MethodHandle" ∧ (y_Shelf_find).cls ≠ "java/lang/invoke/VarHandle" ∧ (parseMethodDescriptor (y_Shelf_find).desc).map (fun d => d.parameters.length) = some 3 := by decide +kernel
theorem d_Shelf_isTeller_34 : decode prog_10_method_14_code 34 = .ok (.ifCond .lt 7, 3) := by decide +kernel
theorem d_Shelf_isTeller_37 : decode prog_10_method_14_code 37 = .ok (.iconst 1, 1) := by decide +kernel
theorem d_Shelf_isTeller_38 : decode prog_10_method_14_code 38 = .ok (.goto 4, 3) := by decide +kernel
abbrev y_Shelf_isTeller : MethodName := ⟨"PackageBook$Shelf", "isTeller", "(I)Z"⟩
abbrev i_Shelf_isTeller : pb_I := (y_Shelf_isTeller, prog_10_method_14_code, 2, (some Jvm.ClassFile.FieldType.boolean), [], { frames := 5, cells := 0, slots := 0, locals := 109 })
set_option maxRecDepth 100000 in
set_option maxHeartbeats 4000000 in
theorem g_Shelf_isTeller {l : Launch} (hl : l.stackTraces = false) (G : pb_G) (h : Nat) (sn : Nat) (sz : Nat) (sb : Nat) (sg : Nat) (c : Int32) (sfn : Nat → Int32) (sfz : Nat → Int32) (sfg : Nat → Int32) (i : Int32) (I : sh_I c.toInt sfz sfg) (i0 : 0 ≤ i.toInt) (i1 : i.toInt < c.toInt) (F_sfn : sb_Fit sfn) : Cn l G i_Shelf_isTeller [.ref h, .int i] [(h, .inr (3, [.ref sn, .ref sz, .ref sb, .ref sg, .int c])), (sn, .inl (G.2.1, 384, .inl sfn)), (sz, .inl (G.2.2.1, 16, .inl sfz))] (S := Int32) (fun rv_ u => rv_ = some (.int u) ∧ (u.toInt = 0 ∨ u.toInt = 1)) (fun u => [(h, .inr (3, [.ref sn, .ref sz, .ref sb, .ref sg, .int c])), (sn, .inl (G.2.1, 384, .inl sfn)), (sz, .inl (G.2.2.1, 16, .inl sfz))]) := by
  refine Cn.of hl (by decide +kernel) rfl (Nat.le_of_ble_eq_true rfl) (fun M hQ => ?_)
  refine pb_eq (pc' := 0) (lo' := [(0, .ref h), (1, .int i)]) (rest' := []) (ws' := [(h, .inr (3, [.ref sn, .ref sz, .ref sb, .ref sg, .int c])), (sn, .inl (G.2.1, 384, .inl sfn)), (sz, .inl (G.2.2.1, 16, .inl sfz))]) ?_
  have zl0 : (0 : Int32).toInt = 0 := by decide
  have zl1 : (1 : Int32).toInt = 1 := by decide
  have zl24 : (24 : Int32).toInt = 24 := by decide
  have q9 := I.2.1
  have q8 := I.2.2.2.2 i.toInt (by omega) (by omega)
  have s5 : st_len 0 = 5 := by decide +kernel
  refine pb_aload_n (pc := 0) d_Shelf_isTeller_0 0 rfl rfl ?_
  refine pb_iload_n (pc := 1) d_Shelf_isTeller_1 1 rfl rfl ?_
  refine pb_ldcS (pc := 2) (k := 0) d_Shelf_isTeller_2 rfl (by decide) ?_
  refine pb_callV (pc := 4) (I := i_Shelf_isTeller) (qb := 0) (ci := 3) (nA := 2) (rest := []) (wr := []) d_Shelf_isTeller_4 (g_Shelf_endsWith hl G h sn sz sb sg c sfn sfz sfg i 0 (by first | omega | assumption | decide +kernel) (by first | omega | assumption | decide +kernel) (by first | omega | assumption | decide +kernel) (by first | omega | assumption | decide +kernel) F_sfn) rfl rfl [0, 1, 2] [] (by decide) rfl rfl rfl (by decide) (by decide) k_740 rfl k_127 k_737 k_739 k_29 ⟨rfl, hy_Shelf_endsWith⟩ (by decide) rfl rfl (Nat.le_of_ble_eq_true rfl) (by decide) (fun v9 u2 ch1 => ?_)
  obtain ⟨r_3, rfl⟩ : ∃ z9, z9 = u2 := ⟨_, rfl⟩
  obtain ⟨ech1, ch1⟩ := ch1
  have ech1 : v9 = some (.int r_3) := ech1
  subst ech1
  obtain ⟨fh4, fh5, fh6⟩ : (r_3.toInt = 0 ∨ r_3.toInt = 1) ∧ (r_3.toInt = 1 → 0 < st_len 0 → st_len 0 ≤ gx sfz i.toInt) ∧ (hid_ (r_3.toInt = 1 ↔ en6_ sfn sfz i.toInt 0)) := ch1
  refine pb_eq (pc' := 7) (lo' := [(0, .ref h), (1, .int i)]) (rest' := [.int r_3]) (ws' := [(h, .inr (3, [.ref sn, .ref sz, .ref sb, .ref sg, .int c])), (sn, .inl (G.2.1, 384, .inl sfn)), (sz, .inl (G.2.2.1, 16, .inl sfz))]) ?_
  refine pb_if_eq (pc := 7) (tgt := 41) d_Shelf_isTeller_7 (by decide) (fun w7 => ?_) (fun w7 => ?_)
  · have tw7 : r_3.toInt = 0 := (ti_eq rfl (by decide)).mp w7
    refine pb_iconst (pc := 41) (v := 0) d_Shelf_isTeller_41 (by decide) ?_
    exact pb_iret (pc := 42) hQ d_Shelf_isTeller_42 rfl rfl (0) ⟨rfl, (by (try dsimp only); first | done | (with_reducible assumption) | omega (splitDisjunctions := false) | assumption | omega | decide)⟩ [0, 1, 2] (by decide) rfl rfl (by decide) (by decide)
  · have tw7 : ¬ r_3.toInt = 0 := fun z9 => w7 ((ti_eq rfl (by decide)).mpr z9)
    refine pb_aload_n (pc := 10) d_Shelf_isTeller_10 0 rfl rfl ?_
    refine pb_aload_n (pc := 11) d_Shelf_isTeller_11 0 rfl rfl ?_
    refine pb_get (pc := 12) d_Shelf_isTeller_12 0 0 rfl rfl (by decide) in_Shelf k_389 rfl ?_
    refine pb_bipush (pc := 15) (v := 24) d_Shelf_isTeller_15 (by decide) ?_
    refine pb_iload_n (pc := 17) d_Shelf_isTeller_17 1 rfl rfl ?_
    refine pb_imul (pc := 18) d_Shelf_isTeller_18 ?_
    refine pb_topi (fun i8 ei8 => ?_)
    try have ti8 : i8.toInt = 24 * i.toInt := ti_mul ei8 (by decide) rfl (by omega) (by omega)
    refine pb_aload_n (pc := 19) d_Shelf_isTeller_19 0 rfl rfl ?_
    refine pb_get (pc := 20) d_Shelf_isTeller_20 0 1 rfl rfl (by decide) in_Shelf k_392 rfl ?_
    refine pb_iload_n (pc := 23) d_Shelf_isTeller_23 1 rfl rfl ?_
    refine pb_iald (pc := 24) d_Shelf_isTeller_24 2 rfl (vp_in_iff.mpr (by constructor <;> omega)) ?_
    refine pb_topi (fun i9 ei9 => ?_)
    have ti9 : i9.toInt = gx sfz (i.toInt) := gx_ld ei9 rfl
    refine pb_ldcS (pc := 25) (k := 0) d_Shelf_isTeller_25 rfl (by decide) ?_
    refine pb_callVS (pc := 27) (I := i_Shelf_isTeller) (k := 0) (nA := 0) (rest := [.int i9, .int i8, .ref sn, .ref h]) (wr := [(h, .inr (3, [.ref sn, .ref sz, .ref sb, .ref sg, .int c])), (sn, .inl (G.2.1, 384, .inl sfn)), (sz, .inl (G.2.2.1, 16, .inl sfz))]) d_Shelf_isTeller_27 (g_Str_length hl G 0 (by first | omega | assumption | decide +kernel)) (by decide) rfl [] [0, 1, 2] (by decide) rfl rfl rfl (by decide) (by decide) k_744 rfl k_138 k_741 k_742 k_743 ⟨rfl, hy_JString_length⟩ (by decide) rfl rfl (Nat.le_of_ble_eq_true rfl) (by decide) (fun v9 u11 ch10 => ?_)
    obtain ⟨r_12, rfl⟩ : ∃ z9, z9 = u11 := ⟨_, rfl⟩
    obtain ⟨ech10, ch10⟩ := ch10
    have ech10 : v9 = some (.int r_12) := ech10
    subst ech10
    have fh13 : r_12.toInt = st_len 0 := ch10
    refine pb_eq (pc' := 30) (lo' := [(0, .ref h), (1, .int i)]) (rest' := [.int r_12, .int i9, .int i8, .ref sn, .ref h]) (ws' := [(h, .inr (3, [.ref sn, .ref sz, .ref sb, .ref sg, .int c])), (sn, .inl (G.2.1, 384, .inl sfn)), (sz, .inl (G.2.2.1, 16, .inl sfz))]) ?_
    refine pb_isub (pc := 30) d_Shelf_isTeller_30 ?_
    refine pb_topi (fun i14 ei14 => ?_)
    try have ti14 : i14.toInt = i9.toInt - r_12.toInt := ti_sub ei14 rfl rfl (by omega) (by omega)
    refine pb_callV (pc := 31) (I := i_Shelf_isTeller) (qb := 0) (ci := 3) (nA := 3) (rest := []) (wr := []) d_Shelf_isTeller_31 (g_Shelf_find1 hl G h sn sz sb sg c sfn sfz sfg i8 i14 (cN_ c.toInt sfn sfz) cN_R (by first | omega | assumption | decide +kernel) (by first | omega | assumption | decide +kernel) (by first | omega | assumption | decide +kernel) F_sfn) rfl rfl [0, 1, 2] [] (by decide) rfl rfl rfl (by decide) (by decide) k_462 rfl k_127 k_789 k_460 k_461 ⟨rfl, hy_Shelf_find⟩ (by decide) rfl rfl (Nat.le_of_ble_eq_true rfl) (by decide) (fun v9 u16 ch15 => ?_)
    obtain ⟨r_17, rfl⟩ : ∃ z9, z9 = u16 := ⟨_, rfl⟩
    obtain ⟨ech15, ch15⟩ := ch15
    have ech15 : v9 = some (.int r_17) := ech15
    subst ech15
    obtain ⟨fh18, fh19, fh20⟩ : (-1 ≤ r_17.toInt) ∧ (r_17.toInt < c.toInt) ∧ (isF_ (cN_ c.toInt sfn sfz) i14.toInt (fun k => gx sfn (i8.toInt + k)) r_17.toInt) := ch15
    refine pb_eq (pc' := 34) (lo' := [(0, .ref h), (1, .int i)]) (rest' := [.int r_17]) (ws' := [(h, .inr (3, [.ref sn, .ref sz, .ref sb, .ref sg, .int c])), (sn, .inl (G.2.1, 384, .inl sfn)), (sz, .inl (G.2.2.1, 16, .inl sfz))]) ?_
    refine pb_if_lt (pc := 34) (tgt := 41) d_Shelf_isTeller_34 (by decide) (fun w21 => ?_) (fun w21 => ?_)
    · have tw21 : r_17.toInt < 0 := (ti_lt rfl (by decide)).mp w21
      refine pb_iconst (pc := 41) (v := 0) d_Shelf_isTeller_41 (by decide) ?_
      exact pb_iret (pc := 42) hQ d_Shelf_isTeller_42 rfl rfl (0) ⟨rfl, (by (try dsimp only); first | done | (with_reducible assumption) | omega (splitDisjunctions := false) | assumption | omega | decide)⟩ [0, 1, 2] (by decide) rfl rfl (by decide) (by decide)
    · have tw21 : ¬ r_17.toInt < 0 := fun z9 => w21 ((ti_lt rfl (by decide)).mpr z9)
      refine pb_iconst (pc := 37) (v := 1) d_Shelf_isTeller_37 (by decide) ?_
      refine pb_goto (pc := 38) (tgt := 42) d_Shelf_isTeller_38 (by decide) ?_
      exact pb_iret (pc := 42) hQ d_Shelf_isTeller_42 rfl rfl (1) ⟨rfl, (by (try dsimp only); first | done | (with_reducible assumption) | omega (splitDisjunctions := false) | assumption | omega | decide)⟩ [0, 1, 2] (by decide) rfl rfl (by decide) (by decide)

theorem d_Shelf_tellerOf_0 : decode prog_10_method_15_code 0 = .ok (.aload_n 0, 1) := by decide +kernel
theorem d_Shelf_tellerOf_1 : decode prog_10_method_15_code 1 = .ok (.getfield 15, 3) := by decide +kernel
theorem d_Shelf_tellerOf_4 : decode prog_10_method_15_code 4 = .ok (.iload_n 1, 1) := by decide +kernel
theorem d_Shelf_tellerOf_5 : decode prog_10_method_15_code 5 = .ok (.iaload, 1) := by decide +kernel
theorem d_Shelf_tellerOf_6 : decode prog_10_method_15_code 6 = .ok (.istore_n 2, 1) := by decide +kernel
theorem d_Shelf_tellerOf_7 : decode prog_10_method_15_code 7 = .ok (.iconst 0, 1) := by decide +kernel
theorem d_Shelf_tellerOf_8 : decode prog_10_method_15_code 8 = .ok (.istore_n 3, 1) := by decide +kernel
theorem d_Shelf_tellerOf_9 : decode prog_10_method_15_code 9 = .ok (.iload_n 3, 1) := by decide +kernel
theorem d_Shelf_tellerOf_10 : decode prog_10_method_15_code 10 = .ok (.aload_n 0, 1) := by decide +kernel
theorem d_Shelf_tellerOf_11 : decode prog_10_method_15_code 11 = .ok (.getfield 25, 3) := by decide +kernel
theorem d_Shelf_tellerOf_14 : decode prog_10_method_15_code 14 = .ok (.if_icmp .ge 60, 3) := by decide +kernel
theorem d_Shelf_tellerOf_74 : decode prog_10_method_15_code 74 = .ok (.iconst (-1), 1) := by decide +kernel
theorem d_Shelf_tellerOf_75 : decode prog_10_method_15_code 75 = .ok (.ireturn, 1) := by decide +kernel
theorem d_Shelf_tellerOf_17 : decode prog_10_method_15_code 17 = .ok (.aload_n 0, 1) := by decide +kernel
theorem d_Shelf_tellerOf_18 : decode prog_10_method_15_code 18 = .ok (.getfield 15, 3) := by decide +kernel
theorem d_Shelf_tellerOf_21 : decode prog_10_method_15_code 21 = .ok (.iload_n 3, 1) := by decide +kernel
theorem d_Shelf_tellerOf_22 : decode prog_10_method_15_code 22 = .ok (.iaload, 1) := by decide +kernel
theorem d_Shelf_tellerOf_23 : decode prog_10_method_15_code 23 = .ok (.iload_n 2, 1) := by decide +kernel
theorem d_Shelf_tellerOf_24 : decode prog_10_method_15_code 24 = .ok (.ldc 72, 2) := by decide +kernel
theorem d_Shelf_tellerOf_26 : decode prog_10_method_15_code 26 = .ok (.invokevirtual 59, 3) := by decide +kernel
theorem d_Shelf_tellerOf_29 : decode prog_10_method_15_code 29 = .ok (.iadd, 1) := by decide +kernel
theorem d_Shelf_tellerOf_30 : decode prog_10_method_15_code 30 = .ok (.if_icmp .ne 38, 3) := by decide +kernel
theorem d_Shelf_tellerOf_68 : decode prog_10_method_15_code 68 = .ok (.iinc 3 1, 3) := by decide +kernel
theorem d_Shelf_tellerOf_71 : decode prog_10_method_15_code 71 = .ok (.goto (-62), 3) := by decide +kernel
theorem d_Shelf_tellerOf_33 : decode prog_10_method_15_code 33 = .ok (.aload_n 0, 1) := by decide +kernel
theorem d_Shelf_tellerOf_34 : decode prog_10_method_15_code 34 = .ok (.iload_n 3, 1) := by decide +kernel
theorem d_Shelf_tellerOf_35 : decode prog_10_method_15_code 35 = .ok (.ldc 72, 2) := by decide +kernel
theorem d_Shelf_tellerOf_37 : decode prog_10_method_15_code 37 = .ok (.invokevirtual 64, 3) := by decide +kernel
theorem d_Shelf_tellerOf_40 : decode prog_10_method_15_code 40 = .ok (.ifCond .eq 28, 3) := by decide +kernel
theorem d_Shelf_tellerOf_43 : decode prog_10_method_15_code 43 = .ok (.aload_n 0, 1) := by decide +kernel
theorem d_Shelf_tellerOf_44 : decode prog_10_method_15_code 44 = .ok (.getfield 9, 3) := by decide +kernel
theorem d_Shelf_tellerOf_47 : decode prog_10_method_15_code 47 = .ok (.bipush 24, 2) := by decide +kernel
theorem d_Shelf_tellerOf_49 : decode prog_10_method_15_code 49 = .ok (.iload_n 1, 1) := by decide +kernel
theorem d_Shelf_tellerOf_50 : decode prog_10_method_15_code 50 = .ok (.imul, 1) := by decide +kernel
theorem d_Shelf_tellerOf_51 : decode prog_10_method_15_code 51 = .ok (.aload_n 0, 1) := by decide +kernel
theorem d_Shelf_tellerOf_52 : decode prog_10_method_15_code 52 = .ok (.getfield 9, 3) := by decide +kernel
theorem d_Shelf_tellerOf_55 : decode prog_10_method_15_code 55 = .ok (.bipush 24, 2) := by decide +kernel
theorem d_Shelf_tellerOf_57 : decode prog_10_method_15_code 57 = .ok (.iload_n 3, 1) := by decide +kernel
theorem d_Shelf_tellerOf_58 : decode prog_10_method_15_code 58 = .ok (.imul, 1) := by decide +kernel
theorem d_Shelf_tellerOf_59 : decode prog_10_method_15_code 59 = .ok (.iload_n 2, 1) := by decide +kernel
theorem d_Shelf_tellerOf_60 : decode prog_10_method_15_code 60 = .ok (.invokestatic 29, 3) := by decide +kernel
theorem d_Shelf_tellerOf_63 : decode prog_10_method_15_code 63 = .ok (.ifCond .eq 5, 3) := by decide +kernel
theorem d_Shelf_tellerOf_66 : decode prog_10_method_15_code 66 = .ok (.iload_n 3, 1) := by decide +kernel
theorem d_Shelf_tellerOf_67 : decode prog_10_method_15_code 67 = .ok (.ireturn, 1) := by decide +kernel
abbrev y_Shelf_tellerOf : MethodName := ⟨"PackageBook$Shelf", "tellerOf", "(I)I"⟩
abbrev i_Shelf_tellerOf : pb_I := (y_Shelf_tellerOf, prog_10_method_15_code, 4, (some Jvm.ClassFile.FieldType.int), [], { frames := 5, cells := 0, slots := 0, locals := 109 })
set_option maxRecDepth 100000 in
set_option maxHeartbeats 4000000 in
theorem g_Shelf_tellerOf {l : Launch} (hl : l.stackTraces = false) (G : pb_G) (h : Nat) (sn : Nat) (sz : Nat) (sb : Nat) (sg : Nat) (c : Int32) (sfn : Nat → Int32) (sfz : Nat → Int32) (sfg : Nat → Int32) (i : Int32) (I : sh_I c.toInt sfz sfg) (i0 : 0 ≤ i.toInt) (i1 : i.toInt < c.toInt) (F_sfn : sb_Fit sfn) : Cn l G i_Shelf_tellerOf [.ref h, .int i] [(h, .inr (3, [.ref sn, .ref sz, .ref sb, .ref sg, .int c])), (sn, .inl (G.2.1, 384, .inl sfn)), (sz, .inl (G.2.2.1, 16, .inl sfz))] (S := Int32) (fun rv_ u => rv_ = some (.int u) ∧ (-1 ≤ u.toInt) ∧ (u.toInt < c.toInt) ∧ (isF_ (cN_ c.toInt sfn sfz) (gx sfz i.toInt + 5) (tn6_ (cN_ c.toInt sfn sfz) i.toInt) u.toInt)) (fun u => [(h, .inr (3, [.ref sn, .ref sz, .ref sb, .ref sg, .int c])), (sn, .inl (G.2.1, 384, .inl sfn)), (sz, .inl (G.2.2.1, 16, .inl sfz))]) := by
  refine Cn.of hl (by decide +kernel) rfl (Nat.le_of_ble_eq_true rfl) (fun M hQ => ?_)
  refine pb_eq (pc' := 0) (lo' := [(0, .ref h), (1, .int i)]) (rest' := []) (ws' := [(h, .inr (3, [.ref sn, .ref sz, .ref sb, .ref sg, .int c])), (sn, .inl (G.2.1, 384, .inl sfn)), (sz, .inl (G.2.2.1, 16, .inl sfz))]) ?_
  have zm1 : ((-1) : Int32).toInt = (-1) := by decide
  have zl0 : (0 : Int32).toInt = 0 := by decide
  have zl1 : (1 : Int32).toInt = 1 := by decide
  have zl24 : (24 : Int32).toInt = 24 := by decide
  have q9 := I.2.1
  have q8 := I.2.2.2.2 i.toInt (by omega) (by omega)
  have s5 : st_len 0 = 5 := by decide +kernel
  refine pb_aload_n (pc := 0) d_Shelf_tellerOf_0 0 rfl rfl ?_
  refine pb_get (pc := 1) d_Shelf_tellerOf_1 0 1 rfl rfl (by decide) in_Shelf k_392 rfl ?_
  refine pb_iload_n (pc := 4) d_Shelf_tellerOf_4 1 rfl rfl ?_
  refine pb_iald (pc := 5) d_Shelf_tellerOf_5 2 rfl (vp_in_iff.mpr (by constructor <;> omega)) ?_
  refine pb_topi (fun i1 ei1 => ?_)
  have ti1 : i1.toInt = gx sfz (i.toInt) := gx_ld ei1 rfl
  refine pb_istore_n (pc := 6) (lo' := [(2, .int i1), (0, .ref h), (1, .int i)]) d_Shelf_tellerOf_6 rfl (by decide) rfl ?_
  refine pb_iconst (pc := 7) (v := 0) d_Shelf_tellerOf_7 (by decide) ?_
  refine pb_istore_n (pc := 8) (lo' := [(3, .int 0), (2, .int i1), (0, .ref h), (1, .int i)]) d_Shelf_tellerOf_8 rfl (by decide) rfl ?_
  have hL9_2 : ∀ (N9 : Nat) (sz_ : Int32) (j : Int32), (0 ≤ j.toInt) → (j.toInt ≤ c.toInt) → (sz_.toInt = gx sfz i.toInt) → (∀ x : Int, 0 ≤ x → x < j.toInt → ¬ nE_ (cN_ c.toInt sfn sfz) x (gx sfz i.toInt + 5) (tn6_ (cN_ c.toInt sfn sfz) i.toInt)) → ((c.toInt - j.toInt).toNat) < N9 → pb_P l G M i_Shelf_tellerOf 9 [(2, .int sz_), (3, .int j), (0, .ref h), (1, .int i)] [] [(h, .inr (3, [.ref sn, .ref sz, .ref sb, .ref sg, .int c])), (sn, .inl (G.2.1, 384, .inl sfn)), (sz, .inl (G.2.2.1, 16, .inl sfz))] 0 0 := by
    intro N9
    induction N9 with
    | zero => intro sz_ j j0 j1 z0 jn hm9; exact absurd hm9 (Nat.not_lt_zero _)
    | succ N9 ih9 =>
      intro sz_ j j0 j1 z0 jn hm9
      refine pb_iload_n (pc := 9) d_Shelf_tellerOf_9 1 rfl rfl ?_
      refine pb_aload_n (pc := 10) d_Shelf_tellerOf_10 2 rfl rfl ?_
      refine pb_get (pc := 11) d_Shelf_tellerOf_11 0 4 rfl rfl (by decide) in_Shelf k_403 rfl ?_
      refine pb_icmp_ge (pc := 14) (tgt := 74) d_Shelf_tellerOf_14 (by decide) (fun w3 => ?_) (fun w3 => ?_)
      · have tw3 : c.toInt ≤ j.toInt := (ti_le rfl rfl).mp w3
        refine pb_iconst (pc := 74) (v := (-1)) d_Shelf_tellerOf_74 (by decide) ?_
        exact pb_iret (pc := 75) hQ d_Shelf_tellerOf_75 rfl rfl ((-1)) ⟨rfl, (by (try dsimp only); first | done | (with_reducible assumption) | omega (splitDisjunctions := false) | assumption | omega | decide), (by (try dsimp only); first | done | (with_reducible assumption) | omega (splitDisjunctions := false) | assumption | omega | decide), (show isF_ (cN_ c.toInt sfn sfz) (gx sfz i.toInt + 5) (tn6_ (cN_ c.toInt sfn sfz) i.toInt) ((-1) : Int32).toInt from (Or.inr ⟨by decide, fun x x0 x1 => jn x x0 (by have q9 : x < c.toInt := x1; omega)⟩))⟩ [0, 1, 2] (by decide) rfl rfl (by decide) (by decide)
      · have tw3 : ¬ c.toInt ≤ j.toInt := fun z9 => w3 ((ti_le rfl rfl).mpr z9)
        refine pb_aload_n (pc := 17) d_Shelf_tellerOf_17 2 rfl rfl ?_
        refine pb_get (pc := 18) d_Shelf_tellerOf_18 0 1 rfl rfl (by decide) in_Shelf k_392 rfl ?_
        refine pb_iload_n (pc := 21) d_Shelf_tellerOf_21 1 rfl rfl ?_
        refine pb_iald (pc := 22) d_Shelf_tellerOf_22 2 rfl (vp_in_iff.mpr (by constructor <;> omega)) ?_
        refine pb_topi (fun i4 ei4 => ?_)
        have ti4 : i4.toInt = gx sfz (j.toInt) := gx_ld ei4 rfl
        refine pb_iload_n (pc := 23) d_Shelf_tellerOf_23 0 rfl rfl ?_
        refine pb_ldcS (pc := 24) (k := 0) d_Shelf_tellerOf_24 rfl (by decide) ?_
        refine pb_callVS (pc := 26) (I := i_Shelf_tellerOf) (k := 0) (nA := 0) (rest := [.int sz_, .int i4]) (wr := [(h, .inr (3, [.ref sn, .ref sz, .ref sb, .ref sg, .int c])), (sn, .inl (G.2.1, 384, .inl sfn)), (sz, .inl (G.2.2.1, 16, .inl sfz))]) d_Shelf_tellerOf_26 (g_Str_length hl G 0 (by first | omega | assumption | decide +kernel)) (by decide) rfl [] [0, 1, 2] (by decide) rfl rfl rfl (by decide) (by decide) k_744 rfl k_138 k_741 k_742 k_743 ⟨rfl, hy_JString_length⟩ (by decide) rfl rfl (Nat.le_of_ble_eq_true rfl) (by decide) (fun v9 u6 ch5 => ?_)
        obtain ⟨r_7, rfl⟩ : ∃ z9, z9 = u6 := ⟨_, rfl⟩
        obtain ⟨ech5, ch5⟩ := ch5
        have ech5 : v9 = some (.int r_7) := ech5
        subst ech5
        have fh8 : r_7.toInt = st_len 0 := ch5
        refine pb_eq (pc' := 29) (lo' := [(2, .int sz_), (3, .int j), (0, .ref h), (1, .int i)]) (rest' := [.int r_7, .int sz_, .int i4]) (ws' := [(h, .inr (3, [.ref sn, .ref sz, .ref sb, .ref sg, .int c])), (sn, .inl (G.2.1, 384, .inl sfn)), (sz, .inl (G.2.2.1, 16, .inl sfz))]) ?_
        refine pb_iadd (pc := 29) d_Shelf_tellerOf_29 ?_
        refine pb_topi (fun i9 ei9 => ?_)
        try have ti9 : i9.toInt = sz_.toInt + r_7.toInt := ti_add ei9 rfl rfl (by omega) (by omega)
        refine pb_icmp_ne (pc := 30) (tgt := 68) d_Shelf_tellerOf_30 (by decide) (fun w10 => ?_) (fun w10 => ?_)
        · have tw10 : ¬ i4.toInt = i9.toInt := fun z9 => w10 ((ti_eq rfl rfl).mpr z9)
          refine pb_iincN (pc := 68) (c := 1) d_Shelf_tellerOf_68 1 rfl (by decide) (by decide) (fun i11 ei11 => ?_)
          have ti11 : i11.toInt = j.toInt + 1 := ti_add ei11 rfl (by decide) (by omega) (by omega)
          refine pb_eq (pc' := 71) (lo' := [(3, .int i11), (2, .int sz_), (0, .ref h), (1, .int i)]) (rest' := []) (ws' := [(h, .inr (3, [.ref sn, .ref sz, .ref sb, .ref sg, .int c])), (sn, .inl (G.2.1, 384, .inl sfn)), (sz, .inl (G.2.2.1, 16, .inl sfz))]) ?_
          refine pb_goto (pc := 71) (tgt := 9) d_Shelf_tellerOf_71 (by decide) ?_
          refine pb_re (ws' := [(h, .inr (3, [.ref sn, .ref sz, .ref sb, .ref sg, .int c])), (sn, .inl (G.2.1, 384, .inl sfn)), (sz, .inl (G.2.2.1, 16, .inl sfz))]) (lo' := [(2, .int sz_), (3, .int i11), (0, .ref h), (1, .int i)]) [0, 1, 2] [1, 0, 2, 3] (by decide) rfl rfl rfl ?_
          exact ih9 sz_ i11 (by first | (with_reducible assumption) | omega (splitDisjunctions := false) | assumption | omega | decide) (by first | (with_reducible assumption) | omega (splitDisjunctions := false) | assumption | omega | decide) (by first | (with_reducible assumption) | omega (splitDisjunctions := false) | assumption | omega | decide) (fun x x0 x1 => if w9 : x < j.toInt then jn x x0 w9 else by rw [show x = j.toInt by omega]; first | exact tn_d (sD9 (by omega)) | exact tn_e (by omega) (by omega) s5 (fun q9 => absurd (eF9.mpr q9) (by omega)) | exact tn_z (by omega)) (by (exact omg_7c8a06b1f5 hm9 tw3 ti11))
        · have tw10 : i4.toInt = i9.toInt := (ti_eq rfl rfl).mp w10
          refine pb_aload_n (pc := 33) d_Shelf_tellerOf_33 2 rfl rfl ?_
          refine pb_iload_n (pc := 34) d_Shelf_tellerOf_34 1 rfl rfl ?_
          refine pb_ldcS (pc := 35) (k := 0) d_Shelf_tellerOf_35 rfl (by decide) ?_
          refine pb_callV (pc := 37) (I := i_Shelf_tellerOf) (qb := 0) (ci := 3) (nA := 2) (rest := []) (wr := []) d_Shelf_tellerOf_37 (g_Shelf_endsWith hl G h sn sz sb sg c sfn sfz sfg j 0 (by first | omega | assumption | decide +kernel) (by first | omega | assumption | decide +kernel) (by first | omega | assumption | decide +kernel) (by first | omega | assumption | decide +kernel) F_sfn) rfl rfl [0, 1, 2] [] (by decide) rfl rfl rfl (by decide) (by decide) k_740 rfl k_127 k_737 k_739 k_29 ⟨rfl, hy_Shelf_endsWith⟩ (by decide) rfl rfl (Nat.le_of_ble_eq_true rfl) (by decide) (fun v9 u13 ch12 => ?_)
          obtain ⟨r_14, rfl⟩ : ∃ z9, z9 = u13 := ⟨_, rfl⟩
          obtain ⟨ech12, ch12⟩ := ch12
          have ech12 : v9 = some (.int r_14) := ech12
          subst ech12
          obtain ⟨fh15, fh16, fh17⟩ : (r_14.toInt = 0 ∨ r_14.toInt = 1) ∧ (r_14.toInt = 1 → 0 < st_len 0 → st_len 0 ≤ gx sfz j.toInt) ∧ (hid_ (r_14.toInt = 1 ↔ en6_ sfn sfz j.toInt 0)) := ch12
          have eF9 := hid_o fh17
          refine pb_eq (pc' := 40) (lo' := [(2, .int sz_), (3, .int j), (0, .ref h), (1, .int i)]) (rest' := [.int r_14]) (ws' := [(h, .inr (3, [.ref sn, .ref sz, .ref sb, .ref sg, .int c])), (sn, .inl (G.2.1, 384, .inl sfn)), (sz, .inl (G.2.2.1, 16, .inl sfz))]) ?_
          refine pb_if_eq (pc := 40) (tgt := 68) d_Shelf_tellerOf_40 (by decide) (fun w18 => ?_) (fun w18 => ?_)
          · have tw18 : r_14.toInt = 0 := (ti_eq rfl (by decide)).mp w18
            refine pb_iincN (pc := 68) (c := 1) d_Shelf_tellerOf_68 1 rfl (by decide) (by decide) (fun i19 ei19 => ?_)
            have ti19 : i19.toInt = j.toInt + 1 := ti_add ei19 rfl (by decide) (by omega) (by omega)
            refine pb_eq (pc' := 71) (lo' := [(3, .int i19), (2, .int sz_), (0, .ref h), (1, .int i)]) (rest' := []) (ws' := [(h, .inr (3, [.ref sn, .ref sz, .ref sb, .ref sg, .int c])), (sn, .inl (G.2.1, 384, .inl sfn)), (sz, .inl (G.2.2.1, 16, .inl sfz))]) ?_
            refine pb_goto (pc := 71) (tgt := 9) d_Shelf_tellerOf_71 (by decide) ?_
            refine pb_re (ws' := [(h, .inr (3, [.ref sn, .ref sz, .ref sb, .ref sg, .int c])), (sn, .inl (G.2.1, 384, .inl sfn)), (sz, .inl (G.2.2.1, 16, .inl sfz))]) (lo' := [(2, .int sz_), (3, .int i19), (0, .ref h), (1, .int i)]) [0, 1, 2] [1, 0, 2, 3] (by decide) rfl rfl rfl ?_
            exact ih9 sz_ i19 (by first | (with_reducible assumption) | omega (splitDisjunctions := false) | assumption | omega | decide) (by first | (with_reducible assumption) | omega (splitDisjunctions := false) | assumption | omega | decide) (by first | (with_reducible assumption) | omega (splitDisjunctions := false) | assumption | omega | decide) (fun x x0 x1 => if w9 : x < j.toInt then jn x x0 w9 else by rw [show x = j.toInt by omega]; first | exact tn_d (sD9 (by omega)) | exact tn_e (by omega) (by omega) s5 (fun q9 => absurd (eF9.mpr q9) (by omega)) | exact tn_z (by omega)) (by (exact omg_7c8a06b1f5 hm9 tw3 ti19))
          · have tw18 : ¬ r_14.toInt = 0 := fun z9 => w18 ((ti_eq rfl (by decide)).mpr z9)
            refine pb_aload_n (pc := 43) d_Shelf_tellerOf_43 2 rfl rfl ?_
            refine pb_get (pc := 44) d_Shelf_tellerOf_44 0 0 rfl rfl (by decide) in_Shelf k_389 rfl ?_
            refine pb_bipush (pc := 47) (v := 24) d_Shelf_tellerOf_47 (by decide) ?_
            refine pb_iload_n (pc := 49) d_Shelf_tellerOf_49 3 rfl rfl ?_
            refine pb_imul (pc := 50) d_Shelf_tellerOf_50 ?_
            refine pb_topi (fun i20 ei20 => ?_)
            try have ti20 : i20.toInt = 24 * i.toInt := ti_mul ei20 (by decide) rfl (by omega) (by omega)
            refine pb_aload_n (pc := 51) d_Shelf_tellerOf_51 2 rfl rfl ?_
            refine pb_get (pc := 52) d_Shelf_tellerOf_52 0 0 rfl rfl (by decide) in_Shelf k_389 rfl ?_
            refine pb_bipush (pc := 55) (v := 24) d_Shelf_tellerOf_55 (by decide) ?_
            refine pb_iload_n (pc := 57) d_Shelf_tellerOf_57 1 rfl rfl ?_
            refine pb_imul (pc := 58) d_Shelf_tellerOf_58 ?_
            refine pb_topi (fun i21 ei21 => ?_)
            try have ti21 : i21.toInt = 24 * j.toInt := ti_mul ei21 (by decide) rfl (by omega) (by omega)
            refine pb_iload_n (pc := 59) d_Shelf_tellerOf_59 0 rfl rfl ?_
            refine pb_callSN (pc := 60) (I := i_Shelf_tellerOf) (nA := 5) (rest := []) (wr := [(h, .inr (3, [.ref sn, .ref sz, .ref sb, .ref sg, .int c])), (sz, .inl (G.2.2.1, 16, .inl sfz))]) d_Shelf_tellerOf_60 (g_isSame1 hl G sn 384 sfn i20 i21 sz_ (by first | omega | assumption | decide +kernel) (by first | omega | assumption | decide +kernel) (by first | omega | assumption | decide +kernel) (by first | (exact omg_3cda784dae q9 q8 z0 tw3 ti21) | assumption | decide +kernel) (by first | omega | assumption | decide +kernel) (by first | omega | assumption | decide +kernel) F_sfn) [1] [0, 2] (by decide) rfl rfl rfl (by decide) (by decide) k_465 rfl k_118 k_463 k_464 hy_Book_isSame (by decide) rfl rfl (Nat.le_of_ble_eq_true rfl) (by decide) (fun v9 u23 ch22 => ?_)
            obtain ⟨r_24, rfl⟩ : ∃ z9, z9 = u23 := ⟨_, rfl⟩
            obtain ⟨ech22, ch22⟩ := ch22
            have ech22 : v9 = some (.int r_24) := ech22
            subst ech22
            obtain ⟨fh25, fh26, fh27⟩ : (r_24.toInt = 0 ∨ r_24.toInt = 1) ∧ (r_24.toInt = 1 → ∀ j : Int, 0 ≤ j → j < sz_.toInt → gx sfn (i20.toInt + j) = gx sfn (i21.toInt + j)) ∧ (r_24.toInt = 0 → ¬ (∀ j : Int, 0 ≤ j → j < sz_.toInt → gx sfn (i20.toInt + j) = gx sfn (i21.toInt + j))) := ch22
            have sS9 := fh26
            have sD9 := fh27
            rw [show i20.toInt = 24 * i.toInt by omega, show i21.toInt = 24 * j.toInt by omega, show sz_.toInt = gx sfz i.toInt by omega] at sS9 sD9
            refine pb_eq (pc' := 63) (lo' := [(2, .int sz_), (3, .int j), (0, .ref h), (1, .int i)]) (rest' := [.int r_24]) (ws' := [(h, .inr (3, [.ref sn, .ref sz, .ref sb, .ref sg, .int c])), (sz, .inl (G.2.2.1, 16, .inl sfz)), (sn, .inl (G.2.1, 384, .inl sfn))]) ?_
            refine pb_if_eq (pc := 63) (tgt := 68) d_Shelf_tellerOf_63 (by decide) (fun w28 => ?_) (fun w28 => ?_)
            · have tw28 : r_24.toInt = 0 := (ti_eq rfl (by decide)).mp w28
              refine pb_iincN (pc := 68) (c := 1) d_Shelf_tellerOf_68 1 rfl (by decide) (by decide) (fun i29 ei29 => ?_)
              have ti29 : i29.toInt = j.toInt + 1 := ti_add ei29 rfl (by decide) (by omega) (by omega)
              refine pb_eq (pc' := 71) (lo' := [(3, .int i29), (2, .int sz_), (0, .ref h), (1, .int i)]) (rest' := []) (ws' := [(h, .inr (3, [.ref sn, .ref sz, .ref sb, .ref sg, .int c])), (sz, .inl (G.2.2.1, 16, .inl sfz)), (sn, .inl (G.2.1, 384, .inl sfn))]) ?_
              refine pb_goto (pc := 71) (tgt := 9) d_Shelf_tellerOf_71 (by decide) ?_
              refine pb_re (ws' := [(h, .inr (3, [.ref sn, .ref sz, .ref sb, .ref sg, .int c])), (sn, .inl (G.2.1, 384, .inl sfn)), (sz, .inl (G.2.2.1, 16, .inl sfz))]) (lo' := [(2, .int sz_), (3, .int i29), (0, .ref h), (1, .int i)]) [0, 2, 1] [1, 0, 2, 3] (by decide) rfl rfl rfl ?_
              exact ih9 sz_ i29 (by first | (with_reducible assumption) | omega (splitDisjunctions := false) | assumption | omega | decide) (by first | (with_reducible assumption) | omega (splitDisjunctions := false) | assumption | omega | decide) (by first | (with_reducible assumption) | omega (splitDisjunctions := false) | assumption | omega | decide) (fun x x0 x1 => if w9 : x < j.toInt then jn x x0 w9 else by rw [show x = j.toInt by omega]; first | exact tn_d (sD9 (by omega)) | exact tn_e (by omega) (by omega) s5 (fun q9 => absurd (eF9.mpr q9) (by omega)) | exact tn_z (by omega)) (by (exact omg_7c8a06b1f5 hm9 tw3 ti29))
            · have tw28 : ¬ r_24.toInt = 0 := fun z9 => w28 ((ti_eq rfl (by decide)).mpr z9)
              refine pb_iload_n (pc := 66) d_Shelf_tellerOf_66 1 rfl rfl ?_
              exact pb_iret (pc := 67) hQ d_Shelf_tellerOf_67 rfl rfl (j) ⟨rfl, (by (try dsimp only); first | done | (with_reducible assumption) | omega (splitDisjunctions := false) | assumption | omega | decide), (by (try dsimp only); first | done | (with_reducible assumption) | omega (splitDisjunctions := false) | assumption | omega | decide), (show isF_ (cN_ c.toInt sfn sfz) (gx sfz i.toInt + 5) (tn6_ (cN_ c.toInt sfn sfz) i.toInt) j.toInt from (Or.inl ⟨by omega, show _ < c.toInt by omega, tn_y (by (exact omg_43afb53601 s5 z0 ti4 ch5 ti9 tw10)) s5 (eF9.mp (by (exact omg_d9c3f42b32 fh15 tw18))) (sS9 (by (exact omg_d9c3f42b32 fh25 tw28)))⟩))⟩ [0, 2, 1] (by decide) rfl rfl (by decide) (by decide)
  refine pb_re (ws' := [(h, .inr (3, [.ref sn, .ref sz, .ref sb, .ref sg, .int c])), (sn, .inl (G.2.1, 384, .inl sfn)), (sz, .inl (G.2.2.1, 16, .inl sfz))]) (lo' := [(2, .int i1), (3, .int 0), (0, .ref h), (1, .int i)]) [0, 1, 2] [1, 0, 2, 3] (by decide) rfl rfl rfl ?_
  exact hL9_2 _ i1 0 (by first | (with_reducible assumption) | omega (splitDisjunctions := false) | assumption | omega | decide) (by first | (with_reducible assumption) | omega (splitDisjunctions := false) | assumption | omega | decide) (by first | (with_reducible assumption) | omega (splitDisjunctions := false) | assumption | omega | decide) (fun x x0 x1 => absurd x1 (by omega)) (Nat.lt_succ_self _)
