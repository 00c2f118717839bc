theorem d_Findings_note_0 : decode prog_6_method_2_code 0 = .ok (.aload_n 0, 1) := by decide +kernel
theorem d_Findings_note_1 : decode prog_6_method_2_code 1 = .ok (.getfield 21, 3) := by decide +kernel
theorem k_372 : (Jvm.Cond.fieldLink "PackageBook$Findings" (21 : Nat) "PackageBook$Findings" "count" "I") ∈ uW := uW_of 372 (by decide +kernel) (by decide +kernel)
theorem d_Findings_note_4 : decode prog_6_method_2_code 4 = .ok (.sipush 1232, 3) := by decide +kernel
theorem d_Findings_note_7 : decode prog_6_method_2_code 7 = .ok (.if_icmp .ge 43, 3) := by decide +kernel
theorem d_Findings_note_50 : decode prog_6_method_2_code 50 = .ok (.return_, 1) := by decide +kernel
theorem d_Findings_note_10 : decode prog_6_method_2_code 10 = .ok (.aload_n 0, 1) := by decide +kernel
theorem d_Findings_note_11 : decode prog_6_method_2_code 11 = .ok (.getfield 11, 3) := by decide +kernel
theorem d_Findings_note_14 : decode prog_6_method_2_code 14 = .ok (.aload_n 0, 1) := by decide +kernel
theorem d_Findings_note_15 : decode prog_6_method_2_code 15 = .ok (.getfield 21, 3) := by decide +kernel
theorem d_Findings_note_18 : decode prog_6_method_2_code 18 = .ok (.iload_n 1, 1) := by decide +kernel
theorem d_Findings_note_19 : decode prog_6_method_2_code 19 = .ok (.iastore, 1) := by decide +kernel
theorem d_Findings_note_20 : decode prog_6_method_2_code 20 = .ok (.aload_n 0, 1) := by decide +kernel
theorem d_Findings_note_21 : decode prog_6_method_2_code 21 = .ok (.getfield 15, 3) := by decide +kernel
theorem d_Findings_note_24 : decode prog_6_method_2_code 24 = .ok (.aload_n 0, 1) := by decide +kernel
theorem d_Findings_note_25 : decode prog_6_method_2_code 25 = .ok (.getfield 21, 3) := by decide +kernel
theorem d_Findings_note_28 : decode prog_6_method_2_code 28 = .ok (.iload_n 2, 1) := by decide +kernel
theorem d_Findings_note_29 : decode prog_6_method_2_code 29 = .ok (.iastore, 1) := by decide +kernel
theorem d_Findings_note_30 : decode prog_6_method_2_code 30 = .ok (.aload_n 0, 1) := by decide +kernel
theorem d_Findings_note_31 : decode prog_6_method_2_code 31 = .ok (.getfield 18, 3) := by decide +kernel
theorem d_Findings_note_34 : decode prog_6_method_2_code 34 = .ok (.aload_n 0, 1) := by decide +kernel
theorem d_Findings_note_35 : decode prog_6_method_2_code 35 = .ok (.getfield 21, 3) := by decide +kernel
theorem d_Findings_note_38 : decode prog_6_method_2_code 38 = .ok (.iload_n 3, 1) := by decide +kernel
theorem d_Findings_note_39 : decode prog_6_method_2_code 39 = .ok (.iastore, 1) := by decide +kernel
theorem d_Findings_note_40 : decode prog_6_method_2_code 40 = .ok (.aload_n 0, 1) := by decide +kernel
theorem d_Findings_note_41 : decode prog_6_method_2_code 41 = .ok (.dup, 1) := by decide +kernel
theorem d_Findings_note_42 : decode prog_6_method_2_code 42 = .ok (.getfield 21, 3) := by decide +kernel
theorem d_Findings_note_45 : decode prog_6_method_2_code 45 = .ok (.iconst 1, 1) := by decide +kernel
theorem d_Findings_note_46 : decode prog_6_method_2_code 46 = .ok (.iadd, 1) := by decide +kernel
theorem d_Findings_note_47 : decode prog_6_method_2_code 47 = .ok (.putfield 21, 3) := by decide +kernel
abbrev y_Findings_note : MethodName := ⟨"PackageBook$Findings", "note", "(III)V"⟩
abbrev i_Findings_note : pb_I := (y_Findings_note, prog_6_method_2_code, 4, (Option.none : Option Jvm.ClassFile.FieldType), [], { frames := 0, cells := 0, slots := 0, locals := 0 })
set_option maxRecDepth 100000 in
set_option maxHeartbeats 4000000 in
theorem g_Fi_note {l : Launch} (hl : l.stackTraces = false) (G : pb_G) (h : Nat) (fk : Nat) (fo : Nat) (fp : Nat) (n : Int32) (f1 : Nat → Int32) (f2 : Nat → Int32) (f3 : Nat → Int32) (x : Int32) (y : Int32) (z : Int32) (n0 : 0 ≤ n.toInt) (n1 : n.toInt ≤ 1232) : Cn l G i_Findings_note [.ref h, .int x, .int y, .int z] [(h, .inr (2, [.ref fk, .ref fo, .ref fp, .int n])), (fk, .inl (G.2.2.1, 1232, .inl f1)), (fo, .inl (G.2.2.1, 1232, .inl f2)), (fp, .inl (G.2.2.1, 1232, .inl f3))] (S := Int32 × (Nat → Int32) × (Nat → Int32) × (Nat → Int32)) (fun rv_ u => rv_ = none ∧ (0 ≤ u.1.toInt) ∧ (u.1.toInt ≤ 1232)) (fun u => [(h, .inr (2, [.ref fk, .ref fo, .ref fp, .int u.1])), (fk, .inl (G.2.2.1, 1232, .inl u.2.1)), (fo, .inl (G.2.2.1, 1232, .inl u.2.2.1)), (fp, .inl (G.2.2.1, 1232, .inl u.2.2.2))]) := by
  refine Cn.of hl (by decide +kernel) rfl (Nat.le_of_ble_eq_true rfl) (fun M hQ => ?_)
  refine pb_eq (pc' := 0) (lo' := [(0, .ref h), (1, .int x), (2, .int y), (3, .int z)]) (rest' := []) (ws' := [(h, .inr (2, [.ref fk, .ref fo, .ref fp, .int n])), (fk, .inl (G.2.2.1, 1232, .inl f1)), (fo, .inl (G.2.2.1, 1232, .inl f2)), (fp, .inl (G.2.2.1, 1232, .inl f3))]) ?_
  have zl0 : (0 : Int32).toInt = 0 := by decide
  have zl1 : (1 : Int32).toInt = 1 := by decide
  refine pb_aload_n (pc := 0) d_Findings_note_0 0 rfl rfl ?_
  refine pb_get (pc := 1) d_Findings_note_1 0 3 rfl rfl (by decide) in_Findings k_372 rfl ?_
  refine pb_sipush (pc := 4) (v := 1232) d_Findings_note_4 (by decide) ?_
  refine pb_icmp_ge (pc := 7) (tgt := 50) d_Findings_note_7 (by decide) (fun w1 => ?_) (fun w1 => ?_)
  · have tw1 : 1232 ≤ n.toInt := (ti_le (by decide) rfl).mp w1
    exact pb_vret (pc := 50) hQ d_Findings_note_50 rfl (n, f1, f2, f3) ⟨rfl, (by (try dsimp only); first | done | (with_reducible assumption) | omega (splitDisjunctions := false) | assumption | omega | decide), (by (try dsimp only); first | done | (with_reducible assumption) | omega (splitDisjunctions := false) | assumption | omega | decide)⟩ [0, 1, 2, 3] (by decide) rfl rfl (by decide) (by decide)
  · have tw1 : ¬ 1232 ≤ n.toInt := fun z9 => w1 ((ti_le (by decide) rfl).mpr z9)
    refine pb_aload_n (pc := 10) d_Findings_note_10 0 rfl rfl ?_
    refine pb_get (pc := 11) d_Findings_note_11 0 0 rfl rfl (by decide) in_Findings k_366 rfl ?_
    refine pb_aload_n (pc := 14) d_Findings_note_14 0 rfl rfl ?_
    refine pb_get (pc := 15) d_Findings_note_15 0 3 rfl rfl (by decide) in_Findings k_372 rfl ?_
    refine pb_iload_n (pc := 18) d_Findings_note_18 1 rfl rfl ?_
    refine pb_iast (pc := 19) (ws' := [(h, .inr (2, [.ref fk, .ref fo, .ref fp, .int n])), (fk, .inl (G.2.2.1, 1232, .inl (upd f1 ((n : Int32).toNatClampNeg) x))), (fo, .inl (G.2.2.1, 1232, .inl f2)), (fp, .inl (G.2.2.1, 1232, .inl f3))]) d_Findings_note_19 1 rfl (vp_in_iff.mpr (by omega)) rfl ?_
    refine pb_aload_n (pc := 20) d_Findings_note_20 0 rfl rfl ?_
    refine pb_get (pc := 21) d_Findings_note_21 0 1 rfl rfl (by decide) in_Findings k_368 rfl ?_
    refine pb_aload_n (pc := 24) d_Findings_note_24 0 rfl rfl ?_
    refine pb_get (pc := 25) d_Findings_note_25 0 3 rfl rfl (by decide) in_Findings k_372 rfl ?_
    refine pb_iload_n (pc := 28) d_Findings_note_28 2 rfl rfl ?_
    refine pb_iast (pc := 29) (ws' := [(h, .inr (2, [.ref fk, .ref fo, .ref fp, .int n])), (fk, .inl (G.2.2.1, 1232, .inl (upd f1 ((n : Int32).toNatClampNeg) x))), (fo, .inl (G.2.2.1, 1232, .inl (upd f2 ((n : Int32).toNatClampNeg) y))), (fp, .inl (G.2.2.1, 1232, .inl f3))]) d_Findings_note_29 2 rfl (vp_in_iff.mpr (by omega)) rfl ?_
    refine pb_aload_n (pc := 30) d_Findings_note_30 0 rfl rfl ?_
    refine pb_get (pc := 31) d_Findings_note_31 0 2 rfl rfl (by decide) in_Findings k_370 rfl ?_
    refine pb_aload_n (pc := 34) d_Findings_note_34 0 rfl rfl ?_
    refine pb_get (pc := 35) d_Findings_note_35 0 3 rfl rfl (by decide) in_Findings k_372 rfl ?_
    refine pb_iload_n (pc := 38) d_Findings_note_38 3 rfl rfl ?_
    refine pb_iast (pc := 39) (ws' := [(h, .inr (2, [.ref fk, .ref fo, .ref fp, .int n])), (fk, .inl (G.2.2.1, 1232, .inl (upd f1 ((n : Int32).toNatClampNeg) x))), (fo, .inl (G.2.2.1, 1232, .inl (upd f2 ((n : Int32).toNatClampNeg) y))), (fp, .inl (G.2.2.1, 1232, .inl (upd f3 ((n : Int32).toNatClampNeg) z)))]) d_Findings_note_39 3 rfl (vp_in_iff.mpr (by omega)) rfl ?_
    refine pb_aload_n (pc := 40) d_Findings_note_40 0 rfl rfl ?_
    refine pb_dup (pc := 41) d_Findings_note_41 rfl ?_
    refine pb_get (pc := 42) d_Findings_note_42 0 3 rfl rfl (by decide) in_Findings k_372 rfl ?_
    refine pb_iconst (pc := 45) (v := 1) d_Findings_note_45 (by decide) ?_
    refine pb_iadd (pc := 46) d_Findings_note_46 ?_
    refine pb_topi (fun i2 ei2 => ?_)
    try have ti2 : i2.toInt = n.toInt + 1 := t2_add ei2 rfl (by decide) (by omega)
    refine pb_put (pc := 47) (ty := .int) (ws' := [(h, .inr (2, [.ref fk, .ref fo, .ref fp, .int i2])), (fk, .inl (G.2.2.1, 1232, .inl (upd f1 ((n : Int32).toNatClampNeg) x))), (fo, .inl (G.2.2.1, 1232, .inl (upd f2 ((n : Int32).toNatClampNeg) y))), (fp, .inl (G.2.2.1, 1232, .inl (upd f3 ((n : Int32).toNatClampNeg) z)))]) d_Findings_note_47 0 3 t_Findings t_Findings_ok n_Findings rfl rfl (by decide) in_Findings k_372 rfl (by decide +kernel) rfl rfl (Nat.le_of_ble_eq_true rfl) rfl ?_
    exact pb_vret (pc := 50) hQ d_Findings_note_50 rfl (i2, (upd f1 ((n : Int32).toNatClampNeg) x), (upd f2 ((n : Int32).toNatClampNeg) y), (upd f3 ((n : Int32).toNatClampNeg) z)) ⟨rfl, (by (try dsimp only); first | done | (with_reducible assumption) | omega (splitDisjunctions := false) | assumption | omega | decide), (by (try dsimp only); first | done | (with_reducible assumption) | omega (splitDisjunctions := false) | assumption | omega | decide)⟩ [0, 1, 2, 3] (by decide) rfl rfl (by decide) (by decide)
