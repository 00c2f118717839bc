theorem d_Mod_putBit_0 : decode prog_12_method_20_code 0 = .ok (.aload_n 0, 1) := by decide +kernel
theorem d_Mod_putBit_1 : decode prog_12_method_20_code 1 = .ok (.aload_n 0, 1) := by decide +kernel
theorem d_Mod_putBit_2 : decode prog_12_method_20_code 2 = .ok (.getfield 153, 3) := by decide +kernel
theorem k_1180 : (Jvm.Cond.fieldLink "PackageBookModel" (153 : Nat) "PackageBookModel" "heldBits" "I") ∈ uW := uW_of 1180 (by decide +kernel) (by decide +kernel)
theorem d_Mod_putBit_5 : decode prog_12_method_20_code 5 = .ok (.iload_n 1, 1) := by decide +kernel
theorem d_Mod_putBit_6 : decode prog_12_method_20_code 6 = .ok (.aload_n 0, 1) := by decide +kernel
theorem d_Mod_putBit_7 : decode prog_12_method_20_code 7 = .ok (.getfield 156, 3) := by decide +kernel
theorem k_1181 : (Jvm.Cond.fieldLink "PackageBookModel" (156 : Nat) "PackageBookModel" "heldCount" "I") ∈ uW := uW_of 1181 (by decide +kernel) (by decide +kernel)
theorem d_Mod_putBit_10 : decode prog_12_method_20_code 10 = .ok (.ishl, 1) := by decide +kernel
theorem d_Mod_putBit_11 : decode prog_12_method_20_code 11 = .ok (.iadd, 1) := by decide +kernel
theorem d_Mod_putBit_12 : decode prog_12_method_20_code 12 = .ok (.putfield 153, 3) := by decide +kernel
theorem d_Mod_putBit_15 : decode prog_12_method_20_code 15 = .ok (.aload_n 0, 1) := by decide +kernel
theorem d_Mod_putBit_16 : decode prog_12_method_20_code 16 = .ok (.dup, 1) := by decide +kernel
theorem d_Mod_putBit_17 : decode prog_12_method_20_code 17 = .ok (.getfield 156, 3) := by decide +kernel
theorem d_Mod_putBit_20 : decode prog_12_method_20_code 20 = .ok (.iconst 1, 1) := by decide +kernel
theorem d_Mod_putBit_21 : decode prog_12_method_20_code 21 = .ok (.iadd, 1) := by decide +kernel
theorem d_Mod_putBit_22 : decode prog_12_method_20_code 22 = .ok (.putfield 156, 3) := by decide +kernel
theorem d_Mod_putBit_25 : decode prog_12_method_20_code 25 = .ok (.aload_n 0, 1) := by decide +kernel
theorem d_Mod_putBit_26 : decode prog_12_method_20_code 26 = .ok (.getfield 156, 3) := by decide +kernel
theorem d_Mod_putBit_29 : decode prog_12_method_20_code 29 = .ok (.bipush 8, 2) := by decide +kernel
theorem d_Mod_putBit_31 : decode prog_12_method_20_code 31 = .ok (.if_icmp .ne 37, 3) := by decide +kernel
theorem d_Mod_putBit_68 : decode prog_12_method_20_code 68 = .ok (.return_, 1) := by decide +kernel
theorem d_Mod_putBit_34 : decode prog_12_method_20_code 34 = .ok (.aload_n 0, 1) := by decide +kernel
theorem d_Mod_putBit_35 : decode prog_12_method_20_code 35 = .ok (.getfield 75, 3) := by decide +kernel
theorem k_1183 : (Jvm.Cond.fieldLink "PackageBookModel" (75 : Nat) "PackageBookModel" "pressed" "[B") ∈ uW := uW_of 1183 (by decide +kernel) (by decide +kernel)
theorem d_Mod_putBit_38 : decode prog_12_method_20_code 38 = .ok (.aload_n 0, 1) := by decide +kernel
theorem d_Mod_putBit_39 : decode prog_12_method_20_code 39 = .ok (.getfield 159, 3) := by decide +kernel
theorem k_1182 : (Jvm.Cond.fieldLink "PackageBookModel" (159 : Nat) "PackageBookModel" "pressedSize" "I") ∈ uW := uW_of 1182 (by decide +kernel) (by decide +kernel)
theorem d_Mod_putBit_42 : decode prog_12_method_20_code 42 = .ok (.aload_n 0, 1) := by decide +kernel
theorem d_Mod_putBit_43 : decode prog_12_method_20_code 43 = .ok (.getfield 153, 3) := by decide +kernel
theorem d_Mod_putBit_46 : decode prog_12_method_20_code 46 = .ok (.i2b, 1) := by decide +kernel
theorem d_Mod_putBit_47 : decode prog_12_method_20_code 47 = .ok (.bastore, 1) := by decide +kernel
theorem d_Mod_putBit_48 : decode prog_12_method_20_code 48 = .ok (.aload_n 0, 1) := by decide +kernel
theorem d_Mod_putBit_49 : decode prog_12_method_20_code 49 = .ok (.dup, 1) := by decide +kernel
theorem d_Mod_putBit_50 : decode prog_12_method_20_code 50 = .ok (.getfield 159, 3) := by decide +kernel
theorem d_Mod_putBit_53 : decode prog_12_method_20_code 53 = .ok (.iconst 1, 1) := by decide +kernel
theorem d_Mod_putBit_54 : decode prog_12_method_20_code 54 = .ok (.iadd, 1) := by decide +kernel
theorem d_Mod_putBit_55 : decode prog_12_method_20_code 55 = .ok (.putfield 159, 3) := by decide +kernel
theorem d_Mod_putBit_58 : decode prog_12_method_20_code 58 = .ok (.aload_n 0, 1) := by decide +kernel
theorem d_Mod_putBit_59 : decode prog_12_method_20_code 59 = .ok (.iconst 0, 1) := by decide +kernel
theorem d_Mod_putBit_60 : decode prog_12_method_20_code 60 = .ok (.putfield 153, 3) := by decide +kernel
theorem d_Mod_putBit_63 : decode prog_12_method_20_code 63 = .ok (.aload_n 0, 1) := by decide +kernel
theorem d_Mod_putBit_64 : decode prog_12_method_20_code 64 = .ok (.iconst 0, 1) := by decide +kernel
theorem d_Mod_putBit_65 : decode prog_12_method_20_code 65 = .ok (.putfield 156, 3) := by decide +kernel
abbrev y_Mod_putBit : MethodName := ⟨"PackageBookModel", "putBit", "(I)V"⟩
abbrev i_Mod_putBit : pb_I := (y_Mod_putBit, prog_12_method_20_code, 2, (Option.none : Option Jvm.ClassFile.FieldType), [], { frames := 0, cells := 0, slots := 0, locals := 0 })
set_option maxRecDepth 100000 in
set_option maxHeartbeats 4000000 in
theorem g_Mod_putBit {l : Launch} (hl : l.stackTraces = false) (G : pb_G) (h : Nat) (m_rels : Nat) (m_openRels : Nat) (m_closeRels : Nat) (m_openRel : Nat) (m_closeRel : Nat) (m_comment : Nat) (m_ends : Nat) (m_order : Nat) (m_tape : Nat) (m_count : Nat) (m_nameSize : Nat) (m_names : Nat) (m_size : Nat) (m_data : Nat) (m_looked : Nat) (m_file : Nat) (m_directory : Nat) (m_out : Nat) (m_row : Nat) (m_made : Nat) (m_length : Nat) (m_pressed : Nat) (m_mark : Nat) (m_idSize : Nat) (m_ids : Nat) (m_goalSize : Nat) (m_goals : Nat) (m_value : Nat) (m_faults : Nat) (m_reached : Nat) (v_thrown : Int32) (v_taped : Int32) (v_lookedSize : Int32) (v_fileSize : Int32) (v_directorySize : Int32) (v_outSize : Int32) (v_rowSize : Int32) (v_bitAt : Int32) (v_bitEnd : Int32) (v_why : Int32) (v_madeSize : Int32) (v_firstCount : Int32) (v_secondCount : Int32) (v_heldBits : Int32) (v_heldCount : Int32) (v_pressedSize : Int32) (v_at : Int32) (v_bad : Int32) (v_markSize : Int32) (v_relationCount : Int32) (v_valueSize : Int32) (v_faultCount : Int32) (a_pressed : Nat → Int32) (b : Int32) (b0 : 0 ≤ v_heldCount.toInt) (b1 : v_heldCount.toInt < 8) (b2 : 0 ≤ v_pressedSize.toInt) (b3 : (8 * v_pressedSize.toInt + v_heldCount.toInt) + 1 ≤ 40000) (F_a_pressed : sb_Fit a_pressed) : Cn l G i_Mod_putBit [.ref h, .int b] [(h, .inr (10, [.ref m_rels, .ref m_openRels, .ref m_closeRels, .ref m_openRel, .ref m_closeRel, .ref m_comment, .ref m_ends, .ref m_order, .int v_thrown, .int v_taped, .ref m_tape, .ref m_count, .ref m_nameSize, .ref m_names, .ref m_size, .ref m_data, .int v_lookedSize, .ref m_looked, .int v_fileSize, .ref m_file, .int v_directorySize, .ref m_directory, .int v_outSize, .ref m_out, .int v_rowSize, .ref m_row, .int v_bitAt, .int v_bitEnd, .int v_why, .int v_madeSize, .ref m_made, .ref m_length, .int v_firstCount, .int v_secondCount, .int v_heldBits, .int v_heldCount, .int v_pressedSize, .ref m_pressed, .int v_at, .int v_bad, .int v_markSize, .ref m_mark, .int v_relationCount, .ref m_idSize, .ref m_ids, .ref m_goalSize, .ref m_goals, .int v_valueSize, .ref m_value, .int v_faultCount, .ref m_faults, .ref m_reached])), (m_pressed, .inl (G.2.1, 5000, .inl a_pressed))] (S := Int32 × Int32 × Int32 × (Nat → Int32)) (fun rv_ u => rv_ = none ∧ (0 ≤ u.2.1.toInt) ∧ (u.2.1.toInt < 8) ∧ (0 ≤ u.2.2.1.toInt) ∧ (8 * u.2.2.1.toInt + u.2.1.toInt = (8 * v_pressedSize.toInt + v_heldCount.toInt) + 1) ∧ (sb_Fit u.2.2.2)) (fun u => [(h, .inr (10, [.ref m_rels, .ref m_openRels, .ref m_closeRels, .ref m_openRel, .ref m_closeRel, .ref m_comment, .ref m_ends, .ref m_order, .int v_thrown, .int v_taped, .ref m_tape, .ref m_count, .ref m_nameSize, .ref m_names, .ref m_size, .ref m_data, .int v_lookedSize, .ref m_looked, .int v_fileSize, .ref m_file, .int v_directorySize, .ref m_directory, .int v_outSize, .ref m_out, .int v_rowSize, .ref m_row, .int v_bitAt, .int v_bitEnd, .int v_why, .int v_madeSize, .ref m_made, .ref m_length, .int v_firstCount, .int v_secondCount, .int u.1, .int u.2.1, .int u.2.2.1, .ref m_pressed, .int v_at, .int v_bad, .int v_markSize, .ref m_mark, .int v_relationCount, .ref m_idSize, .ref m_ids, .ref m_goalSize, .ref m_goals, .int v_valueSize, .ref m_value, .int v_faultCount, .ref m_faults, .ref m_reached])), (m_pressed, .inl (G.2.1, 5000, .inl u.2.2.2))]) := by
  refine Cn.of hl (by decide +kernel) rfl (Nat.le_of_ble_eq_true rfl) (fun M hQ => ?_)
  refine pb_eq (pc' := 0) (lo' := [(0, .ref h), (1, .int b)]) (rest' := []) (ws' := [(h, .inr (10, [.ref m_rels, .ref m_openRels, .ref m_closeRels, .ref m_openRel, .ref m_closeRel, .ref m_comment, .ref m_ends, .ref m_order, .int v_thrown, .int v_taped, .ref m_tape, .ref m_count, .ref m_nameSize, .ref m_names, .ref m_size, .ref m_data, .int v_lookedSize, .ref m_looked, .int v_fileSize, .ref m_file, .int v_directorySize, .ref m_directory, .int v_outSize, .ref m_out, .int v_rowSize, .ref m_row, .int v_bitAt, .int v_bitEnd, .int v_why, .int v_madeSize, .ref m_made, .ref m_length, .int v_firstCount, .int v_secondCount, .int v_heldBits, .int v_heldCount, .int v_pressedSize, .ref m_pressed, .int v_at, .int v_bad, .int v_markSize, .ref m_mark, .int v_relationCount, .ref m_idSize, .ref m_ids, .ref m_goalSize, .ref m_goals, .int v_valueSize, .ref m_value, .int v_faultCount, .ref m_faults, .ref m_reached])), (m_pressed, .inl (G.2.1, 5000, .inl a_pressed))]) ?_
  have zl0 : (0 : Int32).toInt = 0 := by decide
  have zl1 : (1 : Int32).toInt = 1 := by decide
  refine pb_aload_n (pc := 0) d_Mod_putBit_0 0 rfl rfl ?_
  refine pb_aload_n (pc := 1) d_Mod_putBit_1 0 rfl rfl ?_
  refine pb_get (pc := 2) d_Mod_putBit_2 0 34 rfl rfl (by decide) in_Mod k_1180 rfl ?_
  refine pb_iload_n (pc := 5) d_Mod_putBit_5 1 rfl rfl ?_
  refine pb_aload_n (pc := 6) d_Mod_putBit_6 0 rfl rfl ?_
  refine pb_get (pc := 7) d_Mod_putBit_7 0 35 rfl rfl (by decide) in_Mod k_1181 rfl ?_
  refine pb_ishl (pc := 10) d_Mod_putBit_10 ?_
  refine pb_topi (fun i1 ei1 => ?_)
  refine pb_iadd (pc := 11) d_Mod_putBit_11 ?_
  refine pb_topi (fun i2 ei2 => ?_)
  try have ti2 : i2.toInt = v_heldBits.toInt + i1.toInt := t2_add ei2 rfl rfl (by omega)
  refine pb_put (pc := 12) (ty := .int) (ws' := [(h, .inr (10, [.ref m_rels, .ref m_openRels, .ref m_closeRels, .ref m_openRel, .ref m_closeRel, .ref m_comment, .ref m_ends, .ref m_order, .int v_thrown, .int v_taped, .ref m_tape, .ref m_count, .ref m_nameSize, .ref m_names, .ref m_size, .ref m_data, .int v_lookedSize, .ref m_looked, .int v_fileSize, .ref m_file, .int v_directorySize, .ref m_directory, .int v_outSize, .ref m_out, .int v_rowSize, .ref m_row, .int v_bitAt, .int v_bitEnd, .int v_why, .int v_madeSize, .ref m_made, .ref m_length, .int v_firstCount, .int v_secondCount, .int i2, .int v_heldCount, .int v_pressedSize, .ref m_pressed, .int v_at, .int v_bad, .int v_markSize, .ref m_mark, .int v_relationCount, .ref m_idSize, .ref m_ids, .ref m_goalSize, .ref m_goals, .int v_valueSize, .ref m_value, .int v_faultCount, .ref m_faults, .ref m_reached])), (m_pressed, .inl (G.2.1, 5000, .inl a_pressed))]) d_Mod_putBit_12 0 34 t_Mod t_Mod_ok n_Mod rfl rfl (by decide) in_Mod k_1180 rfl (by decide +kernel) rfl rfl (Nat.le_of_ble_eq_true rfl) rfl ?_
  refine pb_aload_n (pc := 15) d_Mod_putBit_15 0 rfl rfl ?_
  refine pb_dup (pc := 16) d_Mod_putBit_16 rfl ?_
  refine pb_get (pc := 17) d_Mod_putBit_17 0 35 rfl rfl (by decide) in_Mod k_1181 rfl ?_
  refine pb_iconst (pc := 20) (v := 1) d_Mod_putBit_20 (by decide) ?_
  refine pb_iadd (pc := 21) d_Mod_putBit_21 ?_
  refine pb_topi (fun i3 ei3 => ?_)
  try have ti3 : i3.toInt = v_heldCount.toInt + 1 := t2_add ei3 rfl (by decide) (by omega)
  refine pb_put (pc := 22) (ty := .int) (ws' := [(h, .inr (10, [.ref m_rels, .ref m_openRels, .ref m_closeRels, .ref m_openRel, .ref m_closeRel, .ref m_comment, .ref m_ends, .ref m_order, .int v_thrown, .int v_taped, .ref m_tape, .ref m_count, .ref m_nameSize, .ref m_names, .ref m_size, .ref m_data, .int v_lookedSize, .ref m_looked, .int v_fileSize, .ref m_file, .int v_directorySize, .ref m_directory, .int v_outSize, .ref m_out, .int v_rowSize, .ref m_row, .int v_bitAt, .int v_bitEnd, .int v_why, .int v_madeSize, .ref m_made, .ref m_length, .int v_firstCount, .int v_secondCount, .int i2, .int i3, .int v_pressedSize, .ref m_pressed, .int v_at, .int v_bad, .int v_markSize, .ref m_mark, .int v_relationCount, .ref m_idSize, .ref m_ids, .ref m_goalSize, .ref m_goals, .int v_valueSize, .ref m_value, .int v_faultCount, .ref m_faults, .ref m_reached])), (m_pressed, .inl (G.2.1, 5000, .inl a_pressed))]) d_Mod_putBit_22 0 35 t_Mod t_Mod_ok n_Mod rfl rfl (by decide) in_Mod k_1181 rfl (by decide +kernel) rfl rfl (Nat.le_of_ble_eq_true rfl) rfl ?_
  refine pb_aload_n (pc := 25) d_Mod_putBit_25 0 rfl rfl ?_
  refine pb_get (pc := 26) d_Mod_putBit_26 0 35 rfl rfl (by decide) in_Mod k_1181 rfl ?_
  refine pb_bipush (pc := 29) (v := 8) d_Mod_putBit_29 (by decide) ?_
  refine pb_icmp_ne (pc := 31) (tgt := 68) d_Mod_putBit_31 (by decide) (fun w4 => ?_) (fun w4 => ?_)
  · have tw4 : ¬ i3.toInt = 8 := fun z9 => w4 ((ti_eq rfl (by decide)).mpr z9)
    exact pb_vret (pc := 68) hQ d_Mod_putBit_68 rfl (i2, i3, v_pressedSize, a_pressed) ⟨rfl, (by (try dsimp only); first | done | assumption | omega (splitDisjunctions := false) | omega | decide), (by (try dsimp only); first | done | assumption | omega (splitDisjunctions := false) | omega | decide), (by (try dsimp only); first | done | assumption | omega (splitDisjunctions := false) | omega | decide), (by (try dsimp only); first | done | assumption | omega (splitDisjunctions := false) | omega | decide), F_a_pressed⟩ [0, 1] (by decide) rfl rfl (by decide) (by decide)
  · have tw4 : i3.toInt = 8 := (ti_eq rfl (by decide)).mp w4
    refine pb_aload_n (pc := 34) d_Mod_putBit_34 0 rfl rfl ?_
    refine pb_get (pc := 35) d_Mod_putBit_35 0 37 rfl rfl (by decide) in_Mod k_1183 rfl ?_
    refine pb_aload_n (pc := 38) d_Mod_putBit_38 0 rfl rfl ?_
    refine pb_get (pc := 39) d_Mod_putBit_39 0 36 rfl rfl (by decide) in_Mod k_1182 rfl ?_
    refine pb_aload_n (pc := 42) d_Mod_putBit_42 0 rfl rfl ?_
    refine pb_get (pc := 43) d_Mod_putBit_43 0 34 rfl rfl (by decide) in_Mod k_1180 rfl ?_
    refine pb_i2b (pc := 46) d_Mod_putBit_46 rfl ?_
    refine pb_topi (fun i5 ei5 => ?_)
    have ti5 : -128 ≤ i5.toInt ∧ i5.toInt ≤ 127 := ti_i2b ei5
    refine pb_bast (pc := 47) (ws' := [(h, .inr (10, [.ref m_rels, .ref m_openRels, .ref m_closeRels, .ref m_openRel, .ref m_closeRel, .ref m_comment, .ref m_ends, .ref m_order, .int v_thrown, .int v_taped, .ref m_tape, .ref m_count, .ref m_nameSize, .ref m_names, .ref m_size, .ref m_data, .int v_lookedSize, .ref m_looked, .int v_fileSize, .ref m_file, .int v_directorySize, .ref m_directory, .int v_outSize, .ref m_out, .int v_rowSize, .ref m_row, .int v_bitAt, .int v_bitEnd, .int v_why, .int v_madeSize, .ref m_made, .ref m_length, .int v_firstCount, .int v_secondCount, .int i2, .int i3, .int v_pressedSize, .ref m_pressed, .int v_at, .int v_bad, .int v_markSize, .ref m_mark, .int v_relationCount, .ref m_idSize, .ref m_ids, .ref m_goalSize, .ref m_goals, .int v_valueSize, .ref m_value, .int v_faultCount, .ref m_faults, .ref m_reached])), (m_pressed, .inl (G.2.1, 5000, .inl (upd a_pressed ((v_pressedSize : Int32).toNatClampNeg) (vp_nar .byte i5))))]) d_Mod_putBit_47 1 rfl (vp_in_iff.mpr (by omega)) rfl ?_
    refine pb_aload_n (pc := 48) d_Mod_putBit_48 0 rfl rfl ?_
    refine pb_dup (pc := 49) d_Mod_putBit_49 rfl ?_
    refine pb_get (pc := 50) d_Mod_putBit_50 0 36 rfl rfl (by decide) in_Mod k_1182 rfl ?_
    refine pb_iconst (pc := 53) (v := 1) d_Mod_putBit_53 (by decide) ?_
    refine pb_iadd (pc := 54) d_Mod_putBit_54 ?_
    refine pb_topi (fun i6 ei6 => ?_)
    try have ti6 : i6.toInt = v_pressedSize.toInt + 1 := t2_add ei6 rfl (by decide) (by omega)
    refine pb_put (pc := 55) (ty := .int) (ws' := [(h, .inr (10, [.ref m_rels, .ref m_openRels, .ref m_closeRels, .ref m_openRel, .ref m_closeRel, .ref m_comment, .ref m_ends, .ref m_order, .int v_thrown, .int v_taped, .ref m_tape, .ref m_count, .ref m_nameSize, .ref m_names, .ref m_size, .ref m_data, .int v_lookedSize, .ref m_looked, .int v_fileSize, .ref m_file, .int v_directorySize, .ref m_directory, .int v_outSize, .ref m_out, .int v_rowSize, .ref m_row, .int v_bitAt, .int v_bitEnd, .int v_why, .int v_madeSize, .ref m_made, .ref m_length, .int v_firstCount, .int v_secondCount, .int i2, .int i3, .int i6, .ref m_pressed, .int v_at, .int v_bad, .int v_markSize, .ref m_mark, .int v_relationCount, .ref m_idSize, .ref m_ids, .ref m_goalSize, .ref m_goals, .int v_valueSize, .ref m_value, .int v_faultCount, .ref m_faults, .ref m_reached])), (m_pressed, .inl (G.2.1, 5000, .inl (upd a_pressed ((v_pressedSize : Int32).toNatClampNeg) (vp_nar .byte i5))))]) d_Mod_putBit_55 0 36 t_Mod t_Mod_ok n_Mod rfl rfl (by decide) in_Mod k_1182 rfl (by decide +kernel) rfl rfl (Nat.le_of_ble_eq_true rfl) rfl ?_
    refine pb_aload_n (pc := 58) d_Mod_putBit_58 0 rfl rfl ?_
    refine pb_iconst (pc := 59) (v := 0) d_Mod_putBit_59 (by decide) ?_
    refine pb_put (pc := 60) (ty := .int) (ws' := [(h, .inr (10, [.ref m_rels, .ref m_openRels, .ref m_closeRels, .ref m_openRel, .ref m_closeRel, .ref m_comment, .ref m_ends, .ref m_order, .int v_thrown, .int v_taped, .ref m_tape, .ref m_count, .ref m_nameSize, .ref m_names, .ref m_size, .ref m_data, .int v_lookedSize, .ref m_looked, .int v_fileSize, .ref m_file, .int v_directorySize, .ref m_directory, .int v_outSize, .ref m_out, .int v_rowSize, .ref m_row, .int v_bitAt, .int v_bitEnd, .int v_why, .int v_madeSize, .ref m_made, .ref m_length, .int v_firstCount, .int v_secondCount, .int 0, .int i3, .int i6, .ref m_pressed, .int v_at, .int v_bad, .int v_markSize, .ref m_mark, .int v_relationCount, .ref m_idSize, .ref m_ids, .ref m_goalSize, .ref m_goals, .int v_valueSize, .ref m_value, .int v_faultCount, .ref m_faults, .ref m_reached])), (m_pressed, .inl (G.2.1, 5000, .inl (upd a_pressed ((v_pressedSize : Int32).toNatClampNeg) (vp_nar .byte i5))))]) d_Mod_putBit_60 0 34 t_Mod t_Mod_ok n_Mod rfl rfl (by decide) in_Mod k_1180 rfl (by decide +kernel) rfl rfl (Nat.le_of_ble_eq_true rfl) rfl ?_
    refine pb_aload_n (pc := 63) d_Mod_putBit_63 0 rfl rfl ?_
    refine pb_iconst (pc := 64) (v := 0) d_Mod_putBit_64 (by decide) ?_
    refine pb_put (pc := 65) (ty := .int) (ws' := [(h, .inr (10, [.ref m_rels, .ref m_openRels, .ref m_closeRels, .ref m_openRel, .ref m_closeRel, .ref m_comment, .ref m_ends, .ref m_order, .int v_thrown, .int v_taped, .ref m_tape, .ref m_count, .ref m_nameSize, .ref m_names, .ref m_size, .ref m_data, .int v_lookedSize, .ref m_looked, .int v_fileSize, .ref m_file, .int v_directorySize, .ref m_directory, .int v_outSize, .ref m_out, .int v_rowSize, .ref m_row, .int v_bitAt, .int v_bitEnd, .int v_why, .int v_madeSize, .ref m_made, .ref m_length, .int v_firstCount, .int v_secondCount, .int 0, .int 0, .int i6, .ref m_pressed, .int v_at, .int v_bad, .int v_markSize, .ref m_mark, .int v_relationCount, .ref m_idSize, .ref m_ids, .ref m_goalSize, .ref m_goals, .int v_valueSize, .ref m_value, .int v_faultCount, .ref m_faults, .ref m_reached])), (m_pressed, .inl (G.2.1, 5000, .inl (upd a_pressed ((v_pressedSize : Int32).toNatClampNeg) (vp_nar .byte i5))))]) d_Mod_putBit_65 0 35 t_Mod t_Mod_ok n_Mod rfl rfl (by decide) in_Mod k_1181 rfl (by decide +kernel) rfl rfl (Nat.le_of_ble_eq_true rfl) rfl ?_
    exact pb_vret (pc := 68) hQ d_Mod_putBit_68 rfl (0, 0, i6, (upd a_pressed ((v_pressedSize : Int32).toNatClampNeg) (vp_nar .byte i5))) ⟨rfl, (by (try dsimp only); first | done | assumption | omega (splitDisjunctions := false) | omega | decide), (by (try dsimp only); first | done | assumption | omega (splitDisjunctions := false) | omega | decide), (by (try dsimp only); first | done | assumption | omega (splitDisjunctions := false) | omega | decide), (by (try dsimp only); first | done | assumption | omega (splitDisjunctions := false) | omega | decide), (sb_fitU F_a_pressed (fit_nar _))⟩ [0, 1] (by decide) rfl rfl (by decide) (by decide)

theorem d_Mod_putNumber_0 : decode prog_12_method_21_code 0 = .ok (.iconst 0, 1) := by decide +kernel
theorem d_Mod_putNumber_1 : decode prog_12_method_21_code 1 = .ok (.istore_n 3, 1) := by decide +kernel
theorem d_Mod_putNumber_2 : decode prog_12_method_21_code 2 = .ok (.iload_n 3, 1) := by decide +kernel
theorem d_Mod_putNumber_3 : decode prog_12_method_21_code 3 = .ok (.iload_n 2, 1) := by decide +kernel
theorem d_Mod_putNumber_4 : decode prog_12_method_21_code 4 = .ok (.if_icmp .ge 18, 3) := by decide +kernel
theorem d_Mod_putNumber_22 : decode prog_12_method_21_code 22 = .ok (.return_, 1) := by decide +kernel
theorem d_Mod_putNumber_7 : decode prog_12_method_21_code 7 = .ok (.aload_n 0, 1) := by decide +kernel
theorem d_Mod_putNumber_8 : decode prog_12_method_21_code 8 = .ok (.iload_n 1, 1) := by decide +kernel
theorem d_Mod_putNumber_9 : decode prog_12_method_21_code 9 = .ok (.iload_n 3, 1) := by decide +kernel
theorem d_Mod_putNumber_10 : decode prog_12_method_21_code 10 = .ok (.ishr, 1) := by decide +kernel
theorem d_Mod_putNumber_11 : decode prog_12_method_21_code 11 = .ok (.iconst 1, 1) := by decide +kernel
theorem d_Mod_putNumber_12 : decode prog_12_method_21_code 12 = .ok (.iand, 1) := by decide +kernel
theorem d_Mod_putNumber_13 : decode prog_12_method_21_code 13 = .ok (.invokevirtual 162, 3) := by decide +kernel
theorem k_1382 : (Jvm.Cond.methodLink "PackageBookModel" (162 : Nat) ({ cls := "PackageBookModel", name := "putBit", desc := "(I)V" } : Jvm.MethodName)) ∈ uW := uW_of 1382 (by decide +kernel) (by decide +kernel)
theorem k_1385 : (Jvm.Cond.code ({ cls := "PackageBookModel", name := "putBit", desc := "(I)V" } : Jvm.MethodName) prog_12_method_20_code (2 : Nat) (Option.none : Option Jvm.ClassFile.FieldType)) ∈ uW := uW_of 1385 (by decide +kernel) (by decide +kernel)
theorem k_1384 : (Jvm.Cond.instanceMethod ({ cls := "PackageBookModel", name := "putBit", desc := "(I)V" } : Jvm.MethodName)) ∈ uW := uW_of 1384 (by decide +kernel) (by decide +kernel)
theorem k_62 : Cond.selects "PackageBookModel" ⟨"PackageBookModel", "putBit", "(I)V"⟩ ⟨"PackageBookModel", "putBit", "(I)V"⟩ ∈ uW := uW_of 62 (by decide +kernel) (by decide +kernel)
theorem hy_Mod_putBit : (y_Mod_putBit).cls ≠ "java/lang/invoke/MethodHandle" ∧ (y_Mod_putBit).cls ≠ "java/lang/invoke/VarHandle" ∧ (parseMethodDescriptor (y_Mod_putBit).desc).map (fun d => d.parameters.length) = some 1 := by decide +kernel
theorem d_Mod_putNumber_16 : decode prog_12_method_21_code 16 = .ok (.iinc 3 1, 3) := by decide +kernel
theorem d_Mod_putNumber_19 : decode prog_12_method_21_code 19 = .ok (.goto (-17), 3) := by decide +kernel
abbrev y_Mod_putNumber : MethodName := ⟨"PackageBookModel", "putNumber", "(II)V"⟩
abbrev i_Mod_putNumber : pb_I := (y_Mod_putNumber, prog_12_method_21_code, 4, (Option.none : Option Jvm.ClassFile.FieldType), [], { frames := 1, cells := 0, slots := 0, locals := 21 })
set_option maxRecDepth 100000 in
set_option maxHeartbeats 4000000 in
theorem g_Mod_putNumber {l : Launch} (hl : l.stackTraces = false) (G : pb_G) (h : Nat) (m_rels : Nat) (m_openRels : Nat) (m_closeRels : Nat) (m_openRel : Nat) (m_closeRel : Nat) (m_comment : Nat) (m_ends : Nat) (m_order : Nat) (m_tape : Nat) (m_count : Nat) (m_nameSize : Nat) (m_names : Nat) (m_size : Nat) (m_data : Nat) (m_looked : Nat) (m_file : Nat) (m_directory : Nat) (m_out : Nat) (m_row : Nat) (m_made : Nat) (m_length : Nat) (m_pressed : Nat) (m_mark : Nat) (m_idSize : Nat) (m_ids : Nat) (m_goalSize : Nat) (m_goals : Nat) (m_value : Nat) (m_faults : Nat) (m_reached : Nat) (v_thrown : Int32) (v_taped : Int32) (v_lookedSize : Int32) (v_fileSize : Int32) (v_directorySize : Int32) (v_outSize : Int32) (v_rowSize : Int32) (v_bitAt : Int32) (v_bitEnd : Int32) (v_why : Int32) (v_madeSize : Int32) (v_firstCount : Int32) (v_secondCount : Int32) (v_heldBits : Int32) (v_heldCount : Int32) (v_pressedSize : Int32) (v_at : Int32) (v_bad : Int32) (v_markSize : Int32) (v_relationCount : Int32) (v_valueSize : Int32) (v_faultCount : Int32) (a_pressed : Nat → Int32) (v : Int32) (n : Int32) (b0 : 0 ≤ v_heldCount.toInt) (b1 : v_heldCount.toInt < 8) (b2 : 0 ≤ v_pressedSize.toInt) (n0 : 0 ≤ n.toInt) (b3 : (8 * v_pressedSize.toInt + v_heldCount.toInt) + n.toInt ≤ 40000) (F_a_pressed : sb_Fit a_pressed) : Cn l G i_Mod_putNumber [.ref h, .int v, .int n] [(h, .inr (10, [.ref m_rels, .ref m_openRels, .ref m_closeRels, .ref m_openRel, .ref m_closeRel, .ref m_comment, .ref m_ends, .ref m_order, .int v_thrown, .int v_taped, .ref m_tape, .ref m_count, .ref m_nameSize, .ref m_names, .ref m_size, .ref m_data, .int v_lookedSize, .ref m_looked, .int v_fileSize, .ref m_file, .int v_directorySize, .ref m_directory, .int v_outSize, .ref m_out, .int v_rowSize, .ref m_row, .int v_bitAt, .int v_bitEnd, .int v_why, .int v_madeSize, .ref m_made, .ref m_length, .int v_firstCount, .int v_secondCount, .int v_heldBits, .int v_heldCount, .int v_pressedSize, .ref m_pressed, .int v_at, .int v_bad, .int v_markSize, .ref m_mark, .int v_relationCount, .ref m_idSize, .ref m_ids, .ref m_goalSize, .ref m_goals, .int v_valueSize, .ref m_value, .int v_faultCount, .ref m_faults, .ref m_reached])), (m_pressed, .inl (G.2.1, 5000, .inl a_pressed))] (S := Int32 × Int32 × Int32 × (Nat → Int32)) (fun rv_ u => rv_ = none ∧ (0 ≤ u.2.1.toInt) ∧ (u.2.1.toInt < 8) ∧ (0 ≤ u.2.2.1.toInt) ∧ (8 * u.2.2.1.toInt + u.2.1.toInt = (8 * v_pressedSize.toInt + v_heldCount.toInt) + n.toInt) ∧ (sb_Fit u.2.2.2)) (fun u => [(h, .inr (10, [.ref m_rels, .ref m_openRels, .ref m_closeRels, .ref m_openRel, .ref m_closeRel, .ref m_comment, .ref m_ends, .ref m_order, .int v_thrown, .int v_taped, .ref m_tape, .ref m_count, .ref m_nameSize, .ref m_names, .ref m_size, .ref m_data, .int v_lookedSize, .ref m_looked, .int v_fileSize, .ref m_file, .int v_directorySize, .ref m_directory, .int v_outSize, .ref m_out, .int v_rowSize, .ref m_row, .int v_bitAt, .int v_bitEnd, .int v_why, .int v_madeSize, .ref m_made, .ref m_length, .int v_firstCount, .int v_secondCount, .int u.1, .int u.2.1, .int u.2.2.1, .ref m_pressed, .int v_at, .int v_bad, .int v_markSize, .ref m_mark, .int v_relationCount, .ref m_idSize, .ref m_ids, .ref m_goalSize, .ref m_goals, .int v_valueSize, .ref m_value, .int v_faultCount, .ref m_faults, .ref m_reached])), (m_pressed, .inl (G.2.1, 5000, .inl u.2.2.2))]) := by
  refine Cn.of hl (by decide +kernel) rfl (Nat.le_of_ble_eq_true rfl) (fun M hQ => ?_)
  refine pb_eq (pc' := 0) (lo' := [(0, .ref h), (1, .int v), (2, .int n)]) (rest' := []) (ws' := [(h, .inr (10, [.ref m_rels, .ref m_openRels, .ref m_closeRels, .ref m_openRel, .ref m_closeRel, .ref m_comment, .ref m_ends, .ref m_order, .int v_thrown, .int v_taped, .ref m_tape, .ref m_count, .ref m_nameSize, .ref m_names, .ref m_size, .ref m_data, .int v_lookedSize, .ref m_looked, .int v_fileSize, .ref m_file, .int v_directorySize, .ref m_directory, .int v_outSize, .ref m_out, .int v_rowSize, .ref m_row, .int v_bitAt, .int v_bitEnd, .int v_why, .int v_madeSize, .ref m_made, .ref m_length, .int v_firstCount, .int v_secondCount, .int v_heldBits, .int v_heldCount, .int v_pressedSize, .ref m_pressed, .int v_at, .int v_bad, .int v_markSize, .ref m_mark, .int v_relationCount, .ref m_idSize, .ref m_ids, .ref m_goalSize, .ref m_goals, .int v_valueSize, .ref m_value, .int v_faultCount, .ref m_faults, .ref m_reached])), (m_pressed, .inl (G.2.1, 5000, .inl a_pressed))]) ?_
  have zl0 : (0 : Int32).toInt = 0 := by decide
  have zl1 : (1 : Int32).toInt = 1 := by decide
  refine pb_iconst (pc := 0) (v := 0) d_Mod_putNumber_0 (by decide) ?_
  refine pb_istore_n (pc := 1) (lo' := [(3, .int 0), (0, .ref h), (1, .int v), (2, .int n)]) d_Mod_putNumber_1 rfl (by decide) rfl ?_
  have hL2_1 : ∀ (N9 : Nat) (k : Int32) (hb_ : Int32) (hc_ : Int32) (ps_ : Int32) (g_ : Nat → Int32), (sb_Fit g_) → (0 ≤ k.toInt) → (k.toInt ≤ n.toInt) → (0 ≤ hc_.toInt) → (hc_.toInt < 8) → (0 ≤ ps_.toInt) → (8 * ps_.toInt + hc_.toInt = (8 * v_pressedSize.toInt + v_heldCount.toInt) + k.toInt) → ((n.toInt - k.toInt).toNat) < N9 → pb_P l G M i_Mod_putNumber 2 [(3, .int k), (0, .ref h), (1, .int v), (2, .int n)] [] [(h, .inr (10, [.ref m_rels, .ref m_openRels, .ref m_closeRels, .ref m_openRel, .ref m_closeRel, .ref m_comment, .ref m_ends, .ref m_order, .int v_thrown, .int v_taped, .ref m_tape, .ref m_count, .ref m_nameSize, .ref m_names, .ref m_size, .ref m_data, .int v_lookedSize, .ref m_looked, .int v_fileSize, .ref m_file, .int v_directorySize, .ref m_directory, .int v_outSize, .ref m_out, .int v_rowSize, .ref m_row, .int v_bitAt, .int v_bitEnd, .int v_why, .int v_madeSize, .ref m_made, .ref m_length, .int v_firstCount, .int v_secondCount, .int hb_, .int hc_, .int ps_, .ref m_pressed, .int v_at, .int v_bad, .int v_markSize, .ref m_mark, .int v_relationCount, .ref m_idSize, .ref m_ids, .ref m_goalSize, .ref m_goals, .int v_valueSize, .ref m_value, .int v_faultCount, .ref m_faults, .ref m_reached])), (m_pressed, .inl (G.2.1, 5000, .inl g_))] 0 0 := by
    intro N9
    induction N9 with
    | zero => intro k hb_ hc_ ps_ g_ F_g_ k0 k1 k2 k3 k4 k5 hm9; exact absurd hm9 (Nat.not_lt_zero _)
    | succ N9 ih2 =>
      intro k hb_ hc_ ps_ g_ F_g_ k0 k1 k2 k3 k4 k5 hm9
      refine pb_iload_n (pc := 2) d_Mod_putNumber_2 0 rfl rfl ?_
      refine pb_iload_n (pc := 3) d_Mod_putNumber_3 3 rfl rfl ?_
      refine pb_icmp_ge (pc := 4) (tgt := 22) d_Mod_putNumber_4 (by decide) (fun w2 => ?_) (fun w2 => ?_)
      · have tw2 : n.toInt ≤ k.toInt := (ti_le rfl rfl).mp w2
        exact pb_vret (pc := 22) hQ d_Mod_putNumber_22 rfl (hb_, hc_, ps_, g_) ⟨rfl, (by (try dsimp only); first | done | assumption | omega (splitDisjunctions := false) | omega | decide), (by (try dsimp only); first | done | assumption | omega (splitDisjunctions := false) | omega | decide), (by (try dsimp only); first | done | assumption | omega (splitDisjunctions := false) | omega | decide), (by (try dsimp only); first | done | assumption | omega (splitDisjunctions := false) | omega | decide), F_g_⟩ [0, 1] (by decide) rfl rfl (by decide) (by decide)
      · have tw2 : ¬ n.toInt ≤ k.toInt := fun z9 => w2 ((ti_le rfl rfl).mpr z9)
        refine pb_aload_n (pc := 7) d_Mod_putNumber_7 1 rfl rfl ?_
        refine pb_iload_n (pc := 8) d_Mod_putNumber_8 2 rfl rfl ?_
        refine pb_iload_n (pc := 9) d_Mod_putNumber_9 0 rfl rfl ?_
        refine pb_ishr (pc := 10) d_Mod_putNumber_10 ?_
        refine pb_topi (fun i3 ei3 => ?_)
        refine pb_iconst (pc := 11) (v := 1) d_Mod_putNumber_11 (by decide) ?_
        refine pb_iand (pc := 12) d_Mod_putNumber_12 ?_
        refine pb_topi (fun i4 ei4 => ?_)
        have ti4 : 0 ≤ i4.toInt ∧ i4.toInt ≤ 1 := ti_and 1 ei4 (by decide) (by decide)
        refine pb_callV (pc := 13) (I := i_Mod_putNumber) (qb := 0) (ci := 10) (nA := 1) (rest := []) (wr := []) d_Mod_putNumber_13 (g_Mod_putBit hl G h m_rels m_openRels m_closeRels m_openRel m_closeRel m_comment m_ends m_order m_tape m_count m_nameSize m_names m_size m_data m_looked m_file m_directory m_out m_row m_made m_length m_pressed m_mark m_idSize m_ids m_goalSize m_goals m_value m_faults m_reached v_thrown v_taped v_lookedSize v_fileSize v_directorySize v_outSize v_rowSize v_bitAt v_bitEnd v_why v_madeSize v_firstCount v_secondCount hb_ hc_ ps_ v_at v_bad v_markSize v_relationCount v_valueSize v_faultCount g_ i4 (by first | assumption | omega (splitDisjunctions := false) | omega | decide) (by first | assumption | omega (splitDisjunctions := false) | omega | decide) (by first | assumption | omega (splitDisjunctions := false) | omega | decide) (by first | assumption | omega (splitDisjunctions := false) | omega | decide) F_g_) rfl rfl [0, 1] [] (by decide) rfl rfl rfl (by decide) (by decide) k_1385 rfl k_128 k_1382 k_1384 k_62 ⟨rfl, hy_Mod_putBit⟩ (by decide) rfl rfl (Nat.le_of_ble_eq_true rfl) (by decide) (fun v9 u6 ch5 => ?_)
        obtain ⟨hb_7, hc_8, ps_9, g_10⟩ := u6
        obtain ⟨ech5, ch5⟩ := ch5
        have ech5 : v9 = none := ech5
        subst ech5
        obtain ⟨fh11, fh12, fh13, fh14, fh15⟩ : (0 ≤ hc_8.toInt) ∧ (hc_8.toInt < 8) ∧ (0 ≤ ps_9.toInt) ∧ (8 * ps_9.toInt + hc_8.toInt = (8 * ps_.toInt + hc_.toInt) + 1) ∧ (sb_Fit g_10) := ch5
        refine pb_eq (pc' := 16) (lo' := [(3, .int k), (0, .ref h), (1, .int v), (2, .int n)]) (rest' := []) (ws' := [(h, .inr (10, [.ref m_rels, .ref m_openRels, .ref m_closeRels, .ref m_openRel, .ref m_closeRel, .ref m_comment, .ref m_ends, .ref m_order, .int v_thrown, .int v_taped, .ref m_tape, .ref m_count, .ref m_nameSize, .ref m_names, .ref m_size, .ref m_data, .int v_lookedSize, .ref m_looked, .int v_fileSize, .ref m_file, .int v_directorySize, .ref m_directory, .int v_outSize, .ref m_out, .int v_rowSize, .ref m_row, .int v_bitAt, .int v_bitEnd, .int v_why, .int v_madeSize, .ref m_made, .ref m_length, .int v_firstCount, .int v_secondCount, .int hb_7, .int hc_8, .int ps_9, .ref m_pressed, .int v_at, .int v_bad, .int v_markSize, .ref m_mark, .int v_relationCount, .ref m_idSize, .ref m_ids, .ref m_goalSize, .ref m_goals, .int v_valueSize, .ref m_value, .int v_faultCount, .ref m_faults, .ref m_reached])), (m_pressed, .inl (G.2.1, 5000, .inl g_10))]) ?_
        refine pb_iincN (pc := 16) (c := 1) d_Mod_putNumber_16 0 rfl (by decide) (by decide) (fun i16 ei16 => ?_)
        have ti16 : i16.toInt = k.toInt + 1 := t2_add ei16 rfl (by decide) (by first | omega | (have r90 := ti_rng k; have r91 := ti_rng i16; have r92 := ti_rng v; have r93 := ti_rng n; omega))
        refine pb_eq (pc' := 19) (lo' := [(3, .int i16), (0, .ref h), (1, .int v), (2, .int n)]) (rest' := []) (ws' := [(h, .inr (10, [.ref m_rels, .ref m_openRels, .ref m_closeRels, .ref m_openRel, .ref m_closeRel, .ref m_comment, .ref m_ends, .ref m_order, .int v_thrown, .int v_taped, .ref m_tape, .ref m_count, .ref m_nameSize, .ref m_names, .ref m_size, .ref m_data, .int v_lookedSize, .ref m_looked, .int v_fileSize, .ref m_file, .int v_directorySize, .ref m_directory, .int v_outSize, .ref m_out, .int v_rowSize, .ref m_row, .int v_bitAt, .int v_bitEnd, .int v_why, .int v_madeSize, .ref m_made, .ref m_length, .int v_firstCount, .int v_secondCount, .int hb_7, .int hc_8, .int ps_9, .ref m_pressed, .int v_at, .int v_bad, .int v_markSize, .ref m_mark, .int v_relationCount, .ref m_idSize, .ref m_ids, .ref m_goalSize, .ref m_goals, .int v_valueSize, .ref m_value, .int v_faultCount, .ref m_faults, .ref m_reached])), (m_pressed, .inl (G.2.1, 5000, .inl g_10))]) ?_
        refine pb_goto (pc := 19) (tgt := 2) d_Mod_putNumber_19 (by decide) ?_
        exact ih2 i16 hb_7 hc_8 ps_9 g_10 fh15 (by first | assumption | omega (splitDisjunctions := false) | omega | decide) (by first | assumption | omega (splitDisjunctions := false) | omega | decide) (by first | assumption | omega (splitDisjunctions := false) | omega | decide) (by first | assumption | omega (splitDisjunctions := false) | omega | decide) (by first | assumption | omega (splitDisjunctions := false) | omega | decide) (by first | assumption | omega (splitDisjunctions := false) | omega | decide) (by omega)
  exact hL2_1 _ 0 v_heldBits v_heldCount v_pressedSize a_pressed F_a_pressed (by first | assumption | omega (splitDisjunctions := false) | omega | decide) (by first | assumption | omega (splitDisjunctions := false) | omega | decide) (by first | assumption | omega (splitDisjunctions := false) | omega | decide) (by first | assumption | omega (splitDisjunctions := false) | omega | decide) (by first | assumption | omega (splitDisjunctions := false) | omega | decide) (by first | assumption | omega (splitDisjunctions := false) | omega | decide) (Nat.lt_succ_self _)

theorem d_Mod_putCode_0 : decode prog_12_method_22_code 0 = .ok (.iload_n 2, 1) := by decide +kernel
theorem d_Mod_putCode_1 : decode prog_12_method_22_code 1 = .ok (.iconst 1, 1) := by decide +kernel
theorem d_Mod_putCode_2 : decode prog_12_method_22_code 2 = .ok (.isub, 1) := by decide +kernel
theorem d_Mod_putCode_3 : decode prog_12_method_22_code 3 = .ok (.istore_n 3, 1) := by decide +kernel
theorem d_Mod_putCode_4 : decode prog_12_method_22_code 4 = .ok (.iload_n 3, 1) := by decide +kernel
theorem d_Mod_putCode_5 : decode prog_12_method_22_code 5 = .ok (.ifCond .lt 18, 3) := by decide +kernel
theorem d_Mod_putCode_23 : decode prog_12_method_22_code 23 = .ok (.return_, 1) := by decide +kernel
theorem d_Mod_putCode_8 : decode prog_12_method_22_code 8 = .ok (.aload_n 0, 1) := by decide +kernel
theorem d_Mod_putCode_9 : decode prog_12_method_22_code 9 = .ok (.iload_n 1, 1) := by decide +kernel
theorem d_Mod_putCode_10 : decode prog_12_method_22_code 10 = .ok (.iload_n 3, 1) := by decide +kernel
theorem d_Mod_putCode_11 : decode prog_12_method_22_code 11 = .ok (.ishr, 1) := by decide +kernel
theorem d_Mod_putCode_12 : decode prog_12_method_22_code 12 = .ok (.iconst 1, 1) := by decide +kernel
theorem d_Mod_putCode_13 : decode prog_12_method_22_code 13 = .ok (.iand, 1) := by decide +kernel
theorem d_Mod_putCode_14 : decode prog_12_method_22_code 14 = .ok (.invokevirtual 162, 3) := by decide +kernel
theorem d_Mod_putCode_17 : decode prog_12_method_22_code 17 = .ok (.iinc 3 (-1), 3) := by decide +kernel
theorem d_Mod_putCode_20 : decode prog_12_method_22_code 20 = .ok (.goto (-16), 3) := by decide +kernel
abbrev y_Mod_putCode : MethodName := ⟨"PackageBookModel", "putCode", "(II)V"⟩
abbrev i_Mod_putCode : pb_I := (y_Mod_putCode, prog_12_method_22_code, 4, (Option.none : Option Jvm.ClassFile.FieldType), [], { frames := 1, cells := 0, slots := 0, locals := 21 })
set_option maxRecDepth 100000 in
set_option maxHeartbeats 4000000 in
theorem g_Mod_putCode {l : Launch} (hl : l.stackTraces = false) (G : pb_G) (h : Nat) (m_rels : Nat) (m_openRels : Nat) (m_closeRels : Nat) (m_openRel : Nat) (m_closeRel : Nat) (m_comment : Nat) (m_ends : Nat) (m_order : Nat) (m_tape : Nat) (m_count : Nat) (m_nameSize : Nat) (m_names : Nat) (m_size : Nat) (m_data : Nat) (m_looked : Nat) (m_file : Nat) (m_directory : Nat) (m_out : Nat) (m_row : Nat) (m_made : Nat) (m_length : Nat) (m_pressed : Nat) (m_mark : Nat) (m_idSize : Nat) (m_ids : Nat) (m_goalSize : Nat) (m_goals : Nat) (m_value : Nat) (m_faults : Nat) (m_reached : Nat) (v_thrown : Int32) (v_taped : Int32) (v_lookedSize : Int32) (v_fileSize : Int32) (v_directorySize : Int32) (v_outSize : Int32) (v_rowSize : Int32) (v_bitAt : Int32) (v_bitEnd : Int32) (v_why : Int32) (v_madeSize : Int32) (v_firstCount : Int32) (v_secondCount : Int32) (v_heldBits : Int32) (v_heldCount : Int32) (v_pressedSize : Int32) (v_at : Int32) (v_bad : Int32) (v_markSize : Int32) (v_relationCount : Int32) (v_valueSize : Int32) (v_faultCount : Int32) (a_pressed : Nat → Int32) (v : Int32) (n : Int32) (b0 : 0 ≤ v_heldCount.toInt) (b1 : v_heldCount.toInt < 8) (b2 : 0 ≤ v_pressedSize.toInt) (n0 : 0 ≤ n.toInt) (b3 : (8 * v_pressedSize.toInt + v_heldCount.toInt) + n.toInt ≤ 40000) (F_a_pressed : sb_Fit a_pressed) : Cn l G i_Mod_putCode [.ref h, .int v, .int n] [(h, .inr (10, [.ref m_rels, .ref m_openRels, .ref m_closeRels, .ref m_openRel, .ref m_closeRel, .ref m_comment, .ref m_ends, .ref m_order, .int v_thrown, .int v_taped, .ref m_tape, .ref m_count, .ref m_nameSize, .ref m_names, .ref m_size, .ref m_data, .int v_lookedSize, .ref m_looked, .int v_fileSize, .ref m_file, .int v_directorySize, .ref m_directory, .int v_outSize, .ref m_out, .int v_rowSize, .ref m_row, .int v_bitAt, .int v_bitEnd, .int v_why, .int v_madeSize, .ref m_made, .ref m_length, .int v_firstCount, .int v_secondCount, .int v_heldBits, .int v_heldCount, .int v_pressedSize, .ref m_pressed, .int v_at, .int v_bad, .int v_markSize, .ref m_mark, .int v_relationCount, .ref m_idSize, .ref m_ids, .ref m_goalSize, .ref m_goals, .int v_valueSize, .ref m_value, .int v_faultCount, .ref m_faults, .ref m_reached])), (m_pressed, .inl (G.2.1, 5000, .inl a_pressed))] (S := Int32 × Int32 × Int32 × (Nat → Int32)) (fun rv_ u => rv_ = none ∧ (0 ≤ u.2.1.toInt) ∧ (u.2.1.toInt < 8) ∧ (0 ≤ u.2.2.1.toInt) ∧ (8 * u.2.2.1.toInt + u.2.1.toInt = (8 * v_pressedSize.toInt + v_heldCount.toInt) + n.toInt) ∧ (sb_Fit u.2.2.2)) (fun u => [(h, .inr (10, [.ref m_rels, .ref m_openRels, .ref m_closeRels, .ref m_openRel, .ref m_closeRel, .ref m_comment, .ref m_ends, .ref m_order, .int v_thrown, .int v_taped, .ref m_tape, .ref m_count, .ref m_nameSize, .ref m_names, .ref m_size, .ref m_data, .int v_lookedSize, .ref m_looked, .int v_fileSize, .ref m_file, .int v_directorySize, .ref m_directory, .int v_outSize, .ref m_out, .int v_rowSize, .ref m_row, .int v_bitAt, .int v_bitEnd, .int v_why, .int v_madeSize, .ref m_made, .ref m_length, .int v_firstCount, .int v_secondCount, .int u.1, .int u.2.1, .int u.2.2.1, .ref m_pressed, .int v_at, .int v_bad, .int v_markSize, .ref m_mark, .int v_relationCount, .ref m_idSize, .ref m_ids, .ref m_goalSize, .ref m_goals, .int v_valueSize, .ref m_value, .int v_faultCount, .ref m_faults, .ref m_reached])), (m_pressed, .inl (G.2.1, 5000, .inl u.2.2.2))]) := by
  refine Cn.of hl (by decide +kernel) rfl (Nat.le_of_ble_eq_true rfl) (fun M hQ => ?_)
  refine pb_eq (pc' := 0) (lo' := [(0, .ref h), (1, .int v), (2, .int n)]) (rest' := []) (ws' := [(h, .inr (10, [.ref m_rels, .ref m_openRels, .ref m_closeRels, .ref m_openRel, .ref m_closeRel, .ref m_comment, .ref m_ends, .ref m_order, .int v_thrown, .int v_taped, .ref m_tape, .ref m_count, .ref m_nameSize, .ref m_names, .ref m_size, .ref m_data, .int v_lookedSize, .ref m_looked, .int v_fileSize, .ref m_file, .int v_directorySize, .ref m_directory, .int v_outSize, .ref m_out, .int v_rowSize, .ref m_row, .int v_bitAt, .int v_bitEnd, .int v_why, .int v_madeSize, .ref m_made, .ref m_length, .int v_firstCount, .int v_secondCount, .int v_heldBits, .int v_heldCount, .int v_pressedSize, .ref m_pressed, .int v_at, .int v_bad, .int v_markSize, .ref m_mark, .int v_relationCount, .ref m_idSize, .ref m_ids, .ref m_goalSize, .ref m_goals, .int v_valueSize, .ref m_value, .int v_faultCount, .ref m_faults, .ref m_reached])), (m_pressed, .inl (G.2.1, 5000, .inl a_pressed))]) ?_
  have zl0 : (0 : Int32).toInt = 0 := by decide
  have zl1 : (1 : Int32).toInt = 1 := by decide
  refine pb_iload_n (pc := 0) d_Mod_putCode_0 2 rfl rfl ?_
  refine pb_iconst (pc := 1) (v := 1) d_Mod_putCode_1 (by decide) ?_
  refine pb_isub (pc := 2) d_Mod_putCode_2 ?_
  refine pb_topi (fun i1 ei1 => ?_)
  try have ti1 : i1.toInt = n.toInt - 1 := t2_sub ei1 rfl (by decide) (by omega)
  refine pb_istore_n (pc := 3) (lo' := [(3, .int i1), (0, .ref h), (1, .int v), (2, .int n)]) d_Mod_putCode_3 rfl (by decide) rfl ?_
  have hL4_2 : ∀ (N9 : Nat) (k : Int32) (hb_ : Int32) (hc_ : Int32) (ps_ : Int32) (g_ : Nat → Int32), (sb_Fit g_) → (-1 ≤ k.toInt) → (k.toInt ≤ n.toInt - 1) → (0 ≤ hc_.toInt) → (hc_.toInt < 8) → (0 ≤ ps_.toInt) → (8 * ps_.toInt + hc_.toInt = (8 * v_pressedSize.toInt + v_heldCount.toInt) + (n.toInt - 1 - k.toInt)) → ((k.toInt + 1).toNat) < N9 → pb_P l G M i_Mod_putCode 4 [(3, .int k), (0, .ref h), (1, .int v), (2, .int n)] [] [(h, .inr (10, [.ref m_rels, .ref m_openRels, .ref m_closeRels, .ref m_openRel, .ref m_closeRel, .ref m_comment, .ref m_ends, .ref m_order, .int v_thrown, .int v_taped, .ref m_tape, .ref m_count, .ref m_nameSize, .ref m_names, .ref m_size, .ref m_data, .int v_lookedSize, .ref m_looked, .int v_fileSize, .ref m_file, .int v_directorySize, .ref m_directory, .int v_outSize, .ref m_out, .int v_rowSize, .ref m_row, .int v_bitAt, .int v_bitEnd, .int v_why, .int v_madeSize, .ref m_made, .ref m_length, .int v_firstCount, .int v_secondCount, .int hb_, .int hc_, .int ps_, .ref m_pressed, .int v_at, .int v_bad, .int v_markSize, .ref m_mark, .int v_relationCount, .ref m_idSize, .ref m_ids, .ref m_goalSize, .ref m_goals, .int v_valueSize, .ref m_value, .int v_faultCount, .ref m_faults, .ref m_reached])), (m_pressed, .inl (G.2.1, 5000, .inl g_))] 0 0 := by
    intro N9
    induction N9 with
    | zero => intro k hb_ hc_ ps_ g_ F_g_ k0 k1 k2 k3 k4 k5 hm9; exact absurd hm9 (Nat.not_lt_zero _)
    | succ N9 ih4 =>
      intro k hb_ hc_ ps_ g_ F_g_ k0 k1 k2 k3 k4 k5 hm9
      refine pb_iload_n (pc := 4) d_Mod_putCode_4 0 rfl rfl ?_
      refine pb_if_lt (pc := 5) (tgt := 23) d_Mod_putCode_5 (by decide) (fun w3 => ?_) (fun w3 => ?_)
      · have tw3 : k.toInt < 0 := (ti_lt rfl (by decide)).mp w3
        exact pb_vret (pc := 23) hQ d_Mod_putCode_23 rfl (hb_, hc_, ps_, g_) ⟨rfl, (by (try dsimp only); first | done | assumption | omega (splitDisjunctions := false) | omega | decide), (by (try dsimp only); first | done | assumption | omega (splitDisjunctions := false) | omega | decide), (by (try dsimp only); first | done | assumption | omega (splitDisjunctions := false) | omega | decide), (by (try dsimp only); first | done | assumption | omega (splitDisjunctions := false) | omega | decide), F_g_⟩ [0, 1] (by decide) rfl rfl (by decide) (by decide)
      · have tw3 : ¬ k.toInt < 0 := fun z9 => w3 ((ti_lt rfl (by decide)).mpr z9)
        refine pb_aload_n (pc := 8) d_Mod_putCode_8 1 rfl rfl ?_
        refine pb_iload_n (pc := 9) d_Mod_putCode_9 2 rfl rfl ?_
        refine pb_iload_n (pc := 10) d_Mod_putCode_10 0 rfl rfl ?_
        refine pb_ishr (pc := 11) d_Mod_putCode_11 ?_
        refine pb_topi (fun i4 ei4 => ?_)
        refine pb_iconst (pc := 12) (v := 1) d_Mod_putCode_12 (by decide) ?_
        refine pb_iand (pc := 13) d_Mod_putCode_13 ?_
        refine pb_topi (fun i5 ei5 => ?_)
        have ti5 : 0 ≤ i5.toInt ∧ i5.toInt ≤ 1 := ti_and 1 ei5 (by decide) (by decide)
        refine pb_callV (pc := 14) (I := i_Mod_putCode) (qb := 0) (ci := 10) (nA := 1) (rest := []) (wr := []) d_Mod_putCode_14 (g_Mod_putBit hl G h m_rels m_openRels m_closeRels m_openRel m_closeRel m_comment m_ends m_order m_tape m_count m_nameSize m_names m_size m_data m_looked m_file m_directory m_out m_row m_made m_length m_pressed m_mark m_idSize m_ids m_goalSize m_goals m_value m_faults m_reached v_thrown v_taped v_lookedSize v_fileSize v_directorySize v_outSize v_rowSize v_bitAt v_bitEnd v_why v_madeSize v_firstCount v_secondCount hb_ hc_ ps_ v_at v_bad v_markSize v_relationCount v_valueSize v_faultCount g_ i5 (by first | assumption | omega (splitDisjunctions := false) | omega | decide) (by first | assumption | omega (splitDisjunctions := false) | omega | decide) (by first | assumption | omega (splitDisjunctions := false) | omega | decide) (by first | assumption | omega (splitDisjunctions := false) | omega | decide) F_g_) rfl rfl [0, 1] [] (by decide) rfl rfl rfl (by decide) (by decide) k_1385 rfl k_128 k_1382 k_1384 k_62 ⟨rfl, hy_Mod_putBit⟩ (by decide) rfl rfl (Nat.le_of_ble_eq_true rfl) (by decide) (fun v9 u7 ch6 => ?_)
        obtain ⟨hb_8, hc_9, ps_10, g_11⟩ := u7
        obtain ⟨ech6, ch6⟩ := ch6
        have ech6 : v9 = none := ech6
        subst ech6
        obtain ⟨fh12, fh13, fh14, fh15, fh16⟩ : (0 ≤ hc_9.toInt) ∧ (hc_9.toInt < 8) ∧ (0 ≤ ps_10.toInt) ∧ (8 * ps_10.toInt + hc_9.toInt = (8 * ps_.toInt + hc_.toInt) + 1) ∧ (sb_Fit g_11) := ch6
        refine pb_eq (pc' := 17) (lo' := [(3, .int k), (0, .ref h), (1, .int v), (2, .int n)]) (rest' := []) (ws' := [(h, .inr (10, [.ref m_rels, .ref m_openRels, .ref m_closeRels, .ref m_openRel, .ref m_closeRel, .ref m_comment, .ref m_ends, .ref m_order, .int v_thrown, .int v_taped, .ref m_tape, .ref m_count, .ref m_nameSize, .ref m_names, .ref m_size, .ref m_data, .int v_lookedSize, .ref m_looked, .int v_fileSize, .ref m_file, .int v_directorySize, .ref m_directory, .int v_outSize, .ref m_out, .int v_rowSize, .ref m_row, .int v_bitAt, .int v_bitEnd, .int v_why, .int v_madeSize, .ref m_made, .ref m_length, .int v_firstCount, .int v_secondCount, .int hb_8, .int hc_9, .int ps_10, .ref m_pressed, .int v_at, .int v_bad, .int v_markSize, .ref m_mark, .int v_relationCount, .ref m_idSize, .ref m_ids, .ref m_goalSize, .ref m_goals, .int v_valueSize, .ref m_value, .int v_faultCount, .ref m_faults, .ref m_reached])), (m_pressed, .inl (G.2.1, 5000, .inl g_11))]) ?_
        refine pb_iincN (pc := 17) (c := (-1)) d_Mod_putCode_17 0 rfl (by decide) (by decide) (fun i17 ei17 => ?_)
        have ti17 : i17.toInt = k.toInt + (-1) := t2_add ei17 rfl (by decide) (by first | omega | (have r90 := ti_rng k; have r91 := ti_rng i17; have r92 := ti_rng v; have r93 := ti_rng n; omega))
        refine pb_eq (pc' := 20) (lo' := [(3, .int i17), (0, .ref h), (1, .int v), (2, .int n)]) (rest' := []) (ws' := [(h, .inr (10, [.ref m_rels, .ref m_openRels, .ref m_closeRels, .ref m_openRel, .ref m_closeRel, .ref m_comment, .ref m_ends, .ref m_order, .int v_thrown, .int v_taped, .ref m_tape, .ref m_count, .ref m_nameSize, .ref m_names, .ref m_size, .ref m_data, .int v_lookedSize, .ref m_looked, .int v_fileSize, .ref m_file, .int v_directorySize, .ref m_directory, .int v_outSize, .ref m_out, .int v_rowSize, .ref m_row, .int v_bitAt, .int v_bitEnd, .int v_why, .int v_madeSize, .ref m_made, .ref m_length, .int v_firstCount, .int v_secondCount, .int hb_8, .int hc_9, .int ps_10, .ref m_pressed, .int v_at, .int v_bad, .int v_markSize, .ref m_mark, .int v_relationCount, .ref m_idSize, .ref m_ids, .ref m_goalSize, .ref m_goals, .int v_valueSize, .ref m_value, .int v_faultCount, .ref m_faults, .ref m_reached])), (m_pressed, .inl (G.2.1, 5000, .inl g_11))]) ?_
        refine pb_goto (pc := 20) (tgt := 4) d_Mod_putCode_20 (by decide) ?_
        exact ih4 i17 hb_8 hc_9 ps_10 g_11 fh16 (by first | assumption | omega (splitDisjunctions := false) | omega | decide) (by first | assumption | omega (splitDisjunctions := false) | omega | decide) (by first | assumption | omega (splitDisjunctions := false) | omega | decide) (by first | assumption | omega (splitDisjunctions := false) | omega | decide) (by first | assumption | omega (splitDisjunctions := false) | omega | decide) (by first | assumption | omega (splitDisjunctions := false) | omega | decide) (by omega)
  exact hL4_2 _ i1 v_heldBits v_heldCount v_pressedSize a_pressed F_a_pressed (by first | assumption | omega (splitDisjunctions := false) | omega | decide) (by first | assumption | omega (splitDisjunctions := false) | omega | decide) (by first | assumption | omega (splitDisjunctions := false) | omega | decide) (by first | assumption | omega (splitDisjunctions := false) | omega | decide) (by first | assumption | omega (splitDisjunctions := false) | omega | decide) (by first | assumption | omega (splitDisjunctions := false) | omega | decide) (Nat.lt_succ_self _)

theorem d_Mod_putSymbol_0 : decode prog_12_method_23_code 0 = .ok (.iload_n 1, 1) := by decide +kernel
theorem d_Mod_putSymbol_1 : decode prog_12_method_23_code 1 = .ok (.sipush 144, 3) := by decide +kernel
theorem d_Mod_putSymbol_4 : decode prog_12_method_23_code 4 = .ok (.if_icmp .ge 16, 3) := by decide +kernel
theorem d_Mod_putSymbol_20 : decode prog_12_method_23_code 20 = .ok (.iload_n 1, 1) := by decide +kernel
theorem d_Mod_putSymbol_21 : decode prog_12_method_23_code 21 = .ok (.sipush 256, 3) := by decide +kernel
theorem d_Mod_putSymbol_24 : decode prog_12_method_23_code 24 = .ok (.if_icmp .ge 17, 3) := by decide +kernel
theorem d_Mod_putSymbol_41 : decode prog_12_method_23_code 41 = .ok (.iload_n 1, 1) := by decide +kernel
theorem d_Mod_putSymbol_42 : decode prog_12_method_23_code 42 = .ok (.sipush 280, 3) := by decide +kernel
theorem d_Mod_putSymbol_45 : decode prog_12_method_23_code 45 = .ok (.if_icmp .ge 17, 3) := by decide +kernel
theorem d_Mod_putSymbol_62 : decode prog_12_method_23_code 62 = .ok (.aload_n 0, 1) := by decide +kernel
theorem d_Mod_putSymbol_63 : decode prog_12_method_23_code 63 = .ok (.iload_n 1, 1) := by decide +kernel
theorem d_Mod_putSymbol_64 : decode prog_12_method_23_code 64 = .ok (.bipush 88, 2) := by decide +kernel
theorem d_Mod_putSymbol_66 : decode prog_12_method_23_code 66 = .ok (.isub, 1) := by decide +kernel
theorem d_Mod_putSymbol_67 : decode prog_12_method_23_code 67 = .ok (.bipush 8, 2) := by decide +kernel
theorem d_Mod_putSymbol_69 : decode prog_12_method_23_code 69 = .ok (.invokevirtual 166, 3) := by decide +kernel
theorem k_1393 : (Jvm.Cond.methodLink "PackageBookModel" (166 : Nat) ({ cls := "PackageBookModel", name := "putCode", desc := "(II)V" } : Jvm.MethodName)) ∈ uW := uW_of 1393 (by decide +kernel) (by decide +kernel)
theorem k_1396 : (Jvm.Cond.code ({ cls := "PackageBookModel", name := "putCode", desc := "(II)V" } : Jvm.MethodName) prog_12_method_22_code (4 : Nat) (Option.none : Option Jvm.ClassFile.FieldType)) ∈ uW := uW_of 1396 (by decide +kernel) (by decide +kernel)
theorem k_1395 : (Jvm.Cond.instanceMethod ({ cls := "PackageBookModel", name := "putCode", desc := "(II)V" } : Jvm.MethodName)) ∈ uW := uW_of 1395 (by decide +kernel) (by decide +kernel)
theorem k_64 : Cond.selects "PackageBookModel" ⟨"PackageBookModel", "putCode", "(II)V"⟩ ⟨"PackageBookModel", "putCode", "(II)V"⟩ ∈ uW := uW_of 64 (by decide +kernel) (by decide +kernel)
theorem hy_Mod_putCode : (y_Mod_putCode).cls ≠ "java/lang/invoke/MethodHandle" ∧ (y_Mod_putCode).cls ≠ "java/lang/invoke/VarHandle" ∧ (parseMethodDescriptor (y_Mod_putCode).desc).map (fun d => d.parameters.length) = some 2 := by decide +kernel
theorem d_Mod_putSymbol_72 : decode prog_12_method_23_code 72 = .ok (.return_, 1) := by decide +kernel
theorem d_Mod_putSymbol_48 : decode prog_12_method_23_code 48 = .ok (.aload_n 0, 1) := by decide +kernel
theorem d_Mod_putSymbol_49 : decode prog_12_method_23_code 49 = .ok (.iload_n 1, 1) := by decide +kernel
theorem d_Mod_putSymbol_50 : decode prog_12_method_23_code 50 = .ok (.sipush 256, 3) := by decide +kernel
theorem d_Mod_putSymbol_53 : decode prog_12_method_23_code 53 = .ok (.isub, 1) := by decide +kernel
theorem d_Mod_putSymbol_54 : decode prog_12_method_23_code 54 = .ok (.bipush 7, 2) := by decide +kernel
theorem d_Mod_putSymbol_56 : decode prog_12_method_23_code 56 = .ok (.invokevirtual 166, 3) := by decide +kernel
theorem d_Mod_putSymbol_59 : decode prog_12_method_23_code 59 = .ok (.goto 13, 3) := by decide +kernel
theorem d_Mod_putSymbol_27 : decode prog_12_method_23_code 27 = .ok (.aload_n 0, 1) := by decide +kernel
theorem d_Mod_putSymbol_28 : decode prog_12_method_23_code 28 = .ok (.sipush 256, 3) := by decide +kernel
theorem d_Mod_putSymbol_31 : decode prog_12_method_23_code 31 = .ok (.iload_n 1, 1) := by decide +kernel
theorem d_Mod_putSymbol_32 : decode prog_12_method_23_code 32 = .ok (.iadd, 1) := by decide +kernel
theorem d_Mod_putSymbol_33 : decode prog_12_method_23_code 33 = .ok (.bipush 9, 2) := by decide +kernel
theorem d_Mod_putSymbol_35 : decode prog_12_method_23_code 35 = .ok (.invokevirtual 166, 3) := by decide +kernel
theorem d_Mod_putSymbol_38 : decode prog_12_method_23_code 38 = .ok (.goto 34, 3) := by decide +kernel
theorem d_Mod_putSymbol_7 : decode prog_12_method_23_code 7 = .ok (.aload_n 0, 1) := by decide +kernel
theorem d_Mod_putSymbol_8 : decode prog_12_method_23_code 8 = .ok (.bipush 48, 2) := by decide +kernel
theorem d_Mod_putSymbol_10 : decode prog_12_method_23_code 10 = .ok (.iload_n 1, 1) := by decide +kernel
theorem d_Mod_putSymbol_11 : decode prog_12_method_23_code 11 = .ok (.iadd, 1) := by decide +kernel
theorem d_Mod_putSymbol_12 : decode prog_12_method_23_code 12 = .ok (.bipush 8, 2) := by decide +kernel
theorem d_Mod_putSymbol_14 : decode prog_12_method_23_code 14 = .ok (.invokevirtual 166, 3) := by decide +kernel
theorem d_Mod_putSymbol_17 : decode prog_12_method_23_code 17 = .ok (.goto 55, 3) := by decide +kernel
abbrev y_Mod_putSymbol : MethodName := ⟨"PackageBookModel", "putSymbol", "(I)V"⟩
abbrev i_Mod_putSymbol : pb_I := (y_Mod_putSymbol, prog_12_method_23_code, 2, (Option.none : Option Jvm.ClassFile.FieldType), [], { frames := 2, cells := 0, slots := 0, locals := 44 })
set_option maxRecDepth 100000 in
set_option maxHeartbeats 4000000 in
theorem g_Mod_putSymbol {l : Launch} (hl : l.stackTraces = false) (G : pb_G) (h : Nat) (m_rels : Nat) (m_openRels : Nat) (m_closeRels : Nat) (m_openRel : Nat) (m_closeRel : Nat) (m_comment : Nat) (m_ends : Nat) (m_order : Nat) (m_tape : Nat) (m_count : Nat) (m_nameSize : Nat) (m_names : Nat) (m_size : Nat) (m_data : Nat) (m_looked : Nat) (m_file : Nat) (m_directory : Nat) (m_out : Nat) (m_row : Nat) (m_made : Nat) (m_length : Nat) (m_pressed : Nat) (m_mark : Nat) (m_idSize : Nat) (m_ids : Nat) (m_goalSize : Nat) (m_goals : Nat) (m_value : Nat) (m_faults : Nat) (m_reached : Nat) (v_thrown : Int32) (v_taped : Int32) (v_lookedSize : Int32) (v_fileSize : Int32) (v_directorySize : Int32) (v_outSize : Int32) (v_rowSize : Int32) (v_bitAt : Int32) (v_bitEnd : Int32) (v_why : Int32) (v_madeSize : Int32) (v_firstCount : Int32) (v_secondCount : Int32) (v_heldBits : Int32) (v_heldCount : Int32) (v_pressedSize : Int32) (v_at : Int32) (v_bad : Int32) (v_markSize : Int32) (v_relationCount : Int32) (v_valueSize : Int32) (v_faultCount : Int32) (a_pressed : Nat → Int32) (v : Int32) (b0 : 0 ≤ v_heldCount.toInt) (b1 : v_heldCount.toInt < 8) (b2 : 0 ≤ v_pressedSize.toInt) (b3 : (8 * v_pressedSize.toInt + v_heldCount.toInt) + 9 ≤ 40000) (F_a_pressed : sb_Fit a_pressed) : Cn l G i_Mod_putSymbol [.ref h, .int v] [(h, .inr (10, [.ref m_rels, .ref m_openRels, .ref m_closeRels, .ref m_openRel, .ref m_closeRel, .ref m_comment, .ref m_ends, .ref m_order, .int v_thrown, .int v_taped, .ref m_tape, .ref m_count, .ref m_nameSize, .ref m_names, .ref m_size, .ref m_data, .int v_lookedSize, .ref m_looked, .int v_fileSize, .ref m_file, .int v_directorySize, .ref m_directory, .int v_outSize, .ref m_out, .int v_rowSize, .ref m_row, .int v_bitAt, .int v_bitEnd, .int v_why, .int v_madeSize, .ref m_made, .ref m_length, .int v_firstCount, .int v_secondCount, .int v_heldBits, .int v_heldCount, .int v_pressedSize, .ref m_pressed, .int v_at, .int v_bad, .int v_markSize, .ref m_mark, .int v_relationCount, .ref m_idSize, .ref m_ids, .ref m_goalSize, .ref m_goals, .int v_valueSize, .ref m_value, .int v_faultCount, .ref m_faults, .ref m_reached])), (m_pressed, .inl (G.2.1, 5000, .inl a_pressed))] (S := Int32 × Int32 × Int32 × (Nat → Int32)) (fun rv_ u => rv_ = none ∧ (0 ≤ u.2.1.toInt) ∧ (u.2.1.toInt < 8) ∧ (0 ≤ u.2.2.1.toInt) ∧ (8 * u.2.2.1.toInt + u.2.1.toInt ≤ (8 * v_pressedSize.toInt + v_heldCount.toInt) + 9) ∧ ((8 * v_pressedSize.toInt + v_heldCount.toInt) ≤ 8 * u.2.2.1.toInt + u.2.1.toInt) ∧ (sb_Fit u.2.2.2)) (fun u => [(h, .inr (10, [.ref m_rels, .ref m_openRels, .ref m_closeRels, .ref m_openRel, .ref m_closeRel, .ref m_comment, .ref m_ends, .ref m_order, .int v_thrown, .int v_taped, .ref m_tape, .ref m_count, .ref m_nameSize, .ref m_names, .ref m_size, .ref m_data, .int v_lookedSize, .ref m_looked, .int v_fileSize, .ref m_file, .int v_directorySize, .ref m_directory, .int v_outSize, .ref m_out, .int v_rowSize, .ref m_row, .int v_bitAt, .int v_bitEnd, .int v_why, .int v_madeSize, .ref m_made, .ref m_length, .int v_firstCount, .int v_secondCount, .int u.1, .int u.2.1, .int u.2.2.1, .ref m_pressed, .int v_at, .int v_bad, .int v_markSize, .ref m_mark, .int v_relationCount, .ref m_idSize, .ref m_ids, .ref m_goalSize, .ref m_goals, .int v_valueSize, .ref m_value, .int v_faultCount, .ref m_faults, .ref m_reached])), (m_pressed, .inl (G.2.1, 5000, .inl u.2.2.2))]) := by
  refine Cn.of hl (by decide +kernel) rfl (Nat.le_of_ble_eq_true rfl) (fun M hQ => ?_)
  refine pb_eq (pc' := 0) (lo' := [(0, .ref h), (1, .int v)]) (rest' := []) (ws' := [(h, .inr (10, [.ref m_rels, .ref m_openRels, .ref m_closeRels, .ref m_openRel, .ref m_closeRel, .ref m_comment, .ref m_ends, .ref m_order, .int v_thrown, .int v_taped, .ref m_tape, .ref m_count, .ref m_nameSize, .ref m_names, .ref m_size, .ref m_data, .int v_lookedSize, .ref m_looked, .int v_fileSize, .ref m_file, .int v_directorySize, .ref m_directory, .int v_outSize, .ref m_out, .int v_rowSize, .ref m_row, .int v_bitAt, .int v_bitEnd, .int v_why, .int v_madeSize, .ref m_made, .ref m_length, .int v_firstCount, .int v_secondCount, .int v_heldBits, .int v_heldCount, .int v_pressedSize, .ref m_pressed, .int v_at, .int v_bad, .int v_markSize, .ref m_mark, .int v_relationCount, .ref m_idSize, .ref m_ids, .ref m_goalSize, .ref m_goals, .int v_valueSize, .ref m_value, .int v_faultCount, .ref m_faults, .ref m_reached])), (m_pressed, .inl (G.2.1, 5000, .inl a_pressed))]) ?_
  have zl0 : (0 : Int32).toInt = 0 := by decide
  have zl1 : (1 : Int32).toInt = 1 := by decide
  have zl7 : (7 : Int32).toInt = 7 := by decide
  have zl8 : (8 : Int32).toInt = 8 := by decide
  have zl9 : (9 : Int32).toInt = 9 := by decide
  have zl48 : (48 : Int32).toInt = 48 := by decide
  have zl256 : (256 : Int32).toInt = 256 := by decide
  refine pb_iload_n (pc := 0) d_Mod_putSymbol_0 1 rfl rfl ?_
  refine pb_sipush (pc := 1) (v := 144) d_Mod_putSymbol_1 (by decide) ?_
  refine pb_icmp_ge (pc := 4) (tgt := 20) d_Mod_putSymbol_4 (by decide) (fun w1 => ?_) (fun w1 => ?_)
  · have tw1 : 144 ≤ v.toInt := (ti_le (by decide) rfl).mp w1
    refine pb_iload_n (pc := 20) d_Mod_putSymbol_20 1 rfl rfl ?_
    refine pb_sipush (pc := 21) (v := 256) d_Mod_putSymbol_21 (by decide) ?_
    refine pb_icmp_ge (pc := 24) (tgt := 41) d_Mod_putSymbol_24 (by decide) (fun w2 => ?_) (fun w2 => ?_)
    · have tw2 : 256 ≤ v.toInt := (ti_le (by decide) rfl).mp w2
      refine pb_iload_n (pc := 41) d_Mod_putSymbol_41 1 rfl rfl ?_
      refine pb_sipush (pc := 42) (v := 280) d_Mod_putSymbol_42 (by decide) ?_
      refine pb_icmp_ge (pc := 45) (tgt := 62) d_Mod_putSymbol_45 (by decide) (fun w3 => ?_) (fun w3 => ?_)
      · have tw3 : 280 ≤ v.toInt := (ti_le (by decide) rfl).mp w3
        refine pb_aload_n (pc := 62) d_Mod_putSymbol_62 0 rfl rfl ?_
        refine pb_iload_n (pc := 63) d_Mod_putSymbol_63 1 rfl rfl ?_
        refine pb_bipush (pc := 64) (v := 88) d_Mod_putSymbol_64 (by decide) ?_
        refine pb_isub (pc := 66) d_Mod_putSymbol_66 ?_
        refine pb_topi (fun i4 ei4 => ?_)
        try have ti4 : i4.toInt = v.toInt - 88 := t2_sub ei4 rfl (by decide) (by omega)
        refine pb_bipush (pc := 67) (v := 8) d_Mod_putSymbol_67 (by decide) ?_
        refine pb_callV (pc := 69) (I := i_Mod_putSymbol) (qb := 0) (ci := 10) (nA := 2) (rest := []) (wr := []) d_Mod_putSymbol_69 (g_Mod_putCode hl G h m_rels m_openRels m_closeRels m_openRel m_closeRel m_comment m_ends m_order m_tape m_count m_nameSize m_names m_size m_data m_looked m_file m_directory m_out m_row m_made m_length m_pressed m_mark m_idSize m_ids m_goalSize m_goals m_value m_faults m_reached v_thrown v_taped v_lookedSize v_fileSize v_directorySize v_outSize v_rowSize v_bitAt v_bitEnd v_why v_madeSize v_firstCount v_secondCount v_heldBits v_heldCount v_pressedSize v_at v_bad v_markSize v_relationCount v_valueSize v_faultCount a_pressed i4 8 (by first | assumption | omega (splitDisjunctions := false) | omega | decide) (by first | assumption | omega (splitDisjunctions := false) | omega | decide) (by first | assumption | omega (splitDisjunctions := false) | omega | decide) (by first | assumption | omega (splitDisjunctions := false) | omega | decide) (by first | assumption | omega (splitDisjunctions := false) | omega | decide) F_a_pressed) rfl rfl [0, 1] [] (by decide) rfl rfl rfl (by decide) (by decide) k_1396 rfl k_128 k_1393 k_1395 k_64 ⟨rfl, hy_Mod_putCode⟩ (by decide) rfl rfl (Nat.le_of_ble_eq_true rfl) (by decide) (fun v9 u6 ch5 => ?_)
        obtain ⟨hb_7, hc_8, ps_9, g_10⟩ := u6
        obtain ⟨ech5, ch5⟩ := ch5
        have ech5 : v9 = none := ech5
        subst ech5
        obtain ⟨fh11, fh12, fh13, fh14, fh15⟩ : (0 ≤ hc_8.toInt) ∧ (hc_8.toInt < 8) ∧ (0 ≤ ps_9.toInt) ∧ (8 * ps_9.toInt + hc_8.toInt = (8 * v_pressedSize.toInt + v_heldCount.toInt) + (8 : Int32).toInt) ∧ (sb_Fit g_10) := ch5
        refine pb_eq (pc' := 72) (lo' := [(0, .ref h), (1, .int v)]) (rest' := []) (ws' := [(h, .inr (10, [.ref m_rels, .ref m_openRels, .ref m_closeRels, .ref m_openRel, .ref m_closeRel, .ref m_comment, .ref m_ends, .ref m_order, .int v_thrown, .int v_taped, .ref m_tape, .ref m_count, .ref m_nameSize, .ref m_names, .ref m_size, .ref m_data, .int v_lookedSize, .ref m_looked, .int v_fileSize, .ref m_file, .int v_directorySize, .ref m_directory, .int v_outSize, .ref m_out, .int v_rowSize, .ref m_row, .int v_bitAt, .int v_bitEnd, .int v_why, .int v_madeSize, .ref m_made, .ref m_length, .int v_firstCount, .int v_secondCount, .int hb_7, .int hc_8, .int ps_9, .ref m_pressed, .int v_at, .int v_bad, .int v_markSize, .ref m_mark, .int v_relationCount, .ref m_idSize, .ref m_ids, .ref m_goalSize, .ref m_goals, .int v_valueSize, .ref m_value, .int v_faultCount, .ref m_faults, .ref m_reached])), (m_pressed, .inl (G.2.1, 5000, .inl g_10))]) ?_
        exact pb_vret (pc := 72) hQ d_Mod_putSymbol_72 rfl (hb_7, hc_8, ps_9, g_10) ⟨rfl, (by (try dsimp only); first | done | assumption | omega (splitDisjunctions := false) | omega | decide), (by (try dsimp only); first | done | assumption | omega (splitDisjunctions := false) | omega | decide), (by (try dsimp only); first | done | assumption | omega (splitDisjunctions := false) | omega | decide), (by (try dsimp only); first | done | assumption | omega (splitDisjunctions := false) | omega | decide), (by (try dsimp only); first | done | assumption | omega (splitDisjunctions := false) | omega | decide), fh15⟩ [0, 1] (by decide) rfl rfl (by decide) (by decide)
      · have tw3 : ¬ 280 ≤ v.toInt := fun z9 => w3 ((ti_le (by decide) rfl).mpr z9)
        refine pb_aload_n (pc := 48) d_Mod_putSymbol_48 0 rfl rfl ?_
        refine pb_iload_n (pc := 49) d_Mod_putSymbol_49 1 rfl rfl ?_
        refine pb_sipush (pc := 50) (v := 256) d_Mod_putSymbol_50 (by decide) ?_
        refine pb_isub (pc := 53) d_Mod_putSymbol_53 ?_
        refine pb_topi (fun i16 ei16 => ?_)
        try have ti16 : i16.toInt = v.toInt - 256 := t2_sub ei16 rfl (by decide) (by omega)
        refine pb_bipush (pc := 54) (v := 7) d_Mod_putSymbol_54 (by decide) ?_
        refine pb_callV (pc := 56) (I := i_Mod_putSymbol) (qb := 0) (ci := 10) (nA := 2) (rest := []) (wr := []) d_Mod_putSymbol_56 (g_Mod_putCode hl G h m_rels m_openRels m_closeRels m_openRel m_closeRel m_comment m_ends m_order m_tape m_count m_nameSize m_names m_size m_data m_looked m_file m_directory m_out m_row m_made m_length m_pressed m_mark m_idSize m_ids m_goalSize m_goals m_value m_faults m_reached v_thrown v_taped v_lookedSize v_fileSize v_directorySize v_outSize v_rowSize v_bitAt v_bitEnd v_why v_madeSize v_firstCount v_secondCount v_heldBits v_heldCount v_pressedSize v_at v_bad v_markSize v_relationCount v_valueSize v_faultCount a_pressed i16 7 (by first | assumption | omega (splitDisjunctions := false) | omega | decide) (by first | assumption | omega (splitDisjunctions := false) | omega | decide) (by first | assumption | omega (splitDisjunctions := false) | omega | decide) (by first | assumption | omega (splitDisjunctions := false) | omega | decide) (by first | assumption | omega (splitDisjunctions := false) | omega | decide) F_a_pressed) rfl rfl [0, 1] [] (by decide) rfl rfl rfl (by decide) (by decide) k_1396 rfl k_128 k_1393 k_1395 k_64 ⟨rfl, hy_Mod_putCode⟩ (by decide) rfl rfl (Nat.le_of_ble_eq_true rfl) (by decide) (fun v9 u18 ch17 => ?_)
        obtain ⟨hb_19, hc_20, ps_21, g_22⟩ := u18
        obtain ⟨ech17, ch17⟩ := ch17
        have ech17 : v9 = none := ech17
        subst ech17
        obtain ⟨fh23, fh24, fh25, fh26, fh27⟩ : (0 ≤ hc_20.toInt) ∧ (hc_20.toInt < 8) ∧ (0 ≤ ps_21.toInt) ∧ (8 * ps_21.toInt + hc_20.toInt = (8 * v_pressedSize.toInt + v_heldCount.toInt) + (7 : Int32).toInt) ∧ (sb_Fit g_22) := ch17
        refine pb_eq (pc' := 59) (lo' := [(0, .ref h), (1, .int v)]) (rest' := []) (ws' := [(h, .inr (10, [.ref m_rels, .ref m_openRels, .ref m_closeRels, .ref m_openRel, .ref m_closeRel, .ref m_comment, .ref m_ends, .ref m_order, .int v_thrown, .int v_taped, .ref m_tape, .ref m_count, .ref m_nameSize, .ref m_names, .ref m_size, .ref m_data, .int v_lookedSize, .ref m_looked, .int v_fileSize, .ref m_file, .int v_directorySize, .ref m_directory, .int v_outSize, .ref m_out, .int v_rowSize, .ref m_row, .int v_bitAt, .int v_bitEnd, .int v_why, .int v_madeSize, .ref m_made, .ref m_length, .int v_firstCount, .int v_secondCount, .int hb_19, .int hc_20, .int ps_21, .ref m_pressed, .int v_at, .int v_bad, .int v_markSize, .ref m_mark, .int v_relationCount, .ref m_idSize, .ref m_ids, .ref m_goalSize, .ref m_goals, .int v_valueSize, .ref m_value, .int v_faultCount, .ref m_faults, .ref m_reached])), (m_pressed, .inl (G.2.1, 5000, .inl g_22))]) ?_
        refine pb_goto (pc := 59) (tgt := 72) d_Mod_putSymbol_59 (by decide) ?_
        exact pb_vret (pc := 72) hQ d_Mod_putSymbol_72 rfl (hb_19, hc_20, ps_21, g_22) ⟨rfl, (by (try dsimp only); first | done | assumption | omega (splitDisjunctions := false) | omega | decide), (by (try dsimp only); first | done | assumption | omega (splitDisjunctions := false) | omega | decide), (by (try dsimp only); first | done | assumption | omega (splitDisjunctions := false) | omega | decide), (by (try dsimp only); first | done | assumption | omega (splitDisjunctions := false) | omega | decide), (by (try dsimp only); first | done | assumption | omega (splitDisjunctions := false) | omega | decide), fh27⟩ [0, 1] (by decide) rfl rfl (by decide) (by decide)
    · have tw2 : ¬ 256 ≤ v.toInt := fun z9 => w2 ((ti_le (by decide) rfl).mpr z9)
      refine pb_aload_n (pc := 27) d_Mod_putSymbol_27 0 rfl rfl ?_
      refine pb_sipush (pc := 28) (v := 256) d_Mod_putSymbol_28 (by decide) ?_
      refine pb_iload_n (pc := 31) d_Mod_putSymbol_31 1 rfl rfl ?_
      refine pb_iadd (pc := 32) d_Mod_putSymbol_32 ?_
      refine pb_topi (fun i28 ei28 => ?_)
      try have ti28 : i28.toInt = 256 + v.toInt := t2_add ei28 (by decide) rfl (by omega)
      refine pb_bipush (pc := 33) (v := 9) d_Mod_putSymbol_33 (by decide) ?_
      refine pb_callV (pc := 35) (I := i_Mod_putSymbol) (qb := 0) (ci := 10) (nA := 2) (rest := []) (wr := []) d_Mod_putSymbol_35 (g_Mod_putCode hl G h m_rels m_openRels m_closeRels m_openRel m_closeRel m_comment m_ends m_order m_tape m_count m_nameSize m_names m_size m_data m_looked m_file m_directory m_out m_row m_made m_length m_pressed m_mark m_idSize m_ids m_goalSize m_goals m_value m_faults m_reached v_thrown v_taped v_lookedSize v_fileSize v_directorySize v_outSize v_rowSize v_bitAt v_bitEnd v_why v_madeSize v_firstCount v_secondCount v_heldBits v_heldCount v_pressedSize v_at v_bad v_markSize v_relationCount v_valueSize v_faultCount a_pressed i28 9 (by first | assumption | omega (splitDisjunctions := false) | omega | decide) (by first | assumption | omega (splitDisjunctions := false) | omega | decide) (by first | assumption | omega (splitDisjunctions := false) | omega | decide) (by first | assumption | omega (splitDisjunctions := false) | omega | decide) (by first | assumption | omega (splitDisjunctions := false) | omega | decide) F_a_pressed) rfl rfl [0, 1] [] (by decide) rfl rfl rfl (by decide) (by decide) k_1396 rfl k_128 k_1393 k_1395 k_64 ⟨rfl, hy_Mod_putCode⟩ (by decide) rfl rfl (Nat.le_of_ble_eq_true rfl) (by decide) (fun v9 u30 ch29 => ?_)
      obtain ⟨hb_31, hc_32, ps_33, g_34⟩ := u30
      obtain ⟨ech29, ch29⟩ := ch29
      have ech29 : v9 = none := ech29
      subst ech29
      obtain ⟨fh35, fh36, fh37, fh38, fh39⟩ : (0 ≤ hc_32.toInt) ∧ (hc_32.toInt < 8) ∧ (0 ≤ ps_33.toInt) ∧ (8 * ps_33.toInt + hc_32.toInt = (8 * v_pressedSize.toInt + v_heldCount.toInt) + (9 : Int32).toInt) ∧ (sb_Fit g_34) := ch29
      refine pb_eq (pc' := 38) (lo' := [(0, .ref h), (1, .int v)]) (rest' := []) (ws' := [(h, .inr (10, [.ref m_rels, .ref m_openRels, .ref m_closeRels, .ref m_openRel, .ref m_closeRel, .ref m_comment, .ref m_ends, .ref m_order, .int v_thrown, .int v_taped, .ref m_tape, .ref m_count, .ref m_nameSize, .ref m_names, .ref m_size, .ref m_data, .int v_lookedSize, .ref m_looked, .int v_fileSize, .ref m_file, .int v_directorySize, .ref m_directory, .int v_outSize, .ref m_out, .int v_rowSize, .ref m_row, .int v_bitAt, .int v_bitEnd, .int v_why, .int v_madeSize, .ref m_made, .ref m_length, .int v_firstCount, .int v_secondCount, .int hb_31, .int hc_32, .int ps_33, .ref m_pressed, .int v_at, .int v_bad, .int v_markSize, .ref m_mark, .int v_relationCount, .ref m_idSize, .ref m_ids, .ref m_goalSize, .ref m_goals, .int v_valueSize, .ref m_value, .int v_faultCount, .ref m_faults, .ref m_reached])), (m_pressed, .inl (G.2.1, 5000, .inl g_34))]) ?_
      refine pb_goto (pc := 38) (tgt := 72) d_Mod_putSymbol_38 (by decide) ?_
      exact pb_vret (pc := 72) hQ d_Mod_putSymbol_72 rfl (hb_31, hc_32, ps_33, g_34) ⟨rfl, (by (try dsimp only); first | done | assumption | omega (splitDisjunctions := false) | omega | decide), (by (try dsimp only); first | done | assumption | omega (splitDisjunctions := false) | omega | decide), (by (try dsimp only); first | done | assumption | omega (splitDisjunctions := false) | omega | decide), (by (try dsimp only); first | done | assumption | omega (splitDisjunctions := false) | omega | decide), (by (try dsimp only); first | done | assumption | omega (splitDisjunctions := false) | omega | decide), fh39⟩ [0, 1] (by decide) rfl rfl (by decide) (by decide)
  · have tw1 : ¬ 144 ≤ v.toInt := fun z9 => w1 ((ti_le (by decide) rfl).mpr z9)
    refine pb_aload_n (pc := 7) d_Mod_putSymbol_7 0 rfl rfl ?_
    refine pb_bipush (pc := 8) (v := 48) d_Mod_putSymbol_8 (by decide) ?_
    refine pb_iload_n (pc := 10) d_Mod_putSymbol_10 1 rfl rfl ?_
    refine pb_iadd (pc := 11) d_Mod_putSymbol_11 ?_
    refine pb_topi (fun i40 ei40 => ?_)
    try have ti40 : i40.toInt = 48 + v.toInt := t2_add ei40 (by decide) rfl (by omega)
    refine pb_bipush (pc := 12) (v := 8) d_Mod_putSymbol_12 (by decide) ?_
    refine pb_callV (pc := 14) (I := i_Mod_putSymbol) (qb := 0) (ci := 10) (nA := 2) (rest := []) (wr := []) d_Mod_putSymbol_14 (g_Mod_putCode hl G h m_rels m_openRels m_closeRels m_openRel m_closeRel m_comment m_ends m_order m_tape m_count m_nameSize m_names m_size m_data m_looked m_file m_directory m_out m_row m_made m_length m_pressed m_mark m_idSize m_ids m_goalSize m_goals m_value m_faults m_reached v_thrown v_taped v_lookedSize v_fileSize v_directorySize v_outSize v_rowSize v_bitAt v_bitEnd v_why v_madeSize v_firstCount v_secondCount v_heldBits v_heldCount v_pressedSize v_at v_bad v_markSize v_relationCount v_valueSize v_faultCount a_pressed i40 8 (by first | assumption | omega (splitDisjunctions := false) | omega | decide) (by first | assumption | omega (splitDisjunctions := false) | omega | decide) (by first | assumption | omega (splitDisjunctions := false) | omega | decide) (by first | assumption | omega (splitDisjunctions := false) | omega | decide) (by first | assumption | omega (splitDisjunctions := false) | omega | decide) F_a_pressed) rfl rfl [0, 1] [] (by decide) rfl rfl rfl (by decide) (by decide) k_1396 rfl k_128 k_1393 k_1395 k_64 ⟨rfl, hy_Mod_putCode⟩ (by decide) rfl rfl (Nat.le_of_ble_eq_true rfl) (by decide) (fun v9 u42 ch41 => ?_)
    obtain ⟨hb_43, hc_44, ps_45, g_46⟩ := u42
    obtain ⟨ech41, ch41⟩ := ch41
    have ech41 : v9 = none := ech41
    subst ech41
    obtain ⟨fh47, fh48, fh49, fh50, fh51⟩ : (0 ≤ hc_44.toInt) ∧ (hc_44.toInt < 8) ∧ (0 ≤ ps_45.toInt) ∧ (8 * ps_45.toInt + hc_44.toInt = (8 * v_pressedSize.toInt + v_heldCount.toInt) + (8 : Int32).toInt) ∧ (sb_Fit g_46) := ch41
    refine pb_eq (pc' := 17) (lo' := [(0, .ref h), (1, .int v)]) (rest' := []) (ws' := [(h, .inr (10, [.ref m_rels, .ref m_openRels, .ref m_closeRels, .ref m_openRel, .ref m_closeRel, .ref m_comment, .ref m_ends, .ref m_order, .int v_thrown, .int v_taped, .ref m_tape, .ref m_count, .ref m_nameSize, .ref m_names, .ref m_size, .ref m_data, .int v_lookedSize, .ref m_looked, .int v_fileSize, .ref m_file, .int v_directorySize, .ref m_directory, .int v_outSize, .ref m_out, .int v_rowSize, .ref m_row, .int v_bitAt, .int v_bitEnd, .int v_why, .int v_madeSize, .ref m_made, .ref m_length, .int v_firstCount, .int v_secondCount, .int hb_43, .int hc_44, .int ps_45, .ref m_pressed, .int v_at, .int v_bad, .int v_markSize, .ref m_mark, .int v_relationCount, .ref m_idSize, .ref m_ids, .ref m_goalSize, .ref m_goals, .int v_valueSize, .ref m_value, .int v_faultCount, .ref m_faults, .ref m_reached])), (m_pressed, .inl (G.2.1, 5000, .inl g_46))]) ?_
    refine pb_goto (pc := 17) (tgt := 72) d_Mod_putSymbol_17 (by decide) ?_
    exact pb_vret (pc := 72) hQ d_Mod_putSymbol_72 rfl (hb_43, hc_44, ps_45, g_46) ⟨rfl, (by (try dsimp only); first | done | assumption | omega (splitDisjunctions := false) | omega | decide), (by (try dsimp only); first | done | assumption | omega (splitDisjunctions := false) | omega | decide), (by (try dsimp only); first | done | assumption | omega (splitDisjunctions := false) | omega | decide), (by (try dsimp only); first | done | assumption | omega (splitDisjunctions := false) | omega | decide), (by (try dsimp only); first | done | assumption | omega (splitDisjunctions := false) | omega | decide), fh51⟩ [0, 1] (by decide) rfl rfl (by decide) (by decide)

theorem d_Mod_leastLength_0 : decode prog_12_method_24_code 0 = .ok (.iload_n 0, 1) := by decide +kernel
theorem d_Mod_leastLength_1 : decode prog_12_method_24_code 1 = .ok (.bipush 8, 2) := by decide +kernel
theorem d_Mod_leastLength_3 : decode prog_12_method_24_code 3 = .ok (.if_icmp .ge 9, 3) := by decide +kernel
theorem d_Mod_leastLength_12 : decode prog_12_method_24_code 12 = .ok (.iload_n 0, 1) := by decide +kernel
theorem d_Mod_leastLength_13 : decode prog_12_method_24_code 13 = .ok (.bipush 28, 2) := by decide +kernel
theorem d_Mod_leastLength_15 : decode prog_12_method_24_code 15 = .ok (.if_icmp .ne 9, 3) := by decide +kernel
theorem d_Mod_leastLength_24 : decode prog_12_method_24_code 24 = .ok (.iconst 3, 1) := by decide +kernel
theorem d_Mod_leastLength_25 : decode prog_12_method_24_code 25 = .ok (.iconst 4, 1) := by decide +kernel
theorem d_Mod_leastLength_26 : decode prog_12_method_24_code 26 = .ok (.iload_n 0, 1) := by decide +kernel
theorem d_Mod_leastLength_27 : decode prog_12_method_24_code 27 = .ok (.iconst 4, 1) := by decide +kernel
theorem d_Mod_leastLength_28 : decode prog_12_method_24_code 28 = .ok (.irem, 1) := by decide +kernel
theorem d_Mod_leastLength_29 : decode prog_12_method_24_code 29 = .ok (.iadd, 1) := by decide +kernel
theorem d_Mod_leastLength_30 : decode prog_12_method_24_code 30 = .ok (.iload_n 0, 1) := by decide +kernel
theorem d_Mod_leastLength_31 : decode prog_12_method_24_code 31 = .ok (.iconst 4, 1) := by decide +kernel
theorem d_Mod_leastLength_32 : decode prog_12_method_24_code 32 = .ok (.idiv, 1) := by decide +kernel
theorem d_Mod_leastLength_33 : decode prog_12_method_24_code 33 = .ok (.iconst 1, 1) := by decide +kernel
theorem d_Mod_leastLength_34 : decode prog_12_method_24_code 34 = .ok (.isub, 1) := by decide +kernel
theorem d_Mod_leastLength_35 : decode prog_12_method_24_code 35 = .ok (.ishl, 1) := by decide +kernel
theorem d_Mod_leastLength_36 : decode prog_12_method_24_code 36 = .ok (.iadd, 1) := by decide +kernel
theorem d_Mod_leastLength_37 : decode prog_12_method_24_code 37 = .ok (.ireturn, 1) := by decide +kernel
theorem d_Mod_leastLength_18 : decode prog_12_method_24_code 18 = .ok (.sipush 258, 3) := by decide +kernel
theorem d_Mod_leastLength_21 : decode prog_12_method_24_code 21 = .ok (.goto 16, 3) := by decide +kernel
theorem d_Mod_leastLength_6 : decode prog_12_method_24_code 6 = .ok (.iconst 3, 1) := by decide +kernel
theorem d_Mod_leastLength_7 : decode prog_12_method_24_code 7 = .ok (.iload_n 0, 1) := by decide +kernel
theorem d_Mod_leastLength_8 : decode prog_12_method_24_code 8 = .ok (.iadd, 1) := by decide +kernel
theorem d_Mod_leastLength_9 : decode prog_12_method_24_code 9 = .ok (.goto 28, 3) := by decide +kernel
abbrev y_Mod_leastLength : MethodName := ⟨"PackageBookModel", "leastLength", "(I)I"⟩
abbrev i_Mod_leastLength : pb_I := (y_Mod_leastLength, prog_12_method_24_code, 1, (some Jvm.ClassFile.FieldType.int), [], { frames := 0, cells := 0, slots := 0, locals := 0 })
set_option maxRecDepth 100000 in
set_option maxHeartbeats 4000000 in
theorem g_Mod_leastLength {l : Launch} (hl : l.stackTraces = false) (G : pb_G) (k : Int32) (h0 : 0 ≤ k.toInt) (h1 : k.toInt ≤ 28) : Cn l G i_Mod_leastLength [.int k] [] (S := Int32) (fun rv_ u => rv_ = some (.int u) ∧ (k.toInt = 0 → u.toInt = 3) ∧ (u.toInt = ll_f k.toInt)) (fun u => []) := by
  refine Cn.of hl (by decide +kernel) rfl (Nat.le_of_ble_eq_true rfl) (fun M hQ => ?_)
  refine pb_eq (pc' := 0) (lo' := [(0, .int k)]) (rest' := []) (ws' := []) ?_
  have zl0 : (0 : Int32).toInt = 0 := by decide
  have zl1 : (1 : Int32).toInt = 1 := by decide
  have zl3 : (3 : Int32).toInt = 3 := by decide
  have zl4 : (4 : Int32).toInt = 4 := by decide
  have zl258 : (258 : Int32).toInt = 258 := by decide
  refine pb_iload_n (pc := 0) d_Mod_leastLength_0 0 rfl rfl ?_
  refine pb_bipush (pc := 1) (v := 8) d_Mod_leastLength_1 (by decide) ?_
  refine pb_icmp_ge (pc := 3) (tgt := 12) d_Mod_leastLength_3 (by decide) (fun w1 => ?_) (fun w1 => ?_)
  · have tw1 : 8 ≤ k.toInt := (ti_le (by decide) rfl).mp w1
    refine pb_iload_n (pc := 12) d_Mod_leastLength_12 0 rfl rfl ?_
    refine pb_bipush (pc := 13) (v := 28) d_Mod_leastLength_13 (by decide) ?_
    refine pb_icmp_ne (pc := 15) (tgt := 24) d_Mod_leastLength_15 (by decide) (fun w2 => ?_) (fun w2 => ?_)
    · have tw2 : ¬ k.toInt = 28 := fun z9 => w2 ((ti_eq rfl (by decide)).mpr z9)
      refine pb_iconst (pc := 24) (v := 3) d_Mod_leastLength_24 (by decide) ?_
      refine pb_iconst (pc := 25) (v := 4) d_Mod_leastLength_25 (by decide) ?_
      refine pb_iload_n (pc := 26) d_Mod_leastLength_26 0 rfl rfl ?_
      refine pb_iconst (pc := 27) (v := 4) d_Mod_leastLength_27 (by decide) ?_
      refine pb_irem (pc := 28) d_Mod_leastLength_28 (by decide) ?_
      refine pb_topi (fun i3 ei3 => ?_)
      try have ti3 : i3.toInt = k.toInt % 4 := ti_rem 4 ei3 rfl (by decide) (by omega) (by decide)
      refine pb_iadd (pc := 29) d_Mod_leastLength_29 ?_
      refine pb_topi (fun i4 ei4 => ?_)
      try have ti4 : i4.toInt = 4 + i3.toInt := t2_add ei4 (by decide) rfl (by omega)
      refine pb_iload_n (pc := 30) d_Mod_leastLength_30 0 rfl rfl ?_
      refine pb_iconst (pc := 31) (v := 4) d_Mod_leastLength_31 (by decide) ?_
      refine pb_idiv (pc := 32) d_Mod_leastLength_32 (by decide) ?_
      refine pb_topi (fun i5 ei5 => ?_)
      try have ti5 : i5.toInt = k.toInt / 4 := ti_div 4 ei5 rfl (by decide) (by omega) (by decide)
      refine pb_iconst (pc := 33) (v := 1) d_Mod_leastLength_33 (by decide) ?_
      refine pb_isub (pc := 34) d_Mod_leastLength_34 ?_
      refine pb_topi (fun i6 ei6 => ?_)
      try have ti6 : i6.toInt = i5.toInt - 1 := t2_sub ei6 rfl (by decide) (by omega)
      refine pb_ishl (pc := 35) d_Mod_leastLength_35 ?_
      refine pb_topi (fun i7 ei7 => ?_)
      have ti7 := ti_slv ei7 (by omega) (by omega) (by omega) (by omega)
      refine pb_iadd (pc := 36) d_Mod_leastLength_36 ?_
      refine pb_topi (fun i8 ei8 => ?_)
      try have ti8 : i8.toInt = 3 + i7.toInt := t2_add ei8 (by decide) rfl (by omega)
      exact pb_iret (pc := 37) hQ d_Mod_leastLength_37 rfl rfl (i8) ⟨rfl, (by (try dsimp only); first | done | assumption | omega (splitDisjunctions := false) | omega | decide), (show i8.toInt = ll_f k.toInt from (by unfold ll_f; (repeat' split) <;> omega))⟩ [] (by decide) rfl rfl (by decide) (by decide)
    · have tw2 : k.toInt = 28 := (ti_eq rfl (by decide)).mp w2
      refine pb_sipush (pc := 18) (v := 258) d_Mod_leastLength_18 (by decide) ?_
      refine pb_goto (pc := 21) (tgt := 37) d_Mod_leastLength_21 (by decide) ?_
      exact pb_iret (pc := 37) hQ d_Mod_leastLength_37 rfl rfl (258) ⟨rfl, (by (try dsimp only); first | done | assumption | omega (splitDisjunctions := false) | omega | decide), (show (258 : Int32).toInt = ll_f k.toInt from (by unfold ll_f; (repeat' split) <;> omega))⟩ [] (by decide) rfl rfl (by decide) (by decide)
  · have tw1 : ¬ 8 ≤ k.toInt := fun z9 => w1 ((ti_le (by decide) rfl).mpr z9)
    refine pb_iconst (pc := 6) (v := 3) d_Mod_leastLength_6 (by decide) ?_
    refine pb_iload_n (pc := 7) d_Mod_leastLength_7 0 rfl rfl ?_
    refine pb_iadd (pc := 8) d_Mod_leastLength_8 ?_
    refine pb_topi (fun i9 ei9 => ?_)
    try have ti9 : i9.toInt = 3 + k.toInt := t2_add ei9 (by decide) rfl (by omega)
    refine pb_goto (pc := 9) (tgt := 37) d_Mod_leastLength_9 (by decide) ?_
    exact pb_iret (pc := 37) hQ d_Mod_leastLength_37 rfl rfl (i9) ⟨rfl, (by (try dsimp only); first | done | assumption | omega (splitDisjunctions := false) | omega | decide), (show i9.toInt = ll_f k.toInt from (by unfold ll_f; (repeat' split) <;> omega))⟩ [] (by decide) rfl rfl (by decide) (by decide)

theorem d_Mod_leastDistance_0 : decode prog_12_method_25_code 0 = .ok (.iload_n 0, 1) := by decide +kernel
theorem d_Mod_leastDistance_1 : decode prog_12_method_25_code 1 = .ok (.iconst 4, 1) := by decide +kernel
theorem d_Mod_leastDistance_2 : decode prog_12_method_25_code 2 = .ok (.if_icmp .ge 9, 3) := by decide +kernel
theorem d_Mod_leastDistance_11 : decode prog_12_method_25_code 11 = .ok (.iconst 1, 1) := by decide +kernel
theorem d_Mod_leastDistance_12 : decode prog_12_method_25_code 12 = .ok (.iconst 2, 1) := by decide +kernel
theorem d_Mod_leastDistance_13 : decode prog_12_method_25_code 13 = .ok (.iload_n 0, 1) := by decide +kernel
theorem d_Mod_leastDistance_14 : decode prog_12_method_25_code 14 = .ok (.iconst 2, 1) := by decide +kernel
theorem d_Mod_leastDistance_15 : decode prog_12_method_25_code 15 = .ok (.irem, 1) := by decide +kernel
theorem d_Mod_leastDistance_16 : decode prog_12_method_25_code 16 = .ok (.iadd, 1) := by decide +kernel
theorem d_Mod_leastDistance_17 : decode prog_12_method_25_code 17 = .ok (.iload_n 0, 1) := by decide +kernel
theorem d_Mod_leastDistance_18 : decode prog_12_method_25_code 18 = .ok (.iconst 2, 1) := by decide +kernel
theorem d_Mod_leastDistance_19 : decode prog_12_method_25_code 19 = .ok (.idiv, 1) := by decide +kernel
theorem d_Mod_leastDistance_20 : decode prog_12_method_25_code 20 = .ok (.iconst 1, 1) := by decide +kernel
theorem d_Mod_leastDistance_21 : decode prog_12_method_25_code 21 = .ok (.isub, 1) := by decide +kernel
theorem d_Mod_leastDistance_22 : decode prog_12_method_25_code 22 = .ok (.ishl, 1) := by decide +kernel
theorem d_Mod_leastDistance_23 : decode prog_12_method_25_code 23 = .ok (.iadd, 1) := by decide +kernel
theorem d_Mod_leastDistance_24 : decode prog_12_method_25_code 24 = .ok (.ireturn, 1) := by decide +kernel
theorem d_Mod_leastDistance_5 : decode prog_12_method_25_code 5 = .ok (.iconst 1, 1) := by decide +kernel
theorem d_Mod_leastDistance_6 : decode prog_12_method_25_code 6 = .ok (.iload_n 0, 1) := by decide +kernel
theorem d_Mod_leastDistance_7 : decode prog_12_method_25_code 7 = .ok (.iadd, 1) := by decide +kernel
theorem d_Mod_leastDistance_8 : decode prog_12_method_25_code 8 = .ok (.goto 16, 3) := by decide +kernel
abbrev y_Mod_leastDistance : MethodName := ⟨"PackageBookModel", "leastDistance", "(I)I"⟩
abbrev i_Mod_leastDistance : pb_I := (y_Mod_leastDistance, prog_12_method_25_code, 1, (some Jvm.ClassFile.FieldType.int), [], { frames := 0, cells := 0, slots := 0, locals := 0 })
set_option maxRecDepth 100000 in
set_option maxHeartbeats 4000000 in
theorem g_Mod_leastDistance {l : Launch} (hl : l.stackTraces = false) (G : pb_G) (d : Int32) (h0 : 0 ≤ d.toInt) (h1 : d.toInt ≤ 29) : Cn l G i_Mod_leastDistance [.int d] [] (S := Int32) (fun rv_ u => rv_ = some (.int u) ∧ (1 ≤ u.toInt) ∧ (d.toInt = 0 → u.toInt = 1) ∧ (24 ≤ d.toInt → 4097 ≤ u.toInt) ∧ (u.toInt ≤ 65536) ∧ (u.toInt = ld_f d.toInt)) (fun u => []) := by
  refine Cn.of hl (by decide +kernel) rfl (Nat.le_of_ble_eq_true rfl) (fun M hQ => ?_)
  refine pb_eq (pc' := 0) (lo' := [(0, .int d)]) (rest' := []) (ws' := []) ?_
  have zl0 : (0 : Int32).toInt = 0 := by decide
  have zl1 : (1 : Int32).toInt = 1 := by decide
  have zl2 : (2 : Int32).toInt = 2 := by decide
  refine pb_iload_n (pc := 0) d_Mod_leastDistance_0 0 rfl rfl ?_
  refine pb_iconst (pc := 1) (v := 4) d_Mod_leastDistance_1 (by decide) ?_
  refine pb_icmp_ge (pc := 2) (tgt := 11) d_Mod_leastDistance_2 (by decide) (fun w1 => ?_) (fun w1 => ?_)
  · have tw1 : 4 ≤ d.toInt := (ti_le (by decide) rfl).mp w1
    refine pb_iconst (pc := 11) (v := 1) d_Mod_leastDistance_11 (by decide) ?_
    refine pb_iconst (pc := 12) (v := 2) d_Mod_leastDistance_12 (by decide) ?_
    refine pb_iload_n (pc := 13) d_Mod_leastDistance_13 0 rfl rfl ?_
    refine pb_iconst (pc := 14) (v := 2) d_Mod_leastDistance_14 (by decide) ?_
    refine pb_irem (pc := 15) d_Mod_leastDistance_15 (by decide) ?_
    refine pb_topi (fun i2 ei2 => ?_)
    try have ti2 : i2.toInt = d.toInt % 2 := ti_rem 2 ei2 rfl (by decide) (by omega) (by decide)
    refine pb_iadd (pc := 16) d_Mod_leastDistance_16 ?_
    refine pb_topi (fun i3 ei3 => ?_)
    try have ti3 : i3.toInt = 2 + i2.toInt := t2_add ei3 (by decide) rfl (by omega)
    refine pb_iload_n (pc := 17) d_Mod_leastDistance_17 0 rfl rfl ?_
    refine pb_iconst (pc := 18) (v := 2) d_Mod_leastDistance_18 (by decide) ?_
    refine pb_idiv (pc := 19) d_Mod_leastDistance_19 (by decide) ?_
    refine pb_topi (fun i4 ei4 => ?_)
    try have ti4 : i4.toInt = d.toInt / 2 := ti_div 2 ei4 rfl (by decide) (by omega) (by decide)
    refine pb_iconst (pc := 20) (v := 1) d_Mod_leastDistance_20 (by decide) ?_
    refine pb_isub (pc := 21) d_Mod_leastDistance_21 ?_
    refine pb_topi (fun i5 ei5 => ?_)
    try have ti5 : i5.toInt = i4.toInt - 1 := t2_sub ei5 rfl (by decide) (by omega)
    refine pb_ishl (pc := 22) d_Mod_leastDistance_22 ?_
    refine pb_topi (fun i6 ei6 => ?_)
    have eS := ei6
    refine pb_iadd (pc := 23) d_Mod_leastDistance_23 ?_
    refine pb_topi (fun i7 ei7 => ?_)
    try have ti7 : i7.toInt = 1 + i6.toInt := t2_add ei7 (by decide) rfl (by omega)
    have eA := ei7
    exact pb_iret (pc := 24) hQ d_Mod_leastDistance_24 rfl rfl (i7) ⟨rfl, (show 1 ≤ i7.toInt from (by first | omega | exact (md_pos (by omega) h1 (by simp only [ei2, ei3, ei4, ei5, ei6, ei7])).1)), (by (try dsimp only); first | done | assumption | omega (splitDisjunctions := false) | omega | decide), (show 24 ≤ d.toInt → 4097 ≤ i7.toInt from (by first | omega | exact (md_pos (by omega) h1 (by simp only [ei2, ei3, ei4, ei5, ei6, ei7])).2.1)), (show i7.toInt ≤ 65536 from (by first | omega | exact (md_pos (by omega) h1 (by simp only [ei2, ei3, ei4, ei5, ei6, ei7])).2.2)), (show i7.toInt = ld_f d.toInt from (by first | (have t9 := ti_slv eS (by omega) (by omega) (by omega) (by omega); have t8 := ti_add (a := 1) eA (by decide) rfl (by omega) (by omega); unfold ld_f; (repeat' split) <;> omega) | (unfold ld_f; (repeat' split) <;> omega)))⟩ [] (by decide) rfl rfl (by decide) (by decide)
  · have tw1 : ¬ 4 ≤ d.toInt := fun z9 => w1 ((ti_le (by decide) rfl).mpr z9)
    refine pb_iconst (pc := 5) (v := 1) d_Mod_leastDistance_5 (by decide) ?_
    refine pb_iload_n (pc := 6) d_Mod_leastDistance_6 0 rfl rfl ?_
    refine pb_iadd (pc := 7) d_Mod_leastDistance_7 ?_
    refine pb_topi (fun i8 ei8 => ?_)
    try have ti8 : i8.toInt = 1 + d.toInt := t2_add ei8 (by decide) rfl (by omega)
    refine pb_goto (pc := 8) (tgt := 24) d_Mod_leastDistance_8 (by decide) ?_
    have eA := ei8
    exact pb_iret (pc := 24) hQ d_Mod_leastDistance_24 rfl rfl (i8) ⟨rfl, (show 1 ≤ i8.toInt from (by first | omega | exact (md_pos (by omega) h1 (by simp only [ei8])).1)), (by (try dsimp only); first | done | assumption | omega (splitDisjunctions := false) | omega | decide), (show 24 ≤ d.toInt → 4097 ≤ i8.toInt from (by first | omega | exact (md_pos (by omega) h1 (by simp only [ei8])).2.1)), (show i8.toInt ≤ 65536 from (by first | omega | exact (md_pos (by omega) h1 (by simp only [ei8])).2.2)), (show i8.toInt = ld_f d.toInt from (by first | (have t9 := ti_slv eS (by omega) (by omega) (by omega) (by omega); have t8 := ti_add (a := 1) eA (by decide) rfl (by omega) (by omega); unfold ld_f; (repeat' split) <;> omega) | (unfold ld_f; (repeat' split) <;> omega)))⟩ [] (by decide) rfl rfl (by decide) (by decide)
