theorem d_Mod_thrown_0 : decode prog_12_method_2_code 0 = .ok (.aload_n 0, 1) := by decide +kernel
theorem d_Mod_thrown_1 : decode prog_12_method_2_code 1 = .ok (.getfield 103, 3) := by decide +kernel
theorem k_1154 : (Jvm.Cond.fieldLink "PackageBookModel" (103 : Nat) "PackageBookModel" "thrown" "I") ∈ uW := uW_of 1154 (by decide +kernel) (by decide +kernel)
theorem d_Mod_thrown_4 : decode prog_12_method_2_code 4 = .ok (.ireturn, 1) := by decide +kernel
abbrev y_Mod_thrown : MethodName := ⟨"PackageBookModel", "thrown", "()I"⟩
abbrev i_Mod_thrown : pb_I := (y_Mod_thrown, prog_12_method_2_code, 1, (some Jvm.ClassFile.FieldType.int), [], { frames := 0, cells := 0, slots := 0, locals := 0 })
set_option maxRecDepth 100000 in
set_option maxHeartbeats 4000000 in
theorem c_Mod_thrown {l : Launch} (hl : l.stackTraces = false) (G : pb_G) (h : Nat) (m_rels : Nat) (m_openRels : Nat) (m_closeRels : Nat) (m_openRel : Nat) (m_closeRel : Nat) (m_comment : Nat) (m_ends : Nat) (m_order : Nat) (m_tape : Nat) (m_count : Nat) (m_nameSize : Nat) (m_names : Nat) (m_size : Nat) (m_data : Nat) (m_looked : Nat) (m_file : Nat) (m_directory : Nat) (m_out : Nat) (m_row : Nat) (m_made : Nat) (m_length : Nat) (m_pressed : Nat) (m_mark : Nat) (m_idSize : Nat) (m_ids : Nat) (m_goalSize : Nat) (m_goals : Nat) (m_value : Nat) (m_faults : Nat) (m_reached : Nat) (v_thrown : Int32) (v_taped : Int32) (v_lookedSize : Int32) (v_fileSize : Int32) (v_directorySize : Int32) (v_outSize : Int32) (v_rowSize : Int32) (v_bitAt : Int32) (v_bitEnd : Int32) (v_why : Int32) (v_madeSize : Int32) (v_firstCount : Int32) (v_secondCount : Int32) (v_heldBits : Int32) (v_heldCount : Int32) (v_pressedSize : Int32) (v_at : Int32) (v_bad : Int32) (v_markSize : Int32) (v_relationCount : Int32) (v_valueSize : Int32) (v_faultCount : Int32) : Cn l G i_Mod_thrown [.ref h] [(h, .inr (10, [.ref m_rels, .ref m_openRels, .ref m_closeRels, .ref m_openRel, .ref m_closeRel, .ref m_comment, .ref m_ends, .ref m_order, .int v_thrown, .int v_taped, .ref m_tape, .ref m_count, .ref m_nameSize, .ref m_names, .ref m_size, .ref m_data, .int v_lookedSize, .ref m_looked, .int v_fileSize, .ref m_file, .int v_directorySize, .ref m_directory, .int v_outSize, .ref m_out, .int v_rowSize, .ref m_row, .int v_bitAt, .int v_bitEnd, .int v_why, .int v_madeSize, .ref m_made, .ref m_length, .int v_firstCount, .int v_secondCount, .int v_heldBits, .int v_heldCount, .int v_pressedSize, .ref m_pressed, .int v_at, .int v_bad, .int v_markSize, .ref m_mark, .int v_relationCount, .ref m_idSize, .ref m_ids, .ref m_goalSize, .ref m_goals, .int v_valueSize, .ref m_value, .int v_faultCount, .ref m_faults, .ref m_reached]))] (S := Unit) (fun v u => v = some (.int v_thrown)) (fun u => []) := by
  refine Cn.of hl (by decide +kernel) rfl (Nat.le_of_ble_eq_true rfl) (fun M hQ => ?_)
  refine pb_eq (pc' := 0) (lo' := [(0, .ref h)]) (rest' := []) (ws' := [(h, .inr (10, [.ref m_rels, .ref m_openRels, .ref m_closeRels, .ref m_openRel, .ref m_closeRel, .ref m_comment, .ref m_ends, .ref m_order, .int v_thrown, .int v_taped, .ref m_tape, .ref m_count, .ref m_nameSize, .ref m_names, .ref m_size, .ref m_data, .int v_lookedSize, .ref m_looked, .int v_fileSize, .ref m_file, .int v_directorySize, .ref m_directory, .int v_outSize, .ref m_out, .int v_rowSize, .ref m_row, .int v_bitAt, .int v_bitEnd, .int v_why, .int v_madeSize, .ref m_made, .ref m_length, .int v_firstCount, .int v_secondCount, .int v_heldBits, .int v_heldCount, .int v_pressedSize, .ref m_pressed, .int v_at, .int v_bad, .int v_markSize, .ref m_mark, .int v_relationCount, .ref m_idSize, .ref m_ids, .ref m_goalSize, .ref m_goals, .int v_valueSize, .ref m_value, .int v_faultCount, .ref m_faults, .ref m_reached]))]) ?_
  refine pb_aload_n (pc := 0) d_Mod_thrown_0 0 rfl rfl ?_
  refine pb_get (pc := 1) d_Mod_thrown_1 0 8 rfl rfl (by decide) in_Mod k_1154 rfl ?_
  exact pb_iret (pc := 4) hQ d_Mod_thrown_4 rfl rfl () rfl [] (by decide) rfl rfl (by decide) (by decide)

theorem d_Mod_type_0 : decode prog_12_method_3_code 0 = .ok (.aload_n 0, 1) := by decide +kernel
theorem d_Mod_type_1 : decode prog_12_method_3_code 1 = .ok (.iload_n 3, 1) := by decide +kernel
theorem d_Mod_type_2 : decode prog_12_method_3_code 2 = .ok (.iconst 1, 1) := by decide +kernel
theorem d_Mod_type_3 : decode prog_12_method_3_code 3 = .ok (.if_icmp .lt 9, 3) := by decide +kernel
theorem d_Mod_type_12 : decode prog_12_method_3_code 12 = .ok (.iconst 1, 1) := by decide +kernel
theorem d_Mod_type_13 : decode prog_12_method_3_code 13 = .ok (.goto 20, 3) := by decide +kernel
theorem d_Mod_type_33 : decode prog_12_method_3_code 33 = .ok (.putfield 103, 3) := by decide +kernel
theorem d_Mod_type_36 : decode prog_12_method_3_code 36 = .ok (.iconst 0, 1) := by decide +kernel
theorem d_Mod_type_37 : decode prog_12_method_3_code 37 = .ok (.istore 4, 2) := by decide +kernel
theorem d_Mod_type_39 : decode prog_12_method_3_code 39 = .ok (.iload 4, 2) := by decide +kernel
theorem d_Mod_type_41 : decode prog_12_method_3_code 41 = .ok (.iload_n 3, 1) := by decide +kernel
theorem d_Mod_type_42 : decode prog_12_method_3_code 42 = .ok (.if_icmp .ge 44, 3) := by decide +kernel
theorem d_Mod_type_86 : decode prog_12_method_3_code 86 = .ok (.aload_n 0, 1) := by decide +kernel
theorem d_Mod_type_87 : decode prog_12_method_3_code 87 = .ok (.getfield 103, 3) := by decide +kernel
theorem d_Mod_type_90 : decode prog_12_method_3_code 90 = .ok (.ifCond .le 7, 3) := by decide +kernel
theorem d_Mod_type_93 : decode prog_12_method_3_code 93 = .ok (.iconst 0, 1) := by decide +kernel
theorem d_Mod_type_94 : decode prog_12_method_3_code 94 = .ok (.goto 7, 3) := by decide +kernel
theorem d_Mod_type_101 : decode prog_12_method_3_code 101 = .ok (.ireturn, 1) := by decide +kernel
theorem d_Mod_type_45 : decode prog_12_method_3_code 45 = .ok (.aload_n 0, 1) := by decide +kernel
theorem d_Mod_type_46 : decode prog_12_method_3_code 46 = .ok (.getfield 103, 3) := by decide +kernel
theorem d_Mod_type_49 : decode prog_12_method_3_code 49 = .ok (.ifCond .ne 37, 3) := by decide +kernel
theorem d_Mod_type_6 : decode prog_12_method_3_code 6 = .ok (.iload_n 3, 1) := by decide +kernel
theorem d_Mod_type_7 : decode prog_12_method_3_code 7 = .ok (.bipush 8, 2) := by decide +kernel
theorem d_Mod_type_9 : decode prog_12_method_3_code 9 = .ok (.if_icmp .le 7, 3) := by decide +kernel
theorem d_Mod_type_16 : decode prog_12_method_3_code 16 = .ok (.aload_n 0, 1) := by decide +kernel
theorem d_Mod_type_17 : decode prog_12_method_3_code 17 = .ok (.getfield 107, 3) := by decide +kernel
theorem k_1155 : (Jvm.Cond.fieldLink "PackageBookModel" (107 : Nat) "PackageBookModel" "taped" "I") ∈ uW := uW_of 1155 (by decide +kernel) (by decide +kernel)
theorem d_Mod_type_20 : decode prog_12_method_3_code 20 = .ok (.iload_n 3, 1) := by decide +kernel
theorem d_Mod_type_21 : decode prog_12_method_3_code 21 = .ok (.iadd, 1) := by decide +kernel
theorem d_Mod_type_22 : decode prog_12_method_3_code 22 = .ok (.sipush 8000, 3) := by decide +kernel
theorem d_Mod_type_25 : decode prog_12_method_3_code 25 = .ok (.if_icmp .le 7, 3) := by decide +kernel
theorem d_Mod_type_32 : decode prog_12_method_3_code 32 = .ok (.iconst 0, 1) := by decide +kernel
theorem d_Mod_type_97 : decode prog_12_method_3_code 97 = .ok (.aload_n 0, 1) := by decide +kernel
theorem d_Mod_type_98 : decode prog_12_method_3_code 98 = .ok (.getfield 107, 3) := by decide +kernel
theorem d_Mod_type_52 : decode prog_12_method_3_code 52 = .ok (.aload_n 0, 1) := by decide +kernel
theorem d_Mod_type_53 : decode prog_12_method_3_code 53 = .ok (.getfield 34, 3) := by decide +kernel
theorem d_Mod_type_56 : decode prog_12_method_3_code 56 = .ok (.aload_n 0, 1) := by decide +kernel
theorem d_Mod_type_57 : decode prog_12_method_3_code 57 = .ok (.getfield 107, 3) := by decide +kernel
theorem d_Mod_type_60 : decode prog_12_method_3_code 60 = .ok (.lload_n 1, 1) := by decide +kernel
theorem d_Mod_type_61 : decode prog_12_method_3_code 61 = .ok (.bipush 8, 2) := by decide +kernel
theorem d_Mod_type_63 : decode prog_12_method_3_code 63 = .ok (.iload 4, 2) := by decide +kernel
theorem d_Mod_type_65 : decode prog_12_method_3_code 65 = .ok (.imul, 1) := by decide +kernel
theorem d_Mod_type_66 : decode prog_12_method_3_code 66 = .ok (.lshr, 1) := by decide +kernel
theorem d_Mod_type_67 : decode prog_12_method_3_code 67 = .ok (.l2i, 1) := by decide +kernel
theorem d_Mod_type_68 : decode prog_12_method_3_code 68 = .ok (.i2b, 1) := by decide +kernel
theorem d_Mod_type_69 : decode prog_12_method_3_code 69 = .ok (.bastore, 1) := by decide +kernel
theorem d_Mod_type_70 : decode prog_12_method_3_code 70 = .ok (.aload_n 0, 1) := by decide +kernel
theorem d_Mod_type_71 : decode prog_12_method_3_code 71 = .ok (.dup, 1) := by decide +kernel
theorem d_Mod_type_72 : decode prog_12_method_3_code 72 = .ok (.getfield 107, 3) := by decide +kernel
theorem d_Mod_type_75 : decode prog_12_method_3_code 75 = .ok (.iconst 1, 1) := by decide +kernel
theorem d_Mod_type_76 : decode prog_12_method_3_code 76 = .ok (.iadd, 1) := by decide +kernel
theorem d_Mod_type_77 : decode prog_12_method_3_code 77 = .ok (.putfield 107, 3) := by decide +kernel
theorem d_Mod_type_80 : decode prog_12_method_3_code 80 = .ok (.iinc 4 1, 3) := by decide +kernel
theorem d_Mod_type_83 : decode prog_12_method_3_code 83 = .ok (.goto (-44), 3) := by decide +kernel
abbrev y_Mod_type : MethodName := ⟨"PackageBookModel", "type", "(JI)I"⟩
abbrev i_Mod_type : pb_I := (y_Mod_type, prog_12_method_3_code, 5, (some Jvm.ClassFile.FieldType.int), [], { frames := 0, cells := 0, slots := 0, locals := 0 })
set_option maxRecDepth 100000 in
set_option maxHeartbeats 4000000 in
theorem c_Mod_type {l : Launch} (hl : l.stackTraces = false) (G : pb_G) (h : Nat) (m_rels : Nat) (m_openRels : Nat) (m_closeRels : Nat) (m_openRel : Nat) (m_closeRel : Nat) (m_comment : Nat) (m_ends : Nat) (m_order : Nat) (m_tape : Nat) (m_count : Nat) (m_nameSize : Nat) (m_names : Nat) (m_size : Nat) (m_data : Nat) (m_looked : Nat) (m_file : Nat) (m_directory : Nat) (m_out : Nat) (m_row : Nat) (m_made : Nat) (m_length : Nat) (m_pressed : Nat) (m_mark : Nat) (m_idSize : Nat) (m_ids : Nat) (m_goalSize : Nat) (m_goals : Nat) (m_value : Nat) (m_faults : Nat) (m_reached : Nat) (w : Int64) (n : Int32) (f : Nat → Int32) : Cn l G i_Mod_type [.ref h, .long w, .int n] [(h, .inr (10, [.ref m_rels, .ref m_openRels, .ref m_closeRels, .ref m_openRel, .ref m_closeRel, .ref m_comment, .ref m_ends, .ref m_order, .int 0, .int 0, .ref m_tape, .ref m_count, .ref m_nameSize, .ref m_names, .ref m_size, .ref m_data, .int 0, .ref m_looked, .int 0, .ref m_file, .int 0, .ref m_directory, .int 0, .ref m_out, .int 0, .ref m_row, .int 0, .int 0, .int 0, .int 0, .ref m_made, .ref m_length, .int 0, .int 0, .int 0, .int 0, .int 0, .ref m_pressed, .int 0, .int 0, .int 0, .ref m_mark, .int 0, .ref m_idSize, .ref m_ids, .ref m_goalSize, .ref m_goals, .int 0, .ref m_value, .int 0, .ref m_faults, .ref m_reached])), (m_tape, .inl (G.2.1, 8000, .inl f))] (S := Int32 × Int32 × Int32) (fun v u => v = some (.int u.1) ∧ ((¬ (1 ≤ n.toInt ∧ n.toInt ≤ 8) → u.2.1 = 1)) ∧ ((1 ≤ n.toInt ∧ n.toInt ≤ 8 → u.2.1 = 0 ∧ u.1 = n))) (fun u => [(h, .inr (10, [.ref m_rels, .ref m_openRels, .ref m_closeRels, .ref m_openRel, .ref m_closeRel, .ref m_comment, .ref m_ends, .ref m_order, .int u.2.1, .int u.2.2, .ref m_tape, .ref m_count, .ref m_nameSize, .ref m_names, .ref m_size, .ref m_data, .int 0, .ref m_looked, .int 0, .ref m_file, .int 0, .ref m_directory, .int 0, .ref m_out, .int 0, .ref m_row, .int 0, .int 0, .int 0, .int 0, .ref m_made, .ref m_length, .int 0, .int 0, .int 0, .int 0, .int 0, .ref m_pressed, .int 0, .int 0, .int 0, .ref m_mark, .int 0, .ref m_idSize, .ref m_ids, .ref m_goalSize, .ref m_goals, .int 0, .ref m_value, .int 0, .ref m_faults, .ref m_reached]))]) := by
  refine Cn.of hl (by decide +kernel) rfl (Nat.le_of_ble_eq_true rfl) (fun M hQ => ?_)
  refine pb_eq (pc' := 0) (lo' := [(0, .ref h), (1, .long w), (3, .int n)]) (rest' := []) (ws' := [(h, .inr (10, [.ref m_rels, .ref m_openRels, .ref m_closeRels, .ref m_openRel, .ref m_closeRel, .ref m_comment, .ref m_ends, .ref m_order, .int 0, .int 0, .ref m_tape, .ref m_count, .ref m_nameSize, .ref m_names, .ref m_size, .ref m_data, .int 0, .ref m_looked, .int 0, .ref m_file, .int 0, .ref m_directory, .int 0, .ref m_out, .int 0, .ref m_row, .int 0, .int 0, .int 0, .int 0, .ref m_made, .ref m_length, .int 0, .int 0, .int 0, .int 0, .int 0, .ref m_pressed, .int 0, .int 0, .int 0, .ref m_mark, .int 0, .ref m_idSize, .ref m_ids, .ref m_goalSize, .ref m_goals, .int 0, .ref m_value, .int 0, .ref m_faults, .ref m_reached])), (m_tape, .inl (G.2.1, 8000, .inl f))]) ?_
  have z0 : (0 : Int32).toInt = 0 := by decide
  have z1 : (1 : Int32).toInt = 1 := by decide
  have z2 : (0 : Int32).toNatClampNeg = 0 := by decide
  refine pb_aload_n (pc := 0) d_Mod_type_0 0 rfl rfl ?_
  refine pb_iload_n (pc := 1) d_Mod_type_1 2 rfl rfl ?_
  refine pb_iconst (pc := 2) (v := 1) d_Mod_type_2 (by decide) ?_
  refine pb_icmp_lt (pc := 3) (tgt := 12) d_Mod_type_3 (by decide) (fun w1 => ?_) (fun w1 => ?_)
  · have tw1 : n.toInt < 1 := (ti_lt rfl (by decide)).mp w1
    refine pb_iconst (pc := 12) (v := 1) d_Mod_type_12 (by decide) ?_
    refine pb_goto (pc := 13) (tgt := 33) d_Mod_type_13 (by decide) ?_
    refine pb_put (pc := 33) (ty := .int) (ws' := [(h, .inr (10, [.ref m_rels, .ref m_openRels, .ref m_closeRels, .ref m_openRel, .ref m_closeRel, .ref m_comment, .ref m_ends, .ref m_order, .int 1, .int 0, .ref m_tape, .ref m_count, .ref m_nameSize, .ref m_names, .ref m_size, .ref m_data, .int 0, .ref m_looked, .int 0, .ref m_file, .int 0, .ref m_directory, .int 0, .ref m_out, .int 0, .ref m_row, .int 0, .int 0, .int 0, .int 0, .ref m_made, .ref m_length, .int 0, .int 0, .int 0, .int 0, .int 0, .ref m_pressed, .int 0, .int 0, .int 0, .ref m_mark, .int 0, .ref m_idSize, .ref m_ids, .ref m_goalSize, .ref m_goals, .int 0, .ref m_value, .int 0, .ref m_faults, .ref m_reached])), (m_tape, .inl (G.2.1, 8000, .inl f))]) d_Mod_type_33 0 8 t_Mod t_Mod_ok n_Mod rfl rfl (by decide) in_Mod k_1154 rfl (by decide +kernel) rfl rfl (Nat.le_of_ble_eq_true rfl) rfl ?_
    refine pb_iconst (pc := 36) (v := 0) d_Mod_type_36 (by decide) ?_
    refine pb_istore (pc := 37) (lo' := [(4, .int 0), (0, .ref h), (1, .long w), (3, .int n)]) d_Mod_type_37 (by decide) rfl ?_
    refine pb_iload (pc := 39) d_Mod_type_39 0 rfl ?_
    refine pb_iload_n (pc := 41) d_Mod_type_41 3 rfl rfl ?_
    refine pb_icmp_ge (pc := 42) (tgt := 86) d_Mod_type_42 (by decide) (fun w2 => ?_) (fun w2 => ?_)
    · have tw2 : n.toInt ≤ 0 := (ti_le rfl (by decide)).mp w2
      refine pb_aload_n (pc := 86) d_Mod_type_86 1 rfl rfl ?_
      refine pb_get (pc := 87) d_Mod_type_87 0 8 rfl rfl (by decide) in_Mod k_1154 rfl ?_
      refine pb_if_le (pc := 90) (tgt := 97) d_Mod_type_90 (by decide) (fun h9 => absurd h9 (by decide)) (fun _ => ?_)
      refine pb_iconst (pc := 93) (v := 0) d_Mod_type_93 (by decide) ?_
      refine pb_goto (pc := 94) (tgt := 101) d_Mod_type_94 (by decide) ?_
      exact pb_iret (pc := 101) hQ d_Mod_type_101 rfl rfl (0, 1, 0) ⟨rfl, (fun h => by first | rfl | (exfalso; omega)), (fun h => by first | exact ⟨rfl, Int32.toInt_inj.mp (by dsimp only; omega)⟩ | (exfalso; omega))⟩ [0] (by decide) rfl rfl (by decide) (by decide)
    · have tw2 : ¬ n.toInt ≤ 0 := fun z9 => w2 ((ti_le rfl (by decide)).mpr z9)
      refine pb_aload_n (pc := 45) d_Mod_type_45 1 rfl rfl ?_
      refine pb_get (pc := 46) d_Mod_type_46 0 8 rfl rfl (by decide) in_Mod k_1154 rfl ?_
      refine pb_if_ne (pc := 49) (tgt := 86) d_Mod_type_49 (by decide) (fun _ => ?_) (fun h9 => absurd h9 (by decide))
      refine pb_aload_n (pc := 86) d_Mod_type_86 1 rfl rfl ?_
      refine pb_get (pc := 87) d_Mod_type_87 0 8 rfl rfl (by decide) in_Mod k_1154 rfl ?_
      refine pb_if_le (pc := 90) (tgt := 97) d_Mod_type_90 (by decide) (fun h9 => absurd h9 (by decide)) (fun _ => ?_)
      refine pb_iconst (pc := 93) (v := 0) d_Mod_type_93 (by decide) ?_
      refine pb_goto (pc := 94) (tgt := 101) d_Mod_type_94 (by decide) ?_
      exact pb_iret (pc := 101) hQ d_Mod_type_101 rfl rfl (0, 1, 0) ⟨rfl, (fun h => by first | rfl | (exfalso; omega)), (fun h => by first | exact ⟨rfl, Int32.toInt_inj.mp (by dsimp only; omega)⟩ | (exfalso; omega))⟩ [0] (by decide) rfl rfl (by decide) (by decide)
  · have tw1 : ¬ n.toInt < 1 := fun z9 => w1 ((ti_lt rfl (by decide)).mpr z9)
    refine pb_iload_n (pc := 6) d_Mod_type_6 2 rfl rfl ?_
    refine pb_bipush (pc := 7) (v := 8) d_Mod_type_7 (by decide) ?_
    refine pb_icmp_le (pc := 9) (tgt := 16) d_Mod_type_9 (by decide) (fun w6 => ?_) (fun w6 => ?_)
    · have tw6 : n.toInt ≤ 8 := (ti_le rfl (by decide)).mp w6
      refine pb_aload_n (pc := 16) d_Mod_type_16 0 rfl rfl ?_
      refine pb_get (pc := 17) d_Mod_type_17 0 9 rfl rfl (by decide) in_Mod k_1155 rfl ?_
      refine pb_iload_n (pc := 20) d_Mod_type_20 2 rfl rfl ?_
      refine pb_iadd (pc := 21) d_Mod_type_21 ?_
      refine pb_topi (fun i7 ei7 => ?_)
      have ti7 : i7.toInt = 0 + n.toInt := ti_add ei7 (by decide) rfl (by omega) (by omega)
      refine pb_sipush (pc := 22) (v := 8000) d_Mod_type_22 (by decide) ?_
      refine pb_icmp_le (pc := 25) (tgt := 32) d_Mod_type_25 (by decide) (fun w8 => ?_) (fun h9 => False.elim (by have t9 : ¬ i7.toInt ≤ 8000 := fun z9 => h9 ((ti_le rfl (by decide)).mpr z9); omega))
      have tw8 : i7.toInt ≤ 8000 := (ti_le rfl (by decide)).mp w8
      refine pb_iconst (pc := 32) (v := 0) d_Mod_type_32 (by decide) ?_
      refine pb_put (pc := 33) (ty := .int) (ws' := [(h, .inr (10, [.ref m_rels, .ref m_openRels, .ref m_closeRels, .ref m_openRel, .ref m_closeRel, .ref m_comment, .ref m_ends, .ref m_order, .int 0, .int 0, .ref m_tape, .ref m_count, .ref m_nameSize, .ref m_names, .ref m_size, .ref m_data, .int 0, .ref m_looked, .int 0, .ref m_file, .int 0, .ref m_directory, .int 0, .ref m_out, .int 0, .ref m_row, .int 0, .int 0, .int 0, .int 0, .ref m_made, .ref m_length, .int 0, .int 0, .int 0, .int 0, .int 0, .ref m_pressed, .int 0, .int 0, .int 0, .ref m_mark, .int 0, .ref m_idSize, .ref m_ids, .ref m_goalSize, .ref m_goals, .int 0, .ref m_value, .int 0, .ref m_faults, .ref m_reached])), (m_tape, .inl (G.2.1, 8000, .inl f))]) d_Mod_type_33 0 8 t_Mod t_Mod_ok n_Mod rfl rfl (by decide) in_Mod k_1154 rfl (by decide +kernel) rfl rfl (Nat.le_of_ble_eq_true rfl) rfl ?_
      refine pb_iconst (pc := 36) (v := 0) d_Mod_type_36 (by decide) ?_
      refine pb_istore (pc := 37) (lo' := [(4, .int 0), (0, .ref h), (1, .long w), (3, .int n)]) d_Mod_type_37 (by decide) rfl ?_
      have hL39 : ∀ (N9 : Nat) (k : Int32) (t : Int32) (g : Nat → Int32), (0 ≤ k.toInt) → (k.toInt ≤ n.toInt) → (t = k) → ((n.toInt - k.toInt).toNat) < N9 → pb_P l G M i_Mod_type 39 [(4, .int k), (0, .ref h), (1, .long w), (3, .int n)] [] [(h, .inr (10, [.ref m_rels, .ref m_openRels, .ref m_closeRels, .ref m_openRel, .ref m_closeRel, .ref m_comment, .ref m_ends, .ref m_order, .int 0, .int t, .ref m_tape, .ref m_count, .ref m_nameSize, .ref m_names, .ref m_size, .ref m_data, .int 0, .ref m_looked, .int 0, .ref m_file, .int 0, .ref m_directory, .int 0, .ref m_out, .int 0, .ref m_row, .int 0, .int 0, .int 0, .int 0, .ref m_made, .ref m_length, .int 0, .int 0, .int 0, .int 0, .int 0, .ref m_pressed, .int 0, .int 0, .int 0, .ref m_mark, .int 0, .ref m_idSize, .ref m_ids, .ref m_goalSize, .ref m_goals, .int 0, .ref m_value, .int 0, .ref m_faults, .ref m_reached])), (m_tape, .inl (G.2.1, 8000, .inl g))] 0 0 := by
        intro N9
        induction N9 with
        | zero => intro k t g hk hk2 ht hm9; exact absurd hm9 (Nat.not_lt_zero _)
        | succ N9 ih39 =>
          intro k t g hk hk2 ht hm9
          have ht2 : t.toInt = k.toInt := by rw [ht]
          refine pb_iload (pc := 39) d_Mod_type_39 0 rfl ?_
          refine pb_iload_n (pc := 41) d_Mod_type_41 3 rfl rfl ?_
          refine pb_icmp_ge (pc := 42) (tgt := 86) d_Mod_type_42 (by decide) (fun w9 => ?_) (fun w9 => ?_)
          · have tw9 : n.toInt ≤ k.toInt := (ti_le rfl rfl).mp w9
            refine pb_aload_n (pc := 86) d_Mod_type_86 1 rfl rfl ?_
            refine pb_get (pc := 87) d_Mod_type_87 0 8 rfl rfl (by decide) in_Mod k_1154 rfl ?_
            refine pb_if_le (pc := 90) (tgt := 97) d_Mod_type_90 (by decide) (fun _ => ?_) (fun h9 => absurd h9 (by decide))
            refine pb_aload_n (pc := 97) d_Mod_type_97 1 rfl rfl ?_
            refine pb_get (pc := 98) d_Mod_type_98 0 9 rfl rfl (by decide) in_Mod k_1155 rfl ?_
            exact pb_iret (pc := 101) hQ d_Mod_type_101 rfl rfl (t, 0, t) ⟨rfl, (fun h => by first | rfl | (exfalso; omega)), (fun h => by first | exact ⟨rfl, Int32.toInt_inj.mp (by dsimp only; omega)⟩ | (exfalso; omega))⟩ [0] (by decide) rfl rfl (by decide) (by decide)
          · have tw9 : ¬ n.toInt ≤ k.toInt := fun z9 => w9 ((ti_le rfl rfl).mpr z9)
            refine pb_aload_n (pc := 45) d_Mod_type_45 1 rfl rfl ?_
            refine pb_get (pc := 46) d_Mod_type_46 0 8 rfl rfl (by decide) in_Mod k_1154 rfl ?_
            refine pb_if_ne (pc := 49) (tgt := 86) d_Mod_type_49 (by decide) (fun h9 => absurd h9 (by decide)) (fun _ => ?_)
            refine pb_aload_n (pc := 52) d_Mod_type_52 1 rfl rfl ?_
            refine pb_get (pc := 53) d_Mod_type_53 0 10 rfl rfl (by decide) in_Mod k_1156 rfl ?_
            refine pb_aload_n (pc := 56) d_Mod_type_56 1 rfl rfl ?_
            refine pb_get (pc := 57) d_Mod_type_57 0 9 rfl rfl (by decide) in_Mod k_1155 rfl ?_
            refine pb_lload_n (pc := 60) d_Mod_type_60 2 rfl rfl ?_
            refine pb_bipush (pc := 61) (v := 8) d_Mod_type_61 (by decide) ?_
            refine pb_iload (pc := 63) d_Mod_type_63 0 rfl ?_
            refine pb_imul (pc := 65) d_Mod_type_65 ?_
            refine pb_topi (fun i12 ei12 => ?_)
            have ti12 : i12.toInt = 8 * k.toInt := ti_mul ei12 (by decide) rfl (by omega) (by omega)
            refine pb_lshr (pc := 66) d_Mod_type_66 rfl ?_
            refine pb_topl (fun j13 ej13 => ?_)
            refine pb_l2i (pc := 67) d_Mod_type_67 rfl ?_
            refine pb_topi (fun i14 ei14 => ?_)
            refine pb_i2b (pc := 68) d_Mod_type_68 rfl ?_
            refine pb_topi (fun i15 ei15 => ?_)
            refine pb_bast (pc := 69) (ws' := [(h, .inr (10, [.ref m_rels, .ref m_openRels, .ref m_closeRels, .ref m_openRel, .ref m_closeRel, .ref m_comment, .ref m_ends, .ref m_order, .int 0, .int t, .ref m_tape, .ref m_count, .ref m_nameSize, .ref m_names, .ref m_size, .ref m_data, .int 0, .ref m_looked, .int 0, .ref m_file, .int 0, .ref m_directory, .int 0, .ref m_out, .int 0, .ref m_row, .int 0, .int 0, .int 0, .int 0, .ref m_made, .ref m_length, .int 0, .int 0, .int 0, .int 0, .int 0, .ref m_pressed, .int 0, .int 0, .int 0, .ref m_mark, .int 0, .ref m_idSize, .ref m_ids, .ref m_goalSize, .ref m_goals, .int 0, .ref m_value, .int 0, .ref m_faults, .ref m_reached])), (m_tape, .inl (G.2.1, 8000, .inl (upd g ((t : Int32).toNatClampNeg) (vp_nar .byte i15))))]) d_Mod_type_69 1 rfl (vp_in_iff.mpr (by constructor <;> omega)) rfl ?_
            refine pb_aload_n (pc := 70) d_Mod_type_70 1 rfl rfl ?_
            refine pb_dup (pc := 71) d_Mod_type_71 rfl ?_
            refine pb_get (pc := 72) d_Mod_type_72 0 9 rfl rfl (by decide) in_Mod k_1155 rfl ?_
            refine pb_iconst (pc := 75) (v := 1) d_Mod_type_75 (by decide) ?_
            refine pb_iadd (pc := 76) d_Mod_type_76 ?_
            refine pb_topi (fun i16 ei16 => ?_)
            have ti16 : i16.toInt = t.toInt + 1 := ti_add ei16 rfl (by decide) (by omega) (by omega)
            refine pb_put (pc := 77) (ty := .int) (ws' := [(h, .inr (10, [.ref m_rels, .ref m_openRels, .ref m_closeRels, .ref m_openRel, .ref m_closeRel, .ref m_comment, .ref m_ends, .ref m_order, .int 0, .int i16, .ref m_tape, .ref m_count, .ref m_nameSize, .ref m_names, .ref m_size, .ref m_data, .int 0, .ref m_looked, .int 0, .ref m_file, .int 0, .ref m_directory, .int 0, .ref m_out, .int 0, .ref m_row, .int 0, .int 0, .int 0, .int 0, .ref m_made, .ref m_length, .int 0, .int 0, .int 0, .int 0, .int 0, .ref m_pressed, .int 0, .int 0, .int 0, .ref m_mark, .int 0, .ref m_idSize, .ref m_ids, .ref m_goalSize, .ref m_goals, .int 0, .ref m_value, .int 0, .ref m_faults, .ref m_reached])), (m_tape, .inl (G.2.1, 8000, .inl (upd g ((t : Int32).toNatClampNeg) (vp_nar .byte i15))))]) d_Mod_type_77 0 9 t_Mod t_Mod_ok n_Mod rfl rfl (by decide) in_Mod k_1155 rfl (by decide +kernel) rfl rfl (Nat.le_of_ble_eq_true rfl) rfl ?_
            refine pb_iincN (pc := 80) (c := 1) d_Mod_type_80 0 rfl (by decide) (by decide) (fun i17 ei17 => ?_)
            have ti17 : i17.toInt = k.toInt + 1 := ti_add ei17 rfl (by decide) (by omega) (by omega)
            refine pb_eq (pc' := 83) (lo' := [(4, .int i17), (0, .ref h), (1, .long w), (3, .int n)]) (rest' := []) (ws' := [(h, .inr (10, [.ref m_rels, .ref m_openRels, .ref m_closeRels, .ref m_openRel, .ref m_closeRel, .ref m_comment, .ref m_ends, .ref m_order, .int 0, .int i16, .ref m_tape, .ref m_count, .ref m_nameSize, .ref m_names, .ref m_size, .ref m_data, .int 0, .ref m_looked, .int 0, .ref m_file, .int 0, .ref m_directory, .int 0, .ref m_out, .int 0, .ref m_row, .int 0, .int 0, .int 0, .int 0, .ref m_made, .ref m_length, .int 0, .int 0, .int 0, .int 0, .int 0, .ref m_pressed, .int 0, .int 0, .int 0, .ref m_mark, .int 0, .ref m_idSize, .ref m_ids, .ref m_goalSize, .ref m_goals, .int 0, .ref m_value, .int 0, .ref m_faults, .ref m_reached])), (m_tape, .inl (G.2.1, 8000, .inl (upd g ((t : Int32).toNatClampNeg) (vp_nar .byte i15))))]) ?_
            refine pb_goto (pc := 83) (tgt := 39) d_Mod_type_83 (by decide) ?_
            exact ih39 i17 i16 (upd g ((t : Int32).toNatClampNeg) (vp_nar .byte i15)) (by omega) (by omega) (by rw [ei16, ei17, ht]) (by omega)
      exact hL39 _ 0 0 f (by omega) (by omega) rfl (Nat.lt_succ_self _)
    · have tw6 : ¬ n.toInt ≤ 8 := fun z9 => w6 ((ti_le rfl (by decide)).mpr z9)
      refine pb_iconst (pc := 12) (v := 1) d_Mod_type_12 (by decide) ?_
      refine pb_goto (pc := 13) (tgt := 33) d_Mod_type_13 (by decide) ?_
      refine pb_put (pc := 33) (ty := .int) (ws' := [(h, .inr (10, [.ref m_rels, .ref m_openRels, .ref m_closeRels, .ref m_openRel, .ref m_closeRel, .ref m_comment, .ref m_ends, .ref m_order, .int 1, .int 0, .ref m_tape, .ref m_count, .ref m_nameSize, .ref m_names, .ref m_size, .ref m_data, .int 0, .ref m_looked, .int 0, .ref m_file, .int 0, .ref m_directory, .int 0, .ref m_out, .int 0, .ref m_row, .int 0, .int 0, .int 0, .int 0, .ref m_made, .ref m_length, .int 0, .int 0, .int 0, .int 0, .int 0, .ref m_pressed, .int 0, .int 0, .int 0, .ref m_mark, .int 0, .ref m_idSize, .ref m_ids, .ref m_goalSize, .ref m_goals, .int 0, .ref m_value, .int 0, .ref m_faults, .ref m_reached])), (m_tape, .inl (G.2.1, 8000, .inl f))]) d_Mod_type_33 0 8 t_Mod t_Mod_ok n_Mod rfl rfl (by decide) in_Mod k_1154 rfl (by decide +kernel) rfl rfl (Nat.le_of_ble_eq_true rfl) rfl ?_
      refine pb_iconst (pc := 36) (v := 0) d_Mod_type_36 (by decide) ?_
      refine pb_istore (pc := 37) (lo' := [(4, .int 0), (0, .ref h), (1, .long w), (3, .int n)]) d_Mod_type_37 (by decide) rfl ?_
      refine pb_iload (pc := 39) d_Mod_type_39 0 rfl ?_
      refine pb_iload_n (pc := 41) d_Mod_type_41 3 rfl rfl ?_
      refine pb_icmp_ge (pc := 42) (tgt := 86) d_Mod_type_42 (by decide) (fun w18 => ?_) (fun w18 => ?_)
      · have tw18 : n.toInt ≤ 0 := (ti_le rfl (by decide)).mp w18
        refine pb_aload_n (pc := 86) d_Mod_type_86 1 rfl rfl ?_
        refine pb_get (pc := 87) d_Mod_type_87 0 8 rfl rfl (by decide) in_Mod k_1154 rfl ?_
        refine pb_if_le (pc := 90) (tgt := 97) d_Mod_type_90 (by decide) (fun h9 => absurd h9 (by decide)) (fun _ => ?_)
        refine pb_iconst (pc := 93) (v := 0) d_Mod_type_93 (by decide) ?_
        refine pb_goto (pc := 94) (tgt := 101) d_Mod_type_94 (by decide) ?_
        exact pb_iret (pc := 101) hQ d_Mod_type_101 rfl rfl (0, 1, 0) ⟨rfl, (fun h => by first | rfl | (exfalso; omega)), (fun h => by first | exact ⟨rfl, Int32.toInt_inj.mp (by dsimp only; omega)⟩ | (exfalso; omega))⟩ [0] (by decide) rfl rfl (by decide) (by decide)
      · have tw18 : ¬ n.toInt ≤ 0 := fun z9 => w18 ((ti_le rfl (by decide)).mpr z9)
        refine pb_aload_n (pc := 45) d_Mod_type_45 1 rfl rfl ?_
        refine pb_get (pc := 46) d_Mod_type_46 0 8 rfl rfl (by decide) in_Mod k_1154 rfl ?_
        refine pb_if_ne (pc := 49) (tgt := 86) d_Mod_type_49 (by decide) (fun _ => ?_) (fun h9 => absurd h9 (by decide))
        refine pb_aload_n (pc := 86) d_Mod_type_86 1 rfl rfl ?_
        refine pb_get (pc := 87) d_Mod_type_87 0 8 rfl rfl (by decide) in_Mod k_1154 rfl ?_
        refine pb_if_le (pc := 90) (tgt := 97) d_Mod_type_90 (by decide) (fun h9 => absurd h9 (by decide)) (fun _ => ?_)
        refine pb_iconst (pc := 93) (v := 0) d_Mod_type_93 (by decide) ?_
        refine pb_goto (pc := 94) (tgt := 101) d_Mod_type_94 (by decide) ?_
        exact pb_iret (pc := 101) hQ d_Mod_type_101 rfl rfl (0, 1, 0) ⟨rfl, (fun h => by first | rfl | (exfalso; omega)), (fun h => by first | exact ⟨rfl, Int32.toInt_inj.mp (by dsimp only; omega)⟩ | (exfalso; omega))⟩ [0] (by decide) rfl rfl (by decide) (by decide)

theorem d_Mod_again_0 : decode prog_12_method_4_code 0 = .ok (.aload_n 0, 1) := by decide +kernel
theorem d_Mod_again_1 : decode prog_12_method_4_code 1 = .ok (.iload_n 1, 1) := by decide +kernel
theorem d_Mod_again_2 : decode prog_12_method_4_code 2 = .ok (.ifCond .lt 11, 3) := by decide +kernel
theorem d_Mod_again_13 : decode prog_12_method_4_code 13 = .ok (.iconst 1, 1) := by decide +kernel
theorem d_Mod_again_14 : decode prog_12_method_4_code 14 = .ok (.goto 20, 3) := by decide +kernel
theorem d_Mod_again_34 : decode prog_12_method_4_code 34 = .ok (.putfield 103, 3) := by decide +kernel
theorem d_Mod_again_37 : decode prog_12_method_4_code 37 = .ok (.iconst 0, 1) := by decide +kernel
theorem d_Mod_again_38 : decode prog_12_method_4_code 38 = .ok (.istore_n 2, 1) := by decide +kernel
theorem d_Mod_again_39 : decode prog_12_method_4_code 39 = .ok (.iload_n 2, 1) := by decide +kernel
theorem d_Mod_again_40 : decode prog_12_method_4_code 40 = .ok (.iload_n 1, 1) := by decide +kernel
theorem d_Mod_again_41 : decode prog_12_method_4_code 41 = .ok (.if_icmp .ge 46, 3) := by decide +kernel
theorem d_Mod_again_87 : decode prog_12_method_4_code 87 = .ok (.aload_n 0, 1) := by decide +kernel
theorem d_Mod_again_88 : decode prog_12_method_4_code 88 = .ok (.getfield 103, 3) := by decide +kernel
theorem d_Mod_again_91 : decode prog_12_method_4_code 91 = .ok (.ifCond .le 7, 3) := by decide +kernel
theorem d_Mod_again_94 : decode prog_12_method_4_code 94 = .ok (.iconst 0, 1) := by decide +kernel
theorem d_Mod_again_95 : decode prog_12_method_4_code 95 = .ok (.goto 7, 3) := by decide +kernel
theorem d_Mod_again_102 : decode prog_12_method_4_code 102 = .ok (.ireturn, 1) := by decide +kernel
theorem d_Mod_again_44 : decode prog_12_method_4_code 44 = .ok (.aload_n 0, 1) := by decide +kernel
theorem d_Mod_again_45 : decode prog_12_method_4_code 45 = .ok (.getfield 103, 3) := by decide +kernel
theorem d_Mod_again_48 : decode prog_12_method_4_code 48 = .ok (.ifCond .ne 39, 3) := by decide +kernel
theorem d_Mod_again_5 : decode prog_12_method_4_code 5 = .ok (.iload_n 1, 1) := by decide +kernel
theorem d_Mod_again_6 : decode prog_12_method_4_code 6 = .ok (.aload_n 0, 1) := by decide +kernel
theorem d_Mod_again_7 : decode prog_12_method_4_code 7 = .ok (.getfield 107, 3) := by decide +kernel
theorem d_Mod_again_10 : decode prog_12_method_4_code 10 = .ok (.if_icmp .le 7, 3) := by decide +kernel
theorem d_Mod_again_17 : decode prog_12_method_4_code 17 = .ok (.aload_n 0, 1) := by decide +kernel
theorem d_Mod_again_18 : decode prog_12_method_4_code 18 = .ok (.getfield 107, 3) := by decide +kernel
theorem d_Mod_again_21 : decode prog_12_method_4_code 21 = .ok (.iload_n 1, 1) := by decide +kernel
theorem d_Mod_again_22 : decode prog_12_method_4_code 22 = .ok (.iadd, 1) := by decide +kernel
theorem d_Mod_again_23 : decode prog_12_method_4_code 23 = .ok (.sipush 8000, 3) := by decide +kernel
theorem d_Mod_again_26 : decode prog_12_method_4_code 26 = .ok (.if_icmp .le 7, 3) := by decide +kernel
theorem d_Mod_again_33 : decode prog_12_method_4_code 33 = .ok (.iconst 0, 1) := by decide +kernel
theorem d_Mod_again_98 : decode prog_12_method_4_code 98 = .ok (.aload_n 0, 1) := by decide +kernel
theorem d_Mod_again_99 : decode prog_12_method_4_code 99 = .ok (.getfield 107, 3) := by decide +kernel
abbrev y_Mod_again : MethodName := ⟨"PackageBookModel", "again", "(I)I"⟩
abbrev i_Mod_again : pb_I := (y_Mod_again, prog_12_method_4_code, 3, (some Jvm.ClassFile.FieldType.int), [], { frames := 0, cells := 0, slots := 0, locals := 0 })
set_option maxRecDepth 100000 in
set_option maxHeartbeats 4000000 in
theorem c_Mod_again {l : Launch} (hl : l.stackTraces = false) (G : pb_G) (h : Nat) (m_rels : Nat) (m_openRels : Nat) (m_closeRels : Nat) (m_openRel : Nat) (m_closeRel : Nat) (m_comment : Nat) (m_ends : Nat) (m_order : Nat) (m_tape : Nat) (m_count : Nat) (m_nameSize : Nat) (m_names : Nat) (m_size : Nat) (m_data : Nat) (m_looked : Nat) (m_file : Nat) (m_directory : Nat) (m_out : Nat) (m_row : Nat) (m_made : Nat) (m_length : Nat) (m_pressed : Nat) (m_mark : Nat) (m_idSize : Nat) (m_ids : Nat) (m_goalSize : Nat) (m_goals : Nat) (m_value : Nat) (m_faults : Nat) (m_reached : Nat) (n : Int32) : Cn l G i_Mod_again [.ref h, .int n] [(h, .inr (10, [.ref m_rels, .ref m_openRels, .ref m_closeRels, .ref m_openRel, .ref m_closeRel, .ref m_comment, .ref m_ends, .ref m_order, .int 0, .int 0, .ref m_tape, .ref m_count, .ref m_nameSize, .ref m_names, .ref m_size, .ref m_data, .int 0, .ref m_looked, .int 0, .ref m_file, .int 0, .ref m_directory, .int 0, .ref m_out, .int 0, .ref m_row, .int 0, .int 0, .int 0, .int 0, .ref m_made, .ref m_length, .int 0, .int 0, .int 0, .int 0, .int 0, .ref m_pressed, .int 0, .int 0, .int 0, .ref m_mark, .int 0, .ref m_idSize, .ref m_ids, .ref m_goalSize, .ref m_goals, .int 0, .ref m_value, .int 0, .ref m_faults, .ref m_reached]))] (S := Int32 × Int32) (fun v u => v = some (.int u.1) ∧ (n.toInt ≠ 0 → u.2 = 1) ∧ (n.toInt = 0 → u.2 = 0 ∧ u.1 = 0)) (fun u => [(h, .inr (10, [.ref m_rels, .ref m_openRels, .ref m_closeRels, .ref m_openRel, .ref m_closeRel, .ref m_comment, .ref m_ends, .ref m_order, .int u.2, .int 0, .ref m_tape, .ref m_count, .ref m_nameSize, .ref m_names, .ref m_size, .ref m_data, .int 0, .ref m_looked, .int 0, .ref m_file, .int 0, .ref m_directory, .int 0, .ref m_out, .int 0, .ref m_row, .int 0, .int 0, .int 0, .int 0, .ref m_made, .ref m_length, .int 0, .int 0, .int 0, .int 0, .int 0, .ref m_pressed, .int 0, .int 0, .int 0, .ref m_mark, .int 0, .ref m_idSize, .ref m_ids, .ref m_goalSize, .ref m_goals, .int 0, .ref m_value, .int 0, .ref m_faults, .ref m_reached]))]) := by
  refine Cn.of hl (by decide +kernel) rfl (Nat.le_of_ble_eq_true rfl) (fun M hQ => ?_)
  refine pb_eq (pc' := 0) (lo' := [(0, .ref h), (1, .int n)]) (rest' := []) (ws' := [(h, .inr (10, [.ref m_rels, .ref m_openRels, .ref m_closeRels, .ref m_openRel, .ref m_closeRel, .ref m_comment, .ref m_ends, .ref m_order, .int 0, .int 0, .ref m_tape, .ref m_count, .ref m_nameSize, .ref m_names, .ref m_size, .ref m_data, .int 0, .ref m_looked, .int 0, .ref m_file, .int 0, .ref m_directory, .int 0, .ref m_out, .int 0, .ref m_row, .int 0, .int 0, .int 0, .int 0, .ref m_made, .ref m_length, .int 0, .int 0, .int 0, .int 0, .int 0, .ref m_pressed, .int 0, .int 0, .int 0, .ref m_mark, .int 0, .ref m_idSize, .ref m_ids, .ref m_goalSize, .ref m_goals, .int 0, .ref m_value, .int 0, .ref m_faults, .ref m_reached]))]) ?_
  have z0 : (0 : Int32).toInt = 0 := by decide
  have z1 : (1 : Int32).toInt = 1 := by decide
  have z2 : (0 : Int32).toNatClampNeg = 0 := by decide
  refine pb_aload_n (pc := 0) d_Mod_again_0 0 rfl rfl ?_
  refine pb_iload_n (pc := 1) d_Mod_again_1 1 rfl rfl ?_
  refine pb_if_lt (pc := 2) (tgt := 13) d_Mod_again_2 (by decide) (fun w1 => ?_) (fun w1 => ?_)
  · have tw1 : n.toInt < 0 := (ti_lt rfl (by decide)).mp w1
    refine pb_iconst (pc := 13) (v := 1) d_Mod_again_13 (by decide) ?_
    refine pb_goto (pc := 14) (tgt := 34) d_Mod_again_14 (by decide) ?_
    refine pb_put (pc := 34) (ty := .int) (ws' := [(h, .inr (10, [.ref m_rels, .ref m_openRels, .ref m_closeRels, .ref m_openRel, .ref m_closeRel, .ref m_comment, .ref m_ends, .ref m_order, .int 1, .int 0, .ref m_tape, .ref m_count, .ref m_nameSize, .ref m_names, .ref m_size, .ref m_data, .int 0, .ref m_looked, .int 0, .ref m_file, .int 0, .ref m_directory, .int 0, .ref m_out, .int 0, .ref m_row, .int 0, .int 0, .int 0, .int 0, .ref m_made, .ref m_length, .int 0, .int 0, .int 0, .int 0, .int 0, .ref m_pressed, .int 0, .int 0, .int 0, .ref m_mark, .int 0, .ref m_idSize, .ref m_ids, .ref m_goalSize, .ref m_goals, .int 0, .ref m_value, .int 0, .ref m_faults, .ref m_reached]))]) d_Mod_again_34 0 8 t_Mod t_Mod_ok n_Mod rfl rfl (by decide) in_Mod k_1154 rfl (by decide +kernel) rfl rfl (Nat.le_of_ble_eq_true rfl) rfl ?_
    refine pb_iconst (pc := 37) (v := 0) d_Mod_again_37 (by decide) ?_
    refine pb_istore_n (pc := 38) (lo' := [(2, .int 0), (0, .ref h), (1, .int n)]) d_Mod_again_38 rfl (by decide) rfl ?_
    refine pb_iload_n (pc := 39) d_Mod_again_39 0 rfl rfl ?_
    refine pb_iload_n (pc := 40) d_Mod_again_40 2 rfl rfl ?_
    refine pb_icmp_ge (pc := 41) (tgt := 87) d_Mod_again_41 (by decide) (fun w2 => ?_) (fun w2 => ?_)
    · have tw2 : n.toInt ≤ 0 := (ti_le rfl (by decide)).mp w2
      refine pb_aload_n (pc := 87) d_Mod_again_87 1 rfl rfl ?_
      refine pb_get (pc := 88) d_Mod_again_88 0 8 rfl rfl (by decide) in_Mod k_1154 rfl ?_
      refine pb_if_le (pc := 91) (tgt := 98) d_Mod_again_91 (by decide) (fun h9 => absurd h9 (by decide)) (fun _ => ?_)
      refine pb_iconst (pc := 94) (v := 0) d_Mod_again_94 (by decide) ?_
      refine pb_goto (pc := 95) (tgt := 102) d_Mod_again_95 (by decide) ?_
      exact pb_iret (pc := 102) hQ d_Mod_again_102 rfl rfl (0, 1) ⟨rfl, (fun h => by first | rfl | (exfalso; omega)), (fun h => by first | exact ⟨rfl, rfl⟩ | (exfalso; omega))⟩ [0] (by decide) rfl rfl (by decide) (by decide)
    · have tw2 : ¬ n.toInt ≤ 0 := fun z9 => w2 ((ti_le rfl (by decide)).mpr z9)
      refine pb_aload_n (pc := 44) d_Mod_again_44 1 rfl rfl ?_
      refine pb_get (pc := 45) d_Mod_again_45 0 8 rfl rfl (by decide) in_Mod k_1154 rfl ?_
      refine pb_if_ne (pc := 48) (tgt := 87) d_Mod_again_48 (by decide) (fun _ => ?_) (fun h9 => absurd h9 (by decide))
      refine pb_aload_n (pc := 87) d_Mod_again_87 1 rfl rfl ?_
      refine pb_get (pc := 88) d_Mod_again_88 0 8 rfl rfl (by decide) in_Mod k_1154 rfl ?_
      refine pb_if_le (pc := 91) (tgt := 98) d_Mod_again_91 (by decide) (fun h9 => absurd h9 (by decide)) (fun _ => ?_)
      refine pb_iconst (pc := 94) (v := 0) d_Mod_again_94 (by decide) ?_
      refine pb_goto (pc := 95) (tgt := 102) d_Mod_again_95 (by decide) ?_
      exact pb_iret (pc := 102) hQ d_Mod_again_102 rfl rfl (0, 1) ⟨rfl, (fun h => by first | rfl | (exfalso; omega)), (fun h => by first | exact ⟨rfl, rfl⟩ | (exfalso; omega))⟩ [0] (by decide) rfl rfl (by decide) (by decide)
  · have tw1 : ¬ n.toInt < 0 := fun z9 => w1 ((ti_lt rfl (by decide)).mpr z9)
    refine pb_iload_n (pc := 5) d_Mod_again_5 1 rfl rfl ?_
    refine pb_aload_n (pc := 6) d_Mod_again_6 0 rfl rfl ?_
    refine pb_get (pc := 7) d_Mod_again_7 0 9 rfl rfl (by decide) in_Mod k_1155 rfl ?_
    refine pb_icmp_le (pc := 10) (tgt := 17) d_Mod_again_10 (by decide) (fun w6 => ?_) (fun w6 => ?_)
    · have tw6 : n.toInt ≤ 0 := (ti_le rfl (by decide)).mp w6
      refine pb_aload_n (pc := 17) d_Mod_again_17 0 rfl rfl ?_
      refine pb_get (pc := 18) d_Mod_again_18 0 9 rfl rfl (by decide) in_Mod k_1155 rfl ?_
      refine pb_iload_n (pc := 21) d_Mod_again_21 1 rfl rfl ?_
      refine pb_iadd (pc := 22) d_Mod_again_22 ?_
      refine pb_topi (fun i7 ei7 => ?_)
      have ti7 : i7.toInt = 0 + n.toInt := ti_add ei7 (by decide) rfl (by omega) (by omega)
      refine pb_sipush (pc := 23) (v := 8000) d_Mod_again_23 (by decide) ?_
      refine pb_icmp_le (pc := 26) (tgt := 33) d_Mod_again_26 (by decide) (fun w8 => ?_) (fun h9 => False.elim (by have t9 : ¬ i7.toInt ≤ 8000 := fun z9 => h9 ((ti_le rfl (by decide)).mpr z9); omega))
      have tw8 : i7.toInt ≤ 8000 := (ti_le rfl (by decide)).mp w8
      refine pb_iconst (pc := 33) (v := 0) d_Mod_again_33 (by decide) ?_
      refine pb_put (pc := 34) (ty := .int) (ws' := [(h, .inr (10, [.ref m_rels, .ref m_openRels, .ref m_closeRels, .ref m_openRel, .ref m_closeRel, .ref m_comment, .ref m_ends, .ref m_order, .int 0, .int 0, .ref m_tape, .ref m_count, .ref m_nameSize, .ref m_names, .ref m_size, .ref m_data, .int 0, .ref m_looked, .int 0, .ref m_file, .int 0, .ref m_directory, .int 0, .ref m_out, .int 0, .ref m_row, .int 0, .int 0, .int 0, .int 0, .ref m_made, .ref m_length, .int 0, .int 0, .int 0, .int 0, .int 0, .ref m_pressed, .int 0, .int 0, .int 0, .ref m_mark, .int 0, .ref m_idSize, .ref m_ids, .ref m_goalSize, .ref m_goals, .int 0, .ref m_value, .int 0, .ref m_faults, .ref m_reached]))]) d_Mod_again_34 0 8 t_Mod t_Mod_ok n_Mod rfl rfl (by decide) in_Mod k_1154 rfl (by decide +kernel) rfl rfl (Nat.le_of_ble_eq_true rfl) rfl ?_
      refine pb_iconst (pc := 37) (v := 0) d_Mod_again_37 (by decide) ?_
      refine pb_istore_n (pc := 38) (lo' := [(2, .int 0), (0, .ref h), (1, .int n)]) d_Mod_again_38 rfl (by decide) rfl ?_
      refine pb_iload_n (pc := 39) d_Mod_again_39 0 rfl rfl ?_
      refine pb_iload_n (pc := 40) d_Mod_again_40 2 rfl rfl ?_
      refine pb_icmp_ge (pc := 41) (tgt := 87) d_Mod_again_41 (by decide) (fun w9 => ?_) (fun h9 => False.elim (by have t9 : ¬ n.toInt ≤ 0 := fun z9 => h9 ((ti_le rfl (by decide)).mpr z9); omega))
      have tw9 : n.toInt ≤ 0 := (ti_le rfl (by decide)).mp w9
      refine pb_aload_n (pc := 87) d_Mod_again_87 1 rfl rfl ?_
      refine pb_get (pc := 88) d_Mod_again_88 0 8 rfl rfl (by decide) in_Mod k_1154 rfl ?_
      refine pb_if_le (pc := 91) (tgt := 98) d_Mod_again_91 (by decide) (fun _ => ?_) (fun h9 => absurd h9 (by decide))
      refine pb_aload_n (pc := 98) d_Mod_again_98 1 rfl rfl ?_
      refine pb_get (pc := 99) d_Mod_again_99 0 9 rfl rfl (by decide) in_Mod k_1155 rfl ?_
      exact pb_iret (pc := 102) hQ d_Mod_again_102 rfl rfl (0, 0) ⟨rfl, (fun h => by first | rfl | (exfalso; omega)), (fun h => by first | exact ⟨rfl, rfl⟩ | (exfalso; omega))⟩ [0] (by decide) rfl rfl (by decide) (by decide)
    · have tw6 : ¬ n.toInt ≤ 0 := fun z9 => w6 ((ti_le rfl (by decide)).mpr z9)
      refine pb_iconst (pc := 13) (v := 1) d_Mod_again_13 (by decide) ?_
      refine pb_goto (pc := 14) (tgt := 34) d_Mod_again_14 (by decide) ?_
      refine pb_put (pc := 34) (ty := .int) (ws' := [(h, .inr (10, [.ref m_rels, .ref m_openRels, .ref m_closeRels, .ref m_openRel, .ref m_closeRel, .ref m_comment, .ref m_ends, .ref m_order, .int 1, .int 0, .ref m_tape, .ref m_count, .ref m_nameSize, .ref m_names, .ref m_size, .ref m_data, .int 0, .ref m_looked, .int 0, .ref m_file, .int 0, .ref m_directory, .int 0, .ref m_out, .int 0, .ref m_row, .int 0, .int 0, .int 0, .int 0, .ref m_made, .ref m_length, .int 0, .int 0, .int 0, .int 0, .int 0, .ref m_pressed, .int 0, .int 0, .int 0, .ref m_mark, .int 0, .ref m_idSize, .ref m_ids, .ref m_goalSize, .ref m_goals, .int 0, .ref m_value, .int 0, .ref m_faults, .ref m_reached]))]) d_Mod_again_34 0 8 t_Mod t_Mod_ok n_Mod rfl rfl (by decide) in_Mod k_1154 rfl (by decide +kernel) rfl rfl (Nat.le_of_ble_eq_true rfl) rfl ?_
      refine pb_iconst (pc := 37) (v := 0) d_Mod_again_37 (by decide) ?_
      refine pb_istore_n (pc := 38) (lo' := [(2, .int 0), (0, .ref h), (1, .int n)]) d_Mod_again_38 rfl (by decide) rfl ?_
      refine pb_iload_n (pc := 39) d_Mod_again_39 0 rfl rfl ?_
      refine pb_iload_n (pc := 40) d_Mod_again_40 2 rfl rfl ?_
      refine pb_icmp_ge (pc := 41) (tgt := 87) d_Mod_again_41 (by decide) (fun w11 => ?_) (fun w11 => ?_)
      · have tw11 : n.toInt ≤ 0 := (ti_le rfl (by decide)).mp w11
        refine pb_aload_n (pc := 87) d_Mod_again_87 1 rfl rfl ?_
        refine pb_get (pc := 88) d_Mod_again_88 0 8 rfl rfl (by decide) in_Mod k_1154 rfl ?_
        refine pb_if_le (pc := 91) (tgt := 98) d_Mod_again_91 (by decide) (fun h9 => absurd h9 (by decide)) (fun _ => ?_)
        refine pb_iconst (pc := 94) (v := 0) d_Mod_again_94 (by decide) ?_
        refine pb_goto (pc := 95) (tgt := 102) d_Mod_again_95 (by decide) ?_
        exact pb_iret (pc := 102) hQ d_Mod_again_102 rfl rfl (0, 1) ⟨rfl, (fun h => by first | rfl | (exfalso; omega)), (fun h => by first | exact ⟨rfl, rfl⟩ | (exfalso; omega))⟩ [0] (by decide) rfl rfl (by decide) (by decide)
      · have tw11 : ¬ n.toInt ≤ 0 := fun z9 => w11 ((ti_le rfl (by decide)).mpr z9)
        refine pb_aload_n (pc := 44) d_Mod_again_44 1 rfl rfl ?_
        refine pb_get (pc := 45) d_Mod_again_45 0 8 rfl rfl (by decide) in_Mod k_1154 rfl ?_
        refine pb_if_ne (pc := 48) (tgt := 87) d_Mod_again_48 (by decide) (fun _ => ?_) (fun h9 => absurd h9 (by decide))
        refine pb_aload_n (pc := 87) d_Mod_again_87 1 rfl rfl ?_
        refine pb_get (pc := 88) d_Mod_again_88 0 8 rfl rfl (by decide) in_Mod k_1154 rfl ?_
        refine pb_if_le (pc := 91) (tgt := 98) d_Mod_again_91 (by decide) (fun h9 => absurd h9 (by decide)) (fun _ => ?_)
        refine pb_iconst (pc := 94) (v := 0) d_Mod_again_94 (by decide) ?_
        refine pb_goto (pc := 95) (tgt := 102) d_Mod_again_95 (by decide) ?_
        exact pb_iret (pc := 102) hQ d_Mod_again_102 rfl rfl (0, 1) ⟨rfl, (fun h => by first | rfl | (exfalso; omega)), (fun h => by first | exact ⟨rfl, rfl⟩ | (exfalso; omega))⟩ [0] (by decide) rfl rfl (by decide) (by decide)

theorem d_Mod_isName_0 : decode prog_12_method_6_code 0 = .ok (.iload_n 2, 1) := by decide +kernel
theorem d_Mod_isName_1 : decode prog_12_method_6_code 1 = .ok (.iconst 1, 1) := by decide +kernel
theorem d_Mod_isName_2 : decode prog_12_method_6_code 2 = .ok (.if_icmp .lt 13, 3) := by decide +kernel
theorem d_Mod_isName_15 : decode prog_12_method_6_code 15 = .ok (.iconst 0, 1) := by decide +kernel
theorem d_Mod_isName_16 : decode prog_12_method_6_code 16 = .ok (.istore_n 3, 1) := by decide +kernel
theorem d_Mod_isName_17 : decode prog_12_method_6_code 17 = .ok (.iload_n 1, 1) := by decide +kernel
theorem d_Mod_isName_18 : decode prog_12_method_6_code 18 = .ok (.istore 4, 2) := by decide +kernel
theorem d_Mod_isName_20 : decode prog_12_method_6_code 20 = .ok (.iload_n 1, 1) := by decide +kernel
theorem d_Mod_isName_21 : decode prog_12_method_6_code 21 = .ok (.istore 5, 2) := by decide +kernel
theorem d_Mod_isName_23 : decode prog_12_method_6_code 23 = .ok (.iload_n 3, 1) := by decide +kernel
theorem d_Mod_isName_24 : decode prog_12_method_6_code 24 = .ok (.ifCond .eq 134, 3) := by decide +kernel
theorem d_Mod_isName_158 : decode prog_12_method_6_code 158 = .ok (.iload_n 3, 1) := by decide +kernel
theorem d_Mod_isName_159 : decode prog_12_method_6_code 159 = .ok (.ireturn, 1) := by decide +kernel
abbrev y_Mod_isName : MethodName := ⟨"PackageBookModel", "isName", "([BII)Z"⟩
abbrev i_Mod_isName : pb_I := (y_Mod_isName, prog_12_method_6_code, 9, (some Jvm.ClassFile.FieldType.boolean), [], { frames := 0, cells := 0, slots := 0, locals := 0 })
set_option maxRecDepth 100000 in
set_option maxHeartbeats 4000000 in
theorem c_Mod_isName0 {l : Launch} (hl : l.stackTraces = false) (G : pb_G) (b : Nat) (n : Int32) (hn : n.toInt < 1) : Cn l G i_Mod_isName [.ref b, .int 0, .int n] [] (S := Unit) (fun v u => v = some (.int 0)) (fun u => []) := by
  refine Cn.of hl (by decide +kernel) rfl (Nat.le_of_ble_eq_true rfl) (fun M hQ => ?_)
  refine pb_eq (pc' := 0) (lo' := [(0, .ref b), (1, .int 0), (2, .int n)]) (rest' := []) (ws' := []) ?_
  refine pb_iload_n (pc := 0) d_Mod_isName_0 2 rfl rfl ?_
  refine pb_iconst (pc := 1) (v := 1) d_Mod_isName_1 (by decide) ?_
  refine pb_icmp_lt (pc := 2) (tgt := 15) d_Mod_isName_2 (by decide) (fun w1 => ?_) (fun h9 => False.elim (by have t9 : ¬ n.toInt < 1 := fun z9 => h9 ((ti_lt rfl (by decide)).mpr z9); omega))
  have tw1 : n.toInt < 1 := (ti_lt rfl (by decide)).mp w1
  refine pb_iconst (pc := 15) (v := 0) d_Mod_isName_15 (by decide) ?_
  refine pb_istore_n (pc := 16) (lo' := [(3, .int 0), (0, .ref b), (1, .int 0), (2, .int n)]) d_Mod_isName_16 rfl (by decide) rfl ?_
  refine pb_iload_n (pc := 17) d_Mod_isName_17 2 rfl rfl ?_
  refine pb_istore (pc := 18) (lo' := [(4, .int 0), (3, .int 0), (0, .ref b), (1, .int 0), (2, .int n)]) d_Mod_isName_18 (by decide) rfl ?_
  refine pb_iload_n (pc := 20) d_Mod_isName_20 3 rfl rfl ?_
  refine pb_istore (pc := 21) (lo' := [(5, .int 0), (4, .int 0), (3, .int 0), (0, .ref b), (1, .int 0), (2, .int n)]) d_Mod_isName_21 (by decide) rfl ?_
  refine pb_iload_n (pc := 23) d_Mod_isName_23 2 rfl rfl ?_
  refine pb_if_eq (pc := 24) (tgt := 158) d_Mod_isName_24 (by decide) (fun _ => ?_) (fun h9 => absurd h9 (by decide))
  refine pb_iload_n (pc := 158) d_Mod_isName_158 2 rfl rfl ?_
  exact pb_iret (pc := 159) hQ d_Mod_isName_159 rfl rfl () rfl [] (by decide) rfl rfl (by decide) (by decide)

theorem d_Mod_add_0 : decode prog_12_method_14_code 0 = .ok (.iload_n 1, 1) := by decide +kernel
theorem d_Mod_add_1 : decode prog_12_method_14_code 1 = .ok (.ifCond .lt 27, 3) := by decide +kernel
theorem d_Mod_add_28 : decode prog_12_method_14_code 28 = .ok (.iconst 0, 1) := by decide +kernel
theorem d_Mod_add_29 : decode prog_12_method_14_code 29 = .ok (.istore_n 2, 1) := by decide +kernel
theorem d_Mod_add_30 : decode prog_12_method_14_code 30 = .ok (.aload_n 0, 1) := by decide +kernel
theorem d_Mod_add_31 : decode prog_12_method_14_code 31 = .ok (.getfield 107, 3) := by decide +kernel
theorem d_Mod_add_34 : decode prog_12_method_14_code 34 = .ok (.iload_n 1, 1) := by decide +kernel
theorem d_Mod_add_35 : decode prog_12_method_14_code 35 = .ok (.isub, 1) := by decide +kernel
theorem d_Mod_add_36 : decode prog_12_method_14_code 36 = .ok (.istore_n 3, 1) := by decide +kernel
theorem d_Mod_add_37 : decode prog_12_method_14_code 37 = .ok (.aload_n 0, 1) := by decide +kernel
theorem d_Mod_add_38 : decode prog_12_method_14_code 38 = .ok (.iconst 0, 1) := by decide +kernel
theorem d_Mod_add_39 : decode prog_12_method_14_code 39 = .ok (.putfield 107, 3) := by decide +kernel
theorem d_Mod_add_42 : decode prog_12_method_14_code 42 = .ok (.aload_n 0, 1) := by decide +kernel
theorem d_Mod_add_43 : decode prog_12_method_14_code 43 = .ok (.iload_n 2, 1) := by decide +kernel
theorem d_Mod_add_44 : decode prog_12_method_14_code 44 = .ok (.ifCond .eq 7, 3) := by decide +kernel
theorem d_Mod_add_51 : decode prog_12_method_14_code 51 = .ok (.iconst 1, 1) := by decide +kernel
theorem d_Mod_add_52 : decode prog_12_method_14_code 52 = .ok (.putfield 103, 3) := by decide +kernel
theorem d_Mod_add_55 : decode prog_12_method_14_code 55 = .ok (.aload_n 0, 1) := by decide +kernel
theorem d_Mod_add_56 : decode prog_12_method_14_code 56 = .ok (.getfield 103, 3) := by decide +kernel
theorem d_Mod_add_59 : decode prog_12_method_14_code 59 = .ok (.ifCond .le 5, 3) := by decide +kernel
theorem d_Mod_add_62 : decode prog_12_method_14_code 62 = .ok (.iconst 0, 1) := by decide +kernel
theorem d_Mod_add_63 : decode prog_12_method_14_code 63 = .ok (.ireturn, 1) := by decide +kernel
theorem d_Mod_add_4 : decode prog_12_method_14_code 4 = .ok (.iload_n 1, 1) := by decide +kernel
theorem d_Mod_add_5 : decode prog_12_method_14_code 5 = .ok (.aload_n 0, 1) := by decide +kernel
theorem d_Mod_add_6 : decode prog_12_method_14_code 6 = .ok (.getfield 107, 3) := by decide +kernel
theorem d_Mod_add_9 : decode prog_12_method_14_code 9 = .ok (.if_icmp .gt 19, 3) := by decide +kernel
theorem d_Mod_add_12 : decode prog_12_method_14_code 12 = .ok (.aload_n 0, 1) := by decide +kernel
theorem d_Mod_add_13 : decode prog_12_method_14_code 13 = .ok (.getfield 34, 3) := by decide +kernel
theorem d_Mod_add_16 : decode prog_12_method_14_code 16 = .ok (.iconst 0, 1) := by decide +kernel
theorem d_Mod_add_17 : decode prog_12_method_14_code 17 = .ok (.iload_n 1, 1) := by decide +kernel
theorem d_Mod_add_18 : decode prog_12_method_14_code 18 = .ok (.invokestatic 132, 3) := by decide +kernel
theorem k_1320 : (Jvm.Cond.methodLink "PackageBookModel" (132 : Nat) ({ cls := "PackageBookModel", name := "isName", desc := "([BII)Z" } : Jvm.MethodName)) ∈ uW := uW_of 1320 (by decide +kernel) (by decide +kernel)
theorem k_128 : (Jvm.Cond.initialized "PackageBookModel") ∈ uW := uW_of 128 (by decide +kernel) (by decide +kernel)
theorem k_1322 : (Jvm.Cond.code ({ cls := "PackageBookModel", name := "isName", desc := "([BII)Z" } : Jvm.MethodName) prog_12_method_6_code (9 : Nat) (Option.some Jvm.ClassFile.FieldType.boolean)) ∈ uW := uW_of 1322 (by decide +kernel) (by decide +kernel)
theorem k_1321 : (Jvm.Cond.static ({ cls := "PackageBookModel", name := "isName", desc := "([BII)Z" } : Jvm.MethodName)) ∈ uW := uW_of 1321 (by decide +kernel) (by decide +kernel)
theorem d_Mod_add_21 : decode prog_12_method_14_code 21 = .ok (.ifCond .eq 7, 3) := by decide +kernel
abbrev y_Mod_add : MethodName := ⟨"PackageBookModel", "add", "(I)I"⟩
abbrev i_Mod_add : pb_I := (y_Mod_add, prog_12_method_14_code, 4, (some Jvm.ClassFile.FieldType.int), [], { frames := 1, cells := 0, slots := 0, locals := 28 })
set_option maxRecDepth 100000 in
set_option maxHeartbeats 4000000 in
theorem c_Mod_add {l : Launch} (hl : l.stackTraces = false) (G : pb_G) (h : Nat) (m_rels : Nat) (m_openRels : Nat) (m_closeRels : Nat) (m_openRel : Nat) (m_closeRel : Nat) (m_comment : Nat) (m_ends : Nat) (m_order : Nat) (m_tape : Nat) (m_count : Nat) (m_nameSize : Nat) (m_names : Nat) (m_size : Nat) (m_data : Nat) (m_looked : Nat) (m_file : Nat) (m_directory : Nat) (m_out : Nat) (m_row : Nat) (m_made : Nat) (m_length : Nat) (m_pressed : Nat) (m_mark : Nat) (m_idSize : Nat) (m_ids : Nat) (m_goalSize : Nat) (m_goals : Nat) (m_value : Nat) (m_faults : Nat) (m_reached : Nat) (n : Int32) : Cn l G i_Mod_add [.ref h, .int n] [(h, .inr (10, [.ref m_rels, .ref m_openRels, .ref m_closeRels, .ref m_openRel, .ref m_closeRel, .ref m_comment, .ref m_ends, .ref m_order, .int 0, .int 0, .ref m_tape, .ref m_count, .ref m_nameSize, .ref m_names, .ref m_size, .ref m_data, .int 0, .ref m_looked, .int 0, .ref m_file, .int 0, .ref m_directory, .int 0, .ref m_out, .int 0, .ref m_row, .int 0, .int 0, .int 0, .int 0, .ref m_made, .ref m_length, .int 0, .int 0, .int 0, .int 0, .int 0, .ref m_pressed, .int 0, .int 0, .int 0, .ref m_mark, .int 0, .ref m_idSize, .ref m_ids, .ref m_goalSize, .ref m_goals, .int 0, .ref m_value, .int 0, .ref m_faults, .ref m_reached]))] (S := Unit) (fun v u => v = some (.int 0)) (fun u => [(h, .inr (10, [.ref m_rels, .ref m_openRels, .ref m_closeRels, .ref m_openRel, .ref m_closeRel, .ref m_comment, .ref m_ends, .ref m_order, .int 1, .int 0, .ref m_tape, .ref m_count, .ref m_nameSize, .ref m_names, .ref m_size, .ref m_data, .int 0, .ref m_looked, .int 0, .ref m_file, .int 0, .ref m_directory, .int 0, .ref m_out, .int 0, .ref m_row, .int 0, .int 0, .int 0, .int 0, .ref m_made, .ref m_length, .int 0, .int 0, .int 0, .int 0, .int 0, .ref m_pressed, .int 0, .int 0, .int 0, .ref m_mark, .int 0, .ref m_idSize, .ref m_ids, .ref m_goalSize, .ref m_goals, .int 0, .ref m_value, .int 0, .ref m_faults, .ref m_reached]))]) := by
  refine Cn.of hl (by decide +kernel) rfl (Nat.le_of_ble_eq_true rfl) (fun M hQ => ?_)
  refine pb_eq (pc' := 0) (lo' := [(0, .ref h), (1, .int n)]) (rest' := []) (ws' := [(h, .inr (10, [.ref m_rels, .ref m_openRels, .ref m_closeRels, .ref m_openRel, .ref m_closeRel, .ref m_comment, .ref m_ends, .ref m_order, .int 0, .int 0, .ref m_tape, .ref m_count, .ref m_nameSize, .ref m_names, .ref m_size, .ref m_data, .int 0, .ref m_looked, .int 0, .ref m_file, .int 0, .ref m_directory, .int 0, .ref m_out, .int 0, .ref m_row, .int 0, .int 0, .int 0, .int 0, .ref m_made, .ref m_length, .int 0, .int 0, .int 0, .int 0, .int 0, .ref m_pressed, .int 0, .int 0, .int 0, .ref m_mark, .int 0, .ref m_idSize, .ref m_ids, .ref m_goalSize, .ref m_goals, .int 0, .ref m_value, .int 0, .ref m_faults, .ref m_reached]))]) ?_
  have z0 : (0 : Int32).toInt = 0 := by decide
  have z1 : (1 : Int32).toInt = 1 := by decide
  have z2 : (0 : Int32).toNatClampNeg = 0 := by decide
  refine pb_iload_n (pc := 0) d_Mod_add_0 1 rfl rfl ?_
  refine pb_if_lt (pc := 1) (tgt := 28) d_Mod_add_1 (by decide) (fun w1 => ?_) (fun w1 => ?_)
  · have tw1 : n.toInt < 0 := (ti_lt rfl (by decide)).mp w1
    refine pb_iconst (pc := 28) (v := 0) d_Mod_add_28 (by decide) ?_
    refine pb_istore_n (pc := 29) (lo' := [(2, .int 0), (0, .ref h), (1, .int n)]) d_Mod_add_29 rfl (by decide) rfl ?_
    refine pb_aload_n (pc := 30) d_Mod_add_30 1 rfl rfl ?_
    refine pb_get (pc := 31) d_Mod_add_31 0 9 rfl rfl (by decide) in_Mod k_1155 rfl ?_
    refine pb_iload_n (pc := 34) d_Mod_add_34 2 rfl rfl ?_
    refine pb_isub (pc := 35) d_Mod_add_35 ?_
    refine pb_topi (fun i2 ei2 => ?_)
    refine pb_istore_n (pc := 36) (lo' := [(3, .int i2), (2, .int 0), (0, .ref h), (1, .int n)]) d_Mod_add_36 rfl (by decide) rfl ?_
    refine pb_aload_n (pc := 37) d_Mod_add_37 2 rfl rfl ?_
    refine pb_iconst (pc := 38) (v := 0) d_Mod_add_38 (by decide) ?_
    refine pb_put (pc := 39) (ty := .int) (ws' := [(h, .inr (10, [.ref m_rels, .ref m_openRels, .ref m_closeRels, .ref m_openRel, .ref m_closeRel, .ref m_comment, .ref m_ends, .ref m_order, .int 0, .int 0, .ref m_tape, .ref m_count, .ref m_nameSize, .ref m_names, .ref m_size, .ref m_data, .int 0, .ref m_looked, .int 0, .ref m_file, .int 0, .ref m_directory, .int 0, .ref m_out, .int 0, .ref m_row, .int 0, .int 0, .int 0, .int 0, .ref m_made, .ref m_length, .int 0, .int 0, .int 0, .int 0, .int 0, .ref m_pressed, .int 0, .int 0, .int 0, .ref m_mark, .int 0, .ref m_idSize, .ref m_ids, .ref m_goalSize, .ref m_goals, .int 0, .ref m_value, .int 0, .ref m_faults, .ref m_reached]))]) d_Mod_add_39 0 9 t_Mod t_Mod_ok n_Mod rfl rfl (by decide) in_Mod k_1155 rfl (by decide +kernel) rfl rfl (Nat.le_of_ble_eq_true rfl) rfl ?_
    refine pb_aload_n (pc := 42) d_Mod_add_42 2 rfl rfl ?_
    refine pb_iload_n (pc := 43) d_Mod_add_43 1 rfl rfl ?_
    refine pb_if_eq (pc := 44) (tgt := 51) d_Mod_add_44 (by decide) (fun _ => ?_) (fun h9 => absurd h9 (by decide))
    refine pb_iconst (pc := 51) (v := 1) d_Mod_add_51 (by decide) ?_
    refine pb_put (pc := 52) (ty := .int) (ws' := [(h, .inr (10, [.ref m_rels, .ref m_openRels, .ref m_closeRels, .ref m_openRel, .ref m_closeRel, .ref m_comment, .ref m_ends, .ref m_order, .int 1, .int 0, .ref m_tape, .ref m_count, .ref m_nameSize, .ref m_names, .ref m_size, .ref m_data, .int 0, .ref m_looked, .int 0, .ref m_file, .int 0, .ref m_directory, .int 0, .ref m_out, .int 0, .ref m_row, .int 0, .int 0, .int 0, .int 0, .ref m_made, .ref m_length, .int 0, .int 0, .int 0, .int 0, .int 0, .ref m_pressed, .int 0, .int 0, .int 0, .ref m_mark, .int 0, .ref m_idSize, .ref m_ids, .ref m_goalSize, .ref m_goals, .int 0, .ref m_value, .int 0, .ref m_faults, .ref m_reached]))]) d_Mod_add_52 0 8 t_Mod t_Mod_ok n_Mod rfl rfl (by decide) in_Mod k_1154 rfl (by decide +kernel) rfl rfl (Nat.le_of_ble_eq_true rfl) rfl ?_
    refine pb_aload_n (pc := 55) d_Mod_add_55 2 rfl rfl ?_
    refine pb_get (pc := 56) d_Mod_add_56 0 8 rfl rfl (by decide) in_Mod k_1154 rfl ?_
    refine pb_if_le (pc := 59) (tgt := 64) d_Mod_add_59 (by decide) (fun h9 => absurd h9 (by decide)) (fun _ => ?_)
    refine pb_iconst (pc := 62) (v := 0) d_Mod_add_62 (by decide) ?_
    exact pb_iret (pc := 63) hQ d_Mod_add_63 rfl rfl () rfl [0] (by decide) rfl rfl (by decide) (by decide)
  · have tw1 : ¬ n.toInt < 0 := fun z9 => w1 ((ti_lt rfl (by decide)).mpr z9)
    refine pb_iload_n (pc := 4) d_Mod_add_4 1 rfl rfl ?_
    refine pb_aload_n (pc := 5) d_Mod_add_5 0 rfl rfl ?_
    refine pb_get (pc := 6) d_Mod_add_6 0 9 rfl rfl (by decide) in_Mod k_1155 rfl ?_
    refine pb_icmp_gt (pc := 9) (tgt := 28) d_Mod_add_9 (by decide) (fun w5 => ?_) (fun w5 => ?_)
    · have tw5 : 0 < n.toInt := (ti_lt (by decide) rfl).mp w5
      refine pb_iconst (pc := 28) (v := 0) d_Mod_add_28 (by decide) ?_
      refine pb_istore_n (pc := 29) (lo' := [(2, .int 0), (0, .ref h), (1, .int n)]) d_Mod_add_29 rfl (by decide) rfl ?_
      refine pb_aload_n (pc := 30) d_Mod_add_30 1 rfl rfl ?_
      refine pb_get (pc := 31) d_Mod_add_31 0 9 rfl rfl (by decide) in_Mod k_1155 rfl ?_
      refine pb_iload_n (pc := 34) d_Mod_add_34 2 rfl rfl ?_
      refine pb_isub (pc := 35) d_Mod_add_35 ?_
      refine pb_topi (fun i6 ei6 => ?_)
      refine pb_istore_n (pc := 36) (lo' := [(3, .int i6), (2, .int 0), (0, .ref h), (1, .int n)]) d_Mod_add_36 rfl (by decide) rfl ?_
      refine pb_aload_n (pc := 37) d_Mod_add_37 2 rfl rfl ?_
      refine pb_iconst (pc := 38) (v := 0) d_Mod_add_38 (by decide) ?_
      refine pb_put (pc := 39) (ty := .int) (ws' := [(h, .inr (10, [.ref m_rels, .ref m_openRels, .ref m_closeRels, .ref m_openRel, .ref m_closeRel, .ref m_comment, .ref m_ends, .ref m_order, .int 0, .int 0, .ref m_tape, .ref m_count, .ref m_nameSize, .ref m_names, .ref m_size, .ref m_data, .int 0, .ref m_looked, .int 0, .ref m_file, .int 0, .ref m_directory, .int 0, .ref m_out, .int 0, .ref m_row, .int 0, .int 0, .int 0, .int 0, .ref m_made, .ref m_length, .int 0, .int 0, .int 0, .int 0, .int 0, .ref m_pressed, .int 0, .int 0, .int 0, .ref m_mark, .int 0, .ref m_idSize, .ref m_ids, .ref m_goalSize, .ref m_goals, .int 0, .ref m_value, .int 0, .ref m_faults, .ref m_reached]))]) d_Mod_add_39 0 9 t_Mod t_Mod_ok n_Mod rfl rfl (by decide) in_Mod k_1155 rfl (by decide +kernel) rfl rfl (Nat.le_of_ble_eq_true rfl) rfl ?_
      refine pb_aload_n (pc := 42) d_Mod_add_42 2 rfl rfl ?_
      refine pb_iload_n (pc := 43) d_Mod_add_43 1 rfl rfl ?_
      refine pb_if_eq (pc := 44) (tgt := 51) d_Mod_add_44 (by decide) (fun _ => ?_) (fun h9 => absurd h9 (by decide))
      refine pb_iconst (pc := 51) (v := 1) d_Mod_add_51 (by decide) ?_
      refine pb_put (pc := 52) (ty := .int) (ws' := [(h, .inr (10, [.ref m_rels, .ref m_openRels, .ref m_closeRels, .ref m_openRel, .ref m_closeRel, .ref m_comment, .ref m_ends, .ref m_order, .int 1, .int 0, .ref m_tape, .ref m_count, .ref m_nameSize, .ref m_names, .ref m_size, .ref m_data, .int 0, .ref m_looked, .int 0, .ref m_file, .int 0, .ref m_directory, .int 0, .ref m_out, .int 0, .ref m_row, .int 0, .int 0, .int 0, .int 0, .ref m_made, .ref m_length, .int 0, .int 0, .int 0, .int 0, .int 0, .ref m_pressed, .int 0, .int 0, .int 0, .ref m_mark, .int 0, .ref m_idSize, .ref m_ids, .ref m_goalSize, .ref m_goals, .int 0, .ref m_value, .int 0, .ref m_faults, .ref m_reached]))]) d_Mod_add_52 0 8 t_Mod t_Mod_ok n_Mod rfl rfl (by decide) in_Mod k_1154 rfl (by decide +kernel) rfl rfl (Nat.le_of_ble_eq_true rfl) rfl ?_
      refine pb_aload_n (pc := 55) d_Mod_add_55 2 rfl rfl ?_
      refine pb_get (pc := 56) d_Mod_add_56 0 8 rfl rfl (by decide) in_Mod k_1154 rfl ?_
      refine pb_if_le (pc := 59) (tgt := 64) d_Mod_add_59 (by decide) (fun h9 => absurd h9 (by decide)) (fun _ => ?_)
      refine pb_iconst (pc := 62) (v := 0) d_Mod_add_62 (by decide) ?_
      exact pb_iret (pc := 63) hQ d_Mod_add_63 rfl rfl () rfl [0] (by decide) rfl rfl (by decide) (by decide)
    · have tw5 : ¬ 0 < n.toInt := fun z9 => w5 ((ti_lt (by decide) rfl).mpr z9)
      refine pb_aload_n (pc := 12) d_Mod_add_12 0 rfl rfl ?_
      refine pb_get (pc := 13) d_Mod_add_13 0 10 rfl rfl (by decide) in_Mod k_1156 rfl ?_
      refine pb_iconst (pc := 16) (v := 0) d_Mod_add_16 (by decide) ?_
      refine pb_iload_n (pc := 17) d_Mod_add_17 1 rfl rfl ?_
      refine pb_callS (pc := 18) (nA := 3) (rest := []) (wr := [(h, .inr (10, [.ref m_rels, .ref m_openRels, .ref m_closeRels, .ref m_openRel, .ref m_closeRel, .ref m_comment, .ref m_ends, .ref m_order, .int 0, .int 0, .ref m_tape, .ref m_count, .ref m_nameSize, .ref m_names, .ref m_size, .ref m_data, .int 0, .ref m_looked, .int 0, .ref m_file, .int 0, .ref m_directory, .int 0, .ref m_out, .int 0, .ref m_row, .int 0, .int 0, .int 0, .int 0, .ref m_made, .ref m_length, .int 0, .int 0, .int 0, .int 0, .int 0, .ref m_pressed, .int 0, .int 0, .int 0, .ref m_mark, .int 0, .ref m_idSize, .ref m_ids, .ref m_goalSize, .ref m_goals, .int 0, .ref m_value, .int 0, .ref m_faults, .ref m_reached]))]) d_Mod_add_18 (c_Mod_isName0 hl G m_tape n (by omega)) [] [0] (by decide) rfl rfl rfl (by decide) (by decide) k_1322 rfl k_128 k_1320 k_1321 (by decide +kernel) (by decide) rfl rfl (Nat.le_of_ble_eq_true rfl) (by decide) (fun v9 u10 h9 => ?_)
      have eh9 := h9
      have eh9 : v9 = some (.int 0) := eh9
      subst eh9
      refine pb_eq (pc' := 21) (lo' := [(0, .ref h), (1, .int n)]) (rest' := [.int 0]) (ws' := [(h, .inr (10, [.ref m_rels, .ref m_openRels, .ref m_closeRels, .ref m_openRel, .ref m_closeRel, .ref m_comment, .ref m_ends, .ref m_order, .int 0, .int 0, .ref m_tape, .ref m_count, .ref m_nameSize, .ref m_names, .ref m_size, .ref m_data, .int 0, .ref m_looked, .int 0, .ref m_file, .int 0, .ref m_directory, .int 0, .ref m_out, .int 0, .ref m_row, .int 0, .int 0, .int 0, .int 0, .ref m_made, .ref m_length, .int 0, .int 0, .int 0, .int 0, .int 0, .ref m_pressed, .int 0, .int 0, .int 0, .ref m_mark, .int 0, .ref m_idSize, .ref m_ids, .ref m_goalSize, .ref m_goals, .int 0, .ref m_value, .int 0, .ref m_faults, .ref m_reached]))]) ?_
      refine pb_if_eq (pc := 21) (tgt := 28) d_Mod_add_21 (by decide) (fun _ => ?_) (fun h9 => absurd h9 (by decide))
      refine pb_iconst (pc := 28) (v := 0) d_Mod_add_28 (by decide) ?_
      refine pb_istore_n (pc := 29) (lo' := [(2, .int 0), (0, .ref h), (1, .int n)]) d_Mod_add_29 rfl (by decide) rfl ?_
      refine pb_aload_n (pc := 30) d_Mod_add_30 1 rfl rfl ?_
      refine pb_get (pc := 31) d_Mod_add_31 0 9 rfl rfl (by decide) in_Mod k_1155 rfl ?_
      refine pb_iload_n (pc := 34) d_Mod_add_34 2 rfl rfl ?_
      refine pb_isub (pc := 35) d_Mod_add_35 ?_
      refine pb_topi (fun i12 ei12 => ?_)
      refine pb_istore_n (pc := 36) (lo' := [(3, .int i12), (2, .int 0), (0, .ref h), (1, .int n)]) d_Mod_add_36 rfl (by decide) rfl ?_
      refine pb_aload_n (pc := 37) d_Mod_add_37 2 rfl rfl ?_
      refine pb_iconst (pc := 38) (v := 0) d_Mod_add_38 (by decide) ?_
      refine pb_put (pc := 39) (ty := .int) (ws' := [(h, .inr (10, [.ref m_rels, .ref m_openRels, .ref m_closeRels, .ref m_openRel, .ref m_closeRel, .ref m_comment, .ref m_ends, .ref m_order, .int 0, .int 0, .ref m_tape, .ref m_count, .ref m_nameSize, .ref m_names, .ref m_size, .ref m_data, .int 0, .ref m_looked, .int 0, .ref m_file, .int 0, .ref m_directory, .int 0, .ref m_out, .int 0, .ref m_row, .int 0, .int 0, .int 0, .int 0, .ref m_made, .ref m_length, .int 0, .int 0, .int 0, .int 0, .int 0, .ref m_pressed, .int 0, .int 0, .int 0, .ref m_mark, .int 0, .ref m_idSize, .ref m_ids, .ref m_goalSize, .ref m_goals, .int 0, .ref m_value, .int 0, .ref m_faults, .ref m_reached]))]) d_Mod_add_39 0 9 t_Mod t_Mod_ok n_Mod rfl rfl (by decide) in_Mod k_1155 rfl (by decide +kernel) rfl rfl (Nat.le_of_ble_eq_true rfl) rfl ?_
      refine pb_aload_n (pc := 42) d_Mod_add_42 2 rfl rfl ?_
      refine pb_iload_n (pc := 43) d_Mod_add_43 1 rfl rfl ?_
      refine pb_if_eq (pc := 44) (tgt := 51) d_Mod_add_44 (by decide) (fun _ => ?_) (fun h9 => absurd h9 (by decide))
      refine pb_iconst (pc := 51) (v := 1) d_Mod_add_51 (by decide) ?_
      refine pb_put (pc := 52) (ty := .int) (ws' := [(h, .inr (10, [.ref m_rels, .ref m_openRels, .ref m_closeRels, .ref m_openRel, .ref m_closeRel, .ref m_comment, .ref m_ends, .ref m_order, .int 1, .int 0, .ref m_tape, .ref m_count, .ref m_nameSize, .ref m_names, .ref m_size, .ref m_data, .int 0, .ref m_looked, .int 0, .ref m_file, .int 0, .ref m_directory, .int 0, .ref m_out, .int 0, .ref m_row, .int 0, .int 0, .int 0, .int 0, .ref m_made, .ref m_length, .int 0, .int 0, .int 0, .int 0, .int 0, .ref m_pressed, .int 0, .int 0, .int 0, .ref m_mark, .int 0, .ref m_idSize, .ref m_ids, .ref m_goalSize, .ref m_goals, .int 0, .ref m_value, .int 0, .ref m_faults, .ref m_reached]))]) d_Mod_add_52 0 8 t_Mod t_Mod_ok n_Mod rfl rfl (by decide) in_Mod k_1154 rfl (by decide +kernel) rfl rfl (Nat.le_of_ble_eq_true rfl) rfl ?_
      refine pb_aload_n (pc := 55) d_Mod_add_55 2 rfl rfl ?_
      refine pb_get (pc := 56) d_Mod_add_56 0 8 rfl rfl (by decide) in_Mod k_1154 rfl ?_
      refine pb_if_le (pc := 59) (tgt := 64) d_Mod_add_59 (by decide) (fun h9 => absurd h9 (by decide)) (fun _ => ?_)
      refine pb_iconst (pc := 62) (v := 0) d_Mod_add_62 (by decide) ?_
      exact pb_iret (pc := 63) hQ d_Mod_add_63 rfl rfl () rfl [0] (by decide) rfl rfl (by decide) (by decide)

theorem d_Mod_look_0 : decode prog_12_method_7_code 0 = .ok (.aload_n 0, 1) := by decide +kernel
theorem d_Mod_look_1 : decode prog_12_method_7_code 1 = .ok (.iload_n 3, 1) := by decide +kernel
theorem d_Mod_look_2 : decode prog_12_method_7_code 2 = .ok (.putfield 114, 3) := by decide +kernel
theorem k_1162 : (Jvm.Cond.fieldLink "PackageBookModel" (114 : Nat) "PackageBookModel" "lookedSize" "I") ∈ uW := uW_of 1162 (by decide +kernel) (by decide +kernel)
theorem d_Mod_look_5 : decode prog_12_method_7_code 5 = .ok (.iconst 0, 1) := by decide +kernel
theorem d_Mod_look_6 : decode prog_12_method_7_code 6 = .ok (.istore 4, 2) := by decide +kernel
theorem d_Mod_look_8 : decode prog_12_method_7_code 8 = .ok (.iload 4, 2) := by decide +kernel
theorem d_Mod_look_10 : decode prog_12_method_7_code 10 = .ok (.iload_n 3, 1) := by decide +kernel
theorem d_Mod_look_11 : decode prog_12_method_7_code 11 = .ok (.if_icmp .ge 29, 3) := by decide +kernel
theorem d_Mod_look_40 : decode prog_12_method_7_code 40 = .ok (.return_, 1) := by decide +kernel
abbrev y_Mod_look : MethodName := ⟨"PackageBookModel", "look", "([BII)V"⟩
abbrev i_Mod_look : pb_I := (y_Mod_look, prog_12_method_7_code, 5, (Option.none : Option Jvm.ClassFile.FieldType), [], { frames := 0, cells := 0, slots := 0, locals := 0 })
set_option maxRecDepth 100000 in
set_option maxHeartbeats 4000000 in
theorem c_Mod_look0 {l : Launch} (hl : l.stackTraces = false) (G : pb_G) (h : Nat) (m_rels : Nat) (m_openRels : Nat) (m_closeRels : Nat) (m_openRel : Nat) (m_closeRel : Nat) (m_comment : Nat) (m_ends : Nat) (m_order : Nat) (m_tape : Nat) (m_count : Nat) (m_nameSize : Nat) (m_names : Nat) (m_size : Nat) (m_data : Nat) (m_looked : Nat) (m_file : Nat) (m_directory : Nat) (m_out : Nat) (m_row : Nat) (m_made : Nat) (m_length : Nat) (m_pressed : Nat) (m_mark : Nat) (m_idSize : Nat) (m_ids : Nat) (m_goalSize : Nat) (m_goals : Nat) (m_value : Nat) (m_faults : Nat) (m_reached : Nat) (b : Nat) : Cn l G i_Mod_look [.ref h, .ref b, .int 0, .int 0] [(h, .inr (10, [.ref m_rels, .ref m_openRels, .ref m_closeRels, .ref m_openRel, .ref m_closeRel, .ref m_comment, .ref m_ends, .ref m_order, .int 0, .int 0, .ref m_tape, .ref m_count, .ref m_nameSize, .ref m_names, .ref m_size, .ref m_data, .int 0, .ref m_looked, .int 0, .ref m_file, .int 0, .ref m_directory, .int 0, .ref m_out, .int 0, .ref m_row, .int 0, .int 0, .int 0, .int 0, .ref m_made, .ref m_length, .int 0, .int 0, .int 0, .int 0, .int 0, .ref m_pressed, .int 0, .int 0, .int 0, .ref m_mark, .int 0, .ref m_idSize, .ref m_ids, .ref m_goalSize, .ref m_goals, .int 0, .ref m_value, .int 0, .ref m_faults, .ref m_reached]))] (S := Unit) (fun v u => v = none) (fun u => [(h, .inr (10, [.ref m_rels, .ref m_openRels, .ref m_closeRels, .ref m_openRel, .ref m_closeRel, .ref m_comment, .ref m_ends, .ref m_order, .int 0, .int 0, .ref m_tape, .ref m_count, .ref m_nameSize, .ref m_names, .ref m_size, .ref m_data, .int 0, .ref m_looked, .int 0, .ref m_file, .int 0, .ref m_directory, .int 0, .ref m_out, .int 0, .ref m_row, .int 0, .int 0, .int 0, .int 0, .ref m_made, .ref m_length, .int 0, .int 0, .int 0, .int 0, .int 0, .ref m_pressed, .int 0, .int 0, .int 0, .ref m_mark, .int 0, .ref m_idSize, .ref m_ids, .ref m_goalSize, .ref m_goals, .int 0, .ref m_value, .int 0, .ref m_faults, .ref m_reached]))]) := by
  refine Cn.of hl (by decide +kernel) rfl (Nat.le_of_ble_eq_true rfl) (fun M hQ => ?_)
  refine pb_eq (pc' := 0) (lo' := [(0, .ref h), (1, .ref b), (2, .int 0), (3, .int 0)]) (rest' := []) (ws' := [(h, .inr (10, [.ref m_rels, .ref m_openRels, .ref m_closeRels, .ref m_openRel, .ref m_closeRel, .ref m_comment, .ref m_ends, .ref m_order, .int 0, .int 0, .ref m_tape, .ref m_count, .ref m_nameSize, .ref m_names, .ref m_size, .ref m_data, .int 0, .ref m_looked, .int 0, .ref m_file, .int 0, .ref m_directory, .int 0, .ref m_out, .int 0, .ref m_row, .int 0, .int 0, .int 0, .int 0, .ref m_made, .ref m_length, .int 0, .int 0, .int 0, .int 0, .int 0, .ref m_pressed, .int 0, .int 0, .int 0, .ref m_mark, .int 0, .ref m_idSize, .ref m_ids, .ref m_goalSize, .ref m_goals, .int 0, .ref m_value, .int 0, .ref m_faults, .ref m_reached]))]) ?_
  refine pb_aload_n (pc := 0) d_Mod_look_0 0 rfl rfl ?_
  refine pb_iload_n (pc := 1) d_Mod_look_1 3 rfl rfl ?_
  refine pb_put (pc := 2) (ty := .int) (ws' := [(h, .inr (10, [.ref m_rels, .ref m_openRels, .ref m_closeRels, .ref m_openRel, .ref m_closeRel, .ref m_comment, .ref m_ends, .ref m_order, .int 0, .int 0, .ref m_tape, .ref m_count, .ref m_nameSize, .ref m_names, .ref m_size, .ref m_data, .int 0, .ref m_looked, .int 0, .ref m_file, .int 0, .ref m_directory, .int 0, .ref m_out, .int 0, .ref m_row, .int 0, .int 0, .int 0, .int 0, .ref m_made, .ref m_length, .int 0, .int 0, .int 0, .int 0, .int 0, .ref m_pressed, .int 0, .int 0, .int 0, .ref m_mark, .int 0, .ref m_idSize, .ref m_ids, .ref m_goalSize, .ref m_goals, .int 0, .ref m_value, .int 0, .ref m_faults, .ref m_reached]))]) d_Mod_look_2 0 16 t_Mod t_Mod_ok n_Mod rfl rfl (by decide) in_Mod k_1162 rfl (by decide +kernel) rfl rfl (Nat.le_of_ble_eq_true rfl) rfl ?_
  refine pb_iconst (pc := 5) (v := 0) d_Mod_look_5 (by decide) ?_
  refine pb_istore (pc := 6) (lo' := [(4, .int 0), (0, .ref h), (1, .ref b), (2, .int 0), (3, .int 0)]) d_Mod_look_6 (by decide) rfl ?_
  refine pb_iload (pc := 8) d_Mod_look_8 0 rfl ?_
  refine pb_iload_n (pc := 10) d_Mod_look_10 4 rfl rfl ?_
  refine pb_icmp_ge (pc := 11) (tgt := 40) d_Mod_look_11 (by decide) (fun _ => ?_) (fun h9 => absurd h9 (by decide))
  exact pb_vret (pc := 40) hQ d_Mod_look_40 rfl () rfl [0] (by decide) rfl rfl (by decide) (by decide)

theorem d_Mod_find_0 : decode prog_12_method_9_code 0 = .ok (.iconst (-1), 1) := by decide +kernel
theorem d_Mod_find_1 : decode prog_12_method_9_code 1 = .ok (.istore_n 2, 1) := by decide +kernel
theorem d_Mod_find_2 : decode prog_12_method_9_code 2 = .ok (.iconst 0, 1) := by decide +kernel
theorem d_Mod_find_3 : decode prog_12_method_9_code 3 = .ok (.istore_n 3, 1) := by decide +kernel
theorem d_Mod_find_4 : decode prog_12_method_9_code 4 = .ok (.iload_n 3, 1) := by decide +kernel
theorem d_Mod_find_5 : decode prog_12_method_9_code 5 = .ok (.aload_n 0, 1) := by decide +kernel
theorem d_Mod_find_6 : decode prog_12_method_9_code 6 = .ok (.getfield 37, 3) := by decide +kernel
theorem d_Mod_find_9 : decode prog_12_method_9_code 9 = .ok (.iload_n 1, 1) := by decide +kernel
theorem d_Mod_find_10 : decode prog_12_method_9_code 10 = .ok (.iaload, 1) := by decide +kernel
theorem d_Mod_find_11 : decode prog_12_method_9_code 11 = .ok (.if_icmp .ge 33, 3) := by decide +kernel
theorem d_Mod_find_44 : decode prog_12_method_9_code 44 = .ok (.iload_n 2, 1) := by decide +kernel
theorem d_Mod_find_45 : decode prog_12_method_9_code 45 = .ok (.ireturn, 1) := by decide +kernel
abbrev y_Mod_find : MethodName := ⟨"PackageBookModel", "find", "(I)I"⟩
abbrev i_Mod_find : pb_I := (y_Mod_find, prog_12_method_9_code, 4, (some Jvm.ClassFile.FieldType.int), [], { frames := 0, cells := 0, slots := 0, locals := 0 })
set_option maxRecDepth 100000 in
set_option maxHeartbeats 4000000 in
theorem c_Mod_find0 {l : Launch} (hl : l.stackTraces = false) (G : pb_G) (h : Nat) (m_rels : Nat) (m_openRels : Nat) (m_closeRels : Nat) (m_openRel : Nat) (m_closeRel : Nat) (m_comment : Nat) (m_ends : Nat) (m_order : Nat) (m_tape : Nat) (m_count : Nat) (m_nameSize : Nat) (m_names : Nat) (m_size : Nat) (m_data : Nat) (m_looked : Nat) (m_file : Nat) (m_directory : Nat) (m_out : Nat) (m_row : Nat) (m_made : Nat) (m_length : Nat) (m_pressed : Nat) (m_mark : Nat) (m_idSize : Nat) (m_ids : Nat) (m_goalSize : Nat) (m_goals : Nat) (m_value : Nat) (m_faults : Nat) (m_reached : Nat) : Cn l G i_Mod_find [.ref h, .int 0] [(h, .inr (10, [.ref m_rels, .ref m_openRels, .ref m_closeRels, .ref m_openRel, .ref m_closeRel, .ref m_comment, .ref m_ends, .ref m_order, .int 0, .int 0, .ref m_tape, .ref m_count, .ref m_nameSize, .ref m_names, .ref m_size, .ref m_data, .int 0, .ref m_looked, .int 0, .ref m_file, .int 0, .ref m_directory, .int 0, .ref m_out, .int 0, .ref m_row, .int 0, .int 0, .int 0, .int 0, .ref m_made, .ref m_length, .int 0, .int 0, .int 0, .int 0, .int 0, .ref m_pressed, .int 0, .int 0, .int 0, .ref m_mark, .int 0, .ref m_idSize, .ref m_ids, .ref m_goalSize, .ref m_goals, .int 0, .ref m_value, .int 0, .ref m_faults, .ref m_reached])), (m_count, .inl (G.2.2.1, 2, .inl (fun _ => 0)))] (S := Unit) (fun v u => v = some (.int (-1))) (fun u => [(h, .inr (10, [.ref m_rels, .ref m_openRels, .ref m_closeRels, .ref m_openRel, .ref m_closeRel, .ref m_comment, .ref m_ends, .ref m_order, .int 0, .int 0, .ref m_tape, .ref m_count, .ref m_nameSize, .ref m_names, .ref m_size, .ref m_data, .int 0, .ref m_looked, .int 0, .ref m_file, .int 0, .ref m_directory, .int 0, .ref m_out, .int 0, .ref m_row, .int 0, .int 0, .int 0, .int 0, .ref m_made, .ref m_length, .int 0, .int 0, .int 0, .int 0, .int 0, .ref m_pressed, .int 0, .int 0, .int 0, .ref m_mark, .int 0, .ref m_idSize, .ref m_ids, .ref m_goalSize, .ref m_goals, .int 0, .ref m_value, .int 0, .ref m_faults, .ref m_reached])), (m_count, .inl (G.2.2.1, 2, .inl (fun _ => 0)))]) := by
  refine Cn.of hl (by decide +kernel) rfl (Nat.le_of_ble_eq_true rfl) (fun M hQ => ?_)
  refine pb_eq (pc' := 0) (lo' := [(0, .ref h), (1, .int 0)]) (rest' := []) (ws' := [(h, .inr (10, [.ref m_rels, .ref m_openRels, .ref m_closeRels, .ref m_openRel, .ref m_closeRel, .ref m_comment, .ref m_ends, .ref m_order, .int 0, .int 0, .ref m_tape, .ref m_count, .ref m_nameSize, .ref m_names, .ref m_size, .ref m_data, .int 0, .ref m_looked, .int 0, .ref m_file, .int 0, .ref m_directory, .int 0, .ref m_out, .int 0, .ref m_row, .int 0, .int 0, .int 0, .int 0, .ref m_made, .ref m_length, .int 0, .int 0, .int 0, .int 0, .int 0, .ref m_pressed, .int 0, .int 0, .int 0, .ref m_mark, .int 0, .ref m_idSize, .ref m_ids, .ref m_goalSize, .ref m_goals, .int 0, .ref m_value, .int 0, .ref m_faults, .ref m_reached])), (m_count, .inl (G.2.2.1, 2, .inl (fun _ => 0)))]) ?_
  refine pb_iconst (pc := 0) (v := (-1)) d_Mod_find_0 (by decide) ?_
  refine pb_istore_n (pc := 1) (lo' := [(2, .int (-1)), (0, .ref h), (1, .int 0)]) d_Mod_find_1 rfl (by decide) rfl ?_
  refine pb_iconst (pc := 2) (v := 0) d_Mod_find_2 (by decide) ?_
  refine pb_istore_n (pc := 3) (lo' := [(3, .int 0), (2, .int (-1)), (0, .ref h), (1, .int 0)]) d_Mod_find_3 rfl (by decide) rfl ?_
  refine pb_iload_n (pc := 4) d_Mod_find_4 0 rfl rfl ?_
  refine pb_aload_n (pc := 5) d_Mod_find_5 2 rfl rfl ?_
  refine pb_get (pc := 6) d_Mod_find_6 0 11 rfl rfl (by decide) in_Mod k_1157 rfl ?_
  refine pb_iload_n (pc := 9) d_Mod_find_9 3 rfl rfl ?_
  refine pb_iald (pc := 10) d_Mod_find_10 1 rfl (by unfold vp_in; decide) ?_
  refine pb_asi (y := 0) rfl ?_
  refine pb_icmp_ge (pc := 11) (tgt := 44) d_Mod_find_11 (by decide) (fun _ => ?_) (fun h9 => absurd h9 (by decide))
  refine pb_iload_n (pc := 44) d_Mod_find_44 1 rfl rfl ?_
  exact pb_iret (pc := 45) hQ d_Mod_find_45 rfl rfl () rfl [0, 1] (by decide) rfl rfl (by decide) (by decide)

theorem d_Mod_remove_0 : decode prog_12_method_15_code 0 = .ok (.aload_n 0, 1) := by decide +kernel
theorem d_Mod_remove_1 : decode prog_12_method_15_code 1 = .ok (.iconst 0, 1) := by decide +kernel
theorem d_Mod_remove_2 : decode prog_12_method_15_code 2 = .ok (.putfield 103, 3) := by decide +kernel
theorem d_Mod_remove_5 : decode prog_12_method_15_code 5 = .ok (.aload_n 0, 1) := by decide +kernel
theorem d_Mod_remove_6 : decode prog_12_method_15_code 6 = .ok (.aload_n 0, 1) := by decide +kernel
theorem d_Mod_remove_7 : decode prog_12_method_15_code 7 = .ok (.getfield 34, 3) := by decide +kernel
theorem d_Mod_remove_10 : decode prog_12_method_15_code 10 = .ok (.iconst 0, 1) := by decide +kernel
theorem d_Mod_remove_11 : decode prog_12_method_15_code 11 = .ok (.aload_n 0, 1) := by decide +kernel
theorem d_Mod_remove_12 : decode prog_12_method_15_code 12 = .ok (.getfield 107, 3) := by decide +kernel
theorem d_Mod_remove_15 : decode prog_12_method_15_code 15 = .ok (.invokevirtual 136, 3) := by decide +kernel
theorem k_1326 : (Jvm.Cond.methodLink "PackageBookModel" (136 : Nat) ({ cls := "PackageBookModel", name := "look", desc := "([BII)V" } : Jvm.MethodName)) ∈ uW := uW_of 1326 (by decide +kernel) (by decide +kernel)
theorem k_1329 : (Jvm.Cond.code ({ cls := "PackageBookModel", name := "look", desc := "([BII)V" } : Jvm.MethodName) prog_12_method_7_code (5 : Nat) (Option.none : Option Jvm.ClassFile.FieldType)) ∈ uW := uW_of 1329 (by decide +kernel) (by decide +kernel)
theorem k_1328 : (Jvm.Cond.instanceMethod ({ cls := "PackageBookModel", name := "look", desc := "([BII)V" } : Jvm.MethodName)) ∈ uW := uW_of 1328 (by decide +kernel) (by decide +kernel)
theorem k_53 : Cond.selects "PackageBookModel" ⟨"PackageBookModel", "look", "([BII)V"⟩ ⟨"PackageBookModel", "look", "([BII)V"⟩ ∈ uW := uW_of 53 (by decide +kernel) (by decide +kernel)
theorem d_Mod_remove_18 : decode prog_12_method_15_code 18 = .ok (.aload_n 0, 1) := by decide +kernel
theorem d_Mod_remove_19 : decode prog_12_method_15_code 19 = .ok (.iconst 0, 1) := by decide +kernel
theorem d_Mod_remove_20 : decode prog_12_method_15_code 20 = .ok (.putfield 107, 3) := by decide +kernel
theorem d_Mod_remove_23 : decode prog_12_method_15_code 23 = .ok (.aload_n 0, 1) := by decide +kernel
theorem d_Mod_remove_24 : decode prog_12_method_15_code 24 = .ok (.iconst 0, 1) := by decide +kernel
theorem d_Mod_remove_25 : decode prog_12_method_15_code 25 = .ok (.invokevirtual 121, 3) := by decide +kernel
theorem k_1334 : (Jvm.Cond.methodLink "PackageBookModel" (121 : Nat) ({ cls := "PackageBookModel", name := "find", desc := "(I)I" } : Jvm.MethodName)) ∈ uW := uW_of 1334 (by decide +kernel) (by decide +kernel)
theorem k_1337 : (Jvm.Cond.code ({ cls := "PackageBookModel", name := "find", desc := "(I)I" } : Jvm.MethodName) prog_12_method_9_code (4 : Nat) (Option.some Jvm.ClassFile.FieldType.int)) ∈ uW := uW_of 1337 (by decide +kernel) (by decide +kernel)
theorem k_1336 : (Jvm.Cond.instanceMethod ({ cls := "PackageBookModel", name := "find", desc := "(I)I" } : Jvm.MethodName)) ∈ uW := uW_of 1336 (by decide +kernel) (by decide +kernel)
theorem k_55 : Cond.selects "PackageBookModel" ⟨"PackageBookModel", "find", "(I)I"⟩ ⟨"PackageBookModel", "find", "(I)I"⟩ ∈ uW := uW_of 55 (by decide +kernel) (by decide +kernel)
theorem d_Mod_remove_28 : decode prog_12_method_15_code 28 = .ok (.istore_n 1, 1) := by decide +kernel
theorem d_Mod_remove_29 : decode prog_12_method_15_code 29 = .ok (.iload_n 1, 1) := by decide +kernel
theorem d_Mod_remove_30 : decode prog_12_method_15_code 30 = .ok (.ifCond .ge 5, 3) := by decide +kernel
theorem d_Mod_remove_33 : decode prog_12_method_15_code 33 = .ok (.iconst 0, 1) := by decide +kernel
theorem d_Mod_remove_34 : decode prog_12_method_15_code 34 = .ok (.ireturn, 1) := by decide +kernel
abbrev y_Mod_remove : MethodName := ⟨"PackageBookModel", "remove", "()Z"⟩
abbrev i_Mod_remove : pb_I := (y_Mod_remove, prog_12_method_15_code, 3, (some Jvm.ClassFile.FieldType.boolean), [], { frames := 1, cells := 0, slots := 0, locals := 24 })
set_option maxRecDepth 100000 in
set_option maxHeartbeats 4000000 in
theorem c_Mod_remove {l : Launch} (hl : l.stackTraces = false) (G : pb_G) (h : Nat) (m_rels : Nat) (m_openRels : Nat) (m_closeRels : Nat) (m_openRel : Nat) (m_closeRel : Nat) (m_comment : Nat) (m_ends : Nat) (m_order : Nat) (m_tape : Nat) (m_count : Nat) (m_nameSize : Nat) (m_names : Nat) (m_size : Nat) (m_data : Nat) (m_looked : Nat) (m_file : Nat) (m_directory : Nat) (m_out : Nat) (m_row : Nat) (m_made : Nat) (m_length : Nat) (m_pressed : Nat) (m_mark : Nat) (m_idSize : Nat) (m_ids : Nat) (m_goalSize : Nat) (m_goals : Nat) (m_value : Nat) (m_faults : Nat) (m_reached : Nat) : Cn l G i_Mod_remove [.ref h] [(h, .inr (10, [.ref m_rels, .ref m_openRels, .ref m_closeRels, .ref m_openRel, .ref m_closeRel, .ref m_comment, .ref m_ends, .ref m_order, .int 0, .int 0, .ref m_tape, .ref m_count, .ref m_nameSize, .ref m_names, .ref m_size, .ref m_data, .int 0, .ref m_looked, .int 0, .ref m_file, .int 0, .ref m_directory, .int 0, .ref m_out, .int 0, .ref m_row, .int 0, .int 0, .int 0, .int 0, .ref m_made, .ref m_length, .int 0, .int 0, .int 0, .int 0, .int 0, .ref m_pressed, .int 0, .int 0, .int 0, .ref m_mark, .int 0, .ref m_idSize, .ref m_ids, .ref m_goalSize, .ref m_goals, .int 0, .ref m_value, .int 0, .ref m_faults, .ref m_reached])), (m_count, .inl (G.2.2.1, 2, .inl (fun _ => 0)))] (S := Unit) (fun v u => v = some (.int 0)) (fun u => []) := by
  refine Cn.of hl (by decide +kernel) rfl (Nat.le_of_ble_eq_true rfl) (fun M hQ => ?_)
  refine pb_eq (pc' := 0) (lo' := [(0, .ref h)]) (rest' := []) (ws' := [(h, .inr (10, [.ref m_rels, .ref m_openRels, .ref m_closeRels, .ref m_openRel, .ref m_closeRel, .ref m_comment, .ref m_ends, .ref m_order, .int 0, .int 0, .ref m_tape, .ref m_count, .ref m_nameSize, .ref m_names, .ref m_size, .ref m_data, .int 0, .ref m_looked, .int 0, .ref m_file, .int 0, .ref m_directory, .int 0, .ref m_out, .int 0, .ref m_row, .int 0, .int 0, .int 0, .int 0, .ref m_made, .ref m_length, .int 0, .int 0, .int 0, .int 0, .int 0, .ref m_pressed, .int 0, .int 0, .int 0, .ref m_mark, .int 0, .ref m_idSize, .ref m_ids, .ref m_goalSize, .ref m_goals, .int 0, .ref m_value, .int 0, .ref m_faults, .ref m_reached])), (m_count, .inl (G.2.2.1, 2, .inl (fun _ => 0)))]) ?_
  refine pb_aload_n (pc := 0) d_Mod_remove_0 0 rfl rfl ?_
  refine pb_iconst (pc := 1) (v := 0) d_Mod_remove_1 (by decide) ?_
  refine pb_put (pc := 2) (ty := .int) (ws' := [(h, .inr (10, [.ref m_rels, .ref m_openRels, .ref m_closeRels, .ref m_openRel, .ref m_closeRel, .ref m_comment, .ref m_ends, .ref m_order, .int 0, .int 0, .ref m_tape, .ref m_count, .ref m_nameSize, .ref m_names, .ref m_size, .ref m_data, .int 0, .ref m_looked, .int 0, .ref m_file, .int 0, .ref m_directory, .int 0, .ref m_out, .int 0, .ref m_row, .int 0, .int 0, .int 0, .int 0, .ref m_made, .ref m_length, .int 0, .int 0, .int 0, .int 0, .int 0, .ref m_pressed, .int 0, .int 0, .int 0, .ref m_mark, .int 0, .ref m_idSize, .ref m_ids, .ref m_goalSize, .ref m_goals, .int 0, .ref m_value, .int 0, .ref m_faults, .ref m_reached])), (m_count, .inl (G.2.2.1, 2, .inl (fun _ => 0)))]) d_Mod_remove_2 0 8 t_Mod t_Mod_ok n_Mod rfl rfl (by decide) in_Mod k_1154 rfl (by decide +kernel) rfl rfl (Nat.le_of_ble_eq_true rfl) rfl ?_
  refine pb_aload_n (pc := 5) d_Mod_remove_5 0 rfl rfl ?_
  refine pb_aload_n (pc := 6) d_Mod_remove_6 0 rfl rfl ?_
  refine pb_get (pc := 7) d_Mod_remove_7 0 10 rfl rfl (by decide) in_Mod k_1156 rfl ?_
  refine pb_iconst (pc := 10) (v := 0) d_Mod_remove_10 (by decide) ?_
  refine pb_aload_n (pc := 11) d_Mod_remove_11 0 rfl rfl ?_
  refine pb_get (pc := 12) d_Mod_remove_12 0 9 rfl rfl (by decide) in_Mod k_1155 rfl ?_
  refine pb_callV (pc := 15) (qb := 0) (ci := 10) (nA := 3) (rest := []) (wr := [(m_count, .inl (G.2.2.1, 2, .inl (fun _ => 0)))]) d_Mod_remove_15 (c_Mod_look0 hl G h m_rels m_openRels m_closeRels m_openRel m_closeRel m_comment m_ends m_order m_tape m_count m_nameSize m_names m_size m_data m_looked m_file m_directory m_out m_row m_made m_length m_pressed m_mark m_idSize m_ids m_goalSize m_goals m_value m_faults m_reached m_tape) rfl rfl [0] [1] (by decide) rfl rfl rfl (by decide) (by decide) k_1329 rfl k_128 k_1326 k_1328 k_53 (by decide +kernel) (by decide) rfl rfl (Nat.le_of_ble_eq_true rfl) (by decide) (fun v9 u2 h1 => ?_)
  have eh1 := h1
  have eh1 : v9 = none := eh1
  subst eh1
  refine pb_eq (pc' := 18) (lo' := [(0, .ref h)]) (rest' := []) (ws' := [(m_count, .inl (G.2.2.1, 2, .inl (fun _ => 0))), (h, .inr (10, [.ref m_rels, .ref m_openRels, .ref m_closeRels, .ref m_openRel, .ref m_closeRel, .ref m_comment, .ref m_ends, .ref m_order, .int 0, .int 0, .ref m_tape, .ref m_count, .ref m_nameSize, .ref m_names, .ref m_size, .ref m_data, .int 0, .ref m_looked, .int 0, .ref m_file, .int 0, .ref m_directory, .int 0, .ref m_out, .int 0, .ref m_row, .int 0, .int 0, .int 0, .int 0, .ref m_made, .ref m_length, .int 0, .int 0, .int 0, .int 0, .int 0, .ref m_pressed, .int 0, .int 0, .int 0, .ref m_mark, .int 0, .ref m_idSize, .ref m_ids, .ref m_goalSize, .ref m_goals, .int 0, .ref m_value, .int 0, .ref m_faults, .ref m_reached]))]) ?_
  refine pb_aload_n (pc := 18) d_Mod_remove_18 0 rfl rfl ?_
  refine pb_iconst (pc := 19) (v := 0) d_Mod_remove_19 (by decide) ?_
  refine pb_put (pc := 20) (ty := .int) (ws' := [(m_count, .inl (G.2.2.1, 2, .inl (fun _ => 0))), (h, .inr (10, [.ref m_rels, .ref m_openRels, .ref m_closeRels, .ref m_openRel, .ref m_closeRel, .ref m_comment, .ref m_ends, .ref m_order, .int 0, .int 0, .ref m_tape, .ref m_count, .ref m_nameSize, .ref m_names, .ref m_size, .ref m_data, .int 0, .ref m_looked, .int 0, .ref m_file, .int 0, .ref m_directory, .int 0, .ref m_out, .int 0, .ref m_row, .int 0, .int 0, .int 0, .int 0, .ref m_made, .ref m_length, .int 0, .int 0, .int 0, .int 0, .int 0, .ref m_pressed, .int 0, .int 0, .int 0, .ref m_mark, .int 0, .ref m_idSize, .ref m_ids, .ref m_goalSize, .ref m_goals, .int 0, .ref m_value, .int 0, .ref m_faults, .ref m_reached]))]) d_Mod_remove_20 1 9 t_Mod t_Mod_ok n_Mod rfl rfl (by decide) in_Mod k_1155 rfl (by decide +kernel) rfl rfl (Nat.le_of_ble_eq_true rfl) rfl ?_
  refine pb_aload_n (pc := 23) d_Mod_remove_23 0 rfl rfl ?_
  refine pb_iconst (pc := 24) (v := 0) d_Mod_remove_24 (by decide) ?_
  refine pb_callV (pc := 25) (qb := 1) (ci := 10) (nA := 1) (rest := []) (wr := []) d_Mod_remove_25 (c_Mod_find0 hl G h m_rels m_openRels m_closeRels m_openRel m_closeRel m_comment m_ends m_order m_tape m_count m_nameSize m_names m_size m_data m_looked m_file m_directory m_out m_row m_made m_length m_pressed m_mark m_idSize m_ids m_goalSize m_goals m_value m_faults m_reached) rfl rfl [1, 0] [] (by decide) rfl rfl rfl (by decide) (by decide) k_1337 rfl k_128 k_1334 k_1336 k_55 (by decide +kernel) (by decide) rfl rfl (Nat.le_of_ble_eq_true rfl) (by decide) (fun v9 u4 h3 => ?_)
  have eh3 := h3
  have eh3 : v9 = some (.int (-1)) := eh3
  subst eh3
  refine pb_eq (pc' := 28) (lo' := [(0, .ref h)]) (rest' := [.int (-1)]) (ws' := [(h, .inr (10, [.ref m_rels, .ref m_openRels, .ref m_closeRels, .ref m_openRel, .ref m_closeRel, .ref m_comment, .ref m_ends, .ref m_order, .int 0, .int 0, .ref m_tape, .ref m_count, .ref m_nameSize, .ref m_names, .ref m_size, .ref m_data, .int 0, .ref m_looked, .int 0, .ref m_file, .int 0, .ref m_directory, .int 0, .ref m_out, .int 0, .ref m_row, .int 0, .int 0, .int 0, .int 0, .ref m_made, .ref m_length, .int 0, .int 0, .int 0, .int 0, .int 0, .ref m_pressed, .int 0, .int 0, .int 0, .ref m_mark, .int 0, .ref m_idSize, .ref m_ids, .ref m_goalSize, .ref m_goals, .int 0, .ref m_value, .int 0, .ref m_faults, .ref m_reached])), (m_count, .inl (G.2.2.1, 2, .inl (fun _ => 0)))]) ?_
  refine pb_istore_n (pc := 28) (lo' := [(1, .int (-1)), (0, .ref h)]) d_Mod_remove_28 rfl (by decide) rfl ?_
  refine pb_iload_n (pc := 29) d_Mod_remove_29 0 rfl rfl ?_
  refine pb_if_ge (pc := 30) (tgt := 35) d_Mod_remove_30 (by decide) (fun h9 => absurd h9 (by decide)) (fun _ => ?_)
  refine pb_iconst (pc := 33) (v := 0) d_Mod_remove_33 (by decide) ?_
  exact pb_iret (pc := 34) hQ d_Mod_remove_34 rfl rfl () rfl [] (by decide) rfl rfl (by decide) (by decide)

theorem d_Mod_allBytes_0 : decode prog_12_method_10_code 0 = .ok (.iconst 0, 1) := by decide +kernel
theorem d_Mod_allBytes_1 : decode prog_12_method_10_code 1 = .ok (.istore_n 2, 1) := by decide +kernel
theorem d_Mod_allBytes_2 : decode prog_12_method_10_code 2 = .ok (.iconst 0, 1) := by decide +kernel
theorem d_Mod_allBytes_3 : decode prog_12_method_10_code 3 = .ok (.istore_n 3, 1) := by decide +kernel
theorem d_Mod_allBytes_4 : decode prog_12_method_10_code 4 = .ok (.iload_n 3, 1) := by decide +kernel
theorem d_Mod_allBytes_5 : decode prog_12_method_10_code 5 = .ok (.aload_n 0, 1) := by decide +kernel
theorem d_Mod_allBytes_6 : decode prog_12_method_10_code 6 = .ok (.getfield 37, 3) := by decide +kernel
theorem d_Mod_allBytes_9 : decode prog_12_method_10_code 9 = .ok (.iload_n 1, 1) := by decide +kernel
theorem d_Mod_allBytes_10 : decode prog_12_method_10_code 10 = .ok (.iaload, 1) := by decide +kernel
theorem d_Mod_allBytes_11 : decode prog_12_method_10_code 11 = .ok (.if_icmp .ge 23, 3) := by decide +kernel
theorem d_Mod_allBytes_34 : decode prog_12_method_10_code 34 = .ok (.iload_n 2, 1) := by decide +kernel
theorem d_Mod_allBytes_35 : decode prog_12_method_10_code 35 = .ok (.ireturn, 1) := by decide +kernel
abbrev y_Mod_allBytes : MethodName := ⟨"PackageBookModel", "allBytes", "(I)I"⟩
abbrev i_Mod_allBytes : pb_I := (y_Mod_allBytes, prog_12_method_10_code, 4, (some Jvm.ClassFile.FieldType.int), [], { frames := 0, cells := 0, slots := 0, locals := 0 })
set_option maxRecDepth 100000 in
set_option maxHeartbeats 4000000 in
theorem c_Mod_allBytes0 {l : Launch} (hl : l.stackTraces = false) (G : pb_G) (h : Nat) (m_rels : Nat) (m_openRels : Nat) (m_closeRels : Nat) (m_openRel : Nat) (m_closeRel : Nat) (m_comment : Nat) (m_ends : Nat) (m_order : Nat) (m_tape : Nat) (m_count : Nat) (m_nameSize : Nat) (m_names : Nat) (m_size : Nat) (m_data : Nat) (m_looked : Nat) (m_file : Nat) (m_directory : Nat) (m_out : Nat) (m_row : Nat) (m_made : Nat) (m_length : Nat) (m_pressed : Nat) (m_mark : Nat) (m_idSize : Nat) (m_ids : Nat) (m_goalSize : Nat) (m_goals : Nat) (m_value : Nat) (m_faults : Nat) (m_reached : Nat) : Cn l G i_Mod_allBytes [.ref h, .int 0] [(h, .inr (10, [.ref m_rels, .ref m_openRels, .ref m_closeRels, .ref m_openRel, .ref m_closeRel, .ref m_comment, .ref m_ends, .ref m_order, .int 0, .int 0, .ref m_tape, .ref m_count, .ref m_nameSize, .ref m_names, .ref m_size, .ref m_data, .int 0, .ref m_looked, .int 0, .ref m_file, .int 0, .ref m_directory, .int 0, .ref m_out, .int 0, .ref m_row, .int 0, .int 0, .int 0, .int 0, .ref m_made, .ref m_length, .int 0, .int 0, .int 0, .int 0, .int 0, .ref m_pressed, .int 0, .int 0, .int 0, .ref m_mark, .int 0, .ref m_idSize, .ref m_ids, .ref m_goalSize, .ref m_goals, .int 0, .ref m_value, .int 0, .ref m_faults, .ref m_reached])), (m_count, .inl (G.2.2.1, 2, .inl (fun _ => 0)))] (S := Unit) (fun v u => v = some (.int 0)) (fun u => [(h, .inr (10, [.ref m_rels, .ref m_openRels, .ref m_closeRels, .ref m_openRel, .ref m_closeRel, .ref m_comment, .ref m_ends, .ref m_order, .int 0, .int 0, .ref m_tape, .ref m_count, .ref m_nameSize, .ref m_names, .ref m_size, .ref m_data, .int 0, .ref m_looked, .int 0, .ref m_file, .int 0, .ref m_directory, .int 0, .ref m_out, .int 0, .ref m_row, .int 0, .int 0, .int 0, .int 0, .ref m_made, .ref m_length, .int 0, .int 0, .int 0, .int 0, .int 0, .ref m_pressed, .int 0, .int 0, .int 0, .ref m_mark, .int 0, .ref m_idSize, .ref m_ids, .ref m_goalSize, .ref m_goals, .int 0, .ref m_value, .int 0, .ref m_faults, .ref m_reached])), (m_count, .inl (G.2.2.1, 2, .inl (fun _ => 0)))]) := by
  refine Cn.of hl (by decide +kernel) rfl (Nat.le_of_ble_eq_true rfl) (fun M hQ => ?_)
  refine pb_eq (pc' := 0) (lo' := [(0, .ref h), (1, .int 0)]) (rest' := []) (ws' := [(h, .inr (10, [.ref m_rels, .ref m_openRels, .ref m_closeRels, .ref m_openRel, .ref m_closeRel, .ref m_comment, .ref m_ends, .ref m_order, .int 0, .int 0, .ref m_tape, .ref m_count, .ref m_nameSize, .ref m_names, .ref m_size, .ref m_data, .int 0, .ref m_looked, .int 0, .ref m_file, .int 0, .ref m_directory, .int 0, .ref m_out, .int 0, .ref m_row, .int 0, .int 0, .int 0, .int 0, .ref m_made, .ref m_length, .int 0, .int 0, .int 0, .int 0, .int 0, .ref m_pressed, .int 0, .int 0, .int 0, .ref m_mark, .int 0, .ref m_idSize, .ref m_ids, .ref m_goalSize, .ref m_goals, .int 0, .ref m_value, .int 0, .ref m_faults, .ref m_reached])), (m_count, .inl (G.2.2.1, 2, .inl (fun _ => 0)))]) ?_
  refine pb_iconst (pc := 0) (v := 0) d_Mod_allBytes_0 (by decide) ?_
  refine pb_istore_n (pc := 1) (lo' := [(2, .int 0), (0, .ref h), (1, .int 0)]) d_Mod_allBytes_1 rfl (by decide) rfl ?_
  refine pb_iconst (pc := 2) (v := 0) d_Mod_allBytes_2 (by decide) ?_
  refine pb_istore_n (pc := 3) (lo' := [(3, .int 0), (2, .int 0), (0, .ref h), (1, .int 0)]) d_Mod_allBytes_3 rfl (by decide) rfl ?_
  refine pb_iload_n (pc := 4) d_Mod_allBytes_4 0 rfl rfl ?_
  refine pb_aload_n (pc := 5) d_Mod_allBytes_5 2 rfl rfl ?_
  refine pb_get (pc := 6) d_Mod_allBytes_6 0 11 rfl rfl (by decide) in_Mod k_1157 rfl ?_
  refine pb_iload_n (pc := 9) d_Mod_allBytes_9 3 rfl rfl ?_
  refine pb_iald (pc := 10) d_Mod_allBytes_10 1 rfl (by unfold vp_in; decide) ?_
  refine pb_asi (y := 0) rfl ?_
  refine pb_icmp_ge (pc := 11) (tgt := 34) d_Mod_allBytes_11 (by decide) (fun _ => ?_) (fun h9 => absurd h9 (by decide))
  refine pb_iload_n (pc := 34) d_Mod_allBytes_34 1 rfl rfl ?_
  exact pb_iret (pc := 35) hQ d_Mod_allBytes_35 rfl rfl () rfl [0, 1] (by decide) rfl rfl (by decide) (by decide)

theorem d_Mod_about_0 : decode prog_12_method_16_code 0 = .ok (.iload_n 1, 1) := by decide +kernel
theorem d_Mod_about_1 : decode prog_12_method_16_code 1 = .ok (.iconst 1, 1) := by decide +kernel
theorem d_Mod_about_2 : decode prog_12_method_16_code 2 = .ok (.if_icmp .eq 8, 3) := by decide +kernel
theorem d_Mod_about_10 : decode prog_12_method_16_code 10 = .ok (.iconst 1, 1) := by decide +kernel
theorem d_Mod_about_11 : decode prog_12_method_16_code 11 = .ok (.goto 4, 3) := by decide +kernel
theorem d_Mod_about_15 : decode prog_12_method_16_code 15 = .ok (.istore_n 3, 1) := by decide +kernel
theorem d_Mod_about_16 : decode prog_12_method_16_code 16 = .ok (.aload_n 0, 1) := by decide +kernel
theorem d_Mod_about_17 : decode prog_12_method_16_code 17 = .ok (.iload_n 1, 1) := by decide +kernel
theorem d_Mod_about_18 : decode prog_12_method_16_code 18 = .ok (.ifCond .lt 26, 3) := by decide +kernel
theorem d_Mod_about_44 : decode prog_12_method_16_code 44 = .ok (.iconst 1, 1) := by decide +kernel
theorem d_Mod_about_45 : decode prog_12_method_16_code 45 = .ok (.goto 4, 3) := by decide +kernel
theorem d_Mod_about_49 : decode prog_12_method_16_code 49 = .ok (.putfield 103, 3) := by decide +kernel
theorem d_Mod_about_52 : decode prog_12_method_16_code 52 = .ok (.aload_n 0, 1) := by decide +kernel
theorem d_Mod_about_53 : decode prog_12_method_16_code 53 = .ok (.getfield 103, 3) := by decide +kernel
theorem d_Mod_about_56 : decode prog_12_method_16_code 56 = .ok (.ifCond .le 5, 3) := by decide +kernel
theorem d_Mod_about_59 : decode prog_12_method_16_code 59 = .ok (.iconst 0, 1) := by decide +kernel
theorem d_Mod_about_60 : decode prog_12_method_16_code 60 = .ok (.ireturn, 1) := by decide +kernel
theorem d_Mod_about_21 : decode prog_12_method_16_code 21 = .ok (.iload_n 1, 1) := by decide +kernel
theorem d_Mod_about_22 : decode prog_12_method_16_code 22 = .ok (.iconst 3, 1) := by decide +kernel
theorem d_Mod_about_23 : decode prog_12_method_16_code 23 = .ok (.if_icmp .gt 21, 3) := by decide +kernel
theorem d_Mod_about_26 : decode prog_12_method_16_code 26 = .ok (.iload_n 3, 1) := by decide +kernel
theorem d_Mod_about_27 : decode prog_12_method_16_code 27 = .ok (.ifCond .eq 21, 3) := by decide +kernel
theorem d_Mod_about_30 : decode prog_12_method_16_code 30 = .ok (.iload_n 2, 1) := by decide +kernel
theorem d_Mod_about_31 : decode prog_12_method_16_code 31 = .ok (.ifCond .lt 13, 3) := by decide +kernel
theorem d_Mod_about_34 : decode prog_12_method_16_code 34 = .ok (.iload_n 2, 1) := by decide +kernel
theorem d_Mod_about_35 : decode prog_12_method_16_code 35 = .ok (.aload_n 0, 1) := by decide +kernel
theorem d_Mod_about_36 : decode prog_12_method_16_code 36 = .ok (.getfield 37, 3) := by decide +kernel
theorem d_Mod_about_39 : decode prog_12_method_16_code 39 = .ok (.iconst 0, 1) := by decide +kernel
theorem d_Mod_about_40 : decode prog_12_method_16_code 40 = .ok (.iaload, 1) := by decide +kernel
theorem d_Mod_about_41 : decode prog_12_method_16_code 41 = .ok (.if_icmp .lt 7, 3) := by decide +kernel
theorem d_Mod_about_5 : decode prog_12_method_16_code 5 = .ok (.iload_n 1, 1) := by decide +kernel
theorem d_Mod_about_6 : decode prog_12_method_16_code 6 = .ok (.iconst 2, 1) := by decide +kernel
theorem d_Mod_about_7 : decode prog_12_method_16_code 7 = .ok (.if_icmp .ne 7, 3) := by decide +kernel
theorem d_Mod_about_14 : decode prog_12_method_16_code 14 = .ok (.iconst 0, 1) := by decide +kernel
theorem d_Mod_about_48 : decode prog_12_method_16_code 48 = .ok (.iconst 0, 1) := by decide +kernel
theorem d_Mod_about_61 : decode prog_12_method_16_code 61 = .ok (.iload_n 1, 1) := by decide +kernel
theorem d_Mod_about_62 : decode prog_12_method_16_code 62 = .ok (.ifCond .ne 12, 3) := by decide +kernel
theorem d_Mod_about_74 : decode prog_12_method_16_code 74 = .ok (.iload_n 1, 1) := by decide +kernel
theorem d_Mod_about_75 : decode prog_12_method_16_code 75 = .ok (.iconst 1, 1) := by decide +kernel
theorem d_Mod_about_76 : decode prog_12_method_16_code 76 = .ok (.if_icmp .ne 12, 3) := by decide +kernel
theorem d_Mod_about_88 : decode prog_12_method_16_code 88 = .ok (.iload_n 1, 1) := by decide +kernel
theorem d_Mod_about_89 : decode prog_12_method_16_code 89 = .ok (.iconst 2, 1) := by decide +kernel
theorem d_Mod_about_90 : decode prog_12_method_16_code 90 = .ok (.if_icmp .ne 12, 3) := by decide +kernel
theorem d_Mod_about_102 : decode prog_12_method_16_code 102 = .ok (.aload_n 0, 1) := by decide +kernel
theorem d_Mod_about_103 : decode prog_12_method_16_code 103 = .ok (.iconst 0, 1) := by decide +kernel
theorem d_Mod_about_104 : decode prog_12_method_16_code 104 = .ok (.invokevirtual 125, 3) := by decide +kernel
theorem k_1342 : (Jvm.Cond.methodLink "PackageBookModel" (125 : Nat) ({ cls := "PackageBookModel", name := "allBytes", desc := "(I)I" } : Jvm.MethodName)) ∈ uW := uW_of 1342 (by decide +kernel) (by decide +kernel)
theorem k_1345 : (Jvm.Cond.code ({ cls := "PackageBookModel", name := "allBytes", desc := "(I)I" } : Jvm.MethodName) prog_12_method_10_code (4 : Nat) (Option.some Jvm.ClassFile.FieldType.int)) ∈ uW := uW_of 1345 (by decide +kernel) (by decide +kernel)
theorem k_1344 : (Jvm.Cond.instanceMethod ({ cls := "PackageBookModel", name := "allBytes", desc := "(I)I" } : Jvm.MethodName)) ∈ uW := uW_of 1344 (by decide +kernel) (by decide +kernel)
theorem k_57 : Cond.selects "PackageBookModel" ⟨"PackageBookModel", "allBytes", "(I)I"⟩ ⟨"PackageBookModel", "allBytes", "(I)I"⟩ ∈ uW := uW_of 57 (by decide +kernel) (by decide +kernel)
theorem d_Mod_about_107 : decode prog_12_method_16_code 107 = .ok (.ireturn, 1) := by decide +kernel
theorem d_Mod_about_65 : decode prog_12_method_16_code 65 = .ok (.aload_n 0, 1) := by decide +kernel
theorem d_Mod_about_66 : decode prog_12_method_16_code 66 = .ok (.getfield 37, 3) := by decide +kernel
theorem d_Mod_about_69 : decode prog_12_method_16_code 69 = .ok (.iconst 0, 1) := by decide +kernel
theorem d_Mod_about_70 : decode prog_12_method_16_code 70 = .ok (.iaload, 1) := by decide +kernel
theorem d_Mod_about_71 : decode prog_12_method_16_code 71 = .ok (.goto 36, 3) := by decide +kernel
abbrev y_Mod_about : MethodName := ⟨"PackageBookModel", "about", "(II)I"⟩
abbrev i_Mod_about : pb_I := (y_Mod_about, prog_12_method_16_code, 4, (some Jvm.ClassFile.FieldType.int), [], { frames := 1, cells := 0, slots := 0, locals := 23 })
set_option maxRecDepth 100000 in
set_option maxHeartbeats 4000000 in
theorem c_Mod_about {l : Launch} (hl : l.stackTraces = false) (G : pb_G) (h : Nat) (m_rels : Nat) (m_openRels : Nat) (m_closeRels : Nat) (m_openRel : Nat) (m_closeRel : Nat) (m_comment : Nat) (m_ends : Nat) (m_order : Nat) (m_tape : Nat) (m_count : Nat) (m_nameSize : Nat) (m_names : Nat) (m_size : Nat) (m_data : Nat) (m_looked : Nat) (m_file : Nat) (m_directory : Nat) (m_out : Nat) (m_row : Nat) (m_made : Nat) (m_length : Nat) (m_pressed : Nat) (m_mark : Nat) (m_idSize : Nat) (m_ids : Nat) (m_goalSize : Nat) (m_goals : Nat) (m_value : Nat) (m_faults : Nat) (m_reached : Nat) (w : Int32) (i : Int32) : Cn l G i_Mod_about [.ref h, .int w, .int i] [(h, .inr (10, [.ref m_rels, .ref m_openRels, .ref m_closeRels, .ref m_openRel, .ref m_closeRel, .ref m_comment, .ref m_ends, .ref m_order, .int 0, .int 0, .ref m_tape, .ref m_count, .ref m_nameSize, .ref m_names, .ref m_size, .ref m_data, .int 0, .ref m_looked, .int 0, .ref m_file, .int 0, .ref m_directory, .int 0, .ref m_out, .int 0, .ref m_row, .int 0, .int 0, .int 0, .int 0, .ref m_made, .ref m_length, .int 0, .int 0, .int 0, .int 0, .int 0, .ref m_pressed, .int 0, .int 0, .int 0, .ref m_mark, .int 0, .ref m_idSize, .ref m_ids, .ref m_goalSize, .ref m_goals, .int 0, .ref m_value, .int 0, .ref m_faults, .ref m_reached])), (m_count, .inl (G.2.2.1, 2, .inl (fun _ => 0)))] (S := Int32 × Int32) (fun v u => v = some (.int u.1) ∧ (¬ (w.toInt = 0 ∨ w.toInt = 3) → u.2 = 1) ∧ (w.toInt = 0 ∨ w.toInt = 3 → u.2 = 0 ∧ u.1 = 0)) (fun u => [(h, .inr (10, [.ref m_rels, .ref m_openRels, .ref m_closeRels, .ref m_openRel, .ref m_closeRel, .ref m_comment, .ref m_ends, .ref m_order, .int u.2, .int 0, .ref m_tape, .ref m_count, .ref m_nameSize, .ref m_names, .ref m_size, .ref m_data, .int 0, .ref m_looked, .int 0, .ref m_file, .int 0, .ref m_directory, .int 0, .ref m_out, .int 0, .ref m_row, .int 0, .int 0, .int 0, .int 0, .ref m_made, .ref m_length, .int 0, .int 0, .int 0, .int 0, .int 0, .ref m_pressed, .int 0, .int 0, .int 0, .ref m_mark, .int 0, .ref m_idSize, .ref m_ids, .ref m_goalSize, .ref m_goals, .int 0, .ref m_value, .int 0, .ref m_faults, .ref m_reached]))]) := by
  refine Cn.of hl (by decide +kernel) rfl (Nat.le_of_ble_eq_true rfl) (fun M hQ => ?_)
  refine pb_eq (pc' := 0) (lo' := [(0, .ref h), (1, .int w), (2, .int i)]) (rest' := []) (ws' := [(h, .inr (10, [.ref m_rels, .ref m_openRels, .ref m_closeRels, .ref m_openRel, .ref m_closeRel, .ref m_comment, .ref m_ends, .ref m_order, .int 0, .int 0, .ref m_tape, .ref m_count, .ref m_nameSize, .ref m_names, .ref m_size, .ref m_data, .int 0, .ref m_looked, .int 0, .ref m_file, .int 0, .ref m_directory, .int 0, .ref m_out, .int 0, .ref m_row, .int 0, .int 0, .int 0, .int 0, .ref m_made, .ref m_length, .int 0, .int 0, .int 0, .int 0, .int 0, .ref m_pressed, .int 0, .int 0, .int 0, .ref m_mark, .int 0, .ref m_idSize, .ref m_ids, .ref m_goalSize, .ref m_goals, .int 0, .ref m_value, .int 0, .ref m_faults, .ref m_reached])), (m_count, .inl (G.2.2.1, 2, .inl (fun _ => 0)))]) ?_
  have z0 : (0 : Int32).toInt = 0 := by decide
  have z1 : (1 : Int32).toInt = 1 := by decide
  have z2 : (0 : Int32).toNatClampNeg = 0 := by decide
  refine pb_iload_n (pc := 0) d_Mod_about_0 1 rfl rfl ?_
  refine pb_iconst (pc := 1) (v := 1) d_Mod_about_1 (by decide) ?_
  refine pb_icmp_eq (pc := 2) (tgt := 10) d_Mod_about_2 (by decide) (fun w1 => ?_) (fun w1 => ?_)
  · have tw1 : w.toInt = 1 := (ti_eq rfl (by decide)).mp w1
    refine pb_iconst (pc := 10) (v := 1) d_Mod_about_10 (by decide) ?_
    refine pb_goto (pc := 11) (tgt := 15) d_Mod_about_11 (by decide) ?_
    refine pb_istore_n (pc := 15) (lo' := [(3, .int 1), (0, .ref h), (1, .int w), (2, .int i)]) d_Mod_about_15 rfl (by decide) rfl ?_
    refine pb_aload_n (pc := 16) d_Mod_about_16 1 rfl rfl ?_
    refine pb_iload_n (pc := 17) d_Mod_about_17 2 rfl rfl ?_
    refine pb_if_lt (pc := 18) (tgt := 44) d_Mod_about_18 (by decide) (fun w2 => ?_) (fun w2 => ?_)
    · have tw2 : w.toInt < 0 := (ti_lt rfl (by decide)).mp w2
      refine pb_iconst (pc := 44) (v := 1) d_Mod_about_44 (by decide) ?_
      refine pb_goto (pc := 45) (tgt := 49) d_Mod_about_45 (by decide) ?_
      refine pb_put (pc := 49) (ty := .int) (ws' := [(h, .inr (10, [.ref m_rels, .ref m_openRels, .ref m_closeRels, .ref m_openRel, .ref m_closeRel, .ref m_comment, .ref m_ends, .ref m_order, .int 1, .int 0, .ref m_tape, .ref m_count, .ref m_nameSize, .ref m_names, .ref m_size, .ref m_data, .int 0, .ref m_looked, .int 0, .ref m_file, .int 0, .ref m_directory, .int 0, .ref m_out, .int 0, .ref m_row, .int 0, .int 0, .int 0, .int 0, .ref m_made, .ref m_length, .int 0, .int 0, .int 0, .int 0, .int 0, .ref m_pressed, .int 0, .int 0, .int 0, .ref m_mark, .int 0, .ref m_idSize, .ref m_ids, .ref m_goalSize, .ref m_goals, .int 0, .ref m_value, .int 0, .ref m_faults, .ref m_reached])), (m_count, .inl (G.2.2.1, 2, .inl (fun _ => 0)))]) d_Mod_about_49 0 8 t_Mod t_Mod_ok n_Mod rfl rfl (by decide) in_Mod k_1154 rfl (by decide +kernel) rfl rfl (Nat.le_of_ble_eq_true rfl) rfl ?_
      refine pb_aload_n (pc := 52) d_Mod_about_52 1 rfl rfl ?_
      refine pb_get (pc := 53) d_Mod_about_53 0 8 rfl rfl (by decide) in_Mod k_1154 rfl ?_
      refine pb_if_le (pc := 56) (tgt := 61) d_Mod_about_56 (by decide) (fun h9 => absurd h9 (by decide)) (fun _ => ?_)
      refine pb_iconst (pc := 59) (v := 0) d_Mod_about_59 (by decide) ?_
      exact pb_iret (pc := 60) hQ d_Mod_about_60 rfl rfl (0, 1) ⟨rfl, (fun h => by first | rfl | (exfalso; omega)), (fun h => by first | exact ⟨rfl, rfl⟩ | (exfalso; omega))⟩ [0] (by decide) rfl rfl (by decide) (by decide)
    · have tw2 : ¬ w.toInt < 0 := fun z9 => w2 ((ti_lt rfl (by decide)).mpr z9)
      refine pb_iload_n (pc := 21) d_Mod_about_21 2 rfl rfl ?_
      refine pb_iconst (pc := 22) (v := 3) d_Mod_about_22 (by decide) ?_
      refine pb_icmp_gt (pc := 23) (tgt := 44) d_Mod_about_23 (by decide) (fun w4 => ?_) (fun w4 => ?_)
      · have tw4 : 3 < w.toInt := (ti_lt (by decide) rfl).mp w4
        refine pb_iconst (pc := 44) (v := 1) d_Mod_about_44 (by decide) ?_
        refine pb_goto (pc := 45) (tgt := 49) d_Mod_about_45 (by decide) ?_
        refine pb_put (pc := 49) (ty := .int) (ws' := [(h, .inr (10, [.ref m_rels, .ref m_openRels, .ref m_closeRels, .ref m_openRel, .ref m_closeRel, .ref m_comment, .ref m_ends, .ref m_order, .int 1, .int 0, .ref m_tape, .ref m_count, .ref m_nameSize, .ref m_names, .ref m_size, .ref m_data, .int 0, .ref m_looked, .int 0, .ref m_file, .int 0, .ref m_directory, .int 0, .ref m_out, .int 0, .ref m_row, .int 0, .int 0, .int 0, .int 0, .ref m_made, .ref m_length, .int 0, .int 0, .int 0, .int 0, .int 0, .ref m_pressed, .int 0, .int 0, .int 0, .ref m_mark, .int 0, .ref m_idSize, .ref m_ids, .ref m_goalSize, .ref m_goals, .int 0, .ref m_value, .int 0, .ref m_faults, .ref m_reached])), (m_count, .inl (G.2.2.1, 2, .inl (fun _ => 0)))]) d_Mod_about_49 0 8 t_Mod t_Mod_ok n_Mod rfl rfl (by decide) in_Mod k_1154 rfl (by decide +kernel) rfl rfl (Nat.le_of_ble_eq_true rfl) rfl ?_
        refine pb_aload_n (pc := 52) d_Mod_about_52 1 rfl rfl ?_
        refine pb_get (pc := 53) d_Mod_about_53 0 8 rfl rfl (by decide) in_Mod k_1154 rfl ?_
        refine pb_if_le (pc := 56) (tgt := 61) d_Mod_about_56 (by decide) (fun h9 => absurd h9 (by decide)) (fun _ => ?_)
        refine pb_iconst (pc := 59) (v := 0) d_Mod_about_59 (by decide) ?_
        exact pb_iret (pc := 60) hQ d_Mod_about_60 rfl rfl (0, 1) ⟨rfl, (fun h => by first | rfl | (exfalso; omega)), (fun h => by first | exact ⟨rfl, rfl⟩ | (exfalso; omega))⟩ [0] (by decide) rfl rfl (by decide) (by decide)
      · have tw4 : ¬ 3 < w.toInt := fun z9 => w4 ((ti_lt (by decide) rfl).mpr z9)
        refine pb_iload_n (pc := 26) d_Mod_about_26 0 rfl rfl ?_
        refine pb_if_eq (pc := 27) (tgt := 48) d_Mod_about_27 (by decide) (fun h9 => absurd h9 (by decide)) (fun _ => ?_)
        refine pb_iload_n (pc := 30) d_Mod_about_30 3 rfl rfl ?_
        refine pb_if_lt (pc := 31) (tgt := 44) d_Mod_about_31 (by decide) (fun w7 => ?_) (fun w7 => ?_)
        · have tw7 : i.toInt < 0 := (ti_lt rfl (by decide)).mp w7
          refine pb_iconst (pc := 44) (v := 1) d_Mod_about_44 (by decide) ?_
          refine pb_goto (pc := 45) (tgt := 49) d_Mod_about_45 (by decide) ?_
          refine pb_put (pc := 49) (ty := .int) (ws' := [(h, .inr (10, [.ref m_rels, .ref m_openRels, .ref m_closeRels, .ref m_openRel, .ref m_closeRel, .ref m_comment, .ref m_ends, .ref m_order, .int 1, .int 0, .ref m_tape, .ref m_count, .ref m_nameSize, .ref m_names, .ref m_size, .ref m_data, .int 0, .ref m_looked, .int 0, .ref m_file, .int 0, .ref m_directory, .int 0, .ref m_out, .int 0, .ref m_row, .int 0, .int 0, .int 0, .int 0, .ref m_made, .ref m_length, .int 0, .int 0, .int 0, .int 0, .int 0, .ref m_pressed, .int 0, .int 0, .int 0, .ref m_mark, .int 0, .ref m_idSize, .ref m_ids, .ref m_goalSize, .ref m_goals, .int 0, .ref m_value, .int 0, .ref m_faults, .ref m_reached])), (m_count, .inl (G.2.2.1, 2, .inl (fun _ => 0)))]) d_Mod_about_49 0 8 t_Mod t_Mod_ok n_Mod rfl rfl (by decide) in_Mod k_1154 rfl (by decide +kernel) rfl rfl (Nat.le_of_ble_eq_true rfl) rfl ?_
          refine pb_aload_n (pc := 52) d_Mod_about_52 1 rfl rfl ?_
          refine pb_get (pc := 53) d_Mod_about_53 0 8 rfl rfl (by decide) in_Mod k_1154 rfl ?_
          refine pb_if_le (pc := 56) (tgt := 61) d_Mod_about_56 (by decide) (fun h9 => absurd h9 (by decide)) (fun _ => ?_)
          refine pb_iconst (pc := 59) (v := 0) d_Mod_about_59 (by decide) ?_
          exact pb_iret (pc := 60) hQ d_Mod_about_60 rfl rfl (0, 1) ⟨rfl, (fun h => by first | rfl | (exfalso; omega)), (fun h => by first | exact ⟨rfl, rfl⟩ | (exfalso; omega))⟩ [0] (by decide) rfl rfl (by decide) (by decide)
        · have tw7 : ¬ i.toInt < 0 := fun z9 => w7 ((ti_lt rfl (by decide)).mpr z9)
          refine pb_iload_n (pc := 34) d_Mod_about_34 3 rfl rfl ?_
          refine pb_aload_n (pc := 35) d_Mod_about_35 1 rfl rfl ?_
          refine pb_get (pc := 36) d_Mod_about_36 0 11 rfl rfl (by decide) in_Mod k_1157 rfl ?_
          refine pb_iconst (pc := 39) (v := 0) d_Mod_about_39 (by decide) ?_
          refine pb_iald (pc := 40) d_Mod_about_40 1 rfl (by unfold vp_in; decide) ?_
          refine pb_asi (y := 0) rfl ?_
          refine pb_icmp_lt (pc := 41) (tgt := 48) d_Mod_about_41 (by decide) (fun h9 => False.elim (by have t9 : i.toInt < 0 := (ti_lt rfl (by decide)).mp h9; omega)) (fun w9 => ?_)
          have tw9 : ¬ i.toInt < 0 := fun z9 => w9 ((ti_lt rfl (by decide)).mpr z9)
          refine pb_iconst (pc := 44) (v := 1) d_Mod_about_44 (by decide) ?_
          refine pb_goto (pc := 45) (tgt := 49) d_Mod_about_45 (by decide) ?_
          refine pb_put (pc := 49) (ty := .int) (ws' := [(h, .inr (10, [.ref m_rels, .ref m_openRels, .ref m_closeRels, .ref m_openRel, .ref m_closeRel, .ref m_comment, .ref m_ends, .ref m_order, .int 1, .int 0, .ref m_tape, .ref m_count, .ref m_nameSize, .ref m_names, .ref m_size, .ref m_data, .int 0, .ref m_looked, .int 0, .ref m_file, .int 0, .ref m_directory, .int 0, .ref m_out, .int 0, .ref m_row, .int 0, .int 0, .int 0, .int 0, .ref m_made, .ref m_length, .int 0, .int 0, .int 0, .int 0, .int 0, .ref m_pressed, .int 0, .int 0, .int 0, .ref m_mark, .int 0, .ref m_idSize, .ref m_ids, .ref m_goalSize, .ref m_goals, .int 0, .ref m_value, .int 0, .ref m_faults, .ref m_reached])), (m_count, .inl (G.2.2.1, 2, .inl (fun _ => 0)))]) d_Mod_about_49 0 8 t_Mod t_Mod_ok n_Mod rfl rfl (by decide) in_Mod k_1154 rfl (by decide +kernel) rfl rfl (Nat.le_of_ble_eq_true rfl) rfl ?_
          refine pb_aload_n (pc := 52) d_Mod_about_52 1 rfl rfl ?_
          refine pb_get (pc := 53) d_Mod_about_53 0 8 rfl rfl (by decide) in_Mod k_1154 rfl ?_
          refine pb_if_le (pc := 56) (tgt := 61) d_Mod_about_56 (by decide) (fun h9 => absurd h9 (by decide)) (fun _ => ?_)
          refine pb_iconst (pc := 59) (v := 0) d_Mod_about_59 (by decide) ?_
          exact pb_iret (pc := 60) hQ d_Mod_about_60 rfl rfl (0, 1) ⟨rfl, (fun h => by first | rfl | (exfalso; omega)), (fun h => by first | exact ⟨rfl, rfl⟩ | (exfalso; omega))⟩ [0] (by decide) rfl rfl (by decide) (by decide)
  · have tw1 : ¬ w.toInt = 1 := fun z9 => w1 ((ti_eq rfl (by decide)).mpr z9)
    refine pb_iload_n (pc := 5) d_Mod_about_5 1 rfl rfl ?_
    refine pb_iconst (pc := 6) (v := 2) d_Mod_about_6 (by decide) ?_
    refine pb_icmp_ne (pc := 7) (tgt := 14) d_Mod_about_7 (by decide) (fun w11 => ?_) (fun w11 => ?_)
    · have tw11 : ¬ w.toInt = 2 := fun z9 => w11 ((ti_eq rfl (by decide)).mpr z9)
      refine pb_iconst (pc := 14) (v := 0) d_Mod_about_14 (by decide) ?_
      refine pb_istore_n (pc := 15) (lo' := [(3, .int 0), (0, .ref h), (1, .int w), (2, .int i)]) d_Mod_about_15 rfl (by decide) rfl ?_
      refine pb_aload_n (pc := 16) d_Mod_about_16 1 rfl rfl ?_
      refine pb_iload_n (pc := 17) d_Mod_about_17 2 rfl rfl ?_
      refine pb_if_lt (pc := 18) (tgt := 44) d_Mod_about_18 (by decide) (fun w12 => ?_) (fun w12 => ?_)
      · have tw12 : w.toInt < 0 := (ti_lt rfl (by decide)).mp w12
        refine pb_iconst (pc := 44) (v := 1) d_Mod_about_44 (by decide) ?_
        refine pb_goto (pc := 45) (tgt := 49) d_Mod_about_45 (by decide) ?_
        refine pb_put (pc := 49) (ty := .int) (ws' := [(h, .inr (10, [.ref m_rels, .ref m_openRels, .ref m_closeRels, .ref m_openRel, .ref m_closeRel, .ref m_comment, .ref m_ends, .ref m_order, .int 1, .int 0, .ref m_tape, .ref m_count, .ref m_nameSize, .ref m_names, .ref m_size, .ref m_data, .int 0, .ref m_looked, .int 0, .ref m_file, .int 0, .ref m_directory, .int 0, .ref m_out, .int 0, .ref m_row, .int 0, .int 0, .int 0, .int 0, .ref m_made, .ref m_length, .int 0, .int 0, .int 0, .int 0, .int 0, .ref m_pressed, .int 0, .int 0, .int 0, .ref m_mark, .int 0, .ref m_idSize, .ref m_ids, .ref m_goalSize, .ref m_goals, .int 0, .ref m_value, .int 0, .ref m_faults, .ref m_reached])), (m_count, .inl (G.2.2.1, 2, .inl (fun _ => 0)))]) d_Mod_about_49 0 8 t_Mod t_Mod_ok n_Mod rfl rfl (by decide) in_Mod k_1154 rfl (by decide +kernel) rfl rfl (Nat.le_of_ble_eq_true rfl) rfl ?_
        refine pb_aload_n (pc := 52) d_Mod_about_52 1 rfl rfl ?_
        refine pb_get (pc := 53) d_Mod_about_53 0 8 rfl rfl (by decide) in_Mod k_1154 rfl ?_
        refine pb_if_le (pc := 56) (tgt := 61) d_Mod_about_56 (by decide) (fun h9 => absurd h9 (by decide)) (fun _ => ?_)
        refine pb_iconst (pc := 59) (v := 0) d_Mod_about_59 (by decide) ?_
        exact pb_iret (pc := 60) hQ d_Mod_about_60 rfl rfl (0, 1) ⟨rfl, (fun h => by first | rfl | (exfalso; omega)), (fun h => by first | exact ⟨rfl, rfl⟩ | (exfalso; omega))⟩ [0] (by decide) rfl rfl (by decide) (by decide)
      · have tw12 : ¬ w.toInt < 0 := fun z9 => w12 ((ti_lt rfl (by decide)).mpr z9)
        refine pb_iload_n (pc := 21) d_Mod_about_21 2 rfl rfl ?_
        refine pb_iconst (pc := 22) (v := 3) d_Mod_about_22 (by decide) ?_
        refine pb_icmp_gt (pc := 23) (tgt := 44) d_Mod_about_23 (by decide) (fun w14 => ?_) (fun w14 => ?_)
        · have tw14 : 3 < w.toInt := (ti_lt (by decide) rfl).mp w14
          refine pb_iconst (pc := 44) (v := 1) d_Mod_about_44 (by decide) ?_
          refine pb_goto (pc := 45) (tgt := 49) d_Mod_about_45 (by decide) ?_
          refine pb_put (pc := 49) (ty := .int) (ws' := [(h, .inr (10, [.ref m_rels, .ref m_openRels, .ref m_closeRels, .ref m_openRel, .ref m_closeRel, .ref m_comment, .ref m_ends, .ref m_order, .int 1, .int 0, .ref m_tape, .ref m_count, .ref m_nameSize, .ref m_names, .ref m_size, .ref m_data, .int 0, .ref m_looked, .int 0, .ref m_file, .int 0, .ref m_directory, .int 0, .ref m_out, .int 0, .ref m_row, .int 0, .int 0, .int 0, .int 0, .ref m_made, .ref m_length, .int 0, .int 0, .int 0, .int 0, .int 0, .ref m_pressed, .int 0, .int 0, .int 0, .ref m_mark, .int 0, .ref m_idSize, .ref m_ids, .ref m_goalSize, .ref m_goals, .int 0, .ref m_value, .int 0, .ref m_faults, .ref m_reached])), (m_count, .inl (G.2.2.1, 2, .inl (fun _ => 0)))]) d_Mod_about_49 0 8 t_Mod t_Mod_ok n_Mod rfl rfl (by decide) in_Mod k_1154 rfl (by decide +kernel) rfl rfl (Nat.le_of_ble_eq_true rfl) rfl ?_
          refine pb_aload_n (pc := 52) d_Mod_about_52 1 rfl rfl ?_
          refine pb_get (pc := 53) d_Mod_about_53 0 8 rfl rfl (by decide) in_Mod k_1154 rfl ?_
          refine pb_if_le (pc := 56) (tgt := 61) d_Mod_about_56 (by decide) (fun h9 => absurd h9 (by decide)) (fun _ => ?_)
          refine pb_iconst (pc := 59) (v := 0) d_Mod_about_59 (by decide) ?_
          exact pb_iret (pc := 60) hQ d_Mod_about_60 rfl rfl (0, 1) ⟨rfl, (fun h => by first | rfl | (exfalso; omega)), (fun h => by first | exact ⟨rfl, rfl⟩ | (exfalso; omega))⟩ [0] (by decide) rfl rfl (by decide) (by decide)
        · have tw14 : ¬ 3 < w.toInt := fun z9 => w14 ((ti_lt (by decide) rfl).mpr z9)
          refine pb_iload_n (pc := 26) d_Mod_about_26 0 rfl rfl ?_
          refine pb_if_eq (pc := 27) (tgt := 48) d_Mod_about_27 (by decide) (fun _ => ?_) (fun h9 => absurd h9 (by decide))
          refine pb_iconst (pc := 48) (v := 0) d_Mod_about_48 (by decide) ?_
          refine pb_put (pc := 49) (ty := .int) (ws' := [(h, .inr (10, [.ref m_rels, .ref m_openRels, .ref m_closeRels, .ref m_openRel, .ref m_closeRel, .ref m_comment, .ref m_ends, .ref m_order, .int 0, .int 0, .ref m_tape, .ref m_count, .ref m_nameSize, .ref m_names, .ref m_size, .ref m_data, .int 0, .ref m_looked, .int 0, .ref m_file, .int 0, .ref m_directory, .int 0, .ref m_out, .int 0, .ref m_row, .int 0, .int 0, .int 0, .int 0, .ref m_made, .ref m_length, .int 0, .int 0, .int 0, .int 0, .int 0, .ref m_pressed, .int 0, .int 0, .int 0, .ref m_mark, .int 0, .ref m_idSize, .ref m_ids, .ref m_goalSize, .ref m_goals, .int 0, .ref m_value, .int 0, .ref m_faults, .ref m_reached])), (m_count, .inl (G.2.2.1, 2, .inl (fun _ => 0)))]) d_Mod_about_49 0 8 t_Mod t_Mod_ok n_Mod rfl rfl (by decide) in_Mod k_1154 rfl (by decide +kernel) rfl rfl (Nat.le_of_ble_eq_true rfl) rfl ?_
          refine pb_aload_n (pc := 52) d_Mod_about_52 1 rfl rfl ?_
          refine pb_get (pc := 53) d_Mod_about_53 0 8 rfl rfl (by decide) in_Mod k_1154 rfl ?_
          refine pb_if_le (pc := 56) (tgt := 61) d_Mod_about_56 (by decide) (fun _ => ?_) (fun h9 => absurd h9 (by decide))
          refine pb_iload_n (pc := 61) d_Mod_about_61 2 rfl rfl ?_
          refine pb_if_ne (pc := 62) (tgt := 74) d_Mod_about_62 (by decide) (fun w18 => ?_) (fun w18 => ?_)
          · have tw18 : ¬ w.toInt = 0 := fun z9 => w18 ((ti_eq rfl (by decide)).mpr z9)
            refine pb_iload_n (pc := 74) d_Mod_about_74 2 rfl rfl ?_
            refine pb_iconst (pc := 75) (v := 1) d_Mod_about_75 (by decide) ?_
            refine pb_icmp_ne (pc := 76) (tgt := 88) d_Mod_about_76 (by decide) (fun w19 => ?_) (fun h9 => False.elim (by have t9 : w.toInt = 1 := (ti_eq rfl (by decide)).mp h9; omega))
            have tw19 : ¬ w.toInt = 1 := fun z9 => w19 ((ti_eq rfl (by decide)).mpr z9)
            refine pb_iload_n (pc := 88) d_Mod_about_88 2 rfl rfl ?_
            refine pb_iconst (pc := 89) (v := 2) d_Mod_about_89 (by decide) ?_
            refine pb_icmp_ne (pc := 90) (tgt := 102) d_Mod_about_90 (by decide) (fun w20 => ?_) (fun h9 => False.elim (by have t9 : w.toInt = 2 := (ti_eq rfl (by decide)).mp h9; omega))
            have tw20 : ¬ w.toInt = 2 := fun z9 => w20 ((ti_eq rfl (by decide)).mpr z9)
            refine pb_aload_n (pc := 102) d_Mod_about_102 1 rfl rfl ?_
            refine pb_iconst (pc := 103) (v := 0) d_Mod_about_103 (by decide) ?_
            refine pb_callV (pc := 104) (qb := 0) (ci := 10) (nA := 1) (rest := []) (wr := []) d_Mod_about_104 (c_Mod_allBytes0 hl G h m_rels m_openRels m_closeRels m_openRel m_closeRel m_comment m_ends m_order m_tape m_count m_nameSize m_names m_size m_data m_looked m_file m_directory m_out m_row m_made m_length m_pressed m_mark m_idSize m_ids m_goalSize m_goals m_value m_faults m_reached) rfl rfl [0, 1] [] (by decide) rfl rfl rfl (by decide) (by decide) k_1345 rfl k_128 k_1342 k_1344 k_57 (by decide +kernel) (by decide) rfl rfl (Nat.le_of_ble_eq_true rfl) (by decide) (fun v9 u22 h21 => ?_)
            have eh21 := h21
            have eh21 : v9 = some (.int 0) := eh21
            subst eh21
            refine pb_eq (pc' := 107) (lo' := [(3, .int 0), (0, .ref h), (1, .int w), (2, .int i)]) (rest' := [.int 0]) (ws' := [(h, .inr (10, [.ref m_rels, .ref m_openRels, .ref m_closeRels, .ref m_openRel, .ref m_closeRel, .ref m_comment, .ref m_ends, .ref m_order, .int 0, .int 0, .ref m_tape, .ref m_count, .ref m_nameSize, .ref m_names, .ref m_size, .ref m_data, .int 0, .ref m_looked, .int 0, .ref m_file, .int 0, .ref m_directory, .int 0, .ref m_out, .int 0, .ref m_row, .int 0, .int 0, .int 0, .int 0, .ref m_made, .ref m_length, .int 0, .int 0, .int 0, .int 0, .int 0, .ref m_pressed, .int 0, .int 0, .int 0, .ref m_mark, .int 0, .ref m_idSize, .ref m_ids, .ref m_goalSize, .ref m_goals, .int 0, .ref m_value, .int 0, .ref m_faults, .ref m_reached])), (m_count, .inl (G.2.2.1, 2, .inl (fun _ => 0)))]) ?_
            exact pb_iret (pc := 107) hQ d_Mod_about_107 rfl rfl (0, 0) ⟨rfl, (fun h => by first | rfl | (exfalso; omega)), (fun h => by first | exact ⟨rfl, rfl⟩ | (exfalso; omega))⟩ [0] (by decide) rfl rfl (by decide) (by decide)
          · have tw18 : w.toInt = 0 := (ti_eq rfl (by decide)).mp w18
            refine pb_aload_n (pc := 65) d_Mod_about_65 1 rfl rfl ?_
            refine pb_get (pc := 66) d_Mod_about_66 0 11 rfl rfl (by decide) in_Mod k_1157 rfl ?_
            refine pb_iconst (pc := 69) (v := 0) d_Mod_about_69 (by decide) ?_
            refine pb_iald (pc := 70) d_Mod_about_70 1 rfl (by unfold vp_in; decide) ?_
            refine pb_asi (y := 0) rfl ?_
            refine pb_goto (pc := 71) (tgt := 107) d_Mod_about_71 (by decide) ?_
            exact pb_iret (pc := 107) hQ d_Mod_about_107 rfl rfl (0, 0) ⟨rfl, (fun h => by first | rfl | (exfalso; omega)), (fun h => by first | exact ⟨rfl, rfl⟩ | (exfalso; omega))⟩ [0] (by decide) rfl rfl (by decide) (by decide)
    · have tw11 : w.toInt = 2 := (ti_eq rfl (by decide)).mp w11
      refine pb_iconst (pc := 10) (v := 1) d_Mod_about_10 (by decide) ?_
      refine pb_goto (pc := 11) (tgt := 15) d_Mod_about_11 (by decide) ?_
      refine pb_istore_n (pc := 15) (lo' := [(3, .int 1), (0, .ref h), (1, .int w), (2, .int i)]) d_Mod_about_15 rfl (by decide) rfl ?_
      refine pb_aload_n (pc := 16) d_Mod_about_16 1 rfl rfl ?_
      refine pb_iload_n (pc := 17) d_Mod_about_17 2 rfl rfl ?_
      refine pb_if_lt (pc := 18) (tgt := 44) d_Mod_about_18 (by decide) (fun w23 => ?_) (fun w23 => ?_)
      · have tw23 : w.toInt < 0 := (ti_lt rfl (by decide)).mp w23
        refine pb_iconst (pc := 44) (v := 1) d_Mod_about_44 (by decide) ?_
        refine pb_goto (pc := 45) (tgt := 49) d_Mod_about_45 (by decide) ?_
        refine pb_put (pc := 49) (ty := .int) (ws' := [(h, .inr (10, [.ref m_rels, .ref m_openRels, .ref m_closeRels, .ref m_openRel, .ref m_closeRel, .ref m_comment, .ref m_ends, .ref m_order, .int 1, .int 0, .ref m_tape, .ref m_count, .ref m_nameSize, .ref m_names, .ref m_size, .ref m_data, .int 0, .ref m_looked, .int 0, .ref m_file, .int 0, .ref m_directory, .int 0, .ref m_out, .int 0, .ref m_row, .int 0, .int 0, .int 0, .int 0, .ref m_made, .ref m_length, .int 0, .int 0, .int 0, .int 0, .int 0, .ref m_pressed, .int 0, .int 0, .int 0, .ref m_mark, .int 0, .ref m_idSize, .ref m_ids, .ref m_goalSize, .ref m_goals, .int 0, .ref m_value, .int 0, .ref m_faults, .ref m_reached])), (m_count, .inl (G.2.2.1, 2, .inl (fun _ => 0)))]) d_Mod_about_49 0 8 t_Mod t_Mod_ok n_Mod rfl rfl (by decide) in_Mod k_1154 rfl (by decide +kernel) rfl rfl (Nat.le_of_ble_eq_true rfl) rfl ?_
        refine pb_aload_n (pc := 52) d_Mod_about_52 1 rfl rfl ?_
        refine pb_get (pc := 53) d_Mod_about_53 0 8 rfl rfl (by decide) in_Mod k_1154 rfl ?_
        refine pb_if_le (pc := 56) (tgt := 61) d_Mod_about_56 (by decide) (fun h9 => absurd h9 (by decide)) (fun _ => ?_)
        refine pb_iconst (pc := 59) (v := 0) d_Mod_about_59 (by decide) ?_
        exact pb_iret (pc := 60) hQ d_Mod_about_60 rfl rfl (0, 1) ⟨rfl, (fun h => by first | rfl | (exfalso; omega)), (fun h => by first | exact ⟨rfl, rfl⟩ | (exfalso; omega))⟩ [0] (by decide) rfl rfl (by decide) (by decide)
      · have tw23 : ¬ w.toInt < 0 := fun z9 => w23 ((ti_lt rfl (by decide)).mpr z9)
        refine pb_iload_n (pc := 21) d_Mod_about_21 2 rfl rfl ?_
        refine pb_iconst (pc := 22) (v := 3) d_Mod_about_22 (by decide) ?_
        refine pb_icmp_gt (pc := 23) (tgt := 44) d_Mod_about_23 (by decide) (fun w25 => ?_) (fun w25 => ?_)
        · have tw25 : 3 < w.toInt := (ti_lt (by decide) rfl).mp w25
          refine pb_iconst (pc := 44) (v := 1) d_Mod_about_44 (by decide) ?_
          refine pb_goto (pc := 45) (tgt := 49) d_Mod_about_45 (by decide) ?_
          refine pb_put (pc := 49) (ty := .int) (ws' := [(h, .inr (10, [.ref m_rels, .ref m_openRels, .ref m_closeRels, .ref m_openRel, .ref m_closeRel, .ref m_comment, .ref m_ends, .ref m_order, .int 1, .int 0, .ref m_tape, .ref m_count, .ref m_nameSize, .ref m_names, .ref m_size, .ref m_data, .int 0, .ref m_looked, .int 0, .ref m_file, .int 0, .ref m_directory, .int 0, .ref m_out, .int 0, .ref m_row, .int 0, .int 0, .int 0, .int 0, .ref m_made, .ref m_length, .int 0, .int 0, .int 0, .int 0, .int 0, .ref m_pressed, .int 0, .int 0, .int 0, .ref m_mark, .int 0, .ref m_idSize, .ref m_ids, .ref m_goalSize, .ref m_goals, .int 0, .ref m_value, .int 0, .ref m_faults, .ref m_reached])), (m_count, .inl (G.2.2.1, 2, .inl (fun _ => 0)))]) d_Mod_about_49 0 8 t_Mod t_Mod_ok n_Mod rfl rfl (by decide) in_Mod k_1154 rfl (by decide +kernel) rfl rfl (Nat.le_of_ble_eq_true rfl) rfl ?_
          refine pb_aload_n (pc := 52) d_Mod_about_52 1 rfl rfl ?_
          refine pb_get (pc := 53) d_Mod_about_53 0 8 rfl rfl (by decide) in_Mod k_1154 rfl ?_
          refine pb_if_le (pc := 56) (tgt := 61) d_Mod_about_56 (by decide) (fun h9 => absurd h9 (by decide)) (fun _ => ?_)
          refine pb_iconst (pc := 59) (v := 0) d_Mod_about_59 (by decide) ?_
          exact pb_iret (pc := 60) hQ d_Mod_about_60 rfl rfl (0, 1) ⟨rfl, (fun h => by first | rfl | (exfalso; omega)), (fun h => by first | exact ⟨rfl, rfl⟩ | (exfalso; omega))⟩ [0] (by decide) rfl rfl (by decide) (by decide)
        · have tw25 : ¬ 3 < w.toInt := fun z9 => w25 ((ti_lt (by decide) rfl).mpr z9)
          refine pb_iload_n (pc := 26) d_Mod_about_26 0 rfl rfl ?_
          refine pb_if_eq (pc := 27) (tgt := 48) d_Mod_about_27 (by decide) (fun h9 => absurd h9 (by decide)) (fun _ => ?_)
          refine pb_iload_n (pc := 30) d_Mod_about_30 3 rfl rfl ?_
          refine pb_if_lt (pc := 31) (tgt := 44) d_Mod_about_31 (by decide) (fun w28 => ?_) (fun w28 => ?_)
          · have tw28 : i.toInt < 0 := (ti_lt rfl (by decide)).mp w28
            refine pb_iconst (pc := 44) (v := 1) d_Mod_about_44 (by decide) ?_
            refine pb_goto (pc := 45) (tgt := 49) d_Mod_about_45 (by decide) ?_
            refine pb_put (pc := 49) (ty := .int) (ws' := [(h, .inr (10, [.ref m_rels, .ref m_openRels, .ref m_closeRels, .ref m_openRel, .ref m_closeRel, .ref m_comment, .ref m_ends, .ref m_order, .int 1, .int 0, .ref m_tape, .ref m_count, .ref m_nameSize, .ref m_names, .ref m_size, .ref m_data, .int 0, .ref m_looked, .int 0, .ref m_file, .int 0, .ref m_directory, .int 0, .ref m_out, .int 0, .ref m_row, .int 0, .int 0, .int 0, .int 0, .ref m_made, .ref m_length, .int 0, .int 0, .int 0, .int 0, .int 0, .ref m_pressed, .int 0, .int 0, .int 0, .ref m_mark, .int 0, .ref m_idSize, .ref m_ids, .ref m_goalSize, .ref m_goals, .int 0, .ref m_value, .int 0, .ref m_faults, .ref m_reached])), (m_count, .inl (G.2.2.1, 2, .inl (fun _ => 0)))]) d_Mod_about_49 0 8 t_Mod t_Mod_ok n_Mod rfl rfl (by decide) in_Mod k_1154 rfl (by decide +kernel) rfl rfl (Nat.le_of_ble_eq_true rfl) rfl ?_
            refine pb_aload_n (pc := 52) d_Mod_about_52 1 rfl rfl ?_
            refine pb_get (pc := 53) d_Mod_about_53 0 8 rfl rfl (by decide) in_Mod k_1154 rfl ?_
            refine pb_if_le (pc := 56) (tgt := 61) d_Mod_about_56 (by decide) (fun h9 => absurd h9 (by decide)) (fun _ => ?_)
            refine pb_iconst (pc := 59) (v := 0) d_Mod_about_59 (by decide) ?_
            exact pb_iret (pc := 60) hQ d_Mod_about_60 rfl rfl (0, 1) ⟨rfl, (fun h => by first | rfl | (exfalso; omega)), (fun h => by first | exact ⟨rfl, rfl⟩ | (exfalso; omega))⟩ [0] (by decide) rfl rfl (by decide) (by decide)
          · have tw28 : ¬ i.toInt < 0 := fun z9 => w28 ((ti_lt rfl (by decide)).mpr z9)
            refine pb_iload_n (pc := 34) d_Mod_about_34 3 rfl rfl ?_
            refine pb_aload_n (pc := 35) d_Mod_about_35 1 rfl rfl ?_
            refine pb_get (pc := 36) d_Mod_about_36 0 11 rfl rfl (by decide) in_Mod k_1157 rfl ?_
            refine pb_iconst (pc := 39) (v := 0) d_Mod_about_39 (by decide) ?_
            refine pb_iald (pc := 40) d_Mod_about_40 1 rfl (by unfold vp_in; decide) ?_
            refine pb_asi (y := 0) rfl ?_
            refine pb_icmp_lt (pc := 41) (tgt := 48) d_Mod_about_41 (by decide) (fun h9 => False.elim (by have t9 : i.toInt < 0 := (ti_lt rfl (by decide)).mp h9; omega)) (fun w30 => ?_)
            have tw30 : ¬ i.toInt < 0 := fun z9 => w30 ((ti_lt rfl (by decide)).mpr z9)
            refine pb_iconst (pc := 44) (v := 1) d_Mod_about_44 (by decide) ?_
            refine pb_goto (pc := 45) (tgt := 49) d_Mod_about_45 (by decide) ?_
            refine pb_put (pc := 49) (ty := .int) (ws' := [(h, .inr (10, [.ref m_rels, .ref m_openRels, .ref m_closeRels, .ref m_openRel, .ref m_closeRel, .ref m_comment, .ref m_ends, .ref m_order, .int 1, .int 0, .ref m_tape, .ref m_count, .ref m_nameSize, .ref m_names, .ref m_size, .ref m_data, .int 0, .ref m_looked, .int 0, .ref m_file, .int 0, .ref m_directory, .int 0, .ref m_out, .int 0, .ref m_row, .int 0, .int 0, .int 0, .int 0, .ref m_made, .ref m_length, .int 0, .int 0, .int 0, .int 0, .int 0, .ref m_pressed, .int 0, .int 0, .int 0, .ref m_mark, .int 0, .ref m_idSize, .ref m_ids, .ref m_goalSize, .ref m_goals, .int 0, .ref m_value, .int 0, .ref m_faults, .ref m_reached])), (m_count, .inl (G.2.2.1, 2, .inl (fun _ => 0)))]) d_Mod_about_49 0 8 t_Mod t_Mod_ok n_Mod rfl rfl (by decide) in_Mod k_1154 rfl (by decide +kernel) rfl rfl (Nat.le_of_ble_eq_true rfl) rfl ?_
            refine pb_aload_n (pc := 52) d_Mod_about_52 1 rfl rfl ?_
            refine pb_get (pc := 53) d_Mod_about_53 0 8 rfl rfl (by decide) in_Mod k_1154 rfl ?_
            refine pb_if_le (pc := 56) (tgt := 61) d_Mod_about_56 (by decide) (fun h9 => absurd h9 (by decide)) (fun _ => ?_)
            refine pb_iconst (pc := 59) (v := 0) d_Mod_about_59 (by decide) ?_
            exact pb_iret (pc := 60) hQ d_Mod_about_60 rfl rfl (0, 1) ⟨rfl, (fun h => by first | rfl | (exfalso; omega)), (fun h => by first | exact ⟨rfl, rfl⟩ | (exfalso; omega))⟩ [0] (by decide) rfl rfl (by decide) (by decide)

theorem d_Mod_byteOf_0 : decode prog_12_method_17_code 0 = .ok (.aload_n 0, 1) := by decide +kernel
theorem d_Mod_byteOf_1 : decode prog_12_method_17_code 1 = .ok (.iload_n 1, 1) := by decide +kernel
theorem d_Mod_byteOf_2 : decode prog_12_method_17_code 2 = .ok (.ifCond .lt 34, 3) := by decide +kernel
theorem d_Mod_byteOf_36 : decode prog_12_method_17_code 36 = .ok (.iconst 1, 1) := by decide +kernel
theorem d_Mod_byteOf_37 : decode prog_12_method_17_code 37 = .ok (.goto 4, 3) := by decide +kernel
theorem d_Mod_byteOf_41 : decode prog_12_method_17_code 41 = .ok (.putfield 103, 3) := by decide +kernel
theorem d_Mod_byteOf_44 : decode prog_12_method_17_code 44 = .ok (.aload_n 0, 1) := by decide +kernel
theorem d_Mod_byteOf_45 : decode prog_12_method_17_code 45 = .ok (.getfield 103, 3) := by decide +kernel
theorem d_Mod_byteOf_48 : decode prog_12_method_17_code 48 = .ok (.ifCond .le 5, 3) := by decide +kernel
theorem d_Mod_byteOf_51 : decode prog_12_method_17_code 51 = .ok (.iconst 0, 1) := by decide +kernel
theorem d_Mod_byteOf_52 : decode prog_12_method_17_code 52 = .ok (.ireturn, 1) := by decide +kernel
theorem d_Mod_byteOf_5 : decode prog_12_method_17_code 5 = .ok (.iload_n 1, 1) := by decide +kernel
theorem d_Mod_byteOf_6 : decode prog_12_method_17_code 6 = .ok (.aload_n 0, 1) := by decide +kernel
theorem d_Mod_byteOf_7 : decode prog_12_method_17_code 7 = .ok (.getfield 37, 3) := by decide +kernel
theorem d_Mod_byteOf_10 : decode prog_12_method_17_code 10 = .ok (.iconst 0, 1) := by decide +kernel
theorem d_Mod_byteOf_11 : decode prog_12_method_17_code 11 = .ok (.iaload, 1) := by decide +kernel
theorem d_Mod_byteOf_12 : decode prog_12_method_17_code 12 = .ok (.if_icmp .ge 24, 3) := by decide +kernel
abbrev y_Mod_byteOf : MethodName := ⟨"PackageBookModel", "byteOf", "(II)I"⟩
abbrev i_Mod_byteOf : pb_I := (y_Mod_byteOf, prog_12_method_17_code, 3, (some Jvm.ClassFile.FieldType.int), [], { frames := 0, cells := 0, slots := 0, locals := 0 })
set_option maxRecDepth 100000 in
set_option maxHeartbeats 4000000 in
theorem c_Mod_byteOf {l : Launch} (hl : l.stackTraces = false) (G : pb_G) (h : Nat) (m_rels : Nat) (m_openRels : Nat) (m_closeRels : Nat) (m_openRel : Nat) (m_closeRel : Nat) (m_comment : Nat) (m_ends : Nat) (m_order : Nat) (m_tape : Nat) (m_count : Nat) (m_nameSize : Nat) (m_names : Nat) (m_size : Nat) (m_data : Nat) (m_looked : Nat) (m_file : Nat) (m_directory : Nat) (m_out : Nat) (m_row : Nat) (m_made : Nat) (m_length : Nat) (m_pressed : Nat) (m_mark : Nat) (m_idSize : Nat) (m_ids : Nat) (m_goalSize : Nat) (m_goals : Nat) (m_value : Nat) (m_faults : Nat) (m_reached : Nat) (i : Int32) (k : Int32) : Cn l G i_Mod_byteOf [.ref h, .int i, .int k] [(h, .inr (10, [.ref m_rels, .ref m_openRels, .ref m_closeRels, .ref m_openRel, .ref m_closeRel, .ref m_comment, .ref m_ends, .ref m_order, .int 0, .int 0, .ref m_tape, .ref m_count, .ref m_nameSize, .ref m_names, .ref m_size, .ref m_data, .int 0, .ref m_looked, .int 0, .ref m_file, .int 0, .ref m_directory, .int 0, .ref m_out, .int 0, .ref m_row, .int 0, .int 0, .int 0, .int 0, .ref m_made, .ref m_length, .int 0, .int 0, .int 0, .int 0, .int 0, .ref m_pressed, .int 0, .int 0, .int 0, .ref m_mark, .int 0, .ref m_idSize, .ref m_ids, .ref m_goalSize, .ref m_goals, .int 0, .ref m_value, .int 0, .ref m_faults, .ref m_reached])), (m_count, .inl (G.2.2.1, 2, .inl (fun _ => 0)))] (S := Unit) (fun v u => v = some (.int 0)) (fun u => [(h, .inr (10, [.ref m_rels, .ref m_openRels, .ref m_closeRels, .ref m_openRel, .ref m_closeRel, .ref m_comment, .ref m_ends, .ref m_order, .int 1, .int 0, .ref m_tape, .ref m_count, .ref m_nameSize, .ref m_names, .ref m_size, .ref m_data, .int 0, .ref m_looked, .int 0, .ref m_file, .int 0, .ref m_directory, .int 0, .ref m_out, .int 0, .ref m_row, .int 0, .int 0, .int 0, .int 0, .ref m_made, .ref m_length, .int 0, .int 0, .int 0, .int 0, .int 0, .ref m_pressed, .int 0, .int 0, .int 0, .ref m_mark, .int 0, .ref m_idSize, .ref m_ids, .ref m_goalSize, .ref m_goals, .int 0, .ref m_value, .int 0, .ref m_faults, .ref m_reached]))]) := by
  refine Cn.of hl (by decide +kernel) rfl (Nat.le_of_ble_eq_true rfl) (fun M hQ => ?_)
  refine pb_eq (pc' := 0) (lo' := [(0, .ref h), (1, .int i), (2, .int k)]) (rest' := []) (ws' := [(h, .inr (10, [.ref m_rels, .ref m_openRels, .ref m_closeRels, .ref m_openRel, .ref m_closeRel, .ref m_comment, .ref m_ends, .ref m_order, .int 0, .int 0, .ref m_tape, .ref m_count, .ref m_nameSize, .ref m_names, .ref m_size, .ref m_data, .int 0, .ref m_looked, .int 0, .ref m_file, .int 0, .ref m_directory, .int 0, .ref m_out, .int 0, .ref m_row, .int 0, .int 0, .int 0, .int 0, .ref m_made, .ref m_length, .int 0, .int 0, .int 0, .int 0, .int 0, .ref m_pressed, .int 0, .int 0, .int 0, .ref m_mark, .int 0, .ref m_idSize, .ref m_ids, .ref m_goalSize, .ref m_goals, .int 0, .ref m_value, .int 0, .ref m_faults, .ref m_reached])), (m_count, .inl (G.2.2.1, 2, .inl (fun _ => 0)))]) ?_
  have z0 : (0 : Int32).toInt = 0 := by decide
  have z1 : (1 : Int32).toInt = 1 := by decide
  have z2 : (0 : Int32).toNatClampNeg = 0 := by decide
  refine pb_aload_n (pc := 0) d_Mod_byteOf_0 0 rfl rfl ?_
  refine pb_iload_n (pc := 1) d_Mod_byteOf_1 1 rfl rfl ?_
  refine pb_if_lt (pc := 2) (tgt := 36) d_Mod_byteOf_2 (by decide) (fun w1 => ?_) (fun w1 => ?_)
  · have tw1 : i.toInt < 0 := (ti_lt rfl (by decide)).mp w1
    refine pb_iconst (pc := 36) (v := 1) d_Mod_byteOf_36 (by decide) ?_
    refine pb_goto (pc := 37) (tgt := 41) d_Mod_byteOf_37 (by decide) ?_
    refine pb_put (pc := 41) (ty := .int) (ws' := [(h, .inr (10, [.ref m_rels, .ref m_openRels, .ref m_closeRels, .ref m_openRel, .ref m_closeRel, .ref m_comment, .ref m_ends, .ref m_order, .int 1, .int 0, .ref m_tape, .ref m_count, .ref m_nameSize, .ref m_names, .ref m_size, .ref m_data, .int 0, .ref m_looked, .int 0, .ref m_file, .int 0, .ref m_directory, .int 0, .ref m_out, .int 0, .ref m_row, .int 0, .int 0, .int 0, .int 0, .ref m_made, .ref m_length, .int 0, .int 0, .int 0, .int 0, .int 0, .ref m_pressed, .int 0, .int 0, .int 0, .ref m_mark, .int 0, .ref m_idSize, .ref m_ids, .ref m_goalSize, .ref m_goals, .int 0, .ref m_value, .int 0, .ref m_faults, .ref m_reached])), (m_count, .inl (G.2.2.1, 2, .inl (fun _ => 0)))]) d_Mod_byteOf_41 0 8 t_Mod t_Mod_ok n_Mod rfl rfl (by decide) in_Mod k_1154 rfl (by decide +kernel) rfl rfl (Nat.le_of_ble_eq_true rfl) rfl ?_
    refine pb_aload_n (pc := 44) d_Mod_byteOf_44 0 rfl rfl ?_
    refine pb_get (pc := 45) d_Mod_byteOf_45 0 8 rfl rfl (by decide) in_Mod k_1154 rfl ?_
    refine pb_if_le (pc := 48) (tgt := 53) d_Mod_byteOf_48 (by decide) (fun h9 => absurd h9 (by decide)) (fun _ => ?_)
    refine pb_iconst (pc := 51) (v := 0) d_Mod_byteOf_51 (by decide) ?_
    exact pb_iret (pc := 52) hQ d_Mod_byteOf_52 rfl rfl () rfl [0] (by decide) rfl rfl (by decide) (by decide)
  · have tw1 : ¬ i.toInt < 0 := fun z9 => w1 ((ti_lt rfl (by decide)).mpr z9)
    refine pb_iload_n (pc := 5) d_Mod_byteOf_5 1 rfl rfl ?_
    refine pb_aload_n (pc := 6) d_Mod_byteOf_6 0 rfl rfl ?_
    refine pb_get (pc := 7) d_Mod_byteOf_7 0 11 rfl rfl (by decide) in_Mod k_1157 rfl ?_
    refine pb_iconst (pc := 10) (v := 0) d_Mod_byteOf_10 (by decide) ?_
    refine pb_iald (pc := 11) d_Mod_byteOf_11 1 rfl (by unfold vp_in; decide) ?_
    refine pb_asi (y := 0) rfl ?_
    refine pb_icmp_ge (pc := 12) (tgt := 36) d_Mod_byteOf_12 (by decide) (fun w3 => ?_) (fun h9 => False.elim (by have t9 : ¬ 0 ≤ i.toInt := fun z9 => h9 ((ti_le (by decide) rfl).mpr z9); omega))
    have tw3 : 0 ≤ i.toInt := (ti_le (by decide) rfl).mp w3
    refine pb_iconst (pc := 36) (v := 1) d_Mod_byteOf_36 (by decide) ?_
    refine pb_goto (pc := 37) (tgt := 41) d_Mod_byteOf_37 (by decide) ?_
    refine pb_put (pc := 41) (ty := .int) (ws' := [(h, .inr (10, [.ref m_rels, .ref m_openRels, .ref m_closeRels, .ref m_openRel, .ref m_closeRel, .ref m_comment, .ref m_ends, .ref m_order, .int 1, .int 0, .ref m_tape, .ref m_count, .ref m_nameSize, .ref m_names, .ref m_size, .ref m_data, .int 0, .ref m_looked, .int 0, .ref m_file, .int 0, .ref m_directory, .int 0, .ref m_out, .int 0, .ref m_row, .int 0, .int 0, .int 0, .int 0, .ref m_made, .ref m_length, .int 0, .int 0, .int 0, .int 0, .int 0, .ref m_pressed, .int 0, .int 0, .int 0, .ref m_mark, .int 0, .ref m_idSize, .ref m_ids, .ref m_goalSize, .ref m_goals, .int 0, .ref m_value, .int 0, .ref m_faults, .ref m_reached])), (m_count, .inl (G.2.2.1, 2, .inl (fun _ => 0)))]) d_Mod_byteOf_41 0 8 t_Mod t_Mod_ok n_Mod rfl rfl (by decide) in_Mod k_1154 rfl (by decide +kernel) rfl rfl (Nat.le_of_ble_eq_true rfl) rfl ?_
    refine pb_aload_n (pc := 44) d_Mod_byteOf_44 0 rfl rfl ?_
    refine pb_get (pc := 45) d_Mod_byteOf_45 0 8 rfl rfl (by decide) in_Mod k_1154 rfl ?_
    refine pb_if_le (pc := 48) (tgt := 53) d_Mod_byteOf_48 (by decide) (fun h9 => absurd h9 (by decide)) (fun _ => ?_)
    refine pb_iconst (pc := 51) (v := 0) d_Mod_byteOf_51 (by decide) ?_
    exact pb_iret (pc := 52) hQ d_Mod_byteOf_52 rfl rfl () rfl [0] (by decide) rfl rfl (by decide) (by decide)

theorem d_Mod_sumOf_0 : decode prog_12_method_18_code 0 = .ok (.iconst (-1), 1) := by decide +kernel
theorem d_Mod_sumOf_1 : decode prog_12_method_18_code 1 = .ok (.istore_n 3, 1) := by decide +kernel
theorem d_Mod_sumOf_2 : decode prog_12_method_18_code 2 = .ok (.iconst 0, 1) := by decide +kernel
theorem d_Mod_sumOf_3 : decode prog_12_method_18_code 3 = .ok (.istore 4, 2) := by decide +kernel
theorem d_Mod_sumOf_5 : decode prog_12_method_18_code 5 = .ok (.iload 4, 2) := by decide +kernel
theorem d_Mod_sumOf_7 : decode prog_12_method_18_code 7 = .ok (.bipush 8, 2) := by decide +kernel
theorem d_Mod_sumOf_9 : decode prog_12_method_18_code 9 = .ok (.iload_n 2, 1) := by decide +kernel
theorem d_Mod_sumOf_10 : decode prog_12_method_18_code 10 = .ok (.imul, 1) := by decide +kernel
theorem d_Mod_sumOf_11 : decode prog_12_method_18_code 11 = .ok (.if_icmp .ge 61, 3) := by decide +kernel
theorem d_Mod_sumOf_72 : decode prog_12_method_18_code 72 = .ok (.iload_n 3, 1) := by decide +kernel
theorem d_Mod_sumOf_73 : decode prog_12_method_18_code 73 = .ok (.iconst (-1), 1) := by decide +kernel
theorem d_Mod_sumOf_74 : decode prog_12_method_18_code 74 = .ok (.ixor, 1) := by decide +kernel
theorem d_Mod_sumOf_75 : decode prog_12_method_18_code 75 = .ok (.ireturn, 1) := by decide +kernel
abbrev y_Mod_sumOf : MethodName := ⟨"PackageBookModel", "sumOf", "([BII)I"⟩
abbrev i_Mod_sumOf : pb_I := (y_Mod_sumOf, prog_12_method_18_code, 7, (some Jvm.ClassFile.FieldType.int), [], { frames := 0, cells := 0, slots := 0, locals := 0 })
set_option maxRecDepth 100000 in
set_option maxHeartbeats 4000000 in
theorem c_Mod_sumOf0 {l : Launch} (hl : l.stackTraces = false) (G : pb_G) (b : Nat) : Cn l G i_Mod_sumOf [.ref b, .int 0, .int 0] [] (S := Unit) (fun v u => v = some (.int 0)) (fun u => []) := by
  refine Cn.of hl (by decide +kernel) rfl (Nat.le_of_ble_eq_true rfl) (fun M hQ => ?_)
  refine pb_eq (pc' := 0) (lo' := [(0, .ref b), (1, .int 0), (2, .int 0)]) (rest' := []) (ws' := []) ?_
  refine pb_iconst (pc := 0) (v := (-1)) d_Mod_sumOf_0 (by decide) ?_
  refine pb_istore_n (pc := 1) (lo' := [(3, .int (-1)), (0, .ref b), (1, .int 0), (2, .int 0)]) d_Mod_sumOf_1 rfl (by decide) rfl ?_
  refine pb_iconst (pc := 2) (v := 0) d_Mod_sumOf_2 (by decide) ?_
  refine pb_istore (pc := 3) (lo' := [(4, .int 0), (3, .int (-1)), (0, .ref b), (1, .int 0), (2, .int 0)]) d_Mod_sumOf_3 (by decide) rfl ?_
  refine pb_iload (pc := 5) d_Mod_sumOf_5 0 rfl ?_
  refine pb_bipush (pc := 7) (v := 8) d_Mod_sumOf_7 (by decide) ?_
  refine pb_iload_n (pc := 9) d_Mod_sumOf_9 4 rfl rfl ?_
  refine pb_imul (pc := 10) d_Mod_sumOf_10 ?_
  refine pb_asi (y := 0) (by decide) ?_
  refine pb_icmp_ge (pc := 11) (tgt := 72) d_Mod_sumOf_11 (by decide) (fun _ => ?_) (fun h9 => absurd h9 (by decide))
  refine pb_iload_n (pc := 72) d_Mod_sumOf_72 1 rfl rfl ?_
  refine pb_iconst (pc := 73) (v := (-1)) d_Mod_sumOf_73 (by decide) ?_
  refine pb_ixor (pc := 74) d_Mod_sumOf_74 ?_
  refine pb_asi (y := 0) (by decide) ?_
  exact pb_iret (pc := 75) hQ d_Mod_sumOf_75 rfl rfl () rfl [] (by decide) rfl rfl (by decide) (by decide)

theorem d_Mod_sum_0 : decode prog_12_method_19_code 0 = .ok (.aload_n 0, 1) := by decide +kernel
theorem d_Mod_sum_1 : decode prog_12_method_19_code 1 = .ok (.iconst 0, 1) := by decide +kernel
theorem d_Mod_sum_2 : decode prog_12_method_19_code 2 = .ok (.putfield 103, 3) := by decide +kernel
theorem d_Mod_sum_5 : decode prog_12_method_19_code 5 = .ok (.aload_n 0, 1) := by decide +kernel
theorem d_Mod_sum_6 : decode prog_12_method_19_code 6 = .ok (.getfield 107, 3) := by decide +kernel
theorem d_Mod_sum_9 : decode prog_12_method_19_code 9 = .ok (.istore_n 1, 1) := by decide +kernel
theorem d_Mod_sum_10 : decode prog_12_method_19_code 10 = .ok (.aload_n 0, 1) := by decide +kernel
theorem d_Mod_sum_11 : decode prog_12_method_19_code 11 = .ok (.iconst 0, 1) := by decide +kernel
theorem d_Mod_sum_12 : decode prog_12_method_19_code 12 = .ok (.putfield 107, 3) := by decide +kernel
theorem d_Mod_sum_15 : decode prog_12_method_19_code 15 = .ok (.aload_n 0, 1) := by decide +kernel
theorem d_Mod_sum_16 : decode prog_12_method_19_code 16 = .ok (.getfield 34, 3) := by decide +kernel
theorem d_Mod_sum_19 : decode prog_12_method_19_code 19 = .ok (.iconst 0, 1) := by decide +kernel
theorem d_Mod_sum_20 : decode prog_12_method_19_code 20 = .ok (.iload_n 1, 1) := by decide +kernel
theorem d_Mod_sum_21 : decode prog_12_method_19_code 21 = .ok (.invokestatic 149, 3) := by decide +kernel
theorem k_1370 : (Jvm.Cond.methodLink "PackageBookModel" (149 : Nat) ({ cls := "PackageBookModel", name := "sumOf", desc := "([BII)I" } : Jvm.MethodName)) ∈ uW := uW_of 1370 (by decide +kernel) (by decide +kernel)
theorem k_1372 : (Jvm.Cond.code ({ cls := "PackageBookModel", name := "sumOf", desc := "([BII)I" } : Jvm.MethodName) prog_12_method_18_code (7 : Nat) (Option.some Jvm.ClassFile.FieldType.int)) ∈ uW := uW_of 1372 (by decide +kernel) (by decide +kernel)
theorem k_1371 : (Jvm.Cond.static ({ cls := "PackageBookModel", name := "sumOf", desc := "([BII)I" } : Jvm.MethodName)) ∈ uW := uW_of 1371 (by decide +kernel) (by decide +kernel)
theorem d_Mod_sum_24 : decode prog_12_method_19_code 24 = .ok (.ireturn, 1) := by decide +kernel
abbrev y_Mod_sum : MethodName := ⟨"PackageBookModel", "sum", "()I"⟩
abbrev i_Mod_sum : pb_I := (y_Mod_sum, prog_12_method_19_code, 2, (some Jvm.ClassFile.FieldType.int), [], { frames := 1, cells := 0, slots := 0, locals := 26 })
set_option maxRecDepth 100000 in
set_option maxHeartbeats 4000000 in
theorem c_Mod_sum {l : Launch} (hl : l.stackTraces = false) (G : pb_G) (h : Nat) (m_rels : Nat) (m_openRels : Nat) (m_closeRels : Nat) (m_openRel : Nat) (m_closeRel : Nat) (m_comment : Nat) (m_ends : Nat) (m_order : Nat) (m_tape : Nat) (m_count : Nat) (m_nameSize : Nat) (m_names : Nat) (m_size : Nat) (m_data : Nat) (m_looked : Nat) (m_file : Nat) (m_directory : Nat) (m_out : Nat) (m_row : Nat) (m_made : Nat) (m_length : Nat) (m_pressed : Nat) (m_mark : Nat) (m_idSize : Nat) (m_ids : Nat) (m_goalSize : Nat) (m_goals : Nat) (m_value : Nat) (m_faults : Nat) (m_reached : Nat) : Cn l G i_Mod_sum [.ref h] [(h, .inr (10, [.ref m_rels, .ref m_openRels, .ref m_closeRels, .ref m_openRel, .ref m_closeRel, .ref m_comment, .ref m_ends, .ref m_order, .int 0, .int 0, .ref m_tape, .ref m_count, .ref m_nameSize, .ref m_names, .ref m_size, .ref m_data, .int 0, .ref m_looked, .int 0, .ref m_file, .int 0, .ref m_directory, .int 0, .ref m_out, .int 0, .ref m_row, .int 0, .int 0, .int 0, .int 0, .ref m_made, .ref m_length, .int 0, .int 0, .int 0, .int 0, .int 0, .ref m_pressed, .int 0, .int 0, .int 0, .ref m_mark, .int 0, .ref m_idSize, .ref m_ids, .ref m_goalSize, .ref m_goals, .int 0, .ref m_value, .int 0, .ref m_faults, .ref m_reached]))] (S := Unit) (fun v u => v = some (.int 0)) (fun u => []) := by
  refine Cn.of hl (by decide +kernel) rfl (Nat.le_of_ble_eq_true rfl) (fun M hQ => ?_)
  refine pb_eq (pc' := 0) (lo' := [(0, .ref h)]) (rest' := []) (ws' := [(h, .inr (10, [.ref m_rels, .ref m_openRels, .ref m_closeRels, .ref m_openRel, .ref m_closeRel, .ref m_comment, .ref m_ends, .ref m_order, .int 0, .int 0, .ref m_tape, .ref m_count, .ref m_nameSize, .ref m_names, .ref m_size, .ref m_data, .int 0, .ref m_looked, .int 0, .ref m_file, .int 0, .ref m_directory, .int 0, .ref m_out, .int 0, .ref m_row, .int 0, .int 0, .int 0, .int 0, .ref m_made, .ref m_length, .int 0, .int 0, .int 0, .int 0, .int 0, .ref m_pressed, .int 0, .int 0, .int 0, .ref m_mark, .int 0, .ref m_idSize, .ref m_ids, .ref m_goalSize, .ref m_goals, .int 0, .ref m_value, .int 0, .ref m_faults, .ref m_reached]))]) ?_
  refine pb_aload_n (pc := 0) d_Mod_sum_0 0 rfl rfl ?_
  refine pb_iconst (pc := 1) (v := 0) d_Mod_sum_1 (by decide) ?_
  refine pb_put (pc := 2) (ty := .int) (ws' := [(h, .inr (10, [.ref m_rels, .ref m_openRels, .ref m_closeRels, .ref m_openRel, .ref m_closeRel, .ref m_comment, .ref m_ends, .ref m_order, .int 0, .int 0, .ref m_tape, .ref m_count, .ref m_nameSize, .ref m_names, .ref m_size, .ref m_data, .int 0, .ref m_looked, .int 0, .ref m_file, .int 0, .ref m_directory, .int 0, .ref m_out, .int 0, .ref m_row, .int 0, .int 0, .int 0, .int 0, .ref m_made, .ref m_length, .int 0, .int 0, .int 0, .int 0, .int 0, .ref m_pressed, .int 0, .int 0, .int 0, .ref m_mark, .int 0, .ref m_idSize, .ref m_ids, .ref m_goalSize, .ref m_goals, .int 0, .ref m_value, .int 0, .ref m_faults, .ref m_reached]))]) d_Mod_sum_2 0 8 t_Mod t_Mod_ok n_Mod rfl rfl (by decide) in_Mod k_1154 rfl (by decide +kernel) rfl rfl (Nat.le_of_ble_eq_true rfl) rfl ?_
  refine pb_aload_n (pc := 5) d_Mod_sum_5 0 rfl rfl ?_
  refine pb_get (pc := 6) d_Mod_sum_6 0 9 rfl rfl (by decide) in_Mod k_1155 rfl ?_
  refine pb_istore_n (pc := 9) (lo' := [(1, .int 0), (0, .ref h)]) d_Mod_sum_9 rfl (by decide) rfl ?_
  refine pb_aload_n (pc := 10) d_Mod_sum_10 1 rfl rfl ?_
  refine pb_iconst (pc := 11) (v := 0) d_Mod_sum_11 (by decide) ?_
  refine pb_put (pc := 12) (ty := .int) (ws' := [(h, .inr (10, [.ref m_rels, .ref m_openRels, .ref m_closeRels, .ref m_openRel, .ref m_closeRel, .ref m_comment, .ref m_ends, .ref m_order, .int 0, .int 0, .ref m_tape, .ref m_count, .ref m_nameSize, .ref m_names, .ref m_size, .ref m_data, .int 0, .ref m_looked, .int 0, .ref m_file, .int 0, .ref m_directory, .int 0, .ref m_out, .int 0, .ref m_row, .int 0, .int 0, .int 0, .int 0, .ref m_made, .ref m_length, .int 0, .int 0, .int 0, .int 0, .int 0, .ref m_pressed, .int 0, .int 0, .int 0, .ref m_mark, .int 0, .ref m_idSize, .ref m_ids, .ref m_goalSize, .ref m_goals, .int 0, .ref m_value, .int 0, .ref m_faults, .ref m_reached]))]) d_Mod_sum_12 0 9 t_Mod t_Mod_ok n_Mod rfl rfl (by decide) in_Mod k_1155 rfl (by decide +kernel) rfl rfl (Nat.le_of_ble_eq_true rfl) rfl ?_
  refine pb_aload_n (pc := 15) d_Mod_sum_15 1 rfl rfl ?_
  refine pb_get (pc := 16) d_Mod_sum_16 0 10 rfl rfl (by decide) in_Mod k_1156 rfl ?_
  refine pb_iconst (pc := 19) (v := 0) d_Mod_sum_19 (by decide) ?_
  refine pb_iload_n (pc := 20) d_Mod_sum_20 0 rfl rfl ?_
  refine pb_callS (pc := 21) (nA := 3) (rest := []) (wr := [(h, .inr (10, [.ref m_rels, .ref m_openRels, .ref m_closeRels, .ref m_openRel, .ref m_closeRel, .ref m_comment, .ref m_ends, .ref m_order, .int 0, .int 0, .ref m_tape, .ref m_count, .ref m_nameSize, .ref m_names, .ref m_size, .ref m_data, .int 0, .ref m_looked, .int 0, .ref m_file, .int 0, .ref m_directory, .int 0, .ref m_out, .int 0, .ref m_row, .int 0, .int 0, .int 0, .int 0, .ref m_made, .ref m_length, .int 0, .int 0, .int 0, .int 0, .int 0, .ref m_pressed, .int 0, .int 0, .int 0, .ref m_mark, .int 0, .ref m_idSize, .ref m_ids, .ref m_goalSize, .ref m_goals, .int 0, .ref m_value, .int 0, .ref m_faults, .ref m_reached]))]) d_Mod_sum_21 (c_Mod_sumOf0 hl G m_tape) [] [0] (by decide) rfl rfl rfl (by decide) (by decide) k_1372 rfl k_128 k_1370 k_1371 (by decide +kernel) (by decide) rfl rfl (Nat.le_of_ble_eq_true rfl) (by decide) (fun v9 u2 h1 => ?_)
  have eh1 := h1
  have eh1 : v9 = some (.int 0) := eh1
  subst eh1
  refine pb_eq (pc' := 24) (lo' := [(1, .int 0), (0, .ref h)]) (rest' := [.int 0]) (ws' := [(h, .inr (10, [.ref m_rels, .ref m_openRels, .ref m_closeRels, .ref m_openRel, .ref m_closeRel, .ref m_comment, .ref m_ends, .ref m_order, .int 0, .int 0, .ref m_tape, .ref m_count, .ref m_nameSize, .ref m_names, .ref m_size, .ref m_data, .int 0, .ref m_looked, .int 0, .ref m_file, .int 0, .ref m_directory, .int 0, .ref m_out, .int 0, .ref m_row, .int 0, .int 0, .int 0, .int 0, .ref m_made, .ref m_length, .int 0, .int 0, .int 0, .int 0, .int 0, .ref m_pressed, .int 0, .int 0, .int 0, .ref m_mark, .int 0, .ref m_idSize, .ref m_ids, .ref m_goalSize, .ref m_goals, .int 0, .ref m_value, .int 0, .ref m_faults, .ref m_reached]))]) ?_
  exact pb_iret (pc := 24) hQ d_Mod_sum_24 rfl rfl () rfl [] (by decide) rfl rfl (by decide) (by decide)

theorem d_Mod_file_0 : decode prog_12_method_53_code 0 = .ok (.aload_n 0, 1) := by decide +kernel
theorem d_Mod_file_1 : decode prog_12_method_53_code 1 = .ok (.iload_n 1, 1) := by decide +kernel
theorem d_Mod_file_2 : decode prog_12_method_53_code 2 = .ok (.ifCond .lt 11, 3) := by decide +kernel
theorem d_Mod_file_13 : decode prog_12_method_53_code 13 = .ok (.iconst 1, 1) := by decide +kernel
theorem d_Mod_file_14 : decode prog_12_method_53_code 14 = .ok (.goto 4, 3) := by decide +kernel
theorem d_Mod_file_18 : decode prog_12_method_53_code 18 = .ok (.putfield 103, 3) := by decide +kernel
theorem d_Mod_file_21 : decode prog_12_method_53_code 21 = .ok (.aload_n 0, 1) := by decide +kernel
theorem d_Mod_file_22 : decode prog_12_method_53_code 22 = .ok (.getfield 103, 3) := by decide +kernel
theorem d_Mod_file_25 : decode prog_12_method_53_code 25 = .ok (.ifCond .le 7, 3) := by decide +kernel
theorem d_Mod_file_28 : decode prog_12_method_53_code 28 = .ok (.iconst 0, 1) := by decide +kernel
theorem d_Mod_file_29 : decode prog_12_method_53_code 29 = .ok (.goto 13, 3) := by decide +kernel
theorem d_Mod_file_42 : decode prog_12_method_53_code 42 = .ok (.ireturn, 1) := by decide +kernel
theorem d_Mod_file_5 : decode prog_12_method_53_code 5 = .ok (.iload_n 1, 1) := by decide +kernel
theorem d_Mod_file_6 : decode prog_12_method_53_code 6 = .ok (.aload_n 0, 1) := by decide +kernel
theorem d_Mod_file_7 : decode prog_12_method_53_code 7 = .ok (.getfield 269, 3) := by decide +kernel
theorem k_1164 : (Jvm.Cond.fieldLink "PackageBookModel" (269 : Nat) "PackageBookModel" "fileSize" "I") ∈ uW := uW_of 1164 (by decide +kernel) (by decide +kernel)
theorem d_Mod_file_10 : decode prog_12_method_53_code 10 = .ok (.if_icmp .lt 7, 3) := by decide +kernel
abbrev y_Mod_file : MethodName := ⟨"PackageBookModel", "file", "(I)I"⟩
abbrev i_Mod_file : pb_I := (y_Mod_file, prog_12_method_53_code, 2, (some Jvm.ClassFile.FieldType.int), [], { frames := 0, cells := 0, slots := 0, locals := 0 })
set_option maxRecDepth 100000 in
set_option maxHeartbeats 4000000 in
theorem c_Mod_file {l : Launch} (hl : l.stackTraces = false) (G : pb_G) (h : Nat) (m_rels : Nat) (m_openRels : Nat) (m_closeRels : Nat) (m_openRel : Nat) (m_closeRel : Nat) (m_comment : Nat) (m_ends : Nat) (m_order : Nat) (m_tape : Nat) (m_count : Nat) (m_nameSize : Nat) (m_names : Nat) (m_size : Nat) (m_data : Nat) (m_looked : Nat) (m_file : Nat) (m_directory : Nat) (m_out : Nat) (m_row : Nat) (m_made : Nat) (m_length : Nat) (m_pressed : Nat) (m_mark : Nat) (m_idSize : Nat) (m_ids : Nat) (m_goalSize : Nat) (m_goals : Nat) (m_value : Nat) (m_faults : Nat) (m_reached : Nat) (i : Int32) : Cn l G i_Mod_file [.ref h, .int i] [(h, .inr (10, [.ref m_rels, .ref m_openRels, .ref m_closeRels, .ref m_openRel, .ref m_closeRel, .ref m_comment, .ref m_ends, .ref m_order, .int 0, .int 0, .ref m_tape, .ref m_count, .ref m_nameSize, .ref m_names, .ref m_size, .ref m_data, .int 0, .ref m_looked, .int 0, .ref m_file, .int 0, .ref m_directory, .int 0, .ref m_out, .int 0, .ref m_row, .int 0, .int 0, .int 0, .int 0, .ref m_made, .ref m_length, .int 0, .int 0, .int 0, .int 0, .int 0, .ref m_pressed, .int 0, .int 0, .int 0, .ref m_mark, .int 0, .ref m_idSize, .ref m_ids, .ref m_goalSize, .ref m_goals, .int 0, .ref m_value, .int 0, .ref m_faults, .ref m_reached]))] (S := Unit) (fun v u => v = some (.int 0)) (fun u => [(h, .inr (10, [.ref m_rels, .ref m_openRels, .ref m_closeRels, .ref m_openRel, .ref m_closeRel, .ref m_comment, .ref m_ends, .ref m_order, .int 1, .int 0, .ref m_tape, .ref m_count, .ref m_nameSize, .ref m_names, .ref m_size, .ref m_data, .int 0, .ref m_looked, .int 0, .ref m_file, .int 0, .ref m_directory, .int 0, .ref m_out, .int 0, .ref m_row, .int 0, .int 0, .int 0, .int 0, .ref m_made, .ref m_length, .int 0, .int 0, .int 0, .int 0, .int 0, .ref m_pressed, .int 0, .int 0, .int 0, .ref m_mark, .int 0, .ref m_idSize, .ref m_ids, .ref m_goalSize, .ref m_goals, .int 0, .ref m_value, .int 0, .ref m_faults, .ref m_reached]))]) := by
  refine Cn.of hl (by decide +kernel) rfl (Nat.le_of_ble_eq_true rfl) (fun M hQ => ?_)
  refine pb_eq (pc' := 0) (lo' := [(0, .ref h), (1, .int i)]) (rest' := []) (ws' := [(h, .inr (10, [.ref m_rels, .ref m_openRels, .ref m_closeRels, .ref m_openRel, .ref m_closeRel, .ref m_comment, .ref m_ends, .ref m_order, .int 0, .int 0, .ref m_tape, .ref m_count, .ref m_nameSize, .ref m_names, .ref m_size, .ref m_data, .int 0, .ref m_looked, .int 0, .ref m_file, .int 0, .ref m_directory, .int 0, .ref m_out, .int 0, .ref m_row, .int 0, .int 0, .int 0, .int 0, .ref m_made, .ref m_length, .int 0, .int 0, .int 0, .int 0, .int 0, .ref m_pressed, .int 0, .int 0, .int 0, .ref m_mark, .int 0, .ref m_idSize, .ref m_ids, .ref m_goalSize, .ref m_goals, .int 0, .ref m_value, .int 0, .ref m_faults, .ref m_reached]))]) ?_
  have z0 : (0 : Int32).toInt = 0 := by decide
  have z1 : (1 : Int32).toInt = 1 := by decide
  have z2 : (0 : Int32).toNatClampNeg = 0 := by decide
  refine pb_aload_n (pc := 0) d_Mod_file_0 0 rfl rfl ?_
  refine pb_iload_n (pc := 1) d_Mod_file_1 1 rfl rfl ?_
  refine pb_if_lt (pc := 2) (tgt := 13) d_Mod_file_2 (by decide) (fun w1 => ?_) (fun w1 => ?_)
  · have tw1 : i.toInt < 0 := (ti_lt rfl (by decide)).mp w1
    refine pb_iconst (pc := 13) (v := 1) d_Mod_file_13 (by decide) ?_
    refine pb_goto (pc := 14) (tgt := 18) d_Mod_file_14 (by decide) ?_
    refine pb_put (pc := 18) (ty := .int) (ws' := [(h, .inr (10, [.ref m_rels, .ref m_openRels, .ref m_closeRels, .ref m_openRel, .ref m_closeRel, .ref m_comment, .ref m_ends, .ref m_order, .int 1, .int 0, .ref m_tape, .ref m_count, .ref m_nameSize, .ref m_names, .ref m_size, .ref m_data, .int 0, .ref m_looked, .int 0, .ref m_file, .int 0, .ref m_directory, .int 0, .ref m_out, .int 0, .ref m_row, .int 0, .int 0, .int 0, .int 0, .ref m_made, .ref m_length, .int 0, .int 0, .int 0, .int 0, .int 0, .ref m_pressed, .int 0, .int 0, .int 0, .ref m_mark, .int 0, .ref m_idSize, .ref m_ids, .ref m_goalSize, .ref m_goals, .int 0, .ref m_value, .int 0, .ref m_faults, .ref m_reached]))]) d_Mod_file_18 0 8 t_Mod t_Mod_ok n_Mod rfl rfl (by decide) in_Mod k_1154 rfl (by decide +kernel) rfl rfl (Nat.le_of_ble_eq_true rfl) rfl ?_
    refine pb_aload_n (pc := 21) d_Mod_file_21 0 rfl rfl ?_
    refine pb_get (pc := 22) d_Mod_file_22 0 8 rfl rfl (by decide) in_Mod k_1154 rfl ?_
    refine pb_if_le (pc := 25) (tgt := 32) d_Mod_file_25 (by decide) (fun h9 => absurd h9 (by decide)) (fun _ => ?_)
    refine pb_iconst (pc := 28) (v := 0) d_Mod_file_28 (by decide) ?_
    refine pb_goto (pc := 29) (tgt := 42) d_Mod_file_29 (by decide) ?_
    exact pb_iret (pc := 42) hQ d_Mod_file_42 rfl rfl () rfl [0] (by decide) rfl rfl (by decide) (by decide)
  · have tw1 : ¬ i.toInt < 0 := fun z9 => w1 ((ti_lt rfl (by decide)).mpr z9)
    refine pb_iload_n (pc := 5) d_Mod_file_5 1 rfl rfl ?_
    refine pb_aload_n (pc := 6) d_Mod_file_6 0 rfl rfl ?_
    refine pb_get (pc := 7) d_Mod_file_7 0 18 rfl rfl (by decide) in_Mod k_1164 rfl ?_
    refine pb_icmp_lt (pc := 10) (tgt := 17) d_Mod_file_10 (by decide) (fun h9 => False.elim (by have t9 : i.toInt < 0 := (ti_lt rfl (by decide)).mp h9; omega)) (fun w3 => ?_)
    have tw3 : ¬ i.toInt < 0 := fun z9 => w3 ((ti_lt rfl (by decide)).mpr z9)
    refine pb_iconst (pc := 13) (v := 1) d_Mod_file_13 (by decide) ?_
    refine pb_goto (pc := 14) (tgt := 18) d_Mod_file_14 (by decide) ?_
    refine pb_put (pc := 18) (ty := .int) (ws' := [(h, .inr (10, [.ref m_rels, .ref m_openRels, .ref m_closeRels, .ref m_openRel, .ref m_closeRel, .ref m_comment, .ref m_ends, .ref m_order, .int 1, .int 0, .ref m_tape, .ref m_count, .ref m_nameSize, .ref m_names, .ref m_size, .ref m_data, .int 0, .ref m_looked, .int 0, .ref m_file, .int 0, .ref m_directory, .int 0, .ref m_out, .int 0, .ref m_row, .int 0, .int 0, .int 0, .int 0, .ref m_made, .ref m_length, .int 0, .int 0, .int 0, .int 0, .int 0, .ref m_pressed, .int 0, .int 0, .int 0, .ref m_mark, .int 0, .ref m_idSize, .ref m_ids, .ref m_goalSize, .ref m_goals, .int 0, .ref m_value, .int 0, .ref m_faults, .ref m_reached]))]) d_Mod_file_18 0 8 t_Mod t_Mod_ok n_Mod rfl rfl (by decide) in_Mod k_1154 rfl (by decide +kernel) rfl rfl (Nat.le_of_ble_eq_true rfl) rfl ?_
    refine pb_aload_n (pc := 21) d_Mod_file_21 0 rfl rfl ?_
    refine pb_get (pc := 22) d_Mod_file_22 0 8 rfl rfl (by decide) in_Mod k_1154 rfl ?_
    refine pb_if_le (pc := 25) (tgt := 32) d_Mod_file_25 (by decide) (fun h9 => absurd h9 (by decide)) (fun _ => ?_)
    refine pb_iconst (pc := 28) (v := 0) d_Mod_file_28 (by decide) ?_
    refine pb_goto (pc := 29) (tgt := 42) d_Mod_file_29 (by decide) ?_
    exact pb_iret (pc := 42) hQ d_Mod_file_42 rfl rfl () rfl [0] (by decide) rfl rfl (by decide) (by decide)

theorem d_Mod_out_0 : decode prog_12_method_48_code 0 = .ok (.aload_n 0, 1) := by decide +kernel
theorem d_Mod_out_1 : decode prog_12_method_48_code 1 = .ok (.iload_n 1, 1) := by decide +kernel
theorem d_Mod_out_2 : decode prog_12_method_48_code 2 = .ok (.ifCond .lt 11, 3) := by decide +kernel
theorem d_Mod_out_13 : decode prog_12_method_48_code 13 = .ok (.iconst 1, 1) := by decide +kernel
theorem d_Mod_out_14 : decode prog_12_method_48_code 14 = .ok (.goto 4, 3) := by decide +kernel
theorem d_Mod_out_18 : decode prog_12_method_48_code 18 = .ok (.putfield 103, 3) := by decide +kernel
theorem d_Mod_out_21 : decode prog_12_method_48_code 21 = .ok (.aload_n 0, 1) := by decide +kernel
theorem d_Mod_out_22 : decode prog_12_method_48_code 22 = .ok (.getfield 103, 3) := by decide +kernel
theorem d_Mod_out_25 : decode prog_12_method_48_code 25 = .ok (.ifCond .le 7, 3) := by decide +kernel
theorem d_Mod_out_28 : decode prog_12_method_48_code 28 = .ok (.iconst 0, 1) := by decide +kernel
theorem d_Mod_out_29 : decode prog_12_method_48_code 29 = .ok (.goto 13, 3) := by decide +kernel
theorem d_Mod_out_42 : decode prog_12_method_48_code 42 = .ok (.ireturn, 1) := by decide +kernel
theorem d_Mod_out_5 : decode prog_12_method_48_code 5 = .ok (.iload_n 1, 1) := by decide +kernel
theorem d_Mod_out_6 : decode prog_12_method_48_code 6 = .ok (.aload_n 0, 1) := by decide +kernel
theorem d_Mod_out_7 : decode prog_12_method_48_code 7 = .ok (.getfield 194, 3) := by decide +kernel
theorem k_1168 : (Jvm.Cond.fieldLink "PackageBookModel" (194 : Nat) "PackageBookModel" "outSize" "I") ∈ uW := uW_of 1168 (by decide +kernel) (by decide +kernel)
theorem d_Mod_out_10 : decode prog_12_method_48_code 10 = .ok (.if_icmp .lt 7, 3) := by decide +kernel
abbrev y_Mod_out : MethodName := ⟨"PackageBookModel", "out", "(I)I"⟩
abbrev i_Mod_out : pb_I := (y_Mod_out, prog_12_method_48_code, 2, (some Jvm.ClassFile.FieldType.int), [], { frames := 0, cells := 0, slots := 0, locals := 0 })
set_option maxRecDepth 100000 in
set_option maxHeartbeats 4000000 in
theorem c_Mod_out {l : Launch} (hl : l.stackTraces = false) (G : pb_G) (h : Nat) (m_rels : Nat) (m_openRels : Nat) (m_closeRels : Nat) (m_openRel : Nat) (m_closeRel : Nat) (m_comment : Nat) (m_ends : Nat) (m_order : Nat) (m_tape : Nat) (m_count : Nat) (m_nameSize : Nat) (m_names : Nat) (m_size : Nat) (m_data : Nat) (m_looked : Nat) (m_file : Nat) (m_directory : Nat) (m_out : Nat) (m_row : Nat) (m_made : Nat) (m_length : Nat) (m_pressed : Nat) (m_mark : Nat) (m_idSize : Nat) (m_ids : Nat) (m_goalSize : Nat) (m_goals : Nat) (m_value : Nat) (m_faults : Nat) (m_reached : Nat) (i : Int32) : Cn l G i_Mod_out [.ref h, .int i] [(h, .inr (10, [.ref m_rels, .ref m_openRels, .ref m_closeRels, .ref m_openRel, .ref m_closeRel, .ref m_comment, .ref m_ends, .ref m_order, .int 0, .int 0, .ref m_tape, .ref m_count, .ref m_nameSize, .ref m_names, .ref m_size, .ref m_data, .int 0, .ref m_looked, .int 0, .ref m_file, .int 0, .ref m_directory, .int 0, .ref m_out, .int 0, .ref m_row, .int 0, .int 0, .int 0, .int 0, .ref m_made, .ref m_length, .int 0, .int 0, .int 0, .int 0, .int 0, .ref m_pressed, .int 0, .int 0, .int 0, .ref m_mark, .int 0, .ref m_idSize, .ref m_ids, .ref m_goalSize, .ref m_goals, .int 0, .ref m_value, .int 0, .ref m_faults, .ref m_reached]))] (S := Unit) (fun v u => v = some (.int 0)) (fun u => [(h, .inr (10, [.ref m_rels, .ref m_openRels, .ref m_closeRels, .ref m_openRel, .ref m_closeRel, .ref m_comment, .ref m_ends, .ref m_order, .int 1, .int 0, .ref m_tape, .ref m_count, .ref m_nameSize, .ref m_names, .ref m_size, .ref m_data, .int 0, .ref m_looked, .int 0, .ref m_file, .int 0, .ref m_directory, .int 0, .ref m_out, .int 0, .ref m_row, .int 0, .int 0, .int 0, .int 0, .ref m_made, .ref m_length, .int 0, .int 0, .int 0, .int 0, .int 0, .ref m_pressed, .int 0, .int 0, .int 0, .ref m_mark, .int 0, .ref m_idSize, .ref m_ids, .ref m_goalSize, .ref m_goals, .int 0, .ref m_value, .int 0, .ref m_faults, .ref m_reached]))]) := by
  refine Cn.of hl (by decide +kernel) rfl (Nat.le_of_ble_eq_true rfl) (fun M hQ => ?_)
  refine pb_eq (pc' := 0) (lo' := [(0, .ref h), (1, .int i)]) (rest' := []) (ws' := [(h, .inr (10, [.ref m_rels, .ref m_openRels, .ref m_closeRels, .ref m_openRel, .ref m_closeRel, .ref m_comment, .ref m_ends, .ref m_order, .int 0, .int 0, .ref m_tape, .ref m_count, .ref m_nameSize, .ref m_names, .ref m_size, .ref m_data, .int 0, .ref m_looked, .int 0, .ref m_file, .int 0, .ref m_directory, .int 0, .ref m_out, .int 0, .ref m_row, .int 0, .int 0, .int 0, .int 0, .ref m_made, .ref m_length, .int 0, .int 0, .int 0, .int 0, .int 0, .ref m_pressed, .int 0, .int 0, .int 0, .ref m_mark, .int 0, .ref m_idSize, .ref m_ids, .ref m_goalSize, .ref m_goals, .int 0, .ref m_value, .int 0, .ref m_faults, .ref m_reached]))]) ?_
  have z0 : (0 : Int32).toInt = 0 := by decide
  have z1 : (1 : Int32).toInt = 1 := by decide
  have z2 : (0 : Int32).toNatClampNeg = 0 := by decide
  refine pb_aload_n (pc := 0) d_Mod_out_0 0 rfl rfl ?_
  refine pb_iload_n (pc := 1) d_Mod_out_1 1 rfl rfl ?_
  refine pb_if_lt (pc := 2) (tgt := 13) d_Mod_out_2 (by decide) (fun w1 => ?_) (fun w1 => ?_)
  · have tw1 : i.toInt < 0 := (ti_lt rfl (by decide)).mp w1
    refine pb_iconst (pc := 13) (v := 1) d_Mod_out_13 (by decide) ?_
    refine pb_goto (pc := 14) (tgt := 18) d_Mod_out_14 (by decide) ?_
    refine pb_put (pc := 18) (ty := .int) (ws' := [(h, .inr (10, [.ref m_rels, .ref m_openRels, .ref m_closeRels, .ref m_openRel, .ref m_closeRel, .ref m_comment, .ref m_ends, .ref m_order, .int 1, .int 0, .ref m_tape, .ref m_count, .ref m_nameSize, .ref m_names, .ref m_size, .ref m_data, .int 0, .ref m_looked, .int 0, .ref m_file, .int 0, .ref m_directory, .int 0, .ref m_out, .int 0, .ref m_row, .int 0, .int 0, .int 0, .int 0, .ref m_made, .ref m_length, .int 0, .int 0, .int 0, .int 0, .int 0, .ref m_pressed, .int 0, .int 0, .int 0, .ref m_mark, .int 0, .ref m_idSize, .ref m_ids, .ref m_goalSize, .ref m_goals, .int 0, .ref m_value, .int 0, .ref m_faults, .ref m_reached]))]) d_Mod_out_18 0 8 t_Mod t_Mod_ok n_Mod rfl rfl (by decide) in_Mod k_1154 rfl (by decide +kernel) rfl rfl (Nat.le_of_ble_eq_true rfl) rfl ?_
    refine pb_aload_n (pc := 21) d_Mod_out_21 0 rfl rfl ?_
    refine pb_get (pc := 22) d_Mod_out_22 0 8 rfl rfl (by decide) in_Mod k_1154 rfl ?_
    refine pb_if_le (pc := 25) (tgt := 32) d_Mod_out_25 (by decide) (fun h9 => absurd h9 (by decide)) (fun _ => ?_)
    refine pb_iconst (pc := 28) (v := 0) d_Mod_out_28 (by decide) ?_
    refine pb_goto (pc := 29) (tgt := 42) d_Mod_out_29 (by decide) ?_
    exact pb_iret (pc := 42) hQ d_Mod_out_42 rfl rfl () rfl [0] (by decide) rfl rfl (by decide) (by decide)
  · have tw1 : ¬ i.toInt < 0 := fun z9 => w1 ((ti_lt rfl (by decide)).mpr z9)
    refine pb_iload_n (pc := 5) d_Mod_out_5 1 rfl rfl ?_
    refine pb_aload_n (pc := 6) d_Mod_out_6 0 rfl rfl ?_
    refine pb_get (pc := 7) d_Mod_out_7 0 22 rfl rfl (by decide) in_Mod k_1168 rfl ?_
    refine pb_icmp_lt (pc := 10) (tgt := 17) d_Mod_out_10 (by decide) (fun h9 => False.elim (by have t9 : i.toInt < 0 := (ti_lt rfl (by decide)).mp h9; omega)) (fun w3 => ?_)
    have tw3 : ¬ i.toInt < 0 := fun z9 => w3 ((ti_lt rfl (by decide)).mpr z9)
    refine pb_iconst (pc := 13) (v := 1) d_Mod_out_13 (by decide) ?_
    refine pb_goto (pc := 14) (tgt := 18) d_Mod_out_14 (by decide) ?_
    refine pb_put (pc := 18) (ty := .int) (ws' := [(h, .inr (10, [.ref m_rels, .ref m_openRels, .ref m_closeRels, .ref m_openRel, .ref m_closeRel, .ref m_comment, .ref m_ends, .ref m_order, .int 1, .int 0, .ref m_tape, .ref m_count, .ref m_nameSize, .ref m_names, .ref m_size, .ref m_data, .int 0, .ref m_looked, .int 0, .ref m_file, .int 0, .ref m_directory, .int 0, .ref m_out, .int 0, .ref m_row, .int 0, .int 0, .int 0, .int 0, .ref m_made, .ref m_length, .int 0, .int 0, .int 0, .int 0, .int 0, .ref m_pressed, .int 0, .int 0, .int 0, .ref m_mark, .int 0, .ref m_idSize, .ref m_ids, .ref m_goalSize, .ref m_goals, .int 0, .ref m_value, .int 0, .ref m_faults, .ref m_reached]))]) d_Mod_out_18 0 8 t_Mod t_Mod_ok n_Mod rfl rfl (by decide) in_Mod k_1154 rfl (by decide +kernel) rfl rfl (Nat.le_of_ble_eq_true rfl) rfl ?_
    refine pb_aload_n (pc := 21) d_Mod_out_21 0 rfl rfl ?_
    refine pb_get (pc := 22) d_Mod_out_22 0 8 rfl rfl (by decide) in_Mod k_1154 rfl ?_
    refine pb_if_le (pc := 25) (tgt := 32) d_Mod_out_25 (by decide) (fun h9 => absurd h9 (by decide)) (fun _ => ?_)
    refine pb_iconst (pc := 28) (v := 0) d_Mod_out_28 (by decide) ?_
    refine pb_goto (pc := 29) (tgt := 42) d_Mod_out_29 (by decide) ?_
    exact pb_iret (pc := 42) hQ d_Mod_out_42 rfl rfl () rfl [0] (by decide) rfl rfl (by decide) (by decide)

theorem d_Mod_reread_0 : decode prog_12_method_60_code 0 = .ok (.aload_n 0, 1) := by decide +kernel
theorem d_Mod_reread_1 : decode prog_12_method_60_code 1 = .ok (.iload_n 1, 1) := by decide +kernel
theorem d_Mod_reread_2 : decode prog_12_method_60_code 2 = .ok (.ifCond .lt 11, 3) := by decide +kernel
theorem d_Mod_reread_13 : decode prog_12_method_60_code 13 = .ok (.iconst 1, 1) := by decide +kernel
theorem d_Mod_reread_14 : decode prog_12_method_60_code 14 = .ok (.goto 19, 3) := by decide +kernel
theorem d_Mod_reread_33 : decode prog_12_method_60_code 33 = .ok (.putfield 103, 3) := by decide +kernel
theorem d_Mod_reread_36 : decode prog_12_method_60_code 36 = .ok (.aload_n 0, 1) := by decide +kernel
theorem d_Mod_reread_37 : decode prog_12_method_60_code 37 = .ok (.getfield 103, 3) := by decide +kernel
theorem d_Mod_reread_40 : decode prog_12_method_60_code 40 = .ok (.ifCond .le 5, 3) := by decide +kernel
theorem d_Mod_reread_43 : decode prog_12_method_60_code 43 = .ok (.iconst 0, 1) := by decide +kernel
theorem d_Mod_reread_44 : decode prog_12_method_60_code 44 = .ok (.ireturn, 1) := by decide +kernel
theorem d_Mod_reread_5 : decode prog_12_method_60_code 5 = .ok (.iload_n 1, 1) := by decide +kernel
theorem d_Mod_reread_6 : decode prog_12_method_60_code 6 = .ok (.aload_n 0, 1) := by decide +kernel
theorem d_Mod_reread_7 : decode prog_12_method_60_code 7 = .ok (.getfield 269, 3) := by decide +kernel
theorem d_Mod_reread_10 : decode prog_12_method_60_code 10 = .ok (.if_icmp .lt 7, 3) := by decide +kernel
abbrev y_Mod_reread : MethodName := ⟨"PackageBookModel", "reread", "(II)I"⟩
abbrev i_Mod_reread : pb_I := (y_Mod_reread, prog_12_method_60_code, 4, (some Jvm.ClassFile.FieldType.int), [], { frames := 0, cells := 0, slots := 0, locals := 0 })
set_option maxRecDepth 100000 in
set_option maxHeartbeats 4000000 in
theorem c_Mod_reread {l : Launch} (hl : l.stackTraces = false) (G : pb_G) (h : Nat) (m_rels : Nat) (m_openRels : Nat) (m_closeRels : Nat) (m_openRel : Nat) (m_closeRel : Nat) (m_comment : Nat) (m_ends : Nat) (m_order : Nat) (m_tape : Nat) (m_count : Nat) (m_nameSize : Nat) (m_names : Nat) (m_size : Nat) (m_data : Nat) (m_looked : Nat) (m_file : Nat) (m_directory : Nat) (m_out : Nat) (m_row : Nat) (m_made : Nat) (m_length : Nat) (m_pressed : Nat) (m_mark : Nat) (m_idSize : Nat) (m_ids : Nat) (m_goalSize : Nat) (m_goals : Nat) (m_value : Nat) (m_faults : Nat) (m_reached : Nat) (i : Int32) (x : Int32) : Cn l G i_Mod_reread [.ref h, .int i, .int x] [(h, .inr (10, [.ref m_rels, .ref m_openRels, .ref m_closeRels, .ref m_openRel, .ref m_closeRel, .ref m_comment, .ref m_ends, .ref m_order, .int 0, .int 0, .ref m_tape, .ref m_count, .ref m_nameSize, .ref m_names, .ref m_size, .ref m_data, .int 0, .ref m_looked, .int 0, .ref m_file, .int 0, .ref m_directory, .int 0, .ref m_out, .int 0, .ref m_row, .int 0, .int 0, .int 0, .int 0, .ref m_made, .ref m_length, .int 0, .int 0, .int 0, .int 0, .int 0, .ref m_pressed, .int 0, .int 0, .int 0, .ref m_mark, .int 0, .ref m_idSize, .ref m_ids, .ref m_goalSize, .ref m_goals, .int 0, .ref m_value, .int 0, .ref m_faults, .ref m_reached]))] (S := Unit) (fun v u => v = some (.int 0)) (fun u => [(h, .inr (10, [.ref m_rels, .ref m_openRels, .ref m_closeRels, .ref m_openRel, .ref m_closeRel, .ref m_comment, .ref m_ends, .ref m_order, .int 1, .int 0, .ref m_tape, .ref m_count, .ref m_nameSize, .ref m_names, .ref m_size, .ref m_data, .int 0, .ref m_looked, .int 0, .ref m_file, .int 0, .ref m_directory, .int 0, .ref m_out, .int 0, .ref m_row, .int 0, .int 0, .int 0, .int 0, .ref m_made, .ref m_length, .int 0, .int 0, .int 0, .int 0, .int 0, .ref m_pressed, .int 0, .int 0, .int 0, .ref m_mark, .int 0, .ref m_idSize, .ref m_ids, .ref m_goalSize, .ref m_goals, .int 0, .ref m_value, .int 0, .ref m_faults, .ref m_reached]))]) := by
  refine Cn.of hl (by decide +kernel) rfl (Nat.le_of_ble_eq_true rfl) (fun M hQ => ?_)
  refine pb_eq (pc' := 0) (lo' := [(0, .ref h), (1, .int i), (2, .int x)]) (rest' := []) (ws' := [(h, .inr (10, [.ref m_rels, .ref m_openRels, .ref m_closeRels, .ref m_openRel, .ref m_closeRel, .ref m_comment, .ref m_ends, .ref m_order, .int 0, .int 0, .ref m_tape, .ref m_count, .ref m_nameSize, .ref m_names, .ref m_size, .ref m_data, .int 0, .ref m_looked, .int 0, .ref m_file, .int 0, .ref m_directory, .int 0, .ref m_out, .int 0, .ref m_row, .int 0, .int 0, .int 0, .int 0, .ref m_made, .ref m_length, .int 0, .int 0, .int 0, .int 0, .int 0, .ref m_pressed, .int 0, .int 0, .int 0, .ref m_mark, .int 0, .ref m_idSize, .ref m_ids, .ref m_goalSize, .ref m_goals, .int 0, .ref m_value, .int 0, .ref m_faults, .ref m_reached]))]) ?_
  have z0 : (0 : Int32).toInt = 0 := by decide
  have z1 : (1 : Int32).toInt = 1 := by decide
  have z2 : (0 : Int32).toNatClampNeg = 0 := by decide
  refine pb_aload_n (pc := 0) d_Mod_reread_0 0 rfl rfl ?_
  refine pb_iload_n (pc := 1) d_Mod_reread_1 1 rfl rfl ?_
  refine pb_if_lt (pc := 2) (tgt := 13) d_Mod_reread_2 (by decide) (fun w1 => ?_) (fun w1 => ?_)
  · have tw1 : i.toInt < 0 := (ti_lt rfl (by decide)).mp w1
    refine pb_iconst (pc := 13) (v := 1) d_Mod_reread_13 (by decide) ?_
    refine pb_goto (pc := 14) (tgt := 33) d_Mod_reread_14 (by decide) ?_
    refine pb_put (pc := 33) (ty := .int) (ws' := [(h, .inr (10, [.ref m_rels, .ref m_openRels, .ref m_closeRels, .ref m_openRel, .ref m_closeRel, .ref m_comment, .ref m_ends, .ref m_order, .int 1, .int 0, .ref m_tape, .ref m_count, .ref m_nameSize, .ref m_names, .ref m_size, .ref m_data, .int 0, .ref m_looked, .int 0, .ref m_file, .int 0, .ref m_directory, .int 0, .ref m_out, .int 0, .ref m_row, .int 0, .int 0, .int 0, .int 0, .ref m_made, .ref m_length, .int 0, .int 0, .int 0, .int 0, .int 0, .ref m_pressed, .int 0, .int 0, .int 0, .ref m_mark, .int 0, .ref m_idSize, .ref m_ids, .ref m_goalSize, .ref m_goals, .int 0, .ref m_value, .int 0, .ref m_faults, .ref m_reached]))]) d_Mod_reread_33 0 8 t_Mod t_Mod_ok n_Mod rfl rfl (by decide) in_Mod k_1154 rfl (by decide +kernel) rfl rfl (Nat.le_of_ble_eq_true rfl) rfl ?_
    refine pb_aload_n (pc := 36) d_Mod_reread_36 0 rfl rfl ?_
    refine pb_get (pc := 37) d_Mod_reread_37 0 8 rfl rfl (by decide) in_Mod k_1154 rfl ?_
    refine pb_if_le (pc := 40) (tgt := 45) d_Mod_reread_40 (by decide) (fun h9 => absurd h9 (by decide)) (fun _ => ?_)
    refine pb_iconst (pc := 43) (v := 0) d_Mod_reread_43 (by decide) ?_
    exact pb_iret (pc := 44) hQ d_Mod_reread_44 rfl rfl () rfl [0] (by decide) rfl rfl (by decide) (by decide)
  · have tw1 : ¬ i.toInt < 0 := fun z9 => w1 ((ti_lt rfl (by decide)).mpr z9)
    refine pb_iload_n (pc := 5) d_Mod_reread_5 1 rfl rfl ?_
    refine pb_aload_n (pc := 6) d_Mod_reread_6 0 rfl rfl ?_
    refine pb_get (pc := 7) d_Mod_reread_7 0 18 rfl rfl (by decide) in_Mod k_1164 rfl ?_
    refine pb_icmp_lt (pc := 10) (tgt := 17) d_Mod_reread_10 (by decide) (fun h9 => False.elim (by have t9 : i.toInt < 0 := (ti_lt rfl (by decide)).mp h9; omega)) (fun w3 => ?_)
    have tw3 : ¬ i.toInt < 0 := fun z9 => w3 ((ti_lt rfl (by decide)).mpr z9)
    refine pb_iconst (pc := 13) (v := 1) d_Mod_reread_13 (by decide) ?_
    refine pb_goto (pc := 14) (tgt := 33) d_Mod_reread_14 (by decide) ?_
    refine pb_put (pc := 33) (ty := .int) (ws' := [(h, .inr (10, [.ref m_rels, .ref m_openRels, .ref m_closeRels, .ref m_openRel, .ref m_closeRel, .ref m_comment, .ref m_ends, .ref m_order, .int 1, .int 0, .ref m_tape, .ref m_count, .ref m_nameSize, .ref m_names, .ref m_size, .ref m_data, .int 0, .ref m_looked, .int 0, .ref m_file, .int 0, .ref m_directory, .int 0, .ref m_out, .int 0, .ref m_row, .int 0, .int 0, .int 0, .int 0, .ref m_made, .ref m_length, .int 0, .int 0, .int 0, .int 0, .int 0, .ref m_pressed, .int 0, .int 0, .int 0, .ref m_mark, .int 0, .ref m_idSize, .ref m_ids, .ref m_goalSize, .ref m_goals, .int 0, .ref m_value, .int 0, .ref m_faults, .ref m_reached]))]) d_Mod_reread_33 0 8 t_Mod t_Mod_ok n_Mod rfl rfl (by decide) in_Mod k_1154 rfl (by decide +kernel) rfl rfl (Nat.le_of_ble_eq_true rfl) rfl ?_
    refine pb_aload_n (pc := 36) d_Mod_reread_36 0 rfl rfl ?_
    refine pb_get (pc := 37) d_Mod_reread_37 0 8 rfl rfl (by decide) in_Mod k_1154 rfl ?_
    refine pb_if_le (pc := 40) (tgt := 45) d_Mod_reread_40 (by decide) (fun h9 => absurd h9 (by decide)) (fun _ => ?_)
    refine pb_iconst (pc := 43) (v := 0) d_Mod_reread_43 (by decide) ?_
    exact pb_iret (pc := 44) hQ d_Mod_reread_44 rfl rfl () rfl [0] (by decide) rfl rfl (by decide) (by decide)

theorem d_Mod_fault_0 : decode prog_12_method_89_code 0 = .ok (.aload_n 0, 1) := by decide +kernel
theorem d_Mod_fault_1 : decode prog_12_method_89_code 1 = .ok (.iload_n 1, 1) := by decide +kernel
theorem d_Mod_fault_2 : decode prog_12_method_89_code 2 = .ok (.ifCond .lt 20, 3) := by decide +kernel
theorem d_Mod_fault_22 : decode prog_12_method_89_code 22 = .ok (.iconst 1, 1) := by decide +kernel
theorem d_Mod_fault_23 : decode prog_12_method_89_code 23 = .ok (.goto 4, 3) := by decide +kernel
theorem d_Mod_fault_27 : decode prog_12_method_89_code 27 = .ok (.putfield 103, 3) := by decide +kernel
theorem d_Mod_fault_30 : decode prog_12_method_89_code 30 = .ok (.aload_n 0, 1) := by decide +kernel
theorem d_Mod_fault_31 : decode prog_12_method_89_code 31 = .ok (.getfield 103, 3) := by decide +kernel
theorem d_Mod_fault_34 : decode prog_12_method_89_code 34 = .ok (.ifCond .le 7, 3) := by decide +kernel
theorem d_Mod_fault_37 : decode prog_12_method_89_code 37 = .ok (.iconst 0, 1) := by decide +kernel
theorem d_Mod_fault_38 : decode prog_12_method_89_code 38 = .ok (.goto 13, 3) := by decide +kernel
theorem d_Mod_fault_51 : decode prog_12_method_89_code 51 = .ok (.ireturn, 1) := by decide +kernel
theorem d_Mod_fault_5 : decode prog_12_method_89_code 5 = .ok (.iload_n 1, 1) := by decide +kernel
theorem d_Mod_fault_6 : decode prog_12_method_89_code 6 = .ok (.aload_n 0, 1) := by decide +kernel
theorem d_Mod_fault_7 : decode prog_12_method_89_code 7 = .ok (.getfield 410, 3) := by decide +kernel
theorem k_1195 : (Jvm.Cond.fieldLink "PackageBookModel" (410 : Nat) "PackageBookModel" "faultCount" "I") ∈ uW := uW_of 1195 (by decide +kernel) (by decide +kernel)
theorem d_Mod_fault_10 : decode prog_12_method_89_code 10 = .ok (.if_icmp .ge 12, 3) := by decide +kernel
abbrev y_Mod_fault : MethodName := ⟨"PackageBookModel", "fault", "(II)I"⟩
abbrev i_Mod_fault : pb_I := (y_Mod_fault, prog_12_method_89_code, 3, (some Jvm.ClassFile.FieldType.int), [], { frames := 0, cells := 0, slots := 0, locals := 0 })
set_option maxRecDepth 100000 in
set_option maxHeartbeats 4000000 in
theorem c_Mod_fault {l : Launch} (hl : l.stackTraces = false) (G : pb_G) (h : Nat) (m_rels : Nat) (m_openRels : Nat) (m_closeRels : Nat) (m_openRel : Nat) (m_closeRel : Nat) (m_comment : Nat) (m_ends : Nat) (m_order : Nat) (m_tape : Nat) (m_count : Nat) (m_nameSize : Nat) (m_names : Nat) (m_size : Nat) (m_data : Nat) (m_looked : Nat) (m_file : Nat) (m_directory : Nat) (m_out : Nat) (m_row : Nat) (m_made : Nat) (m_length : Nat) (m_pressed : Nat) (m_mark : Nat) (m_idSize : Nat) (m_ids : Nat) (m_goalSize : Nat) (m_goals : Nat) (m_value : Nat) (m_faults : Nat) (m_reached : Nat) (i : Int32) (x : Int32) : Cn l G i_Mod_fault [.ref h, .int i, .int x] [(h, .inr (10, [.ref m_rels, .ref m_openRels, .ref m_closeRels, .ref m_openRel, .ref m_closeRel, .ref m_comment, .ref m_ends, .ref m_order, .int 0, .int 0, .ref m_tape, .ref m_count, .ref m_nameSize, .ref m_names, .ref m_size, .ref m_data, .int 0, .ref m_looked, .int 0, .ref m_file, .int 0, .ref m_directory, .int 0, .ref m_out, .int 0, .ref m_row, .int 0, .int 0, .int 0, .int 0, .ref m_made, .ref m_length, .int 0, .int 0, .int 0, .int 0, .int 0, .ref m_pressed, .int 0, .int 0, .int 0, .ref m_mark, .int 0, .ref m_idSize, .ref m_ids, .ref m_goalSize, .ref m_goals, .int 0, .ref m_value, .int 0, .ref m_faults, .ref m_reached]))] (S := Unit) (fun v u => v = some (.int 0)) (fun u => [(h, .inr (10, [.ref m_rels, .ref m_openRels, .ref m_closeRels, .ref m_openRel, .ref m_closeRel, .ref m_comment, .ref m_ends, .ref m_order, .int 1, .int 0, .ref m_tape, .ref m_count, .ref m_nameSize, .ref m_names, .ref m_size, .ref m_data, .int 0, .ref m_looked, .int 0, .ref m_file, .int 0, .ref m_directory, .int 0, .ref m_out, .int 0, .ref m_row, .int 0, .int 0, .int 0, .int 0, .ref m_made, .ref m_length, .int 0, .int 0, .int 0, .int 0, .int 0, .ref m_pressed, .int 0, .int 0, .int 0, .ref m_mark, .int 0, .ref m_idSize, .ref m_ids, .ref m_goalSize, .ref m_goals, .int 0, .ref m_value, .int 0, .ref m_faults, .ref m_reached]))]) := by
  refine Cn.of hl (by decide +kernel) rfl (Nat.le_of_ble_eq_true rfl) (fun M hQ => ?_)
  refine pb_eq (pc' := 0) (lo' := [(0, .ref h), (1, .int i), (2, .int x)]) (rest' := []) (ws' := [(h, .inr (10, [.ref m_rels, .ref m_openRels, .ref m_closeRels, .ref m_openRel, .ref m_closeRel, .ref m_comment, .ref m_ends, .ref m_order, .int 0, .int 0, .ref m_tape, .ref m_count, .ref m_nameSize, .ref m_names, .ref m_size, .ref m_data, .int 0, .ref m_looked, .int 0, .ref m_file, .int 0, .ref m_directory, .int 0, .ref m_out, .int 0, .ref m_row, .int 0, .int 0, .int 0, .int 0, .ref m_made, .ref m_length, .int 0, .int 0, .int 0, .int 0, .int 0, .ref m_pressed, .int 0, .int 0, .int 0, .ref m_mark, .int 0, .ref m_idSize, .ref m_ids, .ref m_goalSize, .ref m_goals, .int 0, .ref m_value, .int 0, .ref m_faults, .ref m_reached]))]) ?_
  have z0 : (0 : Int32).toInt = 0 := by decide
  have z1 : (1 : Int32).toInt = 1 := by decide
  have z2 : (0 : Int32).toNatClampNeg = 0 := by decide
  refine pb_aload_n (pc := 0) d_Mod_fault_0 0 rfl rfl ?_
  refine pb_iload_n (pc := 1) d_Mod_fault_1 1 rfl rfl ?_
  refine pb_if_lt (pc := 2) (tgt := 22) d_Mod_fault_2 (by decide) (fun w1 => ?_) (fun w1 => ?_)
  · have tw1 : i.toInt < 0 := (ti_lt rfl (by decide)).mp w1
    refine pb_iconst (pc := 22) (v := 1) d_Mod_fault_22 (by decide) ?_
    refine pb_goto (pc := 23) (tgt := 27) d_Mod_fault_23 (by decide) ?_
    refine pb_put (pc := 27) (ty := .int) (ws' := [(h, .inr (10, [.ref m_rels, .ref m_openRels, .ref m_closeRels, .ref m_openRel, .ref m_closeRel, .ref m_comment, .ref m_ends, .ref m_order, .int 1, .int 0, .ref m_tape, .ref m_count, .ref m_nameSize, .ref m_names, .ref m_size, .ref m_data, .int 0, .ref m_looked, .int 0, .ref m_file, .int 0, .ref m_directory, .int 0, .ref m_out, .int 0, .ref m_row, .int 0, .int 0, .int 0, .int 0, .ref m_made, .ref m_length, .int 0, .int 0, .int 0, .int 0, .int 0, .ref m_pressed, .int 0, .int 0, .int 0, .ref m_mark, .int 0, .ref m_idSize, .ref m_ids, .ref m_goalSize, .ref m_goals, .int 0, .ref m_value, .int 0, .ref m_faults, .ref m_reached]))]) d_Mod_fault_27 0 8 t_Mod t_Mod_ok n_Mod rfl rfl (by decide) in_Mod k_1154 rfl (by decide +kernel) rfl rfl (Nat.le_of_ble_eq_true rfl) rfl ?_
    refine pb_aload_n (pc := 30) d_Mod_fault_30 0 rfl rfl ?_
    refine pb_get (pc := 31) d_Mod_fault_31 0 8 rfl rfl (by decide) in_Mod k_1154 rfl ?_
    refine pb_if_le (pc := 34) (tgt := 41) d_Mod_fault_34 (by decide) (fun h9 => absurd h9 (by decide)) (fun _ => ?_)
    refine pb_iconst (pc := 37) (v := 0) d_Mod_fault_37 (by decide) ?_
    refine pb_goto (pc := 38) (tgt := 51) d_Mod_fault_38 (by decide) ?_
    exact pb_iret (pc := 51) hQ d_Mod_fault_51 rfl rfl () rfl [0] (by decide) rfl rfl (by decide) (by decide)
  · have tw1 : ¬ i.toInt < 0 := fun z9 => w1 ((ti_lt rfl (by decide)).mpr z9)
    refine pb_iload_n (pc := 5) d_Mod_fault_5 1 rfl rfl ?_
    refine pb_aload_n (pc := 6) d_Mod_fault_6 0 rfl rfl ?_
    refine pb_get (pc := 7) d_Mod_fault_7 0 49 rfl rfl (by decide) in_Mod k_1195 rfl ?_
    refine pb_icmp_ge (pc := 10) (tgt := 22) d_Mod_fault_10 (by decide) (fun w3 => ?_) (fun h9 => False.elim (by have t9 : ¬ 0 ≤ i.toInt := fun z9 => h9 ((ti_le (by decide) rfl).mpr z9); omega))
    have tw3 : 0 ≤ i.toInt := (ti_le (by decide) rfl).mp w3
    refine pb_iconst (pc := 22) (v := 1) d_Mod_fault_22 (by decide) ?_
    refine pb_goto (pc := 23) (tgt := 27) d_Mod_fault_23 (by decide) ?_
    refine pb_put (pc := 27) (ty := .int) (ws' := [(h, .inr (10, [.ref m_rels, .ref m_openRels, .ref m_closeRels, .ref m_openRel, .ref m_closeRel, .ref m_comment, .ref m_ends, .ref m_order, .int 1, .int 0, .ref m_tape, .ref m_count, .ref m_nameSize, .ref m_names, .ref m_size, .ref m_data, .int 0, .ref m_looked, .int 0, .ref m_file, .int 0, .ref m_directory, .int 0, .ref m_out, .int 0, .ref m_row, .int 0, .int 0, .int 0, .int 0, .ref m_made, .ref m_length, .int 0, .int 0, .int 0, .int 0, .int 0, .ref m_pressed, .int 0, .int 0, .int 0, .ref m_mark, .int 0, .ref m_idSize, .ref m_ids, .ref m_goalSize, .ref m_goals, .int 0, .ref m_value, .int 0, .ref m_faults, .ref m_reached]))]) d_Mod_fault_27 0 8 t_Mod t_Mod_ok n_Mod rfl rfl (by decide) in_Mod k_1154 rfl (by decide +kernel) rfl rfl (Nat.le_of_ble_eq_true rfl) rfl ?_
    refine pb_aload_n (pc := 30) d_Mod_fault_30 0 rfl rfl ?_
    refine pb_get (pc := 31) d_Mod_fault_31 0 8 rfl rfl (by decide) in_Mod k_1154 rfl ?_
    refine pb_if_le (pc := 34) (tgt := 41) d_Mod_fault_34 (by decide) (fun h9 => absurd h9 (by decide)) (fun _ => ?_)
    refine pb_iconst (pc := 37) (v := 0) d_Mod_fault_37 (by decide) ?_
    refine pb_goto (pc := 38) (tgt := 51) d_Mod_fault_38 (by decide) ?_
    exact pb_iret (pc := 51) hQ d_Mod_fault_51 rfl rfl () rfl [0] (by decide) rfl rfl (by decide) (by decide)

theorem d_Mod_relations_0 : decode prog_12_method_90_code 0 = .ok (.aload_n 0, 1) := by decide +kernel
theorem d_Mod_relations_1 : decode prog_12_method_90_code 1 = .ok (.iload_n 1, 1) := by decide +kernel
theorem d_Mod_relations_2 : decode prog_12_method_90_code 2 = .ok (.ifCond .lt 13, 3) := by decide +kernel
theorem d_Mod_relations_15 : decode prog_12_method_90_code 15 = .ok (.iconst 1, 1) := by decide +kernel
theorem d_Mod_relations_16 : decode prog_12_method_90_code 16 = .ok (.goto 4, 3) := by decide +kernel
theorem d_Mod_relations_20 : decode prog_12_method_90_code 20 = .ok (.putfield 103, 3) := by decide +kernel
theorem d_Mod_relations_23 : decode prog_12_method_90_code 23 = .ok (.aload_n 0, 1) := by decide +kernel
theorem d_Mod_relations_24 : decode prog_12_method_90_code 24 = .ok (.getfield 103, 3) := by decide +kernel
theorem d_Mod_relations_27 : decode prog_12_method_90_code 27 = .ok (.ifCond .le 5, 3) := by decide +kernel
theorem d_Mod_relations_30 : decode prog_12_method_90_code 30 = .ok (.iconst 0, 1) := by decide +kernel
theorem d_Mod_relations_31 : decode prog_12_method_90_code 31 = .ok (.ireturn, 1) := by decide +kernel
theorem d_Mod_relations_5 : decode prog_12_method_90_code 5 = .ok (.iload_n 1, 1) := by decide +kernel
theorem d_Mod_relations_6 : decode prog_12_method_90_code 6 = .ok (.aload_n 0, 1) := by decide +kernel
theorem d_Mod_relations_7 : decode prog_12_method_90_code 7 = .ok (.getfield 37, 3) := by decide +kernel
theorem d_Mod_relations_10 : decode prog_12_method_90_code 10 = .ok (.iconst 0, 1) := by decide +kernel
theorem d_Mod_relations_11 : decode prog_12_method_90_code 11 = .ok (.iaload, 1) := by decide +kernel
theorem d_Mod_relations_12 : decode prog_12_method_90_code 12 = .ok (.if_icmp .lt 7, 3) := by decide +kernel
abbrev y_Mod_relations : MethodName := ⟨"PackageBookModel", "relations", "(I)I"⟩
abbrev i_Mod_relations : pb_I := (y_Mod_relations, prog_12_method_90_code, 2, (some Jvm.ClassFile.FieldType.int), [], { frames := 0, cells := 0, slots := 0, locals := 0 })
set_option maxRecDepth 100000 in
set_option maxHeartbeats 4000000 in
theorem c_Mod_relations {l : Launch} (hl : l.stackTraces = false) (G : pb_G) (h : Nat) (m_rels : Nat) (m_openRels : Nat) (m_closeRels : Nat) (m_openRel : Nat) (m_closeRel : Nat) (m_comment : Nat) (m_ends : Nat) (m_order : Nat) (m_tape : Nat) (m_count : Nat) (m_nameSize : Nat) (m_names : Nat) (m_size : Nat) (m_data : Nat) (m_looked : Nat) (m_file : Nat) (m_directory : Nat) (m_out : Nat) (m_row : Nat) (m_made : Nat) (m_length : Nat) (m_pressed : Nat) (m_mark : Nat) (m_idSize : Nat) (m_ids : Nat) (m_goalSize : Nat) (m_goals : Nat) (m_value : Nat) (m_faults : Nat) (m_reached : Nat) (i : Int32) : Cn l G i_Mod_relations [.ref h, .int i] [(h, .inr (10, [.ref m_rels, .ref m_openRels, .ref m_closeRels, .ref m_openRel, .ref m_closeRel, .ref m_comment, .ref m_ends, .ref m_order, .int 0, .int 0, .ref m_tape, .ref m_count, .ref m_nameSize, .ref m_names, .ref m_size, .ref m_data, .int 0, .ref m_looked, .int 0, .ref m_file, .int 0, .ref m_directory, .int 0, .ref m_out, .int 0, .ref m_row, .int 0, .int 0, .int 0, .int 0, .ref m_made, .ref m_length, .int 0, .int 0, .int 0, .int 0, .int 0, .ref m_pressed, .int 0, .int 0, .int 0, .ref m_mark, .int 0, .ref m_idSize, .ref m_ids, .ref m_goalSize, .ref m_goals, .int 0, .ref m_value, .int 0, .ref m_faults, .ref m_reached])), (m_count, .inl (G.2.2.1, 2, .inl (fun _ => 0)))] (S := Unit) (fun v u => v = some (.int 0)) (fun u => [(h, .inr (10, [.ref m_rels, .ref m_openRels, .ref m_closeRels, .ref m_openRel, .ref m_closeRel, .ref m_comment, .ref m_ends, .ref m_order, .int 1, .int 0, .ref m_tape, .ref m_count, .ref m_nameSize, .ref m_names, .ref m_size, .ref m_data, .int 0, .ref m_looked, .int 0, .ref m_file, .int 0, .ref m_directory, .int 0, .ref m_out, .int 0, .ref m_row, .int 0, .int 0, .int 0, .int 0, .ref m_made, .ref m_length, .int 0, .int 0, .int 0, .int 0, .int 0, .ref m_pressed, .int 0, .int 0, .int 0, .ref m_mark, .int 0, .ref m_idSize, .ref m_ids, .ref m_goalSize, .ref m_goals, .int 0, .ref m_value, .int 0, .ref m_faults, .ref m_reached]))]) := by
  refine Cn.of hl (by decide +kernel) rfl (Nat.le_of_ble_eq_true rfl) (fun M hQ => ?_)
  refine pb_eq (pc' := 0) (lo' := [(0, .ref h), (1, .int i)]) (rest' := []) (ws' := [(h, .inr (10, [.ref m_rels, .ref m_openRels, .ref m_closeRels, .ref m_openRel, .ref m_closeRel, .ref m_comment, .ref m_ends, .ref m_order, .int 0, .int 0, .ref m_tape, .ref m_count, .ref m_nameSize, .ref m_names, .ref m_size, .ref m_data, .int 0, .ref m_looked, .int 0, .ref m_file, .int 0, .ref m_directory, .int 0, .ref m_out, .int 0, .ref m_row, .int 0, .int 0, .int 0, .int 0, .ref m_made, .ref m_length, .int 0, .int 0, .int 0, .int 0, .int 0, .ref m_pressed, .int 0, .int 0, .int 0, .ref m_mark, .int 0, .ref m_idSize, .ref m_ids, .ref m_goalSize, .ref m_goals, .int 0, .ref m_value, .int 0, .ref m_faults, .ref m_reached])), (m_count, .inl (G.2.2.1, 2, .inl (fun _ => 0)))]) ?_
  have z0 : (0 : Int32).toInt = 0 := by decide
  have z1 : (1 : Int32).toInt = 1 := by decide
  have z2 : (0 : Int32).toNatClampNeg = 0 := by decide
  refine pb_aload_n (pc := 0) d_Mod_relations_0 0 rfl rfl ?_
  refine pb_iload_n (pc := 1) d_Mod_relations_1 1 rfl rfl ?_
  refine pb_if_lt (pc := 2) (tgt := 15) d_Mod_relations_2 (by decide) (fun w1 => ?_) (fun w1 => ?_)
  · have tw1 : i.toInt < 0 := (ti_lt rfl (by decide)).mp w1
    refine pb_iconst (pc := 15) (v := 1) d_Mod_relations_15 (by decide) ?_
    refine pb_goto (pc := 16) (tgt := 20) d_Mod_relations_16 (by decide) ?_
    refine pb_put (pc := 20) (ty := .int) (ws' := [(h, .inr (10, [.ref m_rels, .ref m_openRels, .ref m_closeRels, .ref m_openRel, .ref m_closeRel, .ref m_comment, .ref m_ends, .ref m_order, .int 1, .int 0, .ref m_tape, .ref m_count, .ref m_nameSize, .ref m_names, .ref m_size, .ref m_data, .int 0, .ref m_looked, .int 0, .ref m_file, .int 0, .ref m_directory, .int 0, .ref m_out, .int 0, .ref m_row, .int 0, .int 0, .int 0, .int 0, .ref m_made, .ref m_length, .int 0, .int 0, .int 0, .int 0, .int 0, .ref m_pressed, .int 0, .int 0, .int 0, .ref m_mark, .int 0, .ref m_idSize, .ref m_ids, .ref m_goalSize, .ref m_goals, .int 0, .ref m_value, .int 0, .ref m_faults, .ref m_reached])), (m_count, .inl (G.2.2.1, 2, .inl (fun _ => 0)))]) d_Mod_relations_20 0 8 t_Mod t_Mod_ok n_Mod rfl rfl (by decide) in_Mod k_1154 rfl (by decide +kernel) rfl rfl (Nat.le_of_ble_eq_true rfl) rfl ?_
    refine pb_aload_n (pc := 23) d_Mod_relations_23 0 rfl rfl ?_
    refine pb_get (pc := 24) d_Mod_relations_24 0 8 rfl rfl (by decide) in_Mod k_1154 rfl ?_
    refine pb_if_le (pc := 27) (tgt := 32) d_Mod_relations_27 (by decide) (fun h9 => absurd h9 (by decide)) (fun _ => ?_)
    refine pb_iconst (pc := 30) (v := 0) d_Mod_relations_30 (by decide) ?_
    exact pb_iret (pc := 31) hQ d_Mod_relations_31 rfl rfl () rfl [0] (by decide) rfl rfl (by decide) (by decide)
  · have tw1 : ¬ i.toInt < 0 := fun z9 => w1 ((ti_lt rfl (by decide)).mpr z9)
    refine pb_iload_n (pc := 5) d_Mod_relations_5 1 rfl rfl ?_
    refine pb_aload_n (pc := 6) d_Mod_relations_6 0 rfl rfl ?_
    refine pb_get (pc := 7) d_Mod_relations_7 0 11 rfl rfl (by decide) in_Mod k_1157 rfl ?_
    refine pb_iconst (pc := 10) (v := 0) d_Mod_relations_10 (by decide) ?_
    refine pb_iald (pc := 11) d_Mod_relations_11 1 rfl (by unfold vp_in; decide) ?_
    refine pb_asi (y := 0) rfl ?_
    refine pb_icmp_lt (pc := 12) (tgt := 19) d_Mod_relations_12 (by decide) (fun h9 => False.elim (by have t9 : i.toInt < 0 := (ti_lt rfl (by decide)).mp h9; omega)) (fun w3 => ?_)
    have tw3 : ¬ i.toInt < 0 := fun z9 => w3 ((ti_lt rfl (by decide)).mpr z9)
    refine pb_iconst (pc := 15) (v := 1) d_Mod_relations_15 (by decide) ?_
    refine pb_goto (pc := 16) (tgt := 20) d_Mod_relations_16 (by decide) ?_
    refine pb_put (pc := 20) (ty := .int) (ws' := [(h, .inr (10, [.ref m_rels, .ref m_openRels, .ref m_closeRels, .ref m_openRel, .ref m_closeRel, .ref m_comment, .ref m_ends, .ref m_order, .int 1, .int 0, .ref m_tape, .ref m_count, .ref m_nameSize, .ref m_names, .ref m_size, .ref m_data, .int 0, .ref m_looked, .int 0, .ref m_file, .int 0, .ref m_directory, .int 0, .ref m_out, .int 0, .ref m_row, .int 0, .int 0, .int 0, .int 0, .ref m_made, .ref m_length, .int 0, .int 0, .int 0, .int 0, .int 0, .ref m_pressed, .int 0, .int 0, .int 0, .ref m_mark, .int 0, .ref m_idSize, .ref m_ids, .ref m_goalSize, .ref m_goals, .int 0, .ref m_value, .int 0, .ref m_faults, .ref m_reached])), (m_count, .inl (G.2.2.1, 2, .inl (fun _ => 0)))]) d_Mod_relations_20 0 8 t_Mod t_Mod_ok n_Mod rfl rfl (by decide) in_Mod k_1154 rfl (by decide +kernel) rfl rfl (Nat.le_of_ble_eq_true rfl) rfl ?_
    refine pb_aload_n (pc := 23) d_Mod_relations_23 0 rfl rfl ?_
    refine pb_get (pc := 24) d_Mod_relations_24 0 8 rfl rfl (by decide) in_Mod k_1154 rfl ?_
    refine pb_if_le (pc := 27) (tgt := 32) d_Mod_relations_27 (by decide) (fun h9 => absurd h9 (by decide)) (fun _ => ?_)
    refine pb_iconst (pc := 30) (v := 0) d_Mod_relations_30 (by decide) ?_
    exact pb_iret (pc := 31) hQ d_Mod_relations_31 rfl rfl () rfl [0] (by decide) rfl rfl (by decide) (by decide)

theorem d_Mod_relation_0 : decode prog_12_method_91_code 0 = .ok (.iload_n 1, 1) := by decide +kernel
theorem d_Mod_relation_1 : decode prog_12_method_91_code 1 = .ok (.ifCond .lt 25, 3) := by decide +kernel
theorem d_Mod_relation_26 : decode prog_12_method_91_code 26 = .ok (.iconst 0, 1) := by decide +kernel
theorem d_Mod_relation_27 : decode prog_12_method_91_code 27 = .ok (.istore_n 3, 1) := by decide +kernel
theorem d_Mod_relation_28 : decode prog_12_method_91_code 28 = .ok (.aload_n 0, 1) := by decide +kernel
theorem d_Mod_relation_29 : decode prog_12_method_91_code 29 = .ok (.iload_n 3, 1) := by decide +kernel
theorem d_Mod_relation_30 : decode prog_12_method_91_code 30 = .ok (.ifCond .eq 19, 3) := by decide +kernel
theorem d_Mod_relation_49 : decode prog_12_method_91_code 49 = .ok (.iconst 1, 1) := by decide +kernel
theorem d_Mod_relation_50 : decode prog_12_method_91_code 50 = .ok (.putfield 103, 3) := by decide +kernel
theorem d_Mod_relation_53 : decode prog_12_method_91_code 53 = .ok (.aload_n 0, 1) := by decide +kernel
theorem d_Mod_relation_54 : decode prog_12_method_91_code 54 = .ok (.getfield 103, 3) := by decide +kernel
theorem d_Mod_relation_57 : decode prog_12_method_91_code 57 = .ok (.ifCond .le 7, 3) := by decide +kernel
theorem d_Mod_relation_60 : decode prog_12_method_91_code 60 = .ok (.iconst 0, 1) := by decide +kernel
theorem d_Mod_relation_61 : decode prog_12_method_91_code 61 = .ok (.goto 8, 3) := by decide +kernel
theorem d_Mod_relation_69 : decode prog_12_method_91_code 69 = .ok (.ireturn, 1) := by decide +kernel
theorem d_Mod_relation_4 : decode prog_12_method_91_code 4 = .ok (.iload_n 1, 1) := by decide +kernel
theorem d_Mod_relation_5 : decode prog_12_method_91_code 5 = .ok (.aload_n 0, 1) := by decide +kernel
theorem d_Mod_relation_6 : decode prog_12_method_91_code 6 = .ok (.getfield 37, 3) := by decide +kernel
theorem d_Mod_relation_9 : decode prog_12_method_91_code 9 = .ok (.iconst 0, 1) := by decide +kernel
theorem d_Mod_relation_10 : decode prog_12_method_91_code 10 = .ok (.iaload, 1) := by decide +kernel
theorem d_Mod_relation_11 : decode prog_12_method_91_code 11 = .ok (.if_icmp .ge 15, 3) := by decide +kernel
abbrev y_Mod_relation : MethodName := ⟨"PackageBookModel", "relation", "(II)I"⟩
abbrev i_Mod_relation : pb_I := (y_Mod_relation, prog_12_method_91_code, 4, (some Jvm.ClassFile.FieldType.int), [], { frames := 0, cells := 0, slots := 0, locals := 0 })
set_option maxRecDepth 100000 in
set_option maxHeartbeats 4000000 in
theorem c_Mod_relation {l : Launch} (hl : l.stackTraces = false) (G : pb_G) (h : Nat) (m_rels : Nat) (m_openRels : Nat) (m_closeRels : Nat) (m_openRel : Nat) (m_closeRel : Nat) (m_comment : Nat) (m_ends : Nat) (m_order : Nat) (m_tape : Nat) (m_count : Nat) (m_nameSize : Nat) (m_names : Nat) (m_size : Nat) (m_data : Nat) (m_looked : Nat) (m_file : Nat) (m_directory : Nat) (m_out : Nat) (m_row : Nat) (m_made : Nat) (m_length : Nat) (m_pressed : Nat) (m_mark : Nat) (m_idSize : Nat) (m_ids : Nat) (m_goalSize : Nat) (m_goals : Nat) (m_value : Nat) (m_faults : Nat) (m_reached : Nat) (i : Int32) (x : Int32) : Cn l G i_Mod_relation [.ref h, .int i, .int x] [(h, .inr (10, [.ref m_rels, .ref m_openRels, .ref m_closeRels, .ref m_openRel, .ref m_closeRel, .ref m_comment, .ref m_ends, .ref m_order, .int 0, .int 0, .ref m_tape, .ref m_count, .ref m_nameSize, .ref m_names, .ref m_size, .ref m_data, .int 0, .ref m_looked, .int 0, .ref m_file, .int 0, .ref m_directory, .int 0, .ref m_out, .int 0, .ref m_row, .int 0, .int 0, .int 0, .int 0, .ref m_made, .ref m_length, .int 0, .int 0, .int 0, .int 0, .int 0, .ref m_pressed, .int 0, .int 0, .int 0, .ref m_mark, .int 0, .ref m_idSize, .ref m_ids, .ref m_goalSize, .ref m_goals, .int 0, .ref m_value, .int 0, .ref m_faults, .ref m_reached])), (m_count, .inl (G.2.2.1, 2, .inl (fun _ => 0)))] (S := Unit) (fun v u => v = some (.int 0)) (fun u => [(h, .inr (10, [.ref m_rels, .ref m_openRels, .ref m_closeRels, .ref m_openRel, .ref m_closeRel, .ref m_comment, .ref m_ends, .ref m_order, .int 1, .int 0, .ref m_tape, .ref m_count, .ref m_nameSize, .ref m_names, .ref m_size, .ref m_data, .int 0, .ref m_looked, .int 0, .ref m_file, .int 0, .ref m_directory, .int 0, .ref m_out, .int 0, .ref m_row, .int 0, .int 0, .int 0, .int 0, .ref m_made, .ref m_length, .int 0, .int 0, .int 0, .int 0, .int 0, .ref m_pressed, .int 0, .int 0, .int 0, .ref m_mark, .int 0, .ref m_idSize, .ref m_ids, .ref m_goalSize, .ref m_goals, .int 0, .ref m_value, .int 0, .ref m_faults, .ref m_reached]))]) := by
  refine Cn.of hl (by decide +kernel) rfl (Nat.le_of_ble_eq_true rfl) (fun M hQ => ?_)
  refine pb_eq (pc' := 0) (lo' := [(0, .ref h), (1, .int i), (2, .int x)]) (rest' := []) (ws' := [(h, .inr (10, [.ref m_rels, .ref m_openRels, .ref m_closeRels, .ref m_openRel, .ref m_closeRel, .ref m_comment, .ref m_ends, .ref m_order, .int 0, .int 0, .ref m_tape, .ref m_count, .ref m_nameSize, .ref m_names, .ref m_size, .ref m_data, .int 0, .ref m_looked, .int 0, .ref m_file, .int 0, .ref m_directory, .int 0, .ref m_out, .int 0, .ref m_row, .int 0, .int 0, .int 0, .int 0, .ref m_made, .ref m_length, .int 0, .int 0, .int 0, .int 0, .int 0, .ref m_pressed, .int 0, .int 0, .int 0, .ref m_mark, .int 0, .ref m_idSize, .ref m_ids, .ref m_goalSize, .ref m_goals, .int 0, .ref m_value, .int 0, .ref m_faults, .ref m_reached])), (m_count, .inl (G.2.2.1, 2, .inl (fun _ => 0)))]) ?_
  have z0 : (0 : Int32).toInt = 0 := by decide
  have z1 : (1 : Int32).toInt = 1 := by decide
  have z2 : (0 : Int32).toNatClampNeg = 0 := by decide
  refine pb_iload_n (pc := 0) d_Mod_relation_0 1 rfl rfl ?_
  refine pb_if_lt (pc := 1) (tgt := 26) d_Mod_relation_1 (by decide) (fun w1 => ?_) (fun w1 => ?_)
  · have tw1 : i.toInt < 0 := (ti_lt rfl (by decide)).mp w1
    refine pb_iconst (pc := 26) (v := 0) d_Mod_relation_26 (by decide) ?_
    refine pb_istore_n (pc := 27) (lo' := [(3, .int 0), (0, .ref h), (1, .int i), (2, .int x)]) d_Mod_relation_27 rfl (by decide) rfl ?_
    refine pb_aload_n (pc := 28) d_Mod_relation_28 1 rfl rfl ?_
    refine pb_iload_n (pc := 29) d_Mod_relation_29 0 rfl rfl ?_
    refine pb_if_eq (pc := 30) (tgt := 49) d_Mod_relation_30 (by decide) (fun _ => ?_) (fun h9 => absurd h9 (by decide))
    refine pb_iconst (pc := 49) (v := 1) d_Mod_relation_49 (by decide) ?_
    refine pb_put (pc := 50) (ty := .int) (ws' := [(h, .inr (10, [.ref m_rels, .ref m_openRels, .ref m_closeRels, .ref m_openRel, .ref m_closeRel, .ref m_comment, .ref m_ends, .ref m_order, .int 1, .int 0, .ref m_tape, .ref m_count, .ref m_nameSize, .ref m_names, .ref m_size, .ref m_data, .int 0, .ref m_looked, .int 0, .ref m_file, .int 0, .ref m_directory, .int 0, .ref m_out, .int 0, .ref m_row, .int 0, .int 0, .int 0, .int 0, .ref m_made, .ref m_length, .int 0, .int 0, .int 0, .int 0, .int 0, .ref m_pressed, .int 0, .int 0, .int 0, .ref m_mark, .int 0, .ref m_idSize, .ref m_ids, .ref m_goalSize, .ref m_goals, .int 0, .ref m_value, .int 0, .ref m_faults, .ref m_reached])), (m_count, .inl (G.2.2.1, 2, .inl (fun _ => 0)))]) d_Mod_relation_50 0 8 t_Mod t_Mod_ok n_Mod rfl rfl (by decide) in_Mod k_1154 rfl (by decide +kernel) rfl rfl (Nat.le_of_ble_eq_true rfl) rfl ?_
    refine pb_aload_n (pc := 53) d_Mod_relation_53 1 rfl rfl ?_
    refine pb_get (pc := 54) d_Mod_relation_54 0 8 rfl rfl (by decide) in_Mod k_1154 rfl ?_
    refine pb_if_le (pc := 57) (tgt := 64) d_Mod_relation_57 (by decide) (fun h9 => absurd h9 (by decide)) (fun _ => ?_)
    refine pb_iconst (pc := 60) (v := 0) d_Mod_relation_60 (by decide) ?_
    refine pb_goto (pc := 61) (tgt := 69) d_Mod_relation_61 (by decide) ?_
    exact pb_iret (pc := 69) hQ d_Mod_relation_69 rfl rfl () rfl [0] (by decide) rfl rfl (by decide) (by decide)
  · have tw1 : ¬ i.toInt < 0 := fun z9 => w1 ((ti_lt rfl (by decide)).mpr z9)
    refine pb_iload_n (pc := 4) d_Mod_relation_4 1 rfl rfl ?_
    refine pb_aload_n (pc := 5) d_Mod_relation_5 0 rfl rfl ?_
    refine pb_get (pc := 6) d_Mod_relation_6 0 11 rfl rfl (by decide) in_Mod k_1157 rfl ?_
    refine pb_iconst (pc := 9) (v := 0) d_Mod_relation_9 (by decide) ?_
    refine pb_iald (pc := 10) d_Mod_relation_10 1 rfl (by unfold vp_in; decide) ?_
    refine pb_asi (y := 0) rfl ?_
    refine pb_icmp_ge (pc := 11) (tgt := 26) d_Mod_relation_11 (by decide) (fun w4 => ?_) (fun h9 => False.elim (by have t9 : ¬ 0 ≤ i.toInt := fun z9 => h9 ((ti_le (by decide) rfl).mpr z9); omega))
    have tw4 : 0 ≤ i.toInt := (ti_le (by decide) rfl).mp w4
    refine pb_iconst (pc := 26) (v := 0) d_Mod_relation_26 (by decide) ?_
    refine pb_istore_n (pc := 27) (lo' := [(3, .int 0), (0, .ref h), (1, .int i), (2, .int x)]) d_Mod_relation_27 rfl (by decide) rfl ?_
    refine pb_aload_n (pc := 28) d_Mod_relation_28 1 rfl rfl ?_
    refine pb_iload_n (pc := 29) d_Mod_relation_29 0 rfl rfl ?_
    refine pb_if_eq (pc := 30) (tgt := 49) d_Mod_relation_30 (by decide) (fun _ => ?_) (fun h9 => absurd h9 (by decide))
    refine pb_iconst (pc := 49) (v := 1) d_Mod_relation_49 (by decide) ?_
    refine pb_put (pc := 50) (ty := .int) (ws' := [(h, .inr (10, [.ref m_rels, .ref m_openRels, .ref m_closeRels, .ref m_openRel, .ref m_closeRel, .ref m_comment, .ref m_ends, .ref m_order, .int 1, .int 0, .ref m_tape, .ref m_count, .ref m_nameSize, .ref m_names, .ref m_size, .ref m_data, .int 0, .ref m_looked, .int 0, .ref m_file, .int 0, .ref m_directory, .int 0, .ref m_out, .int 0, .ref m_row, .int 0, .int 0, .int 0, .int 0, .ref m_made, .ref m_length, .int 0, .int 0, .int 0, .int 0, .int 0, .ref m_pressed, .int 0, .int 0, .int 0, .ref m_mark, .int 0, .ref m_idSize, .ref m_ids, .ref m_goalSize, .ref m_goals, .int 0, .ref m_value, .int 0, .ref m_faults, .ref m_reached])), (m_count, .inl (G.2.2.1, 2, .inl (fun _ => 0)))]) d_Mod_relation_50 0 8 t_Mod t_Mod_ok n_Mod rfl rfl (by decide) in_Mod k_1154 rfl (by decide +kernel) rfl rfl (Nat.le_of_ble_eq_true rfl) rfl ?_
    refine pb_aload_n (pc := 53) d_Mod_relation_53 1 rfl rfl ?_
    refine pb_get (pc := 54) d_Mod_relation_54 0 8 rfl rfl (by decide) in_Mod k_1154 rfl ?_
    refine pb_if_le (pc := 57) (tgt := 64) d_Mod_relation_57 (by decide) (fun h9 => absurd h9 (by decide)) (fun _ => ?_)
    refine pb_iconst (pc := 60) (v := 0) d_Mod_relation_60 (by decide) ?_
    refine pb_goto (pc := 61) (tgt := 69) d_Mod_relation_61 (by decide) ?_
    exact pb_iret (pc := 69) hQ d_Mod_relation_69 rfl rfl () rfl [0] (by decide) rfl rfl (by decide) (by decide)
