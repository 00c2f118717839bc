theorem d_Mod_putBit_0 : decode prog_12_method_20_code 0 = .ok (.aload_n 0, 1) := by decide +kernel
theorem d_Mod_putBit_1 : decode prog_12_method_20_code 1 = .ok (.aload_n 0, 1) := by decide +kernel
theorem d_Mod_putBit_2 : decode prog_12_method_20_code 2 = .ok (.getfield 153, 3) := by decide +kernel
theorem k_1180 : (Jvm.Cond.fieldLink "PackageBookModel" (153 : Nat) "PackageBookModel" "heldBits" "I") ∈ uW := uW_of 1180 (by decide +kernel) (by decide +kernel)
theorem d_Mod_putBit_5 : decode prog_12_method_20_code 5 = .ok (.iload_n 1, 1) := by decide +kernel
theorem d_Mod_putBit_6 : decode prog_12_method_20_code 6 = .ok (.aload_n 0, 1) := by decide +kernel
theorem d_Mod_putBit_7 : decode prog_12_method_20_code 7 = .ok (.getfield 156, 3) := by decide +kernel
theorem k_1181 : (Jvm.Cond.fieldLink "PackageBookModel" (156 : Nat) "PackageBookModel" "heldCount" "I") ∈ uW := uW_of 1181 (by decide +kernel) (by decide +kernel)
theorem d_Mod_putBit_10 : decode prog_12_method_20_code 10 = .ok (.ishl, 1) := by decide +kernel
theorem d_Mod_putBit_11 : decode prog_12_method_20_code 11 = .ok (.iadd, 1) := by decide +kernel
theorem d_Mod_putBit_12 : decode prog_12_method_20_code 12 = .ok (.putfield 153, 3) := by decide +kernel
theorem d_Mod_putBit_15 : decode prog_12_method_20_code 15 = .ok (.aload_n 0, 1) := by decide +kernel
theorem d_Mod_putBit_16 : decode prog_12_method_20_code 16 = .ok (.dup, 1) := by decide +kernel
theorem d_Mod_putBit_17 : decode prog_12_method_20_code 17 = .ok (.getfield 156, 3) := by decide +kernel
theorem d_Mod_putBit_20 : decode prog_12_method_20_code 20 = .ok (.iconst 1, 1) := by decide +kernel
theorem d_Mod_putBit_21 : decode prog_12_method_20_code 21 = .ok (.iadd, 1) := by decide +kernel
theorem d_Mod_putBit_22 : decode prog_12_method_20_code 22 = .ok (.putfield 156, 3) := by decide +kernel
theorem d_Mod_putBit_25 : decode prog_12_method_20_code 25 = .ok (.aload_n 0, 1) := by decide +kernel
theorem d_Mod_putBit_26 : decode prog_12_method_20_code 26 = .ok (.getfield 156, 3) := by decide +kernel
theorem d_Mod_putBit_29 : decode prog_12_method_20_code 29 = .ok (.bipush 8, 2) := by decide +kernel
theorem d_Mod_putBit_31 : decode prog_12_method_20_code 31 = .ok (.if_icmp .ne 37, 3) := by decide +kernel
theorem d_Mod_putBit_68 : decode prog_12_method_20_code 68 = .ok (.return_, 1) := by decide +kernel
abbrev y_Mod_putBit : MethodName := ⟨"PackageBookModel", "putBit", "(I)V"⟩
abbrev i_Mod_putBit : pb_I := (y_Mod_putBit, prog_12_method_20_code, 2, (Option.none : Option Jvm.ClassFile.FieldType), [], { frames := 0, cells := 0, slots := 0, locals := 0 })
set_option maxRecDepth 100000 in
set_option maxHeartbeats 4000000 in
theorem c_Mod_bit_0_0 {l : Launch} (hl : l.stackTraces = false) (G : pb_G) (h : Nat) (m_rels : Nat) (m_openRels : Nat) (m_closeRels : Nat) (m_openRel : Nat) (m_closeRel : Nat) (m_comment : Nat) (m_ends : Nat) (m_order : Nat) (m_tape : Nat) (m_count : Nat) (m_nameSize : Nat) (m_names : Nat) (m_size : Nat) (m_data : Nat) (m_looked : Nat) (m_file : Nat) (m_directory : Nat) (m_out : Nat) (m_row : Nat) (m_made : Nat) (m_length : Nat) (m_pressed : Nat) (m_mark : Nat) (m_idSize : Nat) (m_ids : Nat) (m_goalSize : Nat) (m_goals : Nat) (m_value : Nat) (m_faults : Nat) (m_reached : Nat) (b : Int32) (hb : Int32) (f : Nat → Int32) : Cn l G i_Mod_putBit [.ref h, .int b] [(h, .inr (10, [.ref m_rels, .ref m_openRels, .ref m_closeRels, .ref m_openRel, .ref m_closeRel, .ref m_comment, .ref m_ends, .ref m_order, .int 0, .int 0, .ref m_tape, .ref m_count, .ref m_nameSize, .ref m_names, .ref m_size, .ref m_data, .int 0, .ref m_looked, .int 0, .ref m_file, .int 0, .ref m_directory, .int 0, .ref m_out, .int 0, .ref m_row, .int 0, .int 0, .int 0, .int 0, .ref m_made, .ref m_length, .int 0, .int 0, .int hb, .int 0, .int 0, .ref m_pressed, .int 0, .int 0, .int 0, .ref m_mark, .int 0, .ref m_idSize, .ref m_ids, .ref m_goalSize, .ref m_goals, .int 0, .ref m_value, .int 0, .ref m_faults, .ref m_reached])), (m_pressed, .inl (G.2.1, 5000, .inl f))] (S := Int32 × (Nat → Int32)) (fun v u => v = none) (fun u => [(h, .inr (10, [.ref m_rels, .ref m_openRels, .ref m_closeRels, .ref m_openRel, .ref m_closeRel, .ref m_comment, .ref m_ends, .ref m_order, .int 0, .int 0, .ref m_tape, .ref m_count, .ref m_nameSize, .ref m_names, .ref m_size, .ref m_data, .int 0, .ref m_looked, .int 0, .ref m_file, .int 0, .ref m_directory, .int 0, .ref m_out, .int 0, .ref m_row, .int 0, .int 0, .int 0, .int 0, .ref m_made, .ref m_length, .int 0, .int 0, .int u.1, .int 1, .int 0, .ref m_pressed, .int 0, .int 0, .int 0, .ref m_mark, .int 0, .ref m_idSize, .ref m_ids, .ref m_goalSize, .ref m_goals, .int 0, .ref m_value, .int 0, .ref m_faults, .ref m_reached])), (m_pressed, .inl (G.2.1, 5000, .inl u.2))]) := by
  refine Cn.of hl (by decide +kernel) rfl (Nat.le_of_ble_eq_true rfl) (fun M hQ => ?_)
  refine pb_eq (pc' := 0) (lo' := [(0, .ref h), (1, .int b)]) (rest' := []) (ws' := [(h, .inr (10, [.ref m_rels, .ref m_openRels, .ref m_closeRels, .ref m_openRel, .ref m_closeRel, .ref m_comment, .ref m_ends, .ref m_order, .int 0, .int 0, .ref m_tape, .ref m_count, .ref m_nameSize, .ref m_names, .ref m_size, .ref m_data, .int 0, .ref m_looked, .int 0, .ref m_file, .int 0, .ref m_directory, .int 0, .ref m_out, .int 0, .ref m_row, .int 0, .int 0, .int 0, .int 0, .ref m_made, .ref m_length, .int 0, .int 0, .int hb, .int 0, .int 0, .ref m_pressed, .int 0, .int 0, .int 0, .ref m_mark, .int 0, .ref m_idSize, .ref m_ids, .ref m_goalSize, .ref m_goals, .int 0, .ref m_value, .int 0, .ref m_faults, .ref m_reached])), (m_pressed, .inl (G.2.1, 5000, .inl f))]) ?_
  refine pb_aload_n (pc := 0) d_Mod_putBit_0 0 rfl rfl ?_
  refine pb_aload_n (pc := 1) d_Mod_putBit_1 0 rfl rfl ?_
  refine pb_get (pc := 2) d_Mod_putBit_2 0 34 rfl rfl (by decide) in_Mod k_1180 rfl ?_
  refine pb_iload_n (pc := 5) d_Mod_putBit_5 1 rfl rfl ?_
  refine pb_aload_n (pc := 6) d_Mod_putBit_6 0 rfl rfl ?_
  refine pb_get (pc := 7) d_Mod_putBit_7 0 35 rfl rfl (by decide) in_Mod k_1181 rfl ?_
  refine pb_ishl (pc := 10) d_Mod_putBit_10 ?_
  refine pb_topi (fun i1 ei1 => ?_)
  refine pb_iadd (pc := 11) d_Mod_putBit_11 ?_
  refine pb_topi (fun i2 ei2 => ?_)
  refine pb_put (pc := 12) (ty := .int) (ws' := [(h, .inr (10, [.ref m_rels, .ref m_openRels, .ref m_closeRels, .ref m_openRel, .ref m_closeRel, .ref m_comment, .ref m_ends, .ref m_order, .int 0, .int 0, .ref m_tape, .ref m_count, .ref m_nameSize, .ref m_names, .ref m_size, .ref m_data, .int 0, .ref m_looked, .int 0, .ref m_file, .int 0, .ref m_directory, .int 0, .ref m_out, .int 0, .ref m_row, .int 0, .int 0, .int 0, .int 0, .ref m_made, .ref m_length, .int 0, .int 0, .int i2, .int 0, .int 0, .ref m_pressed, .int 0, .int 0, .int 0, .ref m_mark, .int 0, .ref m_idSize, .ref m_ids, .ref m_goalSize, .ref m_goals, .int 0, .ref m_value, .int 0, .ref m_faults, .ref m_reached])), (m_pressed, .inl (G.2.1, 5000, .inl f))]) d_Mod_putBit_12 0 34 t_Mod t_Mod_ok n_Mod rfl rfl (by decide) in_Mod k_1180 rfl (by decide +kernel) rfl rfl (Nat.le_of_ble_eq_true rfl) rfl ?_
  refine pb_aload_n (pc := 15) d_Mod_putBit_15 0 rfl rfl ?_
  refine pb_dup (pc := 16) d_Mod_putBit_16 rfl ?_
  refine pb_get (pc := 17) d_Mod_putBit_17 0 35 rfl rfl (by decide) in_Mod k_1181 rfl ?_
  refine pb_iconst (pc := 20) (v := 1) d_Mod_putBit_20 (by decide) ?_
  refine pb_iadd (pc := 21) d_Mod_putBit_21 ?_
  refine pb_asi (y := 1) (by decide) ?_
  refine pb_put (pc := 22) (ty := .int) (ws' := [(h, .inr (10, [.ref m_rels, .ref m_openRels, .ref m_closeRels, .ref m_openRel, .ref m_closeRel, .ref m_comment, .ref m_ends, .ref m_order, .int 0, .int 0, .ref m_tape, .ref m_count, .ref m_nameSize, .ref m_names, .ref m_size, .ref m_data, .int 0, .ref m_looked, .int 0, .ref m_file, .int 0, .ref m_directory, .int 0, .ref m_out, .int 0, .ref m_row, .int 0, .int 0, .int 0, .int 0, .ref m_made, .ref m_length, .int 0, .int 0, .int i2, .int 1, .int 0, .ref m_pressed, .int 0, .int 0, .int 0, .ref m_mark, .int 0, .ref m_idSize, .ref m_ids, .ref m_goalSize, .ref m_goals, .int 0, .ref m_value, .int 0, .ref m_faults, .ref m_reached])), (m_pressed, .inl (G.2.1, 5000, .inl f))]) d_Mod_putBit_22 0 35 t_Mod t_Mod_ok n_Mod rfl rfl (by decide) in_Mod k_1181 rfl (by decide +kernel) rfl rfl (Nat.le_of_ble_eq_true rfl) rfl ?_
  refine pb_aload_n (pc := 25) d_Mod_putBit_25 0 rfl rfl ?_
  refine pb_get (pc := 26) d_Mod_putBit_26 0 35 rfl rfl (by decide) in_Mod k_1181 rfl ?_
  refine pb_bipush (pc := 29) (v := 8) d_Mod_putBit_29 (by decide) ?_
  refine pb_icmp_ne (pc := 31) (tgt := 68) d_Mod_putBit_31 (by decide) (fun _ => ?_) (fun h9 => absurd h9 (by decide))
  exact pb_vret (pc := 68) hQ d_Mod_putBit_68 rfl (i2, f) rfl [0, 1] (by decide) rfl rfl (by decide) (by decide)

set_option maxRecDepth 100000 in
set_option maxHeartbeats 4000000 in
theorem c_Mod_bit_0_1 {l : Launch} (hl : l.stackTraces = false) (G : pb_G) (h : Nat) (m_rels : Nat) (m_openRels : Nat) (m_closeRels : Nat) (m_openRel : Nat) (m_closeRel : Nat) (m_comment : Nat) (m_ends : Nat) (m_order : Nat) (m_tape : Nat) (m_count : Nat) (m_nameSize : Nat) (m_names : Nat) (m_size : Nat) (m_data : Nat) (m_looked : Nat) (m_file : Nat) (m_directory : Nat) (m_out : Nat) (m_row : Nat) (m_made : Nat) (m_length : Nat) (m_pressed : Nat) (m_mark : Nat) (m_idSize : Nat) (m_ids : Nat) (m_goalSize : Nat) (m_goals : Nat) (m_value : Nat) (m_faults : Nat) (m_reached : Nat) (b : Int32) (hb : Int32) (f : Nat → Int32) : Cn l G i_Mod_putBit [.ref h, .int b] [(h, .inr (10, [.ref m_rels, .ref m_openRels, .ref m_closeRels, .ref m_openRel, .ref m_closeRel, .ref m_comment, .ref m_ends, .ref m_order, .int 0, .int 0, .ref m_tape, .ref m_count, .ref m_nameSize, .ref m_names, .ref m_size, .ref m_data, .int 0, .ref m_looked, .int 0, .ref m_file, .int 0, .ref m_directory, .int 0, .ref m_out, .int 0, .ref m_row, .int 0, .int 0, .int 0, .int 0, .ref m_made, .ref m_length, .int 0, .int 0, .int hb, .int 0, .int 1, .ref m_pressed, .int 0, .int 0, .int 0, .ref m_mark, .int 0, .ref m_idSize, .ref m_ids, .ref m_goalSize, .ref m_goals, .int 0, .ref m_value, .int 0, .ref m_faults, .ref m_reached])), (m_pressed, .inl (G.2.1, 5000, .inl f))] (S := Int32 × (Nat → Int32)) (fun v u => v = none) (fun u => [(h, .inr (10, [.ref m_rels, .ref m_openRels, .ref m_closeRels, .ref m_openRel, .ref m_closeRel, .ref m_comment, .ref m_ends, .ref m_order, .int 0, .int 0, .ref m_tape, .ref m_count, .ref m_nameSize, .ref m_names, .ref m_size, .ref m_data, .int 0, .ref m_looked, .int 0, .ref m_file, .int 0, .ref m_directory, .int 0, .ref m_out, .int 0, .ref m_row, .int 0, .int 0, .int 0, .int 0, .ref m_made, .ref m_length, .int 0, .int 0, .int u.1, .int 1, .int 1, .ref m_pressed, .int 0, .int 0, .int 0, .ref m_mark, .int 0, .ref m_idSize, .ref m_ids, .ref m_goalSize, .ref m_goals, .int 0, .ref m_value, .int 0, .ref m_faults, .ref m_reached])), (m_pressed, .inl (G.2.1, 5000, .inl u.2))]) := by
  refine Cn.of hl (by decide +kernel) rfl (Nat.le_of_ble_eq_true rfl) (fun M hQ => ?_)
  refine pb_eq (pc' := 0) (lo' := [(0, .ref h), (1, .int b)]) (rest' := []) (ws' := [(h, .inr (10, [.ref m_rels, .ref m_openRels, .ref m_closeRels, .ref m_openRel, .ref m_closeRel, .ref m_comment, .ref m_ends, .ref m_order, .int 0, .int 0, .ref m_tape, .ref m_count, .ref m_nameSize, .ref m_names, .ref m_size, .ref m_data, .int 0, .ref m_looked, .int 0, .ref m_file, .int 0, .ref m_directory, .int 0, .ref m_out, .int 0, .ref m_row, .int 0, .int 0, .int 0, .int 0, .ref m_made, .ref m_length, .int 0, .int 0, .int hb, .int 0, .int 1, .ref m_pressed, .int 0, .int 0, .int 0, .ref m_mark, .int 0, .ref m_idSize, .ref m_ids, .ref m_goalSize, .ref m_goals, .int 0, .ref m_value, .int 0, .ref m_faults, .ref m_reached])), (m_pressed, .inl (G.2.1, 5000, .inl f))]) ?_
  refine pb_aload_n (pc := 0) d_Mod_putBit_0 0 rfl rfl ?_
  refine pb_aload_n (pc := 1) d_Mod_putBit_1 0 rfl rfl ?_
  refine pb_get (pc := 2) d_Mod_putBit_2 0 34 rfl rfl (by decide) in_Mod k_1180 rfl ?_
  refine pb_iload_n (pc := 5) d_Mod_putBit_5 1 rfl rfl ?_
  refine pb_aload_n (pc := 6) d_Mod_putBit_6 0 rfl rfl ?_
  refine pb_get (pc := 7) d_Mod_putBit_7 0 35 rfl rfl (by decide) in_Mod k_1181 rfl ?_
  refine pb_ishl (pc := 10) d_Mod_putBit_10 ?_
  refine pb_topi (fun i1 ei1 => ?_)
  refine pb_iadd (pc := 11) d_Mod_putBit_11 ?_
  refine pb_topi (fun i2 ei2 => ?_)
  refine pb_put (pc := 12) (ty := .int) (ws' := [(h, .inr (10, [.ref m_rels, .ref m_openRels, .ref m_closeRels, .ref m_openRel, .ref m_closeRel, .ref m_comment, .ref m_ends, .ref m_order, .int 0, .int 0, .ref m_tape, .ref m_count, .ref m_nameSize, .ref m_names, .ref m_size, .ref m_data, .int 0, .ref m_looked, .int 0, .ref m_file, .int 0, .ref m_directory, .int 0, .ref m_out, .int 0, .ref m_row, .int 0, .int 0, .int 0, .int 0, .ref m_made, .ref m_length, .int 0, .int 0, .int i2, .int 0, .int 1, .ref m_pressed, .int 0, .int 0, .int 0, .ref m_mark, .int 0, .ref m_idSize, .ref m_ids, .ref m_goalSize, .ref m_goals, .int 0, .ref m_value, .int 0, .ref m_faults, .ref m_reached])), (m_pressed, .inl (G.2.1, 5000, .inl f))]) d_Mod_putBit_12 0 34 t_Mod t_Mod_ok n_Mod rfl rfl (by decide) in_Mod k_1180 rfl (by decide +kernel) rfl rfl (Nat.le_of_ble_eq_true rfl) rfl ?_
  refine pb_aload_n (pc := 15) d_Mod_putBit_15 0 rfl rfl ?_
  refine pb_dup (pc := 16) d_Mod_putBit_16 rfl ?_
  refine pb_get (pc := 17) d_Mod_putBit_17 0 35 rfl rfl (by decide) in_Mod k_1181 rfl ?_
  refine pb_iconst (pc := 20) (v := 1) d_Mod_putBit_20 (by decide) ?_
  refine pb_iadd (pc := 21) d_Mod_putBit_21 ?_
  refine pb_asi (y := 1) (by decide) ?_
  refine pb_put (pc := 22) (ty := .int) (ws' := [(h, .inr (10, [.ref m_rels, .ref m_openRels, .ref m_closeRels, .ref m_openRel, .ref m_closeRel, .ref m_comment, .ref m_ends, .ref m_order, .int 0, .int 0, .ref m_tape, .ref m_count, .ref m_nameSize, .ref m_names, .ref m_size, .ref m_data, .int 0, .ref m_looked, .int 0, .ref m_file, .int 0, .ref m_directory, .int 0, .ref m_out, .int 0, .ref m_row, .int 0, .int 0, .int 0, .int 0, .ref m_made, .ref m_length, .int 0, .int 0, .int i2, .int 1, .int 1, .ref m_pressed, .int 0, .int 0, .int 0, .ref m_mark, .int 0, .ref m_idSize, .ref m_ids, .ref m_goalSize, .ref m_goals, .int 0, .ref m_value, .int 0, .ref m_faults, .ref m_reached])), (m_pressed, .inl (G.2.1, 5000, .inl f))]) d_Mod_putBit_22 0 35 t_Mod t_Mod_ok n_Mod rfl rfl (by decide) in_Mod k_1181 rfl (by decide +kernel) rfl rfl (Nat.le_of_ble_eq_true rfl) rfl ?_
  refine pb_aload_n (pc := 25) d_Mod_putBit_25 0 rfl rfl ?_
  refine pb_get (pc := 26) d_Mod_putBit_26 0 35 rfl rfl (by decide) in_Mod k_1181 rfl ?_
  refine pb_bipush (pc := 29) (v := 8) d_Mod_putBit_29 (by decide) ?_
  refine pb_icmp_ne (pc := 31) (tgt := 68) d_Mod_putBit_31 (by decide) (fun _ => ?_) (fun h9 => absurd h9 (by decide))
  exact pb_vret (pc := 68) hQ d_Mod_putBit_68 rfl (i2, f) rfl [0, 1] (by decide) rfl rfl (by decide) (by decide)

set_option maxRecDepth 100000 in
set_option maxHeartbeats 4000000 in
theorem c_Mod_bit_1_0 {l : Launch} (hl : l.stackTraces = false) (G : pb_G) (h : Nat) (m_rels : Nat) (m_openRels : Nat) (m_closeRels : Nat) (m_openRel : Nat) (m_closeRel : Nat) (m_comment : Nat) (m_ends : Nat) (m_order : Nat) (m_tape : Nat) (m_count : Nat) (m_nameSize : Nat) (m_names : Nat) (m_size : Nat) (m_data : Nat) (m_looked : Nat) (m_file : Nat) (m_directory : Nat) (m_out : Nat) (m_row : Nat) (m_made : Nat) (m_length : Nat) (m_pressed : Nat) (m_mark : Nat) (m_idSize : Nat) (m_ids : Nat) (m_goalSize : Nat) (m_goals : Nat) (m_value : Nat) (m_faults : Nat) (m_reached : Nat) (b : Int32) (hb : Int32) (f : Nat → Int32) : Cn l G i_Mod_putBit [.ref h, .int b] [(h, .inr (10, [.ref m_rels, .ref m_openRels, .ref m_closeRels, .ref m_openRel, .ref m_closeRel, .ref m_comment, .ref m_ends, .ref m_order, .int 0, .int 0, .ref m_tape, .ref m_count, .ref m_nameSize, .ref m_names, .ref m_size, .ref m_data, .int 0, .ref m_looked, .int 0, .ref m_file, .int 0, .ref m_directory, .int 0, .ref m_out, .int 0, .ref m_row, .int 0, .int 0, .int 0, .int 0, .ref m_made, .ref m_length, .int 0, .int 0, .int hb, .int 1, .int 0, .ref m_pressed, .int 0, .int 0, .int 0, .ref m_mark, .int 0, .ref m_idSize, .ref m_ids, .ref m_goalSize, .ref m_goals, .int 0, .ref m_value, .int 0, .ref m_faults, .ref m_reached])), (m_pressed, .inl (G.2.1, 5000, .inl f))] (S := Int32 × (Nat → Int32)) (fun v u => v = none) (fun u => [(h, .inr (10, [.ref m_rels, .ref m_openRels, .ref m_closeRels, .ref m_openRel, .ref m_closeRel, .ref m_comment, .ref m_ends, .ref m_order, .int 0, .int 0, .ref m_tape, .ref m_count, .ref m_nameSize, .ref m_names, .ref m_size, .ref m_data, .int 0, .ref m_looked, .int 0, .ref m_file, .int 0, .ref m_directory, .int 0, .ref m_out, .int 0, .ref m_row, .int 0, .int 0, .int 0, .int 0, .ref m_made, .ref m_length, .int 0, .int 0, .int u.1, .int 2, .int 0, .ref m_pressed, .int 0, .int 0, .int 0, .ref m_mark, .int 0, .ref m_idSize, .ref m_ids, .ref m_goalSize, .ref m_goals, .int 0, .ref m_value, .int 0, .ref m_faults, .ref m_reached])), (m_pressed, .inl (G.2.1, 5000, .inl u.2))]) := by
  refine Cn.of hl (by decide +kernel) rfl (Nat.le_of_ble_eq_true rfl) (fun M hQ => ?_)
  refine pb_eq (pc' := 0) (lo' := [(0, .ref h), (1, .int b)]) (rest' := []) (ws' := [(h, .inr (10, [.ref m_rels, .ref m_openRels, .ref m_closeRels, .ref m_openRel, .ref m_closeRel, .ref m_comment, .ref m_ends, .ref m_order, .int 0, .int 0, .ref m_tape, .ref m_count, .ref m_nameSize, .ref m_names, .ref m_size, .ref m_data, .int 0, .ref m_looked, .int 0, .ref m_file, .int 0, .ref m_directory, .int 0, .ref m_out, .int 0, .ref m_row, .int 0, .int 0, .int 0, .int 0, .ref m_made, .ref m_length, .int 0, .int 0, .int hb, .int 1, .int 0, .ref m_pressed, .int 0, .int 0, .int 0, .ref m_mark, .int 0, .ref m_idSize, .ref m_ids, .ref m_goalSize, .ref m_goals, .int 0, .ref m_value, .int 0, .ref m_faults, .ref m_reached])), (m_pressed, .inl (G.2.1, 5000, .inl f))]) ?_
  refine pb_aload_n (pc := 0) d_Mod_putBit_0 0 rfl rfl ?_
  refine pb_aload_n (pc := 1) d_Mod_putBit_1 0 rfl rfl ?_
  refine pb_get (pc := 2) d_Mod_putBit_2 0 34 rfl rfl (by decide) in_Mod k_1180 rfl ?_
  refine pb_iload_n (pc := 5) d_Mod_putBit_5 1 rfl rfl ?_
  refine pb_aload_n (pc := 6) d_Mod_putBit_6 0 rfl rfl ?_
  refine pb_get (pc := 7) d_Mod_putBit_7 0 35 rfl rfl (by decide) in_Mod k_1181 rfl ?_
  refine pb_ishl (pc := 10) d_Mod_putBit_10 ?_
  refine pb_topi (fun i1 ei1 => ?_)
  refine pb_iadd (pc := 11) d_Mod_putBit_11 ?_
  refine pb_topi (fun i2 ei2 => ?_)
  refine pb_put (pc := 12) (ty := .int) (ws' := [(h, .inr (10, [.ref m_rels, .ref m_openRels, .ref m_closeRels, .ref m_openRel, .ref m_closeRel, .ref m_comment, .ref m_ends, .ref m_order, .int 0, .int 0, .ref m_tape, .ref m_count, .ref m_nameSize, .ref m_names, .ref m_size, .ref m_data, .int 0, .ref m_looked, .int 0, .ref m_file, .int 0, .ref m_directory, .int 0, .ref m_out, .int 0, .ref m_row, .int 0, .int 0, .int 0, .int 0, .ref m_made, .ref m_length, .int 0, .int 0, .int i2, .int 1, .int 0, .ref m_pressed, .int 0, .int 0, .int 0, .ref m_mark, .int 0, .ref m_idSize, .ref m_ids, .ref m_goalSize, .ref m_goals, .int 0, .ref m_value, .int 0, .ref m_faults, .ref m_reached])), (m_pressed, .inl (G.2.1, 5000, .inl f))]) d_Mod_putBit_12 0 34 t_Mod t_Mod_ok n_Mod rfl rfl (by decide) in_Mod k_1180 rfl (by decide +kernel) rfl rfl (Nat.le_of_ble_eq_true rfl) rfl ?_
  refine pb_aload_n (pc := 15) d_Mod_putBit_15 0 rfl rfl ?_
  refine pb_dup (pc := 16) d_Mod_putBit_16 rfl ?_
  refine pb_get (pc := 17) d_Mod_putBit_17 0 35 rfl rfl (by decide) in_Mod k_1181 rfl ?_
  refine pb_iconst (pc := 20) (v := 1) d_Mod_putBit_20 (by decide) ?_
  refine pb_iadd (pc := 21) d_Mod_putBit_21 ?_
  refine pb_asi (y := 2) (by decide) ?_
  refine pb_put (pc := 22) (ty := .int) (ws' := [(h, .inr (10, [.ref m_rels, .ref m_openRels, .ref m_closeRels, .ref m_openRel, .ref m_closeRel, .ref m_comment, .ref m_ends, .ref m_order, .int 0, .int 0, .ref m_tape, .ref m_count, .ref m_nameSize, .ref m_names, .ref m_size, .ref m_data, .int 0, .ref m_looked, .int 0, .ref m_file, .int 0, .ref m_directory, .int 0, .ref m_out, .int 0, .ref m_row, .int 0, .int 0, .int 0, .int 0, .ref m_made, .ref m_length, .int 0, .int 0, .int i2, .int 2, .int 0, .ref m_pressed, .int 0, .int 0, .int 0, .ref m_mark, .int 0, .ref m_idSize, .ref m_ids, .ref m_goalSize, .ref m_goals, .int 0, .ref m_value, .int 0, .ref m_faults, .ref m_reached])), (m_pressed, .inl (G.2.1, 5000, .inl f))]) d_Mod_putBit_22 0 35 t_Mod t_Mod_ok n_Mod rfl rfl (by decide) in_Mod k_1181 rfl (by decide +kernel) rfl rfl (Nat.le_of_ble_eq_true rfl) rfl ?_
  refine pb_aload_n (pc := 25) d_Mod_putBit_25 0 rfl rfl ?_
  refine pb_get (pc := 26) d_Mod_putBit_26 0 35 rfl rfl (by decide) in_Mod k_1181 rfl ?_
  refine pb_bipush (pc := 29) (v := 8) d_Mod_putBit_29 (by decide) ?_
  refine pb_icmp_ne (pc := 31) (tgt := 68) d_Mod_putBit_31 (by decide) (fun _ => ?_) (fun h9 => absurd h9 (by decide))
  exact pb_vret (pc := 68) hQ d_Mod_putBit_68 rfl (i2, f) rfl [0, 1] (by decide) rfl rfl (by decide) (by decide)

set_option maxRecDepth 100000 in
set_option maxHeartbeats 4000000 in
theorem c_Mod_bit_1_1 {l : Launch} (hl : l.stackTraces = false) (G : pb_G) (h : Nat) (m_rels : Nat) (m_openRels : Nat) (m_closeRels : Nat) (m_openRel : Nat) (m_closeRel : Nat) (m_comment : Nat) (m_ends : Nat) (m_order : Nat) (m_tape : Nat) (m_count : Nat) (m_nameSize : Nat) (m_names : Nat) (m_size : Nat) (m_data : Nat) (m_looked : Nat) (m_file : Nat) (m_directory : Nat) (m_out : Nat) (m_row : Nat) (m_made : Nat) (m_length : Nat) (m_pressed : Nat) (m_mark : Nat) (m_idSize : Nat) (m_ids : Nat) (m_goalSize : Nat) (m_goals : Nat) (m_value : Nat) (m_faults : Nat) (m_reached : Nat) (b : Int32) (hb : Int32) (f : Nat → Int32) : Cn l G i_Mod_putBit [.ref h, .int b] [(h, .inr (10, [.ref m_rels, .ref m_openRels, .ref m_closeRels, .ref m_openRel, .ref m_closeRel, .ref m_comment, .ref m_ends, .ref m_order, .int 0, .int 0, .ref m_tape, .ref m_count, .ref m_nameSize, .ref m_names, .ref m_size, .ref m_data, .int 0, .ref m_looked, .int 0, .ref m_file, .int 0, .ref m_directory, .int 0, .ref m_out, .int 0, .ref m_row, .int 0, .int 0, .int 0, .int 0, .ref m_made, .ref m_length, .int 0, .int 0, .int hb, .int 1, .int 1, .ref m_pressed, .int 0, .int 0, .int 0, .ref m_mark, .int 0, .ref m_idSize, .ref m_ids, .ref m_goalSize, .ref m_goals, .int 0, .ref m_value, .int 0, .ref m_faults, .ref m_reached])), (m_pressed, .inl (G.2.1, 5000, .inl f))] (S := Int32 × (Nat → Int32)) (fun v u => v = none) (fun u => [(h, .inr (10, [.ref m_rels, .ref m_openRels, .ref m_closeRels, .ref m_openRel, .ref m_closeRel, .ref m_comment, .ref m_ends, .ref m_order, .int 0, .int 0, .ref m_tape, .ref m_count, .ref m_nameSize, .ref m_names, .ref m_size, .ref m_data, .int 0, .ref m_looked, .int 0, .ref m_file, .int 0, .ref m_directory, .int 0, .ref m_out, .int 0, .ref m_row, .int 0, .int 0, .int 0, .int 0, .ref m_made, .ref m_length, .int 0, .int 0, .int u.1, .int 2, .int 1, .ref m_pressed, .int 0, .int 0, .int 0, .ref m_mark, .int 0, .ref m_idSize, .ref m_ids, .ref m_goalSize, .ref m_goals, .int 0, .ref m_value, .int 0, .ref m_faults, .ref m_reached])), (m_pressed, .inl (G.2.1, 5000, .inl u.2))]) := by
  refine Cn.of hl (by decide +kernel) rfl (Nat.le_of_ble_eq_true rfl) (fun M hQ => ?_)
  refine pb_eq (pc' := 0) (lo' := [(0, .ref h), (1, .int b)]) (rest' := []) (ws' := [(h, .inr (10, [.ref m_rels, .ref m_openRels, .ref m_closeRels, .ref m_openRel, .ref m_closeRel, .ref m_comment, .ref m_ends, .ref m_order, .int 0, .int 0, .ref m_tape, .ref m_count, .ref m_nameSize, .ref m_names, .ref m_size, .ref m_data, .int 0, .ref m_looked, .int 0, .ref m_file, .int 0, .ref m_directory, .int 0, .ref m_out, .int 0, .ref m_row, .int 0, .int 0, .int 0, .int 0, .ref m_made, .ref m_length, .int 0, .int 0, .int hb, .int 1, .int 1, .ref m_pressed, .int 0, .int 0, .int 0, .ref m_mark, .int 0, .ref m_idSize, .ref m_ids, .ref m_goalSize, .ref m_goals, .int 0, .ref m_value, .int 0, .ref m_faults, .ref m_reached])), (m_pressed, .inl (G.2.1, 5000, .inl f))]) ?_
  refine pb_aload_n (pc := 0) d_Mod_putBit_0 0 rfl rfl ?_
  refine pb_aload_n (pc := 1) d_Mod_putBit_1 0 rfl rfl ?_
  refine pb_get (pc := 2) d_Mod_putBit_2 0 34 rfl rfl (by decide) in_Mod k_1180 rfl ?_
  refine pb_iload_n (pc := 5) d_Mod_putBit_5 1 rfl rfl ?_
  refine pb_aload_n (pc := 6) d_Mod_putBit_6 0 rfl rfl ?_
  refine pb_get (pc := 7) d_Mod_putBit_7 0 35 rfl rfl (by decide) in_Mod k_1181 rfl ?_
  refine pb_ishl (pc := 10) d_Mod_putBit_10 ?_
  refine pb_topi (fun i1 ei1 => ?_)
  refine pb_iadd (pc := 11) d_Mod_putBit_11 ?_
  refine pb_topi (fun i2 ei2 => ?_)
  refine pb_put (pc := 12) (ty := .int) (ws' := [(h, .inr (10, [.ref m_rels, .ref m_openRels, .ref m_closeRels, .ref m_openRel, .ref m_closeRel, .ref m_comment, .ref m_ends, .ref m_order, .int 0, .int 0, .ref m_tape, .ref m_count, .ref m_nameSize, .ref m_names, .ref m_size, .ref m_data, .int 0, .ref m_looked, .int 0, .ref m_file, .int 0, .ref m_directory, .int 0, .ref m_out, .int 0, .ref m_row, .int 0, .int 0, .int 0, .int 0, .ref m_made, .ref m_length, .int 0, .int 0, .int i2, .int 1, .int 1, .ref m_pressed, .int 0, .int 0, .int 0, .ref m_mark, .int 0, .ref m_idSize, .ref m_ids, .ref m_goalSize, .ref m_goals, .int 0, .ref m_value, .int 0, .ref m_faults, .ref m_reached])), (m_pressed, .inl (G.2.1, 5000, .inl f))]) d_Mod_putBit_12 0 34 t_Mod t_Mod_ok n_Mod rfl rfl (by decide) in_Mod k_1180 rfl (by decide +kernel) rfl rfl (Nat.le_of_ble_eq_true rfl) rfl ?_
  refine pb_aload_n (pc := 15) d_Mod_putBit_15 0 rfl rfl ?_
  refine pb_dup (pc := 16) d_Mod_putBit_16 rfl ?_
  refine pb_get (pc := 17) d_Mod_putBit_17 0 35 rfl rfl (by decide) in_Mod k_1181 rfl ?_
  refine pb_iconst (pc := 20) (v := 1) d_Mod_putBit_20 (by decide) ?_
  refine pb_iadd (pc := 21) d_Mod_putBit_21 ?_
  refine pb_asi (y := 2) (by decide) ?_
  refine pb_put (pc := 22) (ty := .int) (ws' := [(h, .inr (10, [.ref m_rels, .ref m_openRels, .ref m_closeRels, .ref m_openRel, .ref m_closeRel, .ref m_comment, .ref m_ends, .ref m_order, .int 0, .int 0, .ref m_tape, .ref m_count, .ref m_nameSize, .ref m_names, .ref m_size, .ref m_data, .int 0, .ref m_looked, .int 0, .ref m_file, .int 0, .ref m_directory, .int 0, .ref m_out, .int 0, .ref m_row, .int 0, .int 0, .int 0, .int 0, .ref m_made, .ref m_length, .int 0, .int 0, .int i2, .int 2, .int 1, .ref m_pressed, .int 0, .int 0, .int 0, .ref m_mark, .int 0, .ref m_idSize, .ref m_ids, .ref m_goalSize, .ref m_goals, .int 0, .ref m_value, .int 0, .ref m_faults, .ref m_reached])), (m_pressed, .inl (G.2.1, 5000, .inl f))]) d_Mod_putBit_22 0 35 t_Mod t_Mod_ok n_Mod rfl rfl (by decide) in_Mod k_1181 rfl (by decide +kernel) rfl rfl (Nat.le_of_ble_eq_true rfl) rfl ?_
  refine pb_aload_n (pc := 25) d_Mod_putBit_25 0 rfl rfl ?_
  refine pb_get (pc := 26) d_Mod_putBit_26 0 35 rfl rfl (by decide) in_Mod k_1181 rfl ?_
  refine pb_bipush (pc := 29) (v := 8) d_Mod_putBit_29 (by decide) ?_
  refine pb_icmp_ne (pc := 31) (tgt := 68) d_Mod_putBit_31 (by decide) (fun _ => ?_) (fun h9 => absurd h9 (by decide))
  exact pb_vret (pc := 68) hQ d_Mod_putBit_68 rfl (i2, f) rfl [0, 1] (by decide) rfl rfl (by decide) (by decide)

set_option maxRecDepth 100000 in
set_option maxHeartbeats 4000000 in
theorem c_Mod_bit_2_0 {l : Launch} (hl : l.stackTraces = false) (G : pb_G) (h : Nat) (m_rels : Nat) (m_openRels : Nat) (m_closeRels : Nat) (m_openRel : Nat) (m_closeRel : Nat) (m_comment : Nat) (m_ends : Nat) (m_order : Nat) (m_tape : Nat) (m_count : Nat) (m_nameSize : Nat) (m_names : Nat) (m_size : Nat) (m_data : Nat) (m_looked : Nat) (m_file : Nat) (m_directory : Nat) (m_out : Nat) (m_row : Nat) (m_made : Nat) (m_length : Nat) (m_pressed : Nat) (m_mark : Nat) (m_idSize : Nat) (m_ids : Nat) (m_goalSize : Nat) (m_goals : Nat) (m_value : Nat) (m_faults : Nat) (m_reached : Nat) (b : Int32) (hb : Int32) (f : Nat → Int32) : Cn l G i_Mod_putBit [.ref h, .int b] [(h, .inr (10, [.ref m_rels, .ref m_openRels, .ref m_closeRels, .ref m_openRel, .ref m_closeRel, .ref m_comment, .ref m_ends, .ref m_order, .int 0, .int 0, .ref m_tape, .ref m_count, .ref m_nameSize, .ref m_names, .ref m_size, .ref m_data, .int 0, .ref m_looked, .int 0, .ref m_file, .int 0, .ref m_directory, .int 0, .ref m_out, .int 0, .ref m_row, .int 0, .int 0, .int 0, .int 0, .ref m_made, .ref m_length, .int 0, .int 0, .int hb, .int 2, .int 0, .ref m_pressed, .int 0, .int 0, .int 0, .ref m_mark, .int 0, .ref m_idSize, .ref m_ids, .ref m_goalSize, .ref m_goals, .int 0, .ref m_value, .int 0, .ref m_faults, .ref m_reached])), (m_pressed, .inl (G.2.1, 5000, .inl f))] (S := Int32 × (Nat → Int32)) (fun v u => v = none) (fun u => [(h, .inr (10, [.ref m_rels, .ref m_openRels, .ref m_closeRels, .ref m_openRel, .ref m_closeRel, .ref m_comment, .ref m_ends, .ref m_order, .int 0, .int 0, .ref m_tape, .ref m_count, .ref m_nameSize, .ref m_names, .ref m_size, .ref m_data, .int 0, .ref m_looked, .int 0, .ref m_file, .int 0, .ref m_directory, .int 0, .ref m_out, .int 0, .ref m_row, .int 0, .int 0, .int 0, .int 0, .ref m_made, .ref m_length, .int 0, .int 0, .int u.1, .int 3, .int 0, .ref m_pressed, .int 0, .int 0, .int 0, .ref m_mark, .int 0, .ref m_idSize, .ref m_ids, .ref m_goalSize, .ref m_goals, .int 0, .ref m_value, .int 0, .ref m_faults, .ref m_reached])), (m_pressed, .inl (G.2.1, 5000, .inl u.2))]) := by
  refine Cn.of hl (by decide +kernel) rfl (Nat.le_of_ble_eq_true rfl) (fun M hQ => ?_)
  refine pb_eq (pc' := 0) (lo' := [(0, .ref h), (1, .int b)]) (rest' := []) (ws' := [(h, .inr (10, [.ref m_rels, .ref m_openRels, .ref m_closeRels, .ref m_openRel, .ref m_closeRel, .ref m_comment, .ref m_ends, .ref m_order, .int 0, .int 0, .ref m_tape, .ref m_count, .ref m_nameSize, .ref m_names, .ref m_size, .ref m_data, .int 0, .ref m_looked, .int 0, .ref m_file, .int 0, .ref m_directory, .int 0, .ref m_out, .int 0, .ref m_row, .int 0, .int 0, .int 0, .int 0, .ref m_made, .ref m_length, .int 0, .int 0, .int hb, .int 2, .int 0, .ref m_pressed, .int 0, .int 0, .int 0, .ref m_mark, .int 0, .ref m_idSize, .ref m_ids, .ref m_goalSize, .ref m_goals, .int 0, .ref m_value, .int 0, .ref m_faults, .ref m_reached])), (m_pressed, .inl (G.2.1, 5000, .inl f))]) ?_
  refine pb_aload_n (pc := 0) d_Mod_putBit_0 0 rfl rfl ?_
  refine pb_aload_n (pc := 1) d_Mod_putBit_1 0 rfl rfl ?_
  refine pb_get (pc := 2) d_Mod_putBit_2 0 34 rfl rfl (by decide) in_Mod k_1180 rfl ?_
  refine pb_iload_n (pc := 5) d_Mod_putBit_5 1 rfl rfl ?_
  refine pb_aload_n (pc := 6) d_Mod_putBit_6 0 rfl rfl ?_
  refine pb_get (pc := 7) d_Mod_putBit_7 0 35 rfl rfl (by decide) in_Mod k_1181 rfl ?_
  refine pb_ishl (pc := 10) d_Mod_putBit_10 ?_
  refine pb_topi (fun i1 ei1 => ?_)
  refine pb_iadd (pc := 11) d_Mod_putBit_11 ?_
  refine pb_topi (fun i2 ei2 => ?_)
  refine pb_put (pc := 12) (ty := .int) (ws' := [(h, .inr (10, [.ref m_rels, .ref m_openRels, .ref m_closeRels, .ref m_openRel, .ref m_closeRel, .ref m_comment, .ref m_ends, .ref m_order, .int 0, .int 0, .ref m_tape, .ref m_count, .ref m_nameSize, .ref m_names, .ref m_size, .ref m_data, .int 0, .ref m_looked, .int 0, .ref m_file, .int 0, .ref m_directory, .int 0, .ref m_out, .int 0, .ref m_row, .int 0, .int 0, .int 0, .int 0, .ref m_made, .ref m_length, .int 0, .int 0, .int i2, .int 2, .int 0, .ref m_pressed, .int 0, .int 0, .int 0, .ref m_mark, .int 0, .ref m_idSize, .ref m_ids, .ref m_goalSize, .ref m_goals, .int 0, .ref m_value, .int 0, .ref m_faults, .ref m_reached])), (m_pressed, .inl (G.2.1, 5000, .inl f))]) d_Mod_putBit_12 0 34 t_Mod t_Mod_ok n_Mod rfl rfl (by decide) in_Mod k_1180 rfl (by decide +kernel) rfl rfl (Nat.le_of_ble_eq_true rfl) rfl ?_
  refine pb_aload_n (pc := 15) d_Mod_putBit_15 0 rfl rfl ?_
  refine pb_dup (pc := 16) d_Mod_putBit_16 rfl ?_
  refine pb_get (pc := 17) d_Mod_putBit_17 0 35 rfl rfl (by decide) in_Mod k_1181 rfl ?_
  refine pb_iconst (pc := 20) (v := 1) d_Mod_putBit_20 (by decide) ?_
  refine pb_iadd (pc := 21) d_Mod_putBit_21 ?_
  refine pb_asi (y := 3) (by decide) ?_
  refine pb_put (pc := 22) (ty := .int) (ws' := [(h, .inr (10, [.ref m_rels, .ref m_openRels, .ref m_closeRels, .ref m_openRel, .ref m_closeRel, .ref m_comment, .ref m_ends, .ref m_order, .int 0, .int 0, .ref m_tape, .ref m_count, .ref m_nameSize, .ref m_names, .ref m_size, .ref m_data, .int 0, .ref m_looked, .int 0, .ref m_file, .int 0, .ref m_directory, .int 0, .ref m_out, .int 0, .ref m_row, .int 0, .int 0, .int 0, .int 0, .ref m_made, .ref m_length, .int 0, .int 0, .int i2, .int 3, .int 0, .ref m_pressed, .int 0, .int 0, .int 0, .ref m_mark, .int 0, .ref m_idSize, .ref m_ids, .ref m_goalSize, .ref m_goals, .int 0, .ref m_value, .int 0, .ref m_faults, .ref m_reached])), (m_pressed, .inl (G.2.1, 5000, .inl f))]) d_Mod_putBit_22 0 35 t_Mod t_Mod_ok n_Mod rfl rfl (by decide) in_Mod k_1181 rfl (by decide +kernel) rfl rfl (Nat.le_of_ble_eq_true rfl) rfl ?_
  refine pb_aload_n (pc := 25) d_Mod_putBit_25 0 rfl rfl ?_
  refine pb_get (pc := 26) d_Mod_putBit_26 0 35 rfl rfl (by decide) in_Mod k_1181 rfl ?_
  refine pb_bipush (pc := 29) (v := 8) d_Mod_putBit_29 (by decide) ?_
  refine pb_icmp_ne (pc := 31) (tgt := 68) d_Mod_putBit_31 (by decide) (fun _ => ?_) (fun h9 => absurd h9 (by decide))
  exact pb_vret (pc := 68) hQ d_Mod_putBit_68 rfl (i2, f) rfl [0, 1] (by decide) rfl rfl (by decide) (by decide)

set_option maxRecDepth 100000 in
set_option maxHeartbeats 4000000 in
theorem c_Mod_bit_2_1 {l : Launch} (hl : l.stackTraces = false) (G : pb_G) (h : Nat) (m_rels : Nat) (m_openRels : Nat) (m_closeRels : Nat) (m_openRel : Nat) (m_closeRel : Nat) (m_comment : Nat) (m_ends : Nat) (m_order : Nat) (m_tape : Nat) (m_count : Nat) (m_nameSize : Nat) (m_names : Nat) (m_size : Nat) (m_data : Nat) (m_looked : Nat) (m_file : Nat) (m_directory : Nat) (m_out : Nat) (m_row : Nat) (m_made : Nat) (m_length : Nat) (m_pressed : Nat) (m_mark : Nat) (m_idSize : Nat) (m_ids : Nat) (m_goalSize : Nat) (m_goals : Nat) (m_value : Nat) (m_faults : Nat) (m_reached : Nat) (b : Int32) (hb : Int32) (f : Nat → Int32) : Cn l G i_Mod_putBit [.ref h, .int b] [(h, .inr (10, [.ref m_rels, .ref m_openRels, .ref m_closeRels, .ref m_openRel, .ref m_closeRel, .ref m_comment, .ref m_ends, .ref m_order, .int 0, .int 0, .ref m_tape, .ref m_count, .ref m_nameSize, .ref m_names, .ref m_size, .ref m_data, .int 0, .ref m_looked, .int 0, .ref m_file, .int 0, .ref m_directory, .int 0, .ref m_out, .int 0, .ref m_row, .int 0, .int 0, .int 0, .int 0, .ref m_made, .ref m_length, .int 0, .int 0, .int hb, .int 2, .int 1, .ref m_pressed, .int 0, .int 0, .int 0, .ref m_mark, .int 0, .ref m_idSize, .ref m_ids, .ref m_goalSize, .ref m_goals, .int 0, .ref m_value, .int 0, .ref m_faults, .ref m_reached])), (m_pressed, .inl (G.2.1, 5000, .inl f))] (S := Int32 × (Nat → Int32)) (fun v u => v = none) (fun u => [(h, .inr (10, [.ref m_rels, .ref m_openRels, .ref m_closeRels, .ref m_openRel, .ref m_closeRel, .ref m_comment, .ref m_ends, .ref m_order, .int 0, .int 0, .ref m_tape, .ref m_count, .ref m_nameSize, .ref m_names, .ref m_size, .ref m_data, .int 0, .ref m_looked, .int 0, .ref m_file, .int 0, .ref m_directory, .int 0, .ref m_out, .int 0, .ref m_row, .int 0, .int 0, .int 0, .int 0, .ref m_made, .ref m_length, .int 0, .int 0, .int u.1, .int 3, .int 1, .ref m_pressed, .int 0, .int 0, .int 0, .ref m_mark, .int 0, .ref m_idSize, .ref m_ids, .ref m_goalSize, .ref m_goals, .int 0, .ref m_value, .int 0, .ref m_faults, .ref m_reached])), (m_pressed, .inl (G.2.1, 5000, .inl u.2))]) := by
  refine Cn.of hl (by decide +kernel) rfl (Nat.le_of_ble_eq_true rfl) (fun M hQ => ?_)
  refine pb_eq (pc' := 0) (lo' := [(0, .ref h), (1, .int b)]) (rest' := []) (ws' := [(h, .inr (10, [.ref m_rels, .ref m_openRels, .ref m_closeRels, .ref m_openRel, .ref m_closeRel, .ref m_comment, .ref m_ends, .ref m_order, .int 0, .int 0, .ref m_tape, .ref m_count, .ref m_nameSize, .ref m_names, .ref m_size, .ref m_data, .int 0, .ref m_looked, .int 0, .ref m_file, .int 0, .ref m_directory, .int 0, .ref m_out, .int 0, .ref m_row, .int 0, .int 0, .int 0, .int 0, .ref m_made, .ref m_length, .int 0, .int 0, .int hb, .int 2, .int 1, .ref m_pressed, .int 0, .int 0, .int 0, .ref m_mark, .int 0, .ref m_idSize, .ref m_ids, .ref m_goalSize, .ref m_goals, .int 0, .ref m_value, .int 0, .ref m_faults, .ref m_reached])), (m_pressed, .inl (G.2.1, 5000, .inl f))]) ?_
  refine pb_aload_n (pc := 0) d_Mod_putBit_0 0 rfl rfl ?_
  refine pb_aload_n (pc := 1) d_Mod_putBit_1 0 rfl rfl ?_
  refine pb_get (pc := 2) d_Mod_putBit_2 0 34 rfl rfl (by decide) in_Mod k_1180 rfl ?_
  refine pb_iload_n (pc := 5) d_Mod_putBit_5 1 rfl rfl ?_
  refine pb_aload_n (pc := 6) d_Mod_putBit_6 0 rfl rfl ?_
  refine pb_get (pc := 7) d_Mod_putBit_7 0 35 rfl rfl (by decide) in_Mod k_1181 rfl ?_
  refine pb_ishl (pc := 10) d_Mod_putBit_10 ?_
  refine pb_topi (fun i1 ei1 => ?_)
  refine pb_iadd (pc := 11) d_Mod_putBit_11 ?_
  refine pb_topi (fun i2 ei2 => ?_)
  refine pb_put (pc := 12) (ty := .int) (ws' := [(h, .inr (10, [.ref m_rels, .ref m_openRels, .ref m_closeRels, .ref m_openRel, .ref m_closeRel, .ref m_comment, .ref m_ends, .ref m_order, .int 0, .int 0, .ref m_tape, .ref m_count, .ref m_nameSize, .ref m_names, .ref m_size, .ref m_data, .int 0, .ref m_looked, .int 0, .ref m_file, .int 0, .ref m_directory, .int 0, .ref m_out, .int 0, .ref m_row, .int 0, .int 0, .int 0, .int 0, .ref m_made, .ref m_length, .int 0, .int 0, .int i2, .int 2, .int 1, .ref m_pressed, .int 0, .int 0, .int 0, .ref m_mark, .int 0, .ref m_idSize, .ref m_ids, .ref m_goalSize, .ref m_goals, .int 0, .ref m_value, .int 0, .ref m_faults, .ref m_reached])), (m_pressed, .inl (G.2.1, 5000, .inl f))]) d_Mod_putBit_12 0 34 t_Mod t_Mod_ok n_Mod rfl rfl (by decide) in_Mod k_1180 rfl (by decide +kernel) rfl rfl (Nat.le_of_ble_eq_true rfl) rfl ?_
  refine pb_aload_n (pc := 15) d_Mod_putBit_15 0 rfl rfl ?_
  refine pb_dup (pc := 16) d_Mod_putBit_16 rfl ?_
  refine pb_get (pc := 17) d_Mod_putBit_17 0 35 rfl rfl (by decide) in_Mod k_1181 rfl ?_
  refine pb_iconst (pc := 20) (v := 1) d_Mod_putBit_20 (by decide) ?_
  refine pb_iadd (pc := 21) d_Mod_putBit_21 ?_
  refine pb_asi (y := 3) (by decide) ?_
  refine pb_put (pc := 22) (ty := .int) (ws' := [(h, .inr (10, [.ref m_rels, .ref m_openRels, .ref m_closeRels, .ref m_openRel, .ref m_closeRel, .ref m_comment, .ref m_ends, .ref m_order, .int 0, .int 0, .ref m_tape, .ref m_count, .ref m_nameSize, .ref m_names, .ref m_size, .ref m_data, .int 0, .ref m_looked, .int 0, .ref m_file, .int 0, .ref m_directory, .int 0, .ref m_out, .int 0, .ref m_row, .int 0, .int 0, .int 0, .int 0, .ref m_made, .ref m_length, .int 0, .int 0, .int i2, .int 3, .int 1, .ref m_pressed, .int 0, .int 0, .int 0, .ref m_mark, .int 0, .ref m_idSize, .ref m_ids, .ref m_goalSize, .ref m_goals, .int 0, .ref m_value, .int 0, .ref m_faults, .ref m_reached])), (m_pressed, .inl (G.2.1, 5000, .inl f))]) d_Mod_putBit_22 0 35 t_Mod t_Mod_ok n_Mod rfl rfl (by decide) in_Mod k_1181 rfl (by decide +kernel) rfl rfl (Nat.le_of_ble_eq_true rfl) rfl ?_
  refine pb_aload_n (pc := 25) d_Mod_putBit_25 0 rfl rfl ?_
  refine pb_get (pc := 26) d_Mod_putBit_26 0 35 rfl rfl (by decide) in_Mod k_1181 rfl ?_
  refine pb_bipush (pc := 29) (v := 8) d_Mod_putBit_29 (by decide) ?_
  refine pb_icmp_ne (pc := 31) (tgt := 68) d_Mod_putBit_31 (by decide) (fun _ => ?_) (fun h9 => absurd h9 (by decide))
  exact pb_vret (pc := 68) hQ d_Mod_putBit_68 rfl (i2, f) rfl [0, 1] (by decide) rfl rfl (by decide) (by decide)

set_option maxRecDepth 100000 in
set_option maxHeartbeats 4000000 in
theorem c_Mod_bit_3_0 {l : Launch} (hl : l.stackTraces = false) (G : pb_G) (h : Nat) (m_rels : Nat) (m_openRels : Nat) (m_closeRels : Nat) (m_openRel : Nat) (m_closeRel : Nat) (m_comment : Nat) (m_ends : Nat) (m_order : Nat) (m_tape : Nat) (m_count : Nat) (m_nameSize : Nat) (m_names : Nat) (m_size : Nat) (m_data : Nat) (m_looked : Nat) (m_file : Nat) (m_directory : Nat) (m_out : Nat) (m_row : Nat) (m_made : Nat) (m_length : Nat) (m_pressed : Nat) (m_mark : Nat) (m_idSize : Nat) (m_ids : Nat) (m_goalSize : Nat) (m_goals : Nat) (m_value : Nat) (m_faults : Nat) (m_reached : Nat) (b : Int32) (hb : Int32) (f : Nat → Int32) : Cn l G i_Mod_putBit [.ref h, .int b] [(h, .inr (10, [.ref m_rels, .ref m_openRels, .ref m_closeRels, .ref m_openRel, .ref m_closeRel, .ref m_comment, .ref m_ends, .ref m_order, .int 0, .int 0, .ref m_tape, .ref m_count, .ref m_nameSize, .ref m_names, .ref m_size, .ref m_data, .int 0, .ref m_looked, .int 0, .ref m_file, .int 0, .ref m_directory, .int 0, .ref m_out, .int 0, .ref m_row, .int 0, .int 0, .int 0, .int 0, .ref m_made, .ref m_length, .int 0, .int 0, .int hb, .int 3, .int 0, .ref m_pressed, .int 0, .int 0, .int 0, .ref m_mark, .int 0, .ref m_idSize, .ref m_ids, .ref m_goalSize, .ref m_goals, .int 0, .ref m_value, .int 0, .ref m_faults, .ref m_reached])), (m_pressed, .inl (G.2.1, 5000, .inl f))] (S := Int32 × (Nat → Int32)) (fun v u => v = none) (fun u => [(h, .inr (10, [.ref m_rels, .ref m_openRels, .ref m_closeRels, .ref m_openRel, .ref m_closeRel, .ref m_comment, .ref m_ends, .ref m_order, .int 0, .int 0, .ref m_tape, .ref m_count, .ref m_nameSize, .ref m_names, .ref m_size, .ref m_data, .int 0, .ref m_looked, .int 0, .ref m_file, .int 0, .ref m_directory, .int 0, .ref m_out, .int 0, .ref m_row, .int 0, .int 0, .int 0, .int 0, .ref m_made, .ref m_length, .int 0, .int 0, .int u.1, .int 4, .int 0, .ref m_pressed, .int 0, .int 0, .int 0, .ref m_mark, .int 0, .ref m_idSize, .ref m_ids, .ref m_goalSize, .ref m_goals, .int 0, .ref m_value, .int 0, .ref m_faults, .ref m_reached])), (m_pressed, .inl (G.2.1, 5000, .inl u.2))]) := by
  refine Cn.of hl (by decide +kernel) rfl (Nat.le_of_ble_eq_true rfl) (fun M hQ => ?_)
  refine pb_eq (pc' := 0) (lo' := [(0, .ref h), (1, .int b)]) (rest' := []) (ws' := [(h, .inr (10, [.ref m_rels, .ref m_openRels, .ref m_closeRels, .ref m_openRel, .ref m_closeRel, .ref m_comment, .ref m_ends, .ref m_order, .int 0, .int 0, .ref m_tape, .ref m_count, .ref m_nameSize, .ref m_names, .ref m_size, .ref m_data, .int 0, .ref m_looked, .int 0, .ref m_file, .int 0, .ref m_directory, .int 0, .ref m_out, .int 0, .ref m_row, .int 0, .int 0, .int 0, .int 0, .ref m_made, .ref m_length, .int 0, .int 0, .int hb, .int 3, .int 0, .ref m_pressed, .int 0, .int 0, .int 0, .ref m_mark, .int 0, .ref m_idSize, .ref m_ids, .ref m_goalSize, .ref m_goals, .int 0, .ref m_value, .int 0, .ref m_faults, .ref m_reached])), (m_pressed, .inl (G.2.1, 5000, .inl f))]) ?_
  refine pb_aload_n (pc := 0) d_Mod_putBit_0 0 rfl rfl ?_
  refine pb_aload_n (pc := 1) d_Mod_putBit_1 0 rfl rfl ?_
  refine pb_get (pc := 2) d_Mod_putBit_2 0 34 rfl rfl (by decide) in_Mod k_1180 rfl ?_
  refine pb_iload_n (pc := 5) d_Mod_putBit_5 1 rfl rfl ?_
  refine pb_aload_n (pc := 6) d_Mod_putBit_6 0 rfl rfl ?_
  refine pb_get (pc := 7) d_Mod_putBit_7 0 35 rfl rfl (by decide) in_Mod k_1181 rfl ?_
  refine pb_ishl (pc := 10) d_Mod_putBit_10 ?_
  refine pb_topi (fun i1 ei1 => ?_)
  refine pb_iadd (pc := 11) d_Mod_putBit_11 ?_
  refine pb_topi (fun i2 ei2 => ?_)
  refine pb_put (pc := 12) (ty := .int) (ws' := [(h, .inr (10, [.ref m_rels, .ref m_openRels, .ref m_closeRels, .ref m_openRel, .ref m_closeRel, .ref m_comment, .ref m_ends, .ref m_order, .int 0, .int 0, .ref m_tape, .ref m_count, .ref m_nameSize, .ref m_names, .ref m_size, .ref m_data, .int 0, .ref m_looked, .int 0, .ref m_file, .int 0, .ref m_directory, .int 0, .ref m_out, .int 0, .ref m_row, .int 0, .int 0, .int 0, .int 0, .ref m_made, .ref m_length, .int 0, .int 0, .int i2, .int 3, .int 0, .ref m_pressed, .int 0, .int 0, .int 0, .ref m_mark, .int 0, .ref m_idSize, .ref m_ids, .ref m_goalSize, .ref m_goals, .int 0, .ref m_value, .int 0, .ref m_faults, .ref m_reached])), (m_pressed, .inl (G.2.1, 5000, .inl f))]) d_Mod_putBit_12 0 34 t_Mod t_Mod_ok n_Mod rfl rfl (by decide) in_Mod k_1180 rfl (by decide +kernel) rfl rfl (Nat.le_of_ble_eq_true rfl) rfl ?_
  refine pb_aload_n (pc := 15) d_Mod_putBit_15 0 rfl rfl ?_
  refine pb_dup (pc := 16) d_Mod_putBit_16 rfl ?_
  refine pb_get (pc := 17) d_Mod_putBit_17 0 35 rfl rfl (by decide) in_Mod k_1181 rfl ?_
  refine pb_iconst (pc := 20) (v := 1) d_Mod_putBit_20 (by decide) ?_
  refine pb_iadd (pc := 21) d_Mod_putBit_21 ?_
  refine pb_asi (y := 4) (by decide) ?_
  refine pb_put (pc := 22) (ty := .int) (ws' := [(h, .inr (10, [.ref m_rels, .ref m_openRels, .ref m_closeRels, .ref m_openRel, .ref m_closeRel, .ref m_comment, .ref m_ends, .ref m_order, .int 0, .int 0, .ref m_tape, .ref m_count, .ref m_nameSize, .ref m_names, .ref m_size, .ref m_data, .int 0, .ref m_looked, .int 0, .ref m_file, .int 0, .ref m_directory, .int 0, .ref m_out, .int 0, .ref m_row, .int 0, .int 0, .int 0, .int 0, .ref m_made, .ref m_length, .int 0, .int 0, .int i2, .int 4, .int 0, .ref m_pressed, .int 0, .int 0, .int 0, .ref m_mark, .int 0, .ref m_idSize, .ref m_ids, .ref m_goalSize, .ref m_goals, .int 0, .ref m_value, .int 0, .ref m_faults, .ref m_reached])), (m_pressed, .inl (G.2.1, 5000, .inl f))]) d_Mod_putBit_22 0 35 t_Mod t_Mod_ok n_Mod rfl rfl (by decide) in_Mod k_1181 rfl (by decide +kernel) rfl rfl (Nat.le_of_ble_eq_true rfl) rfl ?_
  refine pb_aload_n (pc := 25) d_Mod_putBit_25 0 rfl rfl ?_
  refine pb_get (pc := 26) d_Mod_putBit_26 0 35 rfl rfl (by decide) in_Mod k_1181 rfl ?_
  refine pb_bipush (pc := 29) (v := 8) d_Mod_putBit_29 (by decide) ?_
  refine pb_icmp_ne (pc := 31) (tgt := 68) d_Mod_putBit_31 (by decide) (fun _ => ?_) (fun h9 => absurd h9 (by decide))
  exact pb_vret (pc := 68) hQ d_Mod_putBit_68 rfl (i2, f) rfl [0, 1] (by decide) rfl rfl (by decide) (by decide)

set_option maxRecDepth 100000 in
set_option maxHeartbeats 4000000 in
theorem c_Mod_bit_3_1 {l : Launch} (hl : l.stackTraces = false) (G : pb_G) (h : Nat) (m_rels : Nat) (m_openRels : Nat) (m_closeRels : Nat) (m_openRel : Nat) (m_closeRel : Nat) (m_comment : Nat) (m_ends : Nat) (m_order : Nat) (m_tape : Nat) (m_count : Nat) (m_nameSize : Nat) (m_names : Nat) (m_size : Nat) (m_data : Nat) (m_looked : Nat) (m_file : Nat) (m_directory : Nat) (m_out : Nat) (m_row : Nat) (m_made : Nat) (m_length : Nat) (m_pressed : Nat) (m_mark : Nat) (m_idSize : Nat) (m_ids : Nat) (m_goalSize : Nat) (m_goals : Nat) (m_value : Nat) (m_faults : Nat) (m_reached : Nat) (b : Int32) (hb : Int32) (f : Nat → Int32) : Cn l G i_Mod_putBit [.ref h, .int b] [(h, .inr (10, [.ref m_rels, .ref m_openRels, .ref m_closeRels, .ref m_openRel, .ref m_closeRel, .ref m_comment, .ref m_ends, .ref m_order, .int 0, .int 0, .ref m_tape, .ref m_count, .ref m_nameSize, .ref m_names, .ref m_size, .ref m_data, .int 0, .ref m_looked, .int 0, .ref m_file, .int 0, .ref m_directory, .int 0, .ref m_out, .int 0, .ref m_row, .int 0, .int 0, .int 0, .int 0, .ref m_made, .ref m_length, .int 0, .int 0, .int hb, .int 3, .int 1, .ref m_pressed, .int 0, .int 0, .int 0, .ref m_mark, .int 0, .ref m_idSize, .ref m_ids, .ref m_goalSize, .ref m_goals, .int 0, .ref m_value, .int 0, .ref m_faults, .ref m_reached])), (m_pressed, .inl (G.2.1, 5000, .inl f))] (S := Int32 × (Nat → Int32)) (fun v u => v = none) (fun u => [(h, .inr (10, [.ref m_rels, .ref m_openRels, .ref m_closeRels, .ref m_openRel, .ref m_closeRel, .ref m_comment, .ref m_ends, .ref m_order, .int 0, .int 0, .ref m_tape, .ref m_count, .ref m_nameSize, .ref m_names, .ref m_size, .ref m_data, .int 0, .ref m_looked, .int 0, .ref m_file, .int 0, .ref m_directory, .int 0, .ref m_out, .int 0, .ref m_row, .int 0, .int 0, .int 0, .int 0, .ref m_made, .ref m_length, .int 0, .int 0, .int u.1, .int 4, .int 1, .ref m_pressed, .int 0, .int 0, .int 0, .ref m_mark, .int 0, .ref m_idSize, .ref m_ids, .ref m_goalSize, .ref m_goals, .int 0, .ref m_value, .int 0, .ref m_faults, .ref m_reached])), (m_pressed, .inl (G.2.1, 5000, .inl u.2))]) := by
  refine Cn.of hl (by decide +kernel) rfl (Nat.le_of_ble_eq_true rfl) (fun M hQ => ?_)
  refine pb_eq (pc' := 0) (lo' := [(0, .ref h), (1, .int b)]) (rest' := []) (ws' := [(h, .inr (10, [.ref m_rels, .ref m_openRels, .ref m_closeRels, .ref m_openRel, .ref m_closeRel, .ref m_comment, .ref m_ends, .ref m_order, .int 0, .int 0, .ref m_tape, .ref m_count, .ref m_nameSize, .ref m_names, .ref m_size, .ref m_data, .int 0, .ref m_looked, .int 0, .ref m_file, .int 0, .ref m_directory, .int 0, .ref m_out, .int 0, .ref m_row, .int 0, .int 0, .int 0, .int 0, .ref m_made, .ref m_length, .int 0, .int 0, .int hb, .int 3, .int 1, .ref m_pressed, .int 0, .int 0, .int 0, .ref m_mark, .int 0, .ref m_idSize, .ref m_ids, .ref m_goalSize, .ref m_goals, .int 0, .ref m_value, .int 0, .ref m_faults, .ref m_reached])), (m_pressed, .inl (G.2.1, 5000, .inl f))]) ?_
  refine pb_aload_n (pc := 0) d_Mod_putBit_0 0 rfl rfl ?_
  refine pb_aload_n (pc := 1) d_Mod_putBit_1 0 rfl rfl ?_
  refine pb_get (pc := 2) d_Mod_putBit_2 0 34 rfl rfl (by decide) in_Mod k_1180 rfl ?_
  refine pb_iload_n (pc := 5) d_Mod_putBit_5 1 rfl rfl ?_
  refine pb_aload_n (pc := 6) d_Mod_putBit_6 0 rfl rfl ?_
  refine pb_get (pc := 7) d_Mod_putBit_7 0 35 rfl rfl (by decide) in_Mod k_1181 rfl ?_
  refine pb_ishl (pc := 10) d_Mod_putBit_10 ?_
  refine pb_topi (fun i1 ei1 => ?_)
  refine pb_iadd (pc := 11) d_Mod_putBit_11 ?_
  refine pb_topi (fun i2 ei2 => ?_)
  refine pb_put (pc := 12) (ty := .int) (ws' := [(h, .inr (10, [.ref m_rels, .ref m_openRels, .ref m_closeRels, .ref m_openRel, .ref m_closeRel, .ref m_comment, .ref m_ends, .ref m_order, .int 0, .int 0, .ref m_tape, .ref m_count, .ref m_nameSize, .ref m_names, .ref m_size, .ref m_data, .int 0, .ref m_looked, .int 0, .ref m_file, .int 0, .ref m_directory, .int 0, .ref m_out, .int 0, .ref m_row, .int 0, .int 0, .int 0, .int 0, .ref m_made, .ref m_length, .int 0, .int 0, .int i2, .int 3, .int 1, .ref m_pressed, .int 0, .int 0, .int 0, .ref m_mark, .int 0, .ref m_idSize, .ref m_ids, .ref m_goalSize, .ref m_goals, .int 0, .ref m_value, .int 0, .ref m_faults, .ref m_reached])), (m_pressed, .inl (G.2.1, 5000, .inl f))]) d_Mod_putBit_12 0 34 t_Mod t_Mod_ok n_Mod rfl rfl (by decide) in_Mod k_1180 rfl (by decide +kernel) rfl rfl (Nat.le_of_ble_eq_true rfl) rfl ?_
  refine pb_aload_n (pc := 15) d_Mod_putBit_15 0 rfl rfl ?_
  refine pb_dup (pc := 16) d_Mod_putBit_16 rfl ?_
  refine pb_get (pc := 17) d_Mod_putBit_17 0 35 rfl rfl (by decide) in_Mod k_1181 rfl ?_
  refine pb_iconst (pc := 20) (v := 1) d_Mod_putBit_20 (by decide) ?_
  refine pb_iadd (pc := 21) d_Mod_putBit_21 ?_
  refine pb_asi (y := 4) (by decide) ?_
  refine pb_put (pc := 22) (ty := .int) (ws' := [(h, .inr (10, [.ref m_rels, .ref m_openRels, .ref m_closeRels, .ref m_openRel, .ref m_closeRel, .ref m_comment, .ref m_ends, .ref m_order, .int 0, .int 0, .ref m_tape, .ref m_count, .ref m_nameSize, .ref m_names, .ref m_size, .ref m_data, .int 0, .ref m_looked, .int 0, .ref m_file, .int 0, .ref m_directory, .int 0, .ref m_out, .int 0, .ref m_row, .int 0, .int 0, .int 0, .int 0, .ref m_made, .ref m_length, .int 0, .int 0, .int i2, .int 4, .int 1, .ref m_pressed, .int 0, .int 0, .int 0, .ref m_mark, .int 0, .ref m_idSize, .ref m_ids, .ref m_goalSize, .ref m_goals, .int 0, .ref m_value, .int 0, .ref m_faults, .ref m_reached])), (m_pressed, .inl (G.2.1, 5000, .inl f))]) d_Mod_putBit_22 0 35 t_Mod t_Mod_ok n_Mod rfl rfl (by decide) in_Mod k_1181 rfl (by decide +kernel) rfl rfl (Nat.le_of_ble_eq_true rfl) rfl ?_
  refine pb_aload_n (pc := 25) d_Mod_putBit_25 0 rfl rfl ?_
  refine pb_get (pc := 26) d_Mod_putBit_26 0 35 rfl rfl (by decide) in_Mod k_1181 rfl ?_
  refine pb_bipush (pc := 29) (v := 8) d_Mod_putBit_29 (by decide) ?_
  refine pb_icmp_ne (pc := 31) (tgt := 68) d_Mod_putBit_31 (by decide) (fun _ => ?_) (fun h9 => absurd h9 (by decide))
  exact pb_vret (pc := 68) hQ d_Mod_putBit_68 rfl (i2, f) rfl [0, 1] (by decide) rfl rfl (by decide) (by decide)

set_option maxRecDepth 100000 in
set_option maxHeartbeats 4000000 in
theorem c_Mod_bit_4_0 {l : Launch} (hl : l.stackTraces = false) (G : pb_G) (h : Nat) (m_rels : Nat) (m_openRels : Nat) (m_closeRels : Nat) (m_openRel : Nat) (m_closeRel : Nat) (m_comment : Nat) (m_ends : Nat) (m_order : Nat) (m_tape : Nat) (m_count : Nat) (m_nameSize : Nat) (m_names : Nat) (m_size : Nat) (m_data : Nat) (m_looked : Nat) (m_file : Nat) (m_directory : Nat) (m_out : Nat) (m_row : Nat) (m_made : Nat) (m_length : Nat) (m_pressed : Nat) (m_mark : Nat) (m_idSize : Nat) (m_ids : Nat) (m_goalSize : Nat) (m_goals : Nat) (m_value : Nat) (m_faults : Nat) (m_reached : Nat) (b : Int32) (hb : Int32) (f : Nat → Int32) : Cn l G i_Mod_putBit [.ref h, .int b] [(h, .inr (10, [.ref m_rels, .ref m_openRels, .ref m_closeRels, .ref m_openRel, .ref m_closeRel, .ref m_comment, .ref m_ends, .ref m_order, .int 0, .int 0, .ref m_tape, .ref m_count, .ref m_nameSize, .ref m_names, .ref m_size, .ref m_data, .int 0, .ref m_looked, .int 0, .ref m_file, .int 0, .ref m_directory, .int 0, .ref m_out, .int 0, .ref m_row, .int 0, .int 0, .int 0, .int 0, .ref m_made, .ref m_length, .int 0, .int 0, .int hb, .int 4, .int 0, .ref m_pressed, .int 0, .int 0, .int 0, .ref m_mark, .int 0, .ref m_idSize, .ref m_ids, .ref m_goalSize, .ref m_goals, .int 0, .ref m_value, .int 0, .ref m_faults, .ref m_reached])), (m_pressed, .inl (G.2.1, 5000, .inl f))] (S := Int32 × (Nat → Int32)) (fun v u => v = none) (fun u => [(h, .inr (10, [.ref m_rels, .ref m_openRels, .ref m_closeRels, .ref m_openRel, .ref m_closeRel, .ref m_comment, .ref m_ends, .ref m_order, .int 0, .int 0, .ref m_tape, .ref m_count, .ref m_nameSize, .ref m_names, .ref m_size, .ref m_data, .int 0, .ref m_looked, .int 0, .ref m_file, .int 0, .ref m_directory, .int 0, .ref m_out, .int 0, .ref m_row, .int 0, .int 0, .int 0, .int 0, .ref m_made, .ref m_length, .int 0, .int 0, .int u.1, .int 5, .int 0, .ref m_pressed, .int 0, .int 0, .int 0, .ref m_mark, .int 0, .ref m_idSize, .ref m_ids, .ref m_goalSize, .ref m_goals, .int 0, .ref m_value, .int 0, .ref m_faults, .ref m_reached])), (m_pressed, .inl (G.2.1, 5000, .inl u.2))]) := by
  refine Cn.of hl (by decide +kernel) rfl (Nat.le_of_ble_eq_true rfl) (fun M hQ => ?_)
  refine pb_eq (pc' := 0) (lo' := [(0, .ref h), (1, .int b)]) (rest' := []) (ws' := [(h, .inr (10, [.ref m_rels, .ref m_openRels, .ref m_closeRels, .ref m_openRel, .ref m_closeRel, .ref m_comment, .ref m_ends, .ref m_order, .int 0, .int 0, .ref m_tape, .ref m_count, .ref m_nameSize, .ref m_names, .ref m_size, .ref m_data, .int 0, .ref m_looked, .int 0, .ref m_file, .int 0, .ref m_directory, .int 0, .ref m_out, .int 0, .ref m_row, .int 0, .int 0, .int 0, .int 0, .ref m_made, .ref m_length, .int 0, .int 0, .int hb, .int 4, .int 0, .ref m_pressed, .int 0, .int 0, .int 0, .ref m_mark, .int 0, .ref m_idSize, .ref m_ids, .ref m_goalSize, .ref m_goals, .int 0, .ref m_value, .int 0, .ref m_faults, .ref m_reached])), (m_pressed, .inl (G.2.1, 5000, .inl f))]) ?_
  refine pb_aload_n (pc := 0) d_Mod_putBit_0 0 rfl rfl ?_
  refine pb_aload_n (pc := 1) d_Mod_putBit_1 0 rfl rfl ?_
  refine pb_get (pc := 2) d_Mod_putBit_2 0 34 rfl rfl (by decide) in_Mod k_1180 rfl ?_
  refine pb_iload_n (pc := 5) d_Mod_putBit_5 1 rfl rfl ?_
  refine pb_aload_n (pc := 6) d_Mod_putBit_6 0 rfl rfl ?_
  refine pb_get (pc := 7) d_Mod_putBit_7 0 35 rfl rfl (by decide) in_Mod k_1181 rfl ?_
  refine pb_ishl (pc := 10) d_Mod_putBit_10 ?_
  refine pb_topi (fun i1 ei1 => ?_)
  refine pb_iadd (pc := 11) d_Mod_putBit_11 ?_
  refine pb_topi (fun i2 ei2 => ?_)
  refine pb_put (pc := 12) (ty := .int) (ws' := [(h, .inr (10, [.ref m_rels, .ref m_openRels, .ref m_closeRels, .ref m_openRel, .ref m_closeRel, .ref m_comment, .ref m_ends, .ref m_order, .int 0, .int 0, .ref m_tape, .ref m_count, .ref m_nameSize, .ref m_names, .ref m_size, .ref m_data, .int 0, .ref m_looked, .int 0, .ref m_file, .int 0, .ref m_directory, .int 0, .ref m_out, .int 0, .ref m_row, .int 0, .int 0, .int 0, .int 0, .ref m_made, .ref m_length, .int 0, .int 0, .int i2, .int 4, .int 0, .ref m_pressed, .int 0, .int 0, .int 0, .ref m_mark, .int 0, .ref m_idSize, .ref m_ids, .ref m_goalSize, .ref m_goals, .int 0, .ref m_value, .int 0, .ref m_faults, .ref m_reached])), (m_pressed, .inl (G.2.1, 5000, .inl f))]) d_Mod_putBit_12 0 34 t_Mod t_Mod_ok n_Mod rfl rfl (by decide) in_Mod k_1180 rfl (by decide +kernel) rfl rfl (Nat.le_of_ble_eq_true rfl) rfl ?_
  refine pb_aload_n (pc := 15) d_Mod_putBit_15 0 rfl rfl ?_
  refine pb_dup (pc := 16) d_Mod_putBit_16 rfl ?_
  refine pb_get (pc := 17) d_Mod_putBit_17 0 35 rfl rfl (by decide) in_Mod k_1181 rfl ?_
  refine pb_iconst (pc := 20) (v := 1) d_Mod_putBit_20 (by decide) ?_
  refine pb_iadd (pc := 21) d_Mod_putBit_21 ?_
  refine pb_asi (y := 5) (by decide) ?_
  refine pb_put (pc := 22) (ty := .int) (ws' := [(h, .inr (10, [.ref m_rels, .ref m_openRels, .ref m_closeRels, .ref m_openRel, .ref m_closeRel, .ref m_comment, .ref m_ends, .ref m_order, .int 0, .int 0, .ref m_tape, .ref m_count, .ref m_nameSize, .ref m_names, .ref m_size, .ref m_data, .int 0, .ref m_looked, .int 0, .ref m_file, .int 0, .ref m_directory, .int 0, .ref m_out, .int 0, .ref m_row, .int 0, .int 0, .int 0, .int 0, .ref m_made, .ref m_length, .int 0, .int 0, .int i2, .int 5, .int 0, .ref m_pressed, .int 0, .int 0, .int 0, .ref m_mark, .int 0, .ref m_idSize, .ref m_ids, .ref m_goalSize, .ref m_goals, .int 0, .ref m_value, .int 0, .ref m_faults, .ref m_reached])), (m_pressed, .inl (G.2.1, 5000, .inl f))]) d_Mod_putBit_22 0 35 t_Mod t_Mod_ok n_Mod rfl rfl (by decide) in_Mod k_1181 rfl (by decide +kernel) rfl rfl (Nat.le_of_ble_eq_true rfl) rfl ?_
  refine pb_aload_n (pc := 25) d_Mod_putBit_25 0 rfl rfl ?_
  refine pb_get (pc := 26) d_Mod_putBit_26 0 35 rfl rfl (by decide) in_Mod k_1181 rfl ?_
  refine pb_bipush (pc := 29) (v := 8) d_Mod_putBit_29 (by decide) ?_
  refine pb_icmp_ne (pc := 31) (tgt := 68) d_Mod_putBit_31 (by decide) (fun _ => ?_) (fun h9 => absurd h9 (by decide))
  exact pb_vret (pc := 68) hQ d_Mod_putBit_68 rfl (i2, f) rfl [0, 1] (by decide) rfl rfl (by decide) (by decide)

set_option maxRecDepth 100000 in
set_option maxHeartbeats 4000000 in
theorem c_Mod_bit_4_1 {l : Launch} (hl : l.stackTraces = false) (G : pb_G) (h : Nat) (m_rels : Nat) (m_openRels : Nat) (m_closeRels : Nat) (m_openRel : Nat) (m_closeRel : Nat) (m_comment : Nat) (m_ends : Nat) (m_order : Nat) (m_tape : Nat) (m_count : Nat) (m_nameSize : Nat) (m_names : Nat) (m_size : Nat) (m_data : Nat) (m_looked : Nat) (m_file : Nat) (m_directory : Nat) (m_out : Nat) (m_row : Nat) (m_made : Nat) (m_length : Nat) (m_pressed : Nat) (m_mark : Nat) (m_idSize : Nat) (m_ids : Nat) (m_goalSize : Nat) (m_goals : Nat) (m_value : Nat) (m_faults : Nat) (m_reached : Nat) (b : Int32) (hb : Int32) (f : Nat → Int32) : Cn l G i_Mod_putBit [.ref h, .int b] [(h, .inr (10, [.ref m_rels, .ref m_openRels, .ref m_closeRels, .ref m_openRel, .ref m_closeRel, .ref m_comment, .ref m_ends, .ref m_order, .int 0, .int 0, .ref m_tape, .ref m_count, .ref m_nameSize, .ref m_names, .ref m_size, .ref m_data, .int 0, .ref m_looked, .int 0, .ref m_file, .int 0, .ref m_directory, .int 0, .ref m_out, .int 0, .ref m_row, .int 0, .int 0, .int 0, .int 0, .ref m_made, .ref m_length, .int 0, .int 0, .int hb, .int 4, .int 1, .ref m_pressed, .int 0, .int 0, .int 0, .ref m_mark, .int 0, .ref m_idSize, .ref m_ids, .ref m_goalSize, .ref m_goals, .int 0, .ref m_value, .int 0, .ref m_faults, .ref m_reached])), (m_pressed, .inl (G.2.1, 5000, .inl f))] (S := Int32 × (Nat → Int32)) (fun v u => v = none) (fun u => [(h, .inr (10, [.ref m_rels, .ref m_openRels, .ref m_closeRels, .ref m_openRel, .ref m_closeRel, .ref m_comment, .ref m_ends, .ref m_order, .int 0, .int 0, .ref m_tape, .ref m_count, .ref m_nameSize, .ref m_names, .ref m_size, .ref m_data, .int 0, .ref m_looked, .int 0, .ref m_file, .int 0, .ref m_directory, .int 0, .ref m_out, .int 0, .ref m_row, .int 0, .int 0, .int 0, .int 0, .ref m_made, .ref m_length, .int 0, .int 0, .int u.1, .int 5, .int 1, .ref m_pressed, .int 0, .int 0, .int 0, .ref m_mark, .int 0, .ref m_idSize, .ref m_ids, .ref m_goalSize, .ref m_goals, .int 0, .ref m_value, .int 0, .ref m_faults, .ref m_reached])), (m_pressed, .inl (G.2.1, 5000, .inl u.2))]) := by
  refine Cn.of hl (by decide +kernel) rfl (Nat.le_of_ble_eq_true rfl) (fun M hQ => ?_)
  refine pb_eq (pc' := 0) (lo' := [(0, .ref h), (1, .int b)]) (rest' := []) (ws' := [(h, .inr (10, [.ref m_rels, .ref m_openRels, .ref m_closeRels, .ref m_openRel, .ref m_closeRel, .ref m_comment, .ref m_ends, .ref m_order, .int 0, .int 0, .ref m_tape, .ref m_count, .ref m_nameSize, .ref m_names, .ref m_size, .ref m_data, .int 0, .ref m_looked, .int 0, .ref m_file, .int 0, .ref m_directory, .int 0, .ref m_out, .int 0, .ref m_row, .int 0, .int 0, .int 0, .int 0, .ref m_made, .ref m_length, .int 0, .int 0, .int hb, .int 4, .int 1, .ref m_pressed, .int 0, .int 0, .int 0, .ref m_mark, .int 0, .ref m_idSize, .ref m_ids, .ref m_goalSize, .ref m_goals, .int 0, .ref m_value, .int 0, .ref m_faults, .ref m_reached])), (m_pressed, .inl (G.2.1, 5000, .inl f))]) ?_
  refine pb_aload_n (pc := 0) d_Mod_putBit_0 0 rfl rfl ?_
  refine pb_aload_n (pc := 1) d_Mod_putBit_1 0 rfl rfl ?_
  refine pb_get (pc := 2) d_Mod_putBit_2 0 34 rfl rfl (by decide) in_Mod k_1180 rfl ?_
  refine pb_iload_n (pc := 5) d_Mod_putBit_5 1 rfl rfl ?_
  refine pb_aload_n (pc := 6) d_Mod_putBit_6 0 rfl rfl ?_
  refine pb_get (pc := 7) d_Mod_putBit_7 0 35 rfl rfl (by decide) in_Mod k_1181 rfl ?_
  refine pb_ishl (pc := 10) d_Mod_putBit_10 ?_
  refine pb_topi (fun i1 ei1 => ?_)
  refine pb_iadd (pc := 11) d_Mod_putBit_11 ?_
  refine pb_topi (fun i2 ei2 => ?_)
  refine pb_put (pc := 12) (ty := .int) (ws' := [(h, .inr (10, [.ref m_rels, .ref m_openRels, .ref m_closeRels, .ref m_openRel, .ref m_closeRel, .ref m_comment, .ref m_ends, .ref m_order, .int 0, .int 0, .ref m_tape, .ref m_count, .ref m_nameSize, .ref m_names, .ref m_size, .ref m_data, .int 0, .ref m_looked, .int 0, .ref m_file, .int 0, .ref m_directory, .int 0, .ref m_out, .int 0, .ref m_row, .int 0, .int 0, .int 0, .int 0, .ref m_made, .ref m_length, .int 0, .int 0, .int i2, .int 4, .int 1, .ref m_pressed, .int 0, .int 0, .int 0, .ref m_mark, .int 0, .ref m_idSize, .ref m_ids, .ref m_goalSize, .ref m_goals, .int 0, .ref m_value, .int 0, .ref m_faults, .ref m_reached])), (m_pressed, .inl (G.2.1, 5000, .inl f))]) d_Mod_putBit_12 0 34 t_Mod t_Mod_ok n_Mod rfl rfl (by decide) in_Mod k_1180 rfl (by decide +kernel) rfl rfl (Nat.le_of_ble_eq_true rfl) rfl ?_
  refine pb_aload_n (pc := 15) d_Mod_putBit_15 0 rfl rfl ?_
  refine pb_dup (pc := 16) d_Mod_putBit_16 rfl ?_
  refine pb_get (pc := 17) d_Mod_putBit_17 0 35 rfl rfl (by decide) in_Mod k_1181 rfl ?_
  refine pb_iconst (pc := 20) (v := 1) d_Mod_putBit_20 (by decide) ?_
  refine pb_iadd (pc := 21) d_Mod_putBit_21 ?_
  refine pb_asi (y := 5) (by decide) ?_
  refine pb_put (pc := 22) (ty := .int) (ws' := [(h, .inr (10, [.ref m_rels, .ref m_openRels, .ref m_closeRels, .ref m_openRel, .ref m_closeRel, .ref m_comment, .ref m_ends, .ref m_order, .int 0, .int 0, .ref m_tape, .ref m_count, .ref m_nameSize, .ref m_names, .ref m_size, .ref m_data, .int 0, .ref m_looked, .int 0, .ref m_file, .int 0, .ref m_directory, .int 0, .ref m_out, .int 0, .ref m_row, .int 0, .int 0, .int 0, .int 0, .ref m_made, .ref m_length, .int 0, .int 0, .int i2, .int 5, .int 1, .ref m_pressed, .int 0, .int 0, .int 0, .ref m_mark, .int 0, .ref m_idSize, .ref m_ids, .ref m_goalSize, .ref m_goals, .int 0, .ref m_value, .int 0, .ref m_faults, .ref m_reached])), (m_pressed, .inl (G.2.1, 5000, .inl f))]) d_Mod_putBit_22 0 35 t_Mod t_Mod_ok n_Mod rfl rfl (by decide) in_Mod k_1181 rfl (by decide +kernel) rfl rfl (Nat.le_of_ble_eq_true rfl) rfl ?_
  refine pb_aload_n (pc := 25) d_Mod_putBit_25 0 rfl rfl ?_
  refine pb_get (pc := 26) d_Mod_putBit_26 0 35 rfl rfl (by decide) in_Mod k_1181 rfl ?_
  refine pb_bipush (pc := 29) (v := 8) d_Mod_putBit_29 (by decide) ?_
  refine pb_icmp_ne (pc := 31) (tgt := 68) d_Mod_putBit_31 (by decide) (fun _ => ?_) (fun h9 => absurd h9 (by decide))
  exact pb_vret (pc := 68) hQ d_Mod_putBit_68 rfl (i2, f) rfl [0, 1] (by decide) rfl rfl (by decide) (by decide)

set_option maxRecDepth 100000 in
set_option maxHeartbeats 4000000 in
theorem c_Mod_bit_5_0 {l : Launch} (hl : l.stackTraces = false) (G : pb_G) (h : Nat) (m_rels : Nat) (m_openRels : Nat) (m_closeRels : Nat) (m_openRel : Nat) (m_closeRel : Nat) (m_comment : Nat) (m_ends : Nat) (m_order : Nat) (m_tape : Nat) (m_count : Nat) (m_nameSize : Nat) (m_names : Nat) (m_size : Nat) (m_data : Nat) (m_looked : Nat) (m_file : Nat) (m_directory : Nat) (m_out : Nat) (m_row : Nat) (m_made : Nat) (m_length : Nat) (m_pressed : Nat) (m_mark : Nat) (m_idSize : Nat) (m_ids : Nat) (m_goalSize : Nat) (m_goals : Nat) (m_value : Nat) (m_faults : Nat) (m_reached : Nat) (b : Int32) (hb : Int32) (f : Nat → Int32) : Cn l G i_Mod_putBit [.ref h, .int b] [(h, .inr (10, [.ref m_rels, .ref m_openRels, .ref m_closeRels, .ref m_openRel, .ref m_closeRel, .ref m_comment, .ref m_ends, .ref m_order, .int 0, .int 0, .ref m_tape, .ref m_count, .ref m_nameSize, .ref m_names, .ref m_size, .ref m_data, .int 0, .ref m_looked, .int 0, .ref m_file, .int 0, .ref m_directory, .int 0, .ref m_out, .int 0, .ref m_row, .int 0, .int 0, .int 0, .int 0, .ref m_made, .ref m_length, .int 0, .int 0, .int hb, .int 5, .int 0, .ref m_pressed, .int 0, .int 0, .int 0, .ref m_mark, .int 0, .ref m_idSize, .ref m_ids, .ref m_goalSize, .ref m_goals, .int 0, .ref m_value, .int 0, .ref m_faults, .ref m_reached])), (m_pressed, .inl (G.2.1, 5000, .inl f))] (S := Int32 × (Nat → Int32)) (fun v u => v = none) (fun u => [(h, .inr (10, [.ref m_rels, .ref m_openRels, .ref m_closeRels, .ref m_openRel, .ref m_closeRel, .ref m_comment, .ref m_ends, .ref m_order, .int 0, .int 0, .ref m_tape, .ref m_count, .ref m_nameSize, .ref m_names, .ref m_size, .ref m_data, .int 0, .ref m_looked, .int 0, .ref m_file, .int 0, .ref m_directory, .int 0, .ref m_out, .int 0, .ref m_row, .int 0, .int 0, .int 0, .int 0, .ref m_made, .ref m_length, .int 0, .int 0, .int u.1, .int 6, .int 0, .ref m_pressed, .int 0, .int 0, .int 0, .ref m_mark, .int 0, .ref m_idSize, .ref m_ids, .ref m_goalSize, .ref m_goals, .int 0, .ref m_value, .int 0, .ref m_faults, .ref m_reached])), (m_pressed, .inl (G.2.1, 5000, .inl u.2))]) := by
  refine Cn.of hl (by decide +kernel) rfl (Nat.le_of_ble_eq_true rfl) (fun M hQ => ?_)
  refine pb_eq (pc' := 0) (lo' := [(0, .ref h), (1, .int b)]) (rest' := []) (ws' := [(h, .inr (10, [.ref m_rels, .ref m_openRels, .ref m_closeRels, .ref m_openRel, .ref m_closeRel, .ref m_comment, .ref m_ends, .ref m_order, .int 0, .int 0, .ref m_tape, .ref m_count, .ref m_nameSize, .ref m_names, .ref m_size, .ref m_data, .int 0, .ref m_looked, .int 0, .ref m_file, .int 0, .ref m_directory, .int 0, .ref m_out, .int 0, .ref m_row, .int 0, .int 0, .int 0, .int 0, .ref m_made, .ref m_length, .int 0, .int 0, .int hb, .int 5, .int 0, .ref m_pressed, .int 0, .int 0, .int 0, .ref m_mark, .int 0, .ref m_idSize, .ref m_ids, .ref m_goalSize, .ref m_goals, .int 0, .ref m_value, .int 0, .ref m_faults, .ref m_reached])), (m_pressed, .inl (G.2.1, 5000, .inl f))]) ?_
  refine pb_aload_n (pc := 0) d_Mod_putBit_0 0 rfl rfl ?_
  refine pb_aload_n (pc := 1) d_Mod_putBit_1 0 rfl rfl ?_
  refine pb_get (pc := 2) d_Mod_putBit_2 0 34 rfl rfl (by decide) in_Mod k_1180 rfl ?_
  refine pb_iload_n (pc := 5) d_Mod_putBit_5 1 rfl rfl ?_
  refine pb_aload_n (pc := 6) d_Mod_putBit_6 0 rfl rfl ?_
  refine pb_get (pc := 7) d_Mod_putBit_7 0 35 rfl rfl (by decide) in_Mod k_1181 rfl ?_
  refine pb_ishl (pc := 10) d_Mod_putBit_10 ?_
  refine pb_topi (fun i1 ei1 => ?_)
  refine pb_iadd (pc := 11) d_Mod_putBit_11 ?_
  refine pb_topi (fun i2 ei2 => ?_)
  refine pb_put (pc := 12) (ty := .int) (ws' := [(h, .inr (10, [.ref m_rels, .ref m_openRels, .ref m_closeRels, .ref m_openRel, .ref m_closeRel, .ref m_comment, .ref m_ends, .ref m_order, .int 0, .int 0, .ref m_tape, .ref m_count, .ref m_nameSize, .ref m_names, .ref m_size, .ref m_data, .int 0, .ref m_looked, .int 0, .ref m_file, .int 0, .ref m_directory, .int 0, .ref m_out, .int 0, .ref m_row, .int 0, .int 0, .int 0, .int 0, .ref m_made, .ref m_length, .int 0, .int 0, .int i2, .int 5, .int 0, .ref m_pressed, .int 0, .int 0, .int 0, .ref m_mark, .int 0, .ref m_idSize, .ref m_ids, .ref m_goalSize, .ref m_goals, .int 0, .ref m_value, .int 0, .ref m_faults, .ref m_reached])), (m_pressed, .inl (G.2.1, 5000, .inl f))]) d_Mod_putBit_12 0 34 t_Mod t_Mod_ok n_Mod rfl rfl (by decide) in_Mod k_1180 rfl (by decide +kernel) rfl rfl (Nat.le_of_ble_eq_true rfl) rfl ?_
  refine pb_aload_n (pc := 15) d_Mod_putBit_15 0 rfl rfl ?_
  refine pb_dup (pc := 16) d_Mod_putBit_16 rfl ?_
  refine pb_get (pc := 17) d_Mod_putBit_17 0 35 rfl rfl (by decide) in_Mod k_1181 rfl ?_
  refine pb_iconst (pc := 20) (v := 1) d_Mod_putBit_20 (by decide) ?_
  refine pb_iadd (pc := 21) d_Mod_putBit_21 ?_
  refine pb_asi (y := 6) (by decide) ?_
  refine pb_put (pc := 22) (ty := .int) (ws' := [(h, .inr (10, [.ref m_rels, .ref m_openRels, .ref m_closeRels, .ref m_openRel, .ref m_closeRel, .ref m_comment, .ref m_ends, .ref m_order, .int 0, .int 0, .ref m_tape, .ref m_count, .ref m_nameSize, .ref m_names, .ref m_size, .ref m_data, .int 0, .ref m_looked, .int 0, .ref m_file, .int 0, .ref m_directory, .int 0, .ref m_out, .int 0, .ref m_row, .int 0, .int 0, .int 0, .int 0, .ref m_made, .ref m_length, .int 0, .int 0, .int i2, .int 6, .int 0, .ref m_pressed, .int 0, .int 0, .int 0, .ref m_mark, .int 0, .ref m_idSize, .ref m_ids, .ref m_goalSize, .ref m_goals, .int 0, .ref m_value, .int 0, .ref m_faults, .ref m_reached])), (m_pressed, .inl (G.2.1, 5000, .inl f))]) d_Mod_putBit_22 0 35 t_Mod t_Mod_ok n_Mod rfl rfl (by decide) in_Mod k_1181 rfl (by decide +kernel) rfl rfl (Nat.le_of_ble_eq_true rfl) rfl ?_
  refine pb_aload_n (pc := 25) d_Mod_putBit_25 0 rfl rfl ?_
  refine pb_get (pc := 26) d_Mod_putBit_26 0 35 rfl rfl (by decide) in_Mod k_1181 rfl ?_
  refine pb_bipush (pc := 29) (v := 8) d_Mod_putBit_29 (by decide) ?_
  refine pb_icmp_ne (pc := 31) (tgt := 68) d_Mod_putBit_31 (by decide) (fun _ => ?_) (fun h9 => absurd h9 (by decide))
  exact pb_vret (pc := 68) hQ d_Mod_putBit_68 rfl (i2, f) rfl [0, 1] (by decide) rfl rfl (by decide) (by decide)

set_option maxRecDepth 100000 in
set_option maxHeartbeats 4000000 in
theorem c_Mod_bit_5_1 {l : Launch} (hl : l.stackTraces = false) (G : pb_G) (h : Nat) (m_rels : Nat) (m_openRels : Nat) (m_closeRels : Nat) (m_openRel : Nat) (m_closeRel : Nat) (m_comment : Nat) (m_ends : Nat) (m_order : Nat) (m_tape : Nat) (m_count : Nat) (m_nameSize : Nat) (m_names : Nat) (m_size : Nat) (m_data : Nat) (m_looked : Nat) (m_file : Nat) (m_directory : Nat) (m_out : Nat) (m_row : Nat) (m_made : Nat) (m_length : Nat) (m_pressed : Nat) (m_mark : Nat) (m_idSize : Nat) (m_ids : Nat) (m_goalSize : Nat) (m_goals : Nat) (m_value : Nat) (m_faults : Nat) (m_reached : Nat) (b : Int32) (hb : Int32) (f : Nat → Int32) : Cn l G i_Mod_putBit [.ref h, .int b] [(h, .inr (10, [.ref m_rels, .ref m_openRels, .ref m_closeRels, .ref m_openRel, .ref m_closeRel, .ref m_comment, .ref m_ends, .ref m_order, .int 0, .int 0, .ref m_tape, .ref m_count, .ref m_nameSize, .ref m_names, .ref m_size, .ref m_data, .int 0, .ref m_looked, .int 0, .ref m_file, .int 0, .ref m_directory, .int 0, .ref m_out, .int 0, .ref m_row, .int 0, .int 0, .int 0, .int 0, .ref m_made, .ref m_length, .int 0, .int 0, .int hb, .int 5, .int 1, .ref m_pressed, .int 0, .int 0, .int 0, .ref m_mark, .int 0, .ref m_idSize, .ref m_ids, .ref m_goalSize, .ref m_goals, .int 0, .ref m_value, .int 0, .ref m_faults, .ref m_reached])), (m_pressed, .inl (G.2.1, 5000, .inl f))] (S := Int32 × (Nat → Int32)) (fun v u => v = none) (fun u => [(h, .inr (10, [.ref m_rels, .ref m_openRels, .ref m_closeRels, .ref m_openRel, .ref m_closeRel, .ref m_comment, .ref m_ends, .ref m_order, .int 0, .int 0, .ref m_tape, .ref m_count, .ref m_nameSize, .ref m_names, .ref m_size, .ref m_data, .int 0, .ref m_looked, .int 0, .ref m_file, .int 0, .ref m_directory, .int 0, .ref m_out, .int 0, .ref m_row, .int 0, .int 0, .int 0, .int 0, .ref m_made, .ref m_length, .int 0, .int 0, .int u.1, .int 6, .int 1, .ref m_pressed, .int 0, .int 0, .int 0, .ref m_mark, .int 0, .ref m_idSize, .ref m_ids, .ref m_goalSize, .ref m_goals, .int 0, .ref m_value, .int 0, .ref m_faults, .ref m_reached])), (m_pressed, .inl (G.2.1, 5000, .inl u.2))]) := by
  refine Cn.of hl (by decide +kernel) rfl (Nat.le_of_ble_eq_true rfl) (fun M hQ => ?_)
  refine pb_eq (pc' := 0) (lo' := [(0, .ref h), (1, .int b)]) (rest' := []) (ws' := [(h, .inr (10, [.ref m_rels, .ref m_openRels, .ref m_closeRels, .ref m_openRel, .ref m_closeRel, .ref m_comment, .ref m_ends, .ref m_order, .int 0, .int 0, .ref m_tape, .ref m_count, .ref m_nameSize, .ref m_names, .ref m_size, .ref m_data, .int 0, .ref m_looked, .int 0, .ref m_file, .int 0, .ref m_directory, .int 0, .ref m_out, .int 0, .ref m_row, .int 0, .int 0, .int 0, .int 0, .ref m_made, .ref m_length, .int 0, .int 0, .int hb, .int 5, .int 1, .ref m_pressed, .int 0, .int 0, .int 0, .ref m_mark, .int 0, .ref m_idSize, .ref m_ids, .ref m_goalSize, .ref m_goals, .int 0, .ref m_value, .int 0, .ref m_faults, .ref m_reached])), (m_pressed, .inl (G.2.1, 5000, .inl f))]) ?_
  refine pb_aload_n (pc := 0) d_Mod_putBit_0 0 rfl rfl ?_
  refine pb_aload_n (pc := 1) d_Mod_putBit_1 0 rfl rfl ?_
  refine pb_get (pc := 2) d_Mod_putBit_2 0 34 rfl rfl (by decide) in_Mod k_1180 rfl ?_
  refine pb_iload_n (pc := 5) d_Mod_putBit_5 1 rfl rfl ?_
  refine pb_aload_n (pc := 6) d_Mod_putBit_6 0 rfl rfl ?_
  refine pb_get (pc := 7) d_Mod_putBit_7 0 35 rfl rfl (by decide) in_Mod k_1181 rfl ?_
  refine pb_ishl (pc := 10) d_Mod_putBit_10 ?_
  refine pb_topi (fun i1 ei1 => ?_)
  refine pb_iadd (pc := 11) d_Mod_putBit_11 ?_
  refine pb_topi (fun i2 ei2 => ?_)
  refine pb_put (pc := 12) (ty := .int) (ws' := [(h, .inr (10, [.ref m_rels, .ref m_openRels, .ref m_closeRels, .ref m_openRel, .ref m_closeRel, .ref m_comment, .ref m_ends, .ref m_order, .int 0, .int 0, .ref m_tape, .ref m_count, .ref m_nameSize, .ref m_names, .ref m_size, .ref m_data, .int 0, .ref m_looked, .int 0, .ref m_file, .int 0, .ref m_directory, .int 0, .ref m_out, .int 0, .ref m_row, .int 0, .int 0, .int 0, .int 0, .ref m_made, .ref m_length, .int 0, .int 0, .int i2, .int 5, .int 1, .ref m_pressed, .int 0, .int 0, .int 0, .ref m_mark, .int 0, .ref m_idSize, .ref m_ids, .ref m_goalSize, .ref m_goals, .int 0, .ref m_value, .int 0, .ref m_faults, .ref m_reached])), (m_pressed, .inl (G.2.1, 5000, .inl f))]) d_Mod_putBit_12 0 34 t_Mod t_Mod_ok n_Mod rfl rfl (by decide) in_Mod k_1180 rfl (by decide +kernel) rfl rfl (Nat.le_of_ble_eq_true rfl) rfl ?_
  refine pb_aload_n (pc := 15) d_Mod_putBit_15 0 rfl rfl ?_
  refine pb_dup (pc := 16) d_Mod_putBit_16 rfl ?_
  refine pb_get (pc := 17) d_Mod_putBit_17 0 35 rfl rfl (by decide) in_Mod k_1181 rfl ?_
  refine pb_iconst (pc := 20) (v := 1) d_Mod_putBit_20 (by decide) ?_
  refine pb_iadd (pc := 21) d_Mod_putBit_21 ?_
  refine pb_asi (y := 6) (by decide) ?_
  refine pb_put (pc := 22) (ty := .int) (ws' := [(h, .inr (10, [.ref m_rels, .ref m_openRels, .ref m_closeRels, .ref m_openRel, .ref m_closeRel, .ref m_comment, .ref m_ends, .ref m_order, .int 0, .int 0, .ref m_tape, .ref m_count, .ref m_nameSize, .ref m_names, .ref m_size, .ref m_data, .int 0, .ref m_looked, .int 0, .ref m_file, .int 0, .ref m_directory, .int 0, .ref m_out, .int 0, .ref m_row, .int 0, .int 0, .int 0, .int 0, .ref m_made, .ref m_length, .int 0, .int 0, .int i2, .int 6, .int 1, .ref m_pressed, .int 0, .int 0, .int 0, .ref m_mark, .int 0, .ref m_idSize, .ref m_ids, .ref m_goalSize, .ref m_goals, .int 0, .ref m_value, .int 0, .ref m_faults, .ref m_reached])), (m_pressed, .inl (G.2.1, 5000, .inl f))]) d_Mod_putBit_22 0 35 t_Mod t_Mod_ok n_Mod rfl rfl (by decide) in_Mod k_1181 rfl (by decide +kernel) rfl rfl (Nat.le_of_ble_eq_true rfl) rfl ?_
  refine pb_aload_n (pc := 25) d_Mod_putBit_25 0 rfl rfl ?_
  refine pb_get (pc := 26) d_Mod_putBit_26 0 35 rfl rfl (by decide) in_Mod k_1181 rfl ?_
  refine pb_bipush (pc := 29) (v := 8) d_Mod_putBit_29 (by decide) ?_
  refine pb_icmp_ne (pc := 31) (tgt := 68) d_Mod_putBit_31 (by decide) (fun _ => ?_) (fun h9 => absurd h9 (by decide))
  exact pb_vret (pc := 68) hQ d_Mod_putBit_68 rfl (i2, f) rfl [0, 1] (by decide) rfl rfl (by decide) (by decide)

set_option maxRecDepth 100000 in
set_option maxHeartbeats 4000000 in
theorem c_Mod_bit_6_0 {l : Launch} (hl : l.stackTraces = false) (G : pb_G) (h : Nat) (m_rels : Nat) (m_openRels : Nat) (m_closeRels : Nat) (m_openRel : Nat) (m_closeRel : Nat) (m_comment : Nat) (m_ends : Nat) (m_order : Nat) (m_tape : Nat) (m_count : Nat) (m_nameSize : Nat) (m_names : Nat) (m_size : Nat) (m_data : Nat) (m_looked : Nat) (m_file : Nat) (m_directory : Nat) (m_out : Nat) (m_row : Nat) (m_made : Nat) (m_length : Nat) (m_pressed : Nat) (m_mark : Nat) (m_idSize : Nat) (m_ids : Nat) (m_goalSize : Nat) (m_goals : Nat) (m_value : Nat) (m_faults : Nat) (m_reached : Nat) (b : Int32) (hb : Int32) (f : Nat → Int32) : Cn l G i_Mod_putBit [.ref h, .int b] [(h, .inr (10, [.ref m_rels, .ref m_openRels, .ref m_closeRels, .ref m_openRel, .ref m_closeRel, .ref m_comment, .ref m_ends, .ref m_order, .int 0, .int 0, .ref m_tape, .ref m_count, .ref m_nameSize, .ref m_names, .ref m_size, .ref m_data, .int 0, .ref m_looked, .int 0, .ref m_file, .int 0, .ref m_directory, .int 0, .ref m_out, .int 0, .ref m_row, .int 0, .int 0, .int 0, .int 0, .ref m_made, .ref m_length, .int 0, .int 0, .int hb, .int 6, .int 0, .ref m_pressed, .int 0, .int 0, .int 0, .ref m_mark, .int 0, .ref m_idSize, .ref m_ids, .ref m_goalSize, .ref m_goals, .int 0, .ref m_value, .int 0, .ref m_faults, .ref m_reached])), (m_pressed, .inl (G.2.1, 5000, .inl f))] (S := Int32 × (Nat → Int32)) (fun v u => v = none) (fun u => [(h, .inr (10, [.ref m_rels, .ref m_openRels, .ref m_closeRels, .ref m_openRel, .ref m_closeRel, .ref m_comment, .ref m_ends, .ref m_order, .int 0, .int 0, .ref m_tape, .ref m_count, .ref m_nameSize, .ref m_names, .ref m_size, .ref m_data, .int 0, .ref m_looked, .int 0, .ref m_file, .int 0, .ref m_directory, .int 0, .ref m_out, .int 0, .ref m_row, .int 0, .int 0, .int 0, .int 0, .ref m_made, .ref m_length, .int 0, .int 0, .int u.1, .int 7, .int 0, .ref m_pressed, .int 0, .int 0, .int 0, .ref m_mark, .int 0, .ref m_idSize, .ref m_ids, .ref m_goalSize, .ref m_goals, .int 0, .ref m_value, .int 0, .ref m_faults, .ref m_reached])), (m_pressed, .inl (G.2.1, 5000, .inl u.2))]) := by
  refine Cn.of hl (by decide +kernel) rfl (Nat.le_of_ble_eq_true rfl) (fun M hQ => ?_)
  refine pb_eq (pc' := 0) (lo' := [(0, .ref h), (1, .int b)]) (rest' := []) (ws' := [(h, .inr (10, [.ref m_rels, .ref m_openRels, .ref m_closeRels, .ref m_openRel, .ref m_closeRel, .ref m_comment, .ref m_ends, .ref m_order, .int 0, .int 0, .ref m_tape, .ref m_count, .ref m_nameSize, .ref m_names, .ref m_size, .ref m_data, .int 0, .ref m_looked, .int 0, .ref m_file, .int 0, .ref m_directory, .int 0, .ref m_out, .int 0, .ref m_row, .int 0, .int 0, .int 0, .int 0, .ref m_made, .ref m_length, .int 0, .int 0, .int hb, .int 6, .int 0, .ref m_pressed, .int 0, .int 0, .int 0, .ref m_mark, .int 0, .ref m_idSize, .ref m_ids, .ref m_goalSize, .ref m_goals, .int 0, .ref m_value, .int 0, .ref m_faults, .ref m_reached])), (m_pressed, .inl (G.2.1, 5000, .inl f))]) ?_
  refine pb_aload_n (pc := 0) d_Mod_putBit_0 0 rfl rfl ?_
  refine pb_aload_n (pc := 1) d_Mod_putBit_1 0 rfl rfl ?_
  refine pb_get (pc := 2) d_Mod_putBit_2 0 34 rfl rfl (by decide) in_Mod k_1180 rfl ?_
  refine pb_iload_n (pc := 5) d_Mod_putBit_5 1 rfl rfl ?_
  refine pb_aload_n (pc := 6) d_Mod_putBit_6 0 rfl rfl ?_
  refine pb_get (pc := 7) d_Mod_putBit_7 0 35 rfl rfl (by decide) in_Mod k_1181 rfl ?_
  refine pb_ishl (pc := 10) d_Mod_putBit_10 ?_
  refine pb_topi (fun i1 ei1 => ?_)
  refine pb_iadd (pc := 11) d_Mod_putBit_11 ?_
  refine pb_topi (fun i2 ei2 => ?_)
  refine pb_put (pc := 12) (ty := .int) (ws' := [(h, .inr (10, [.ref m_rels, .ref m_openRels, .ref m_closeRels, .ref m_openRel, .ref m_closeRel, .ref m_comment, .ref m_ends, .ref m_order, .int 0, .int 0, .ref m_tape, .ref m_count, .ref m_nameSize, .ref m_names, .ref m_size, .ref m_data, .int 0, .ref m_looked, .int 0, .ref m_file, .int 0, .ref m_directory, .int 0, .ref m_out, .int 0, .ref m_row, .int 0, .int 0, .int 0, .int 0, .ref m_made, .ref m_length, .int 0, .int 0, .int i2, .int 6, .int 0, .ref m_pressed, .int 0, .int 0, .int 0, .ref m_mark, .int 0, .ref m_idSize, .ref m_ids, .ref m_goalSize, .ref m_goals, .int 0, .ref m_value, .int 0, .ref m_faults, .ref m_reached])), (m_pressed, .inl (G.2.1, 5000, .inl f))]) d_Mod_putBit_12 0 34 t_Mod t_Mod_ok n_Mod rfl rfl (by decide) in_Mod k_1180 rfl (by decide +kernel) rfl rfl (Nat.le_of_ble_eq_true rfl) rfl ?_
  refine pb_aload_n (pc := 15) d_Mod_putBit_15 0 rfl rfl ?_
  refine pb_dup (pc := 16) d_Mod_putBit_16 rfl ?_
  refine pb_get (pc := 17) d_Mod_putBit_17 0 35 rfl rfl (by decide) in_Mod k_1181 rfl ?_
  refine pb_iconst (pc := 20) (v := 1) d_Mod_putBit_20 (by decide) ?_
  refine pb_iadd (pc := 21) d_Mod_putBit_21 ?_
  refine pb_asi (y := 7) (by decide) ?_
  refine pb_put (pc := 22) (ty := .int) (ws' := [(h, .inr (10, [.ref m_rels, .ref m_openRels, .ref m_closeRels, .ref m_openRel, .ref m_closeRel, .ref m_comment, .ref m_ends, .ref m_order, .int 0, .int 0, .ref m_tape, .ref m_count, .ref m_nameSize, .ref m_names, .ref m_size, .ref m_data, .int 0, .ref m_looked, .int 0, .ref m_file, .int 0, .ref m_directory, .int 0, .ref m_out, .int 0, .ref m_row, .int 0, .int 0, .int 0, .int 0, .ref m_made, .ref m_length, .int 0, .int 0, .int i2, .int 7, .int 0, .ref m_pressed, .int 0, .int 0, .int 0, .ref m_mark, .int 0, .ref m_idSize, .ref m_ids, .ref m_goalSize, .ref m_goals, .int 0, .ref m_value, .int 0, .ref m_faults, .ref m_reached])), (m_pressed, .inl (G.2.1, 5000, .inl f))]) d_Mod_putBit_22 0 35 t_Mod t_Mod_ok n_Mod rfl rfl (by decide) in_Mod k_1181 rfl (by decide +kernel) rfl rfl (Nat.le_of_ble_eq_true rfl) rfl ?_
  refine pb_aload_n (pc := 25) d_Mod_putBit_25 0 rfl rfl ?_
  refine pb_get (pc := 26) d_Mod_putBit_26 0 35 rfl rfl (by decide) in_Mod k_1181 rfl ?_
  refine pb_bipush (pc := 29) (v := 8) d_Mod_putBit_29 (by decide) ?_
  refine pb_icmp_ne (pc := 31) (tgt := 68) d_Mod_putBit_31 (by decide) (fun _ => ?_) (fun h9 => absurd h9 (by decide))
  exact pb_vret (pc := 68) hQ d_Mod_putBit_68 rfl (i2, f) rfl [0, 1] (by decide) rfl rfl (by decide) (by decide)

set_option maxRecDepth 100000 in
set_option maxHeartbeats 4000000 in
theorem c_Mod_bit_6_1 {l : Launch} (hl : l.stackTraces = false) (G : pb_G) (h : Nat) (m_rels : Nat) (m_openRels : Nat) (m_closeRels : Nat) (m_openRel : Nat) (m_closeRel : Nat) (m_comment : Nat) (m_ends : Nat) (m_order : Nat) (m_tape : Nat) (m_count : Nat) (m_nameSize : Nat) (m_names : Nat) (m_size : Nat) (m_data : Nat) (m_looked : Nat) (m_file : Nat) (m_directory : Nat) (m_out : Nat) (m_row : Nat) (m_made : Nat) (m_length : Nat) (m_pressed : Nat) (m_mark : Nat) (m_idSize : Nat) (m_ids : Nat) (m_goalSize : Nat) (m_goals : Nat) (m_value : Nat) (m_faults : Nat) (m_reached : Nat) (b : Int32) (hb : Int32) (f : Nat → Int32) : Cn l G i_Mod_putBit [.ref h, .int b] [(h, .inr (10, [.ref m_rels, .ref m_openRels, .ref m_closeRels, .ref m_openRel, .ref m_closeRel, .ref m_comment, .ref m_ends, .ref m_order, .int 0, .int 0, .ref m_tape, .ref m_count, .ref m_nameSize, .ref m_names, .ref m_size, .ref m_data, .int 0, .ref m_looked, .int 0, .ref m_file, .int 0, .ref m_directory, .int 0, .ref m_out, .int 0, .ref m_row, .int 0, .int 0, .int 0, .int 0, .ref m_made, .ref m_length, .int 0, .int 0, .int hb, .int 6, .int 1, .ref m_pressed, .int 0, .int 0, .int 0, .ref m_mark, .int 0, .ref m_idSize, .ref m_ids, .ref m_goalSize, .ref m_goals, .int 0, .ref m_value, .int 0, .ref m_faults, .ref m_reached])), (m_pressed, .inl (G.2.1, 5000, .inl f))] (S := Int32 × (Nat → Int32)) (fun v u => v = none) (fun u => [(h, .inr (10, [.ref m_rels, .ref m_openRels, .ref m_closeRels, .ref m_openRel, .ref m_closeRel, .ref m_comment, .ref m_ends, .ref m_order, .int 0, .int 0, .ref m_tape, .ref m_count, .ref m_nameSize, .ref m_names, .ref m_size, .ref m_data, .int 0, .ref m_looked, .int 0, .ref m_file, .int 0, .ref m_directory, .int 0, .ref m_out, .int 0, .ref m_row, .int 0, .int 0, .int 0, .int 0, .ref m_made, .ref m_length, .int 0, .int 0, .int u.1, .int 7, .int 1, .ref m_pressed, .int 0, .int 0, .int 0, .ref m_mark, .int 0, .ref m_idSize, .ref m_ids, .ref m_goalSize, .ref m_goals, .int 0, .ref m_value, .int 0, .ref m_faults, .ref m_reached])), (m_pressed, .inl (G.2.1, 5000, .inl u.2))]) := by
  refine Cn.of hl (by decide +kernel) rfl (Nat.le_of_ble_eq_true rfl) (fun M hQ => ?_)
  refine pb_eq (pc' := 0) (lo' := [(0, .ref h), (1, .int b)]) (rest' := []) (ws' := [(h, .inr (10, [.ref m_rels, .ref m_openRels, .ref m_closeRels, .ref m_openRel, .ref m_closeRel, .ref m_comment, .ref m_ends, .ref m_order, .int 0, .int 0, .ref m_tape, .ref m_count, .ref m_nameSize, .ref m_names, .ref m_size, .ref m_data, .int 0, .ref m_looked, .int 0, .ref m_file, .int 0, .ref m_directory, .int 0, .ref m_out, .int 0, .ref m_row, .int 0, .int 0, .int 0, .int 0, .ref m_made, .ref m_length, .int 0, .int 0, .int hb, .int 6, .int 1, .ref m_pressed, .int 0, .int 0, .int 0, .ref m_mark, .int 0, .ref m_idSize, .ref m_ids, .ref m_goalSize, .ref m_goals, .int 0, .ref m_value, .int 0, .ref m_faults, .ref m_reached])), (m_pressed, .inl (G.2.1, 5000, .inl f))]) ?_
  refine pb_aload_n (pc := 0) d_Mod_putBit_0 0 rfl rfl ?_
  refine pb_aload_n (pc := 1) d_Mod_putBit_1 0 rfl rfl ?_
  refine pb_get (pc := 2) d_Mod_putBit_2 0 34 rfl rfl (by decide) in_Mod k_1180 rfl ?_
  refine pb_iload_n (pc := 5) d_Mod_putBit_5 1 rfl rfl ?_
  refine pb_aload_n (pc := 6) d_Mod_putBit_6 0 rfl rfl ?_
  refine pb_get (pc := 7) d_Mod_putBit_7 0 35 rfl rfl (by decide) in_Mod k_1181 rfl ?_
  refine pb_ishl (pc := 10) d_Mod_putBit_10 ?_
  refine pb_topi (fun i1 ei1 => ?_)
  refine pb_iadd (pc := 11) d_Mod_putBit_11 ?_
  refine pb_topi (fun i2 ei2 => ?_)
  refine pb_put (pc := 12) (ty := .int) (ws' := [(h, .inr (10, [.ref m_rels, .ref m_openRels, .ref m_closeRels, .ref m_openRel, .ref m_closeRel, .ref m_comment, .ref m_ends, .ref m_order, .int 0, .int 0, .ref m_tape, .ref m_count, .ref m_nameSize, .ref m_names, .ref m_size, .ref m_data, .int 0, .ref m_looked, .int 0, .ref m_file, .int 0, .ref m_directory, .int 0, .ref m_out, .int 0, .ref m_row, .int 0, .int 0, .int 0, .int 0, .ref m_made, .ref m_length, .int 0, .int 0, .int i2, .int 6, .int 1, .ref m_pressed, .int 0, .int 0, .int 0, .ref m_mark, .int 0, .ref m_idSize, .ref m_ids, .ref m_goalSize, .ref m_goals, .int 0, .ref m_value, .int 0, .ref m_faults, .ref m_reached])), (m_pressed, .inl (G.2.1, 5000, .inl f))]) d_Mod_putBit_12 0 34 t_Mod t_Mod_ok n_Mod rfl rfl (by decide) in_Mod k_1180 rfl (by decide +kernel) rfl rfl (Nat.le_of_ble_eq_true rfl) rfl ?_
  refine pb_aload_n (pc := 15) d_Mod_putBit_15 0 rfl rfl ?_
  refine pb_dup (pc := 16) d_Mod_putBit_16 rfl ?_
  refine pb_get (pc := 17) d_Mod_putBit_17 0 35 rfl rfl (by decide) in_Mod k_1181 rfl ?_
  refine pb_iconst (pc := 20) (v := 1) d_Mod_putBit_20 (by decide) ?_
  refine pb_iadd (pc := 21) d_Mod_putBit_21 ?_
  refine pb_asi (y := 7) (by decide) ?_
  refine pb_put (pc := 22) (ty := .int) (ws' := [(h, .inr (10, [.ref m_rels, .ref m_openRels, .ref m_closeRels, .ref m_openRel, .ref m_closeRel, .ref m_comment, .ref m_ends, .ref m_order, .int 0, .int 0, .ref m_tape, .ref m_count, .ref m_nameSize, .ref m_names, .ref m_size, .ref m_data, .int 0, .ref m_looked, .int 0, .ref m_file, .int 0, .ref m_directory, .int 0, .ref m_out, .int 0, .ref m_row, .int 0, .int 0, .int 0, .int 0, .ref m_made, .ref m_length, .int 0, .int 0, .int i2, .int 7, .int 1, .ref m_pressed, .int 0, .int 0, .int 0, .ref m_mark, .int 0, .ref m_idSize, .ref m_ids, .ref m_goalSize, .ref m_goals, .int 0, .ref m_value, .int 0, .ref m_faults, .ref m_reached])), (m_pressed, .inl (G.2.1, 5000, .inl f))]) d_Mod_putBit_22 0 35 t_Mod t_Mod_ok n_Mod rfl rfl (by decide) in_Mod k_1181 rfl (by decide +kernel) rfl rfl (Nat.le_of_ble_eq_true rfl) rfl ?_
  refine pb_aload_n (pc := 25) d_Mod_putBit_25 0 rfl rfl ?_
  refine pb_get (pc := 26) d_Mod_putBit_26 0 35 rfl rfl (by decide) in_Mod k_1181 rfl ?_
  refine pb_bipush (pc := 29) (v := 8) d_Mod_putBit_29 (by decide) ?_
  refine pb_icmp_ne (pc := 31) (tgt := 68) d_Mod_putBit_31 (by decide) (fun _ => ?_) (fun h9 => absurd h9 (by decide))
  exact pb_vret (pc := 68) hQ d_Mod_putBit_68 rfl (i2, f) rfl [0, 1] (by decide) rfl rfl (by decide) (by decide)

theorem d_Mod_putBit_34 : decode prog_12_method_20_code 34 = .ok (.aload_n 0, 1) := by decide +kernel
theorem d_Mod_putBit_35 : decode prog_12_method_20_code 35 = .ok (.getfield 75, 3) := by decide +kernel
theorem d_Mod_putBit_38 : decode prog_12_method_20_code 38 = .ok (.aload_n 0, 1) := by decide +kernel
theorem d_Mod_putBit_39 : decode prog_12_method_20_code 39 = .ok (.getfield 159, 3) := by decide +kernel
theorem k_1182 : (Jvm.Cond.fieldLink "PackageBookModel" (159 : Nat) "PackageBookModel" "pressedSize" "I") ∈ uW := uW_of 1182 (by decide +kernel) (by decide +kernel)
theorem d_Mod_putBit_42 : decode prog_12_method_20_code 42 = .ok (.aload_n 0, 1) := by decide +kernel
theorem d_Mod_putBit_43 : decode prog_12_method_20_code 43 = .ok (.getfield 153, 3) := by decide +kernel
theorem d_Mod_putBit_46 : decode prog_12_method_20_code 46 = .ok (.i2b, 1) := by decide +kernel
theorem d_Mod_putBit_47 : decode prog_12_method_20_code 47 = .ok (.bastore, 1) := by decide +kernel
theorem d_Mod_putBit_48 : decode prog_12_method_20_code 48 = .ok (.aload_n 0, 1) := by decide +kernel
theorem d_Mod_putBit_49 : decode prog_12_method_20_code 49 = .ok (.dup, 1) := by decide +kernel
theorem d_Mod_putBit_50 : decode prog_12_method_20_code 50 = .ok (.getfield 159, 3) := by decide +kernel
theorem d_Mod_putBit_53 : decode prog_12_method_20_code 53 = .ok (.iconst 1, 1) := by decide +kernel
theorem d_Mod_putBit_54 : decode prog_12_method_20_code 54 = .ok (.iadd, 1) := by decide +kernel
theorem d_Mod_putBit_55 : decode prog_12_method_20_code 55 = .ok (.putfield 159, 3) := by decide +kernel
theorem d_Mod_putBit_58 : decode prog_12_method_20_code 58 = .ok (.aload_n 0, 1) := by decide +kernel
theorem d_Mod_putBit_59 : decode prog_12_method_20_code 59 = .ok (.iconst 0, 1) := by decide +kernel
theorem d_Mod_putBit_60 : decode prog_12_method_20_code 60 = .ok (.putfield 153, 3) := by decide +kernel
theorem d_Mod_putBit_63 : decode prog_12_method_20_code 63 = .ok (.aload_n 0, 1) := by decide +kernel
theorem d_Mod_putBit_64 : decode prog_12_method_20_code 64 = .ok (.iconst 0, 1) := by decide +kernel
theorem d_Mod_putBit_65 : decode prog_12_method_20_code 65 = .ok (.putfield 156, 3) := by decide +kernel
set_option maxRecDepth 100000 in
set_option maxHeartbeats 4000000 in
theorem c_Mod_bit_7_0 {l : Launch} (hl : l.stackTraces = false) (G : pb_G) (h : Nat) (m_rels : Nat) (m_openRels : Nat) (m_closeRels : Nat) (m_openRel : Nat) (m_closeRel : Nat) (m_comment : Nat) (m_ends : Nat) (m_order : Nat) (m_tape : Nat) (m_count : Nat) (m_nameSize : Nat) (m_names : Nat) (m_size : Nat) (m_data : Nat) (m_looked : Nat) (m_file : Nat) (m_directory : Nat) (m_out : Nat) (m_row : Nat) (m_made : Nat) (m_length : Nat) (m_pressed : Nat) (m_mark : Nat) (m_idSize : Nat) (m_ids : Nat) (m_goalSize : Nat) (m_goals : Nat) (m_value : Nat) (m_faults : Nat) (m_reached : Nat) (b : Int32) (hb : Int32) (f : Nat → Int32) : Cn l G i_Mod_putBit [.ref h, .int b] [(h, .inr (10, [.ref m_rels, .ref m_openRels, .ref m_closeRels, .ref m_openRel, .ref m_closeRel, .ref m_comment, .ref m_ends, .ref m_order, .int 0, .int 0, .ref m_tape, .ref m_count, .ref m_nameSize, .ref m_names, .ref m_size, .ref m_data, .int 0, .ref m_looked, .int 0, .ref m_file, .int 0, .ref m_directory, .int 0, .ref m_out, .int 0, .ref m_row, .int 0, .int 0, .int 0, .int 0, .ref m_made, .ref m_length, .int 0, .int 0, .int hb, .int 7, .int 0, .ref m_pressed, .int 0, .int 0, .int 0, .ref m_mark, .int 0, .ref m_idSize, .ref m_ids, .ref m_goalSize, .ref m_goals, .int 0, .ref m_value, .int 0, .ref m_faults, .ref m_reached])), (m_pressed, .inl (G.2.1, 5000, .inl f))] (S := Int32 × (Nat → Int32)) (fun v u => v = none) (fun u => [(h, .inr (10, [.ref m_rels, .ref m_openRels, .ref m_closeRels, .ref m_openRel, .ref m_closeRel, .ref m_comment, .ref m_ends, .ref m_order, .int 0, .int 0, .ref m_tape, .ref m_count, .ref m_nameSize, .ref m_names, .ref m_size, .ref m_data, .int 0, .ref m_looked, .int 0, .ref m_file, .int 0, .ref m_directory, .int 0, .ref m_out, .int 0, .ref m_row, .int 0, .int 0, .int 0, .int 0, .ref m_made, .ref m_length, .int 0, .int 0, .int u.1, .int 0, .int 1, .ref m_pressed, .int 0, .int 0, .int 0, .ref m_mark, .int 0, .ref m_idSize, .ref m_ids, .ref m_goalSize, .ref m_goals, .int 0, .ref m_value, .int 0, .ref m_faults, .ref m_reached])), (m_pressed, .inl (G.2.1, 5000, .inl u.2))]) := by
  refine Cn.of hl (by decide +kernel) rfl (Nat.le_of_ble_eq_true rfl) (fun M hQ => ?_)
  refine pb_eq (pc' := 0) (lo' := [(0, .ref h), (1, .int b)]) (rest' := []) (ws' := [(h, .inr (10, [.ref m_rels, .ref m_openRels, .ref m_closeRels, .ref m_openRel, .ref m_closeRel, .ref m_comment, .ref m_ends, .ref m_order, .int 0, .int 0, .ref m_tape, .ref m_count, .ref m_nameSize, .ref m_names, .ref m_size, .ref m_data, .int 0, .ref m_looked, .int 0, .ref m_file, .int 0, .ref m_directory, .int 0, .ref m_out, .int 0, .ref m_row, .int 0, .int 0, .int 0, .int 0, .ref m_made, .ref m_length, .int 0, .int 0, .int hb, .int 7, .int 0, .ref m_pressed, .int 0, .int 0, .int 0, .ref m_mark, .int 0, .ref m_idSize, .ref m_ids, .ref m_goalSize, .ref m_goals, .int 0, .ref m_value, .int 0, .ref m_faults, .ref m_reached])), (m_pressed, .inl (G.2.1, 5000, .inl f))]) ?_
  refine pb_aload_n (pc := 0) d_Mod_putBit_0 0 rfl rfl ?_
  refine pb_aload_n (pc := 1) d_Mod_putBit_1 0 rfl rfl ?_
  refine pb_get (pc := 2) d_Mod_putBit_2 0 34 rfl rfl (by decide) in_Mod k_1180 rfl ?_
  refine pb_iload_n (pc := 5) d_Mod_putBit_5 1 rfl rfl ?_
  refine pb_aload_n (pc := 6) d_Mod_putBit_6 0 rfl rfl ?_
  refine pb_get (pc := 7) d_Mod_putBit_7 0 35 rfl rfl (by decide) in_Mod k_1181 rfl ?_
  refine pb_ishl (pc := 10) d_Mod_putBit_10 ?_
  refine pb_topi (fun i1 ei1 => ?_)
  refine pb_iadd (pc := 11) d_Mod_putBit_11 ?_
  refine pb_topi (fun i2 ei2 => ?_)
  refine pb_put (pc := 12) (ty := .int) (ws' := [(h, .inr (10, [.ref m_rels, .ref m_openRels, .ref m_closeRels, .ref m_openRel, .ref m_closeRel, .ref m_comment, .ref m_ends, .ref m_order, .int 0, .int 0, .ref m_tape, .ref m_count, .ref m_nameSize, .ref m_names, .ref m_size, .ref m_data, .int 0, .ref m_looked, .int 0, .ref m_file, .int 0, .ref m_directory, .int 0, .ref m_out, .int 0, .ref m_row, .int 0, .int 0, .int 0, .int 0, .ref m_made, .ref m_length, .int 0, .int 0, .int i2, .int 7, .int 0, .ref m_pressed, .int 0, .int 0, .int 0, .ref m_mark, .int 0, .ref m_idSize, .ref m_ids, .ref m_goalSize, .ref m_goals, .int 0, .ref m_value, .int 0, .ref m_faults, .ref m_reached])), (m_pressed, .inl (G.2.1, 5000, .inl f))]) d_Mod_putBit_12 0 34 t_Mod t_Mod_ok n_Mod rfl rfl (by decide) in_Mod k_1180 rfl (by decide +kernel) rfl rfl (Nat.le_of_ble_eq_true rfl) rfl ?_
  refine pb_aload_n (pc := 15) d_Mod_putBit_15 0 rfl rfl ?_
  refine pb_dup (pc := 16) d_Mod_putBit_16 rfl ?_
  refine pb_get (pc := 17) d_Mod_putBit_17 0 35 rfl rfl (by decide) in_Mod k_1181 rfl ?_
  refine pb_iconst (pc := 20) (v := 1) d_Mod_putBit_20 (by decide) ?_
  refine pb_iadd (pc := 21) d_Mod_putBit_21 ?_
  refine pb_asi (y := 8) (by decide) ?_
  refine pb_put (pc := 22) (ty := .int) (ws' := [(h, .inr (10, [.ref m_rels, .ref m_openRels, .ref m_closeRels, .ref m_openRel, .ref m_closeRel, .ref m_comment, .ref m_ends, .ref m_order, .int 0, .int 0, .ref m_tape, .ref m_count, .ref m_nameSize, .ref m_names, .ref m_size, .ref m_data, .int 0, .ref m_looked, .int 0, .ref m_file, .int 0, .ref m_directory, .int 0, .ref m_out, .int 0, .ref m_row, .int 0, .int 0, .int 0, .int 0, .ref m_made, .ref m_length, .int 0, .int 0, .int i2, .int 8, .int 0, .ref m_pressed, .int 0, .int 0, .int 0, .ref m_mark, .int 0, .ref m_idSize, .ref m_ids, .ref m_goalSize, .ref m_goals, .int 0, .ref m_value, .int 0, .ref m_faults, .ref m_reached])), (m_pressed, .inl (G.2.1, 5000, .inl f))]) d_Mod_putBit_22 0 35 t_Mod t_Mod_ok n_Mod rfl rfl (by decide) in_Mod k_1181 rfl (by decide +kernel) rfl rfl (Nat.le_of_ble_eq_true rfl) rfl ?_
  refine pb_aload_n (pc := 25) d_Mod_putBit_25 0 rfl rfl ?_
  refine pb_get (pc := 26) d_Mod_putBit_26 0 35 rfl rfl (by decide) in_Mod k_1181 rfl ?_
  refine pb_bipush (pc := 29) (v := 8) d_Mod_putBit_29 (by decide) ?_
  refine pb_icmp_ne (pc := 31) (tgt := 68) d_Mod_putBit_31 (by decide) (fun h9 => absurd h9 (by decide)) (fun _ => ?_)
  refine pb_aload_n (pc := 34) d_Mod_putBit_34 0 rfl rfl ?_
  refine pb_get (pc := 35) d_Mod_putBit_35 0 37 rfl rfl (by decide) in_Mod k_1183 rfl ?_
  refine pb_aload_n (pc := 38) d_Mod_putBit_38 0 rfl rfl ?_
  refine pb_get (pc := 39) d_Mod_putBit_39 0 36 rfl rfl (by decide) in_Mod k_1182 rfl ?_
  refine pb_aload_n (pc := 42) d_Mod_putBit_42 0 rfl rfl ?_
  refine pb_get (pc := 43) d_Mod_putBit_43 0 34 rfl rfl (by decide) in_Mod k_1180 rfl ?_
  refine pb_i2b (pc := 46) d_Mod_putBit_46 rfl ?_
  refine pb_topi (fun i4 ei4 => ?_)
  refine pb_bast (pc := 47) (ws' := [(h, .inr (10, [.ref m_rels, .ref m_openRels, .ref m_closeRels, .ref m_openRel, .ref m_closeRel, .ref m_comment, .ref m_ends, .ref m_order, .int 0, .int 0, .ref m_tape, .ref m_count, .ref m_nameSize, .ref m_names, .ref m_size, .ref m_data, .int 0, .ref m_looked, .int 0, .ref m_file, .int 0, .ref m_directory, .int 0, .ref m_out, .int 0, .ref m_row, .int 0, .int 0, .int 0, .int 0, .ref m_made, .ref m_length, .int 0, .int 0, .int i2, .int 8, .int 0, .ref m_pressed, .int 0, .int 0, .int 0, .ref m_mark, .int 0, .ref m_idSize, .ref m_ids, .ref m_goalSize, .ref m_goals, .int 0, .ref m_value, .int 0, .ref m_faults, .ref m_reached])), (m_pressed, .inl (G.2.1, 5000, .inl (upd f ((0 : Int32).toNatClampNeg) (vp_nar .byte i4))))]) d_Mod_putBit_47 1 rfl (by unfold vp_in; decide) rfl ?_
  refine pb_aload_n (pc := 48) d_Mod_putBit_48 0 rfl rfl ?_
  refine pb_dup (pc := 49) d_Mod_putBit_49 rfl ?_
  refine pb_get (pc := 50) d_Mod_putBit_50 0 36 rfl rfl (by decide) in_Mod k_1182 rfl ?_
  refine pb_iconst (pc := 53) (v := 1) d_Mod_putBit_53 (by decide) ?_
  refine pb_iadd (pc := 54) d_Mod_putBit_54 ?_
  refine pb_asi (y := 1) (by decide) ?_
  refine pb_put (pc := 55) (ty := .int) (ws' := [(h, .inr (10, [.ref m_rels, .ref m_openRels, .ref m_closeRels, .ref m_openRel, .ref m_closeRel, .ref m_comment, .ref m_ends, .ref m_order, .int 0, .int 0, .ref m_tape, .ref m_count, .ref m_nameSize, .ref m_names, .ref m_size, .ref m_data, .int 0, .ref m_looked, .int 0, .ref m_file, .int 0, .ref m_directory, .int 0, .ref m_out, .int 0, .ref m_row, .int 0, .int 0, .int 0, .int 0, .ref m_made, .ref m_length, .int 0, .int 0, .int i2, .int 8, .int 1, .ref m_pressed, .int 0, .int 0, .int 0, .ref m_mark, .int 0, .ref m_idSize, .ref m_ids, .ref m_goalSize, .ref m_goals, .int 0, .ref m_value, .int 0, .ref m_faults, .ref m_reached])), (m_pressed, .inl (G.2.1, 5000, .inl (upd f ((0 : Int32).toNatClampNeg) (vp_nar .byte i4))))]) d_Mod_putBit_55 0 36 t_Mod t_Mod_ok n_Mod rfl rfl (by decide) in_Mod k_1182 rfl (by decide +kernel) rfl rfl (Nat.le_of_ble_eq_true rfl) rfl ?_
  refine pb_aload_n (pc := 58) d_Mod_putBit_58 0 rfl rfl ?_
  refine pb_iconst (pc := 59) (v := 0) d_Mod_putBit_59 (by decide) ?_
  refine pb_put (pc := 60) (ty := .int) (ws' := [(h, .inr (10, [.ref m_rels, .ref m_openRels, .ref m_closeRels, .ref m_openRel, .ref m_closeRel, .ref m_comment, .ref m_ends, .ref m_order, .int 0, .int 0, .ref m_tape, .ref m_count, .ref m_nameSize, .ref m_names, .ref m_size, .ref m_data, .int 0, .ref m_looked, .int 0, .ref m_file, .int 0, .ref m_directory, .int 0, .ref m_out, .int 0, .ref m_row, .int 0, .int 0, .int 0, .int 0, .ref m_made, .ref m_length, .int 0, .int 0, .int 0, .int 8, .int 1, .ref m_pressed, .int 0, .int 0, .int 0, .ref m_mark, .int 0, .ref m_idSize, .ref m_ids, .ref m_goalSize, .ref m_goals, .int 0, .ref m_value, .int 0, .ref m_faults, .ref m_reached])), (m_pressed, .inl (G.2.1, 5000, .inl (upd f ((0 : Int32).toNatClampNeg) (vp_nar .byte i4))))]) d_Mod_putBit_60 0 34 t_Mod t_Mod_ok n_Mod rfl rfl (by decide) in_Mod k_1180 rfl (by decide +kernel) rfl rfl (Nat.le_of_ble_eq_true rfl) rfl ?_
  refine pb_aload_n (pc := 63) d_Mod_putBit_63 0 rfl rfl ?_
  refine pb_iconst (pc := 64) (v := 0) d_Mod_putBit_64 (by decide) ?_
  refine pb_put (pc := 65) (ty := .int) (ws' := [(h, .inr (10, [.ref m_rels, .ref m_openRels, .ref m_closeRels, .ref m_openRel, .ref m_closeRel, .ref m_comment, .ref m_ends, .ref m_order, .int 0, .int 0, .ref m_tape, .ref m_count, .ref m_nameSize, .ref m_names, .ref m_size, .ref m_data, .int 0, .ref m_looked, .int 0, .ref m_file, .int 0, .ref m_directory, .int 0, .ref m_out, .int 0, .ref m_row, .int 0, .int 0, .int 0, .int 0, .ref m_made, .ref m_length, .int 0, .int 0, .int 0, .int 0, .int 1, .ref m_pressed, .int 0, .int 0, .int 0, .ref m_mark, .int 0, .ref m_idSize, .ref m_ids, .ref m_goalSize, .ref m_goals, .int 0, .ref m_value, .int 0, .ref m_faults, .ref m_reached])), (m_pressed, .inl (G.2.1, 5000, .inl (upd f ((0 : Int32).toNatClampNeg) (vp_nar .byte i4))))]) d_Mod_putBit_65 0 35 t_Mod t_Mod_ok n_Mod rfl rfl (by decide) in_Mod k_1181 rfl (by decide +kernel) rfl rfl (Nat.le_of_ble_eq_true rfl) rfl ?_
  exact pb_vret (pc := 68) hQ d_Mod_putBit_68 rfl (0, (upd f ((0 : Int32).toNatClampNeg) (vp_nar .byte i4))) rfl [0, 1] (by decide) rfl rfl (by decide) (by decide)

set_option maxRecDepth 100000 in
set_option maxHeartbeats 4000000 in
theorem c_Mod_bit_7_1 {l : Launch} (hl : l.stackTraces = false) (G : pb_G) (h : Nat) (m_rels : Nat) (m_openRels : Nat) (m_closeRels : Nat) (m_openRel : Nat) (m_closeRel : Nat) (m_comment : Nat) (m_ends : Nat) (m_order : Nat) (m_tape : Nat) (m_count : Nat) (m_nameSize : Nat) (m_names : Nat) (m_size : Nat) (m_data : Nat) (m_looked : Nat) (m_file : Nat) (m_directory : Nat) (m_out : Nat) (m_row : Nat) (m_made : Nat) (m_length : Nat) (m_pressed : Nat) (m_mark : Nat) (m_idSize : Nat) (m_ids : Nat) (m_goalSize : Nat) (m_goals : Nat) (m_value : Nat) (m_faults : Nat) (m_reached : Nat) (b : Int32) (hb : Int32) (f : Nat → Int32) : Cn l G i_Mod_putBit [.ref h, .int b] [(h, .inr (10, [.ref m_rels, .ref m_openRels, .ref m_closeRels, .ref m_openRel, .ref m_closeRel, .ref m_comment, .ref m_ends, .ref m_order, .int 0, .int 0, .ref m_tape, .ref m_count, .ref m_nameSize, .ref m_names, .ref m_size, .ref m_data, .int 0, .ref m_looked, .int 0, .ref m_file, .int 0, .ref m_directory, .int 0, .ref m_out, .int 0, .ref m_row, .int 0, .int 0, .int 0, .int 0, .ref m_made, .ref m_length, .int 0, .int 0, .int hb, .int 7, .int 1, .ref m_pressed, .int 0, .int 0, .int 0, .ref m_mark, .int 0, .ref m_idSize, .ref m_ids, .ref m_goalSize, .ref m_goals, .int 0, .ref m_value, .int 0, .ref m_faults, .ref m_reached])), (m_pressed, .inl (G.2.1, 5000, .inl f))] (S := Int32 × (Nat → Int32)) (fun v u => v = none) (fun u => [(h, .inr (10, [.ref m_rels, .ref m_openRels, .ref m_closeRels, .ref m_openRel, .ref m_closeRel, .ref m_comment, .ref m_ends, .ref m_order, .int 0, .int 0, .ref m_tape, .ref m_count, .ref m_nameSize, .ref m_names, .ref m_size, .ref m_data, .int 0, .ref m_looked, .int 0, .ref m_file, .int 0, .ref m_directory, .int 0, .ref m_out, .int 0, .ref m_row, .int 0, .int 0, .int 0, .int 0, .ref m_made, .ref m_length, .int 0, .int 0, .int u.1, .int 0, .int 2, .ref m_pressed, .int 0, .int 0, .int 0, .ref m_mark, .int 0, .ref m_idSize, .ref m_ids, .ref m_goalSize, .ref m_goals, .int 0, .ref m_value, .int 0, .ref m_faults, .ref m_reached])), (m_pressed, .inl (G.2.1, 5000, .inl u.2))]) := by
  refine Cn.of hl (by decide +kernel) rfl (Nat.le_of_ble_eq_true rfl) (fun M hQ => ?_)
  refine pb_eq (pc' := 0) (lo' := [(0, .ref h), (1, .int b)]) (rest' := []) (ws' := [(h, .inr (10, [.ref m_rels, .ref m_openRels, .ref m_closeRels, .ref m_openRel, .ref m_closeRel, .ref m_comment, .ref m_ends, .ref m_order, .int 0, .int 0, .ref m_tape, .ref m_count, .ref m_nameSize, .ref m_names, .ref m_size, .ref m_data, .int 0, .ref m_looked, .int 0, .ref m_file, .int 0, .ref m_directory, .int 0, .ref m_out, .int 0, .ref m_row, .int 0, .int 0, .int 0, .int 0, .ref m_made, .ref m_length, .int 0, .int 0, .int hb, .int 7, .int 1, .ref m_pressed, .int 0, .int 0, .int 0, .ref m_mark, .int 0, .ref m_idSize, .ref m_ids, .ref m_goalSize, .ref m_goals, .int 0, .ref m_value, .int 0, .ref m_faults, .ref m_reached])), (m_pressed, .inl (G.2.1, 5000, .inl f))]) ?_
  refine pb_aload_n (pc := 0) d_Mod_putBit_0 0 rfl rfl ?_
  refine pb_aload_n (pc := 1) d_Mod_putBit_1 0 rfl rfl ?_
  refine pb_get (pc := 2) d_Mod_putBit_2 0 34 rfl rfl (by decide) in_Mod k_1180 rfl ?_
  refine pb_iload_n (pc := 5) d_Mod_putBit_5 1 rfl rfl ?_
  refine pb_aload_n (pc := 6) d_Mod_putBit_6 0 rfl rfl ?_
  refine pb_get (pc := 7) d_Mod_putBit_7 0 35 rfl rfl (by decide) in_Mod k_1181 rfl ?_
  refine pb_ishl (pc := 10) d_Mod_putBit_10 ?_
  refine pb_topi (fun i1 ei1 => ?_)
  refine pb_iadd (pc := 11) d_Mod_putBit_11 ?_
  refine pb_topi (fun i2 ei2 => ?_)
  refine pb_put (pc := 12) (ty := .int) (ws' := [(h, .inr (10, [.ref m_rels, .ref m_openRels, .ref m_closeRels, .ref m_openRel, .ref m_closeRel, .ref m_comment, .ref m_ends, .ref m_order, .int 0, .int 0, .ref m_tape, .ref m_count, .ref m_nameSize, .ref m_names, .ref m_size, .ref m_data, .int 0, .ref m_looked, .int 0, .ref m_file, .int 0, .ref m_directory, .int 0, .ref m_out, .int 0, .ref m_row, .int 0, .int 0, .int 0, .int 0, .ref m_made, .ref m_length, .int 0, .int 0, .int i2, .int 7, .int 1, .ref m_pressed, .int 0, .int 0, .int 0, .ref m_mark, .int 0, .ref m_idSize, .ref m_ids, .ref m_goalSize, .ref m_goals, .int 0, .ref m_value, .int 0, .ref m_faults, .ref m_reached])), (m_pressed, .inl (G.2.1, 5000, .inl f))]) d_Mod_putBit_12 0 34 t_Mod t_Mod_ok n_Mod rfl rfl (by decide) in_Mod k_1180 rfl (by decide +kernel) rfl rfl (Nat.le_of_ble_eq_true rfl) rfl ?_
  refine pb_aload_n (pc := 15) d_Mod_putBit_15 0 rfl rfl ?_
  refine pb_dup (pc := 16) d_Mod_putBit_16 rfl ?_
  refine pb_get (pc := 17) d_Mod_putBit_17 0 35 rfl rfl (by decide) in_Mod k_1181 rfl ?_
  refine pb_iconst (pc := 20) (v := 1) d_Mod_putBit_20 (by decide) ?_
  refine pb_iadd (pc := 21) d_Mod_putBit_21 ?_
  refine pb_asi (y := 8) (by decide) ?_
  refine pb_put (pc := 22) (ty := .int) (ws' := [(h, .inr (10, [.ref m_rels, .ref m_openRels, .ref m_closeRels, .ref m_openRel, .ref m_closeRel, .ref m_comment, .ref m_ends, .ref m_order, .int 0, .int 0, .ref m_tape, .ref m_count, .ref m_nameSize, .ref m_names, .ref m_size, .ref m_data, .int 0, .ref m_looked, .int 0, .ref m_file, .int 0, .ref m_directory, .int 0, .ref m_out, .int 0, .ref m_row, .int 0, .int 0, .int 0, .int 0, .ref m_made, .ref m_length, .int 0, .int 0, .int i2, .int 8, .int 1, .ref m_pressed, .int 0, .int 0, .int 0, .ref m_mark, .int 0, .ref m_idSize, .ref m_ids, .ref m_goalSize, .ref m_goals, .int 0, .ref m_value, .int 0, .ref m_faults, .ref m_reached])), (m_pressed, .inl (G.2.1, 5000, .inl f))]) d_Mod_putBit_22 0 35 t_Mod t_Mod_ok n_Mod rfl rfl (by decide) in_Mod k_1181 rfl (by decide +kernel) rfl rfl (Nat.le_of_ble_eq_true rfl) rfl ?_
  refine pb_aload_n (pc := 25) d_Mod_putBit_25 0 rfl rfl ?_
  refine pb_get (pc := 26) d_Mod_putBit_26 0 35 rfl rfl (by decide) in_Mod k_1181 rfl ?_
  refine pb_bipush (pc := 29) (v := 8) d_Mod_putBit_29 (by decide) ?_
  refine pb_icmp_ne (pc := 31) (tgt := 68) d_Mod_putBit_31 (by decide) (fun h9 => absurd h9 (by decide)) (fun _ => ?_)
  refine pb_aload_n (pc := 34) d_Mod_putBit_34 0 rfl rfl ?_
  refine pb_get (pc := 35) d_Mod_putBit_35 0 37 rfl rfl (by decide) in_Mod k_1183 rfl ?_
  refine pb_aload_n (pc := 38) d_Mod_putBit_38 0 rfl rfl ?_
  refine pb_get (pc := 39) d_Mod_putBit_39 0 36 rfl rfl (by decide) in_Mod k_1182 rfl ?_
  refine pb_aload_n (pc := 42) d_Mod_putBit_42 0 rfl rfl ?_
  refine pb_get (pc := 43) d_Mod_putBit_43 0 34 rfl rfl (by decide) in_Mod k_1180 rfl ?_
  refine pb_i2b (pc := 46) d_Mod_putBit_46 rfl ?_
  refine pb_topi (fun i4 ei4 => ?_)
  refine pb_bast (pc := 47) (ws' := [(h, .inr (10, [.ref m_rels, .ref m_openRels, .ref m_closeRels, .ref m_openRel, .ref m_closeRel, .ref m_comment, .ref m_ends, .ref m_order, .int 0, .int 0, .ref m_tape, .ref m_count, .ref m_nameSize, .ref m_names, .ref m_size, .ref m_data, .int 0, .ref m_looked, .int 0, .ref m_file, .int 0, .ref m_directory, .int 0, .ref m_out, .int 0, .ref m_row, .int 0, .int 0, .int 0, .int 0, .ref m_made, .ref m_length, .int 0, .int 0, .int i2, .int 8, .int 1, .ref m_pressed, .int 0, .int 0, .int 0, .ref m_mark, .int 0, .ref m_idSize, .ref m_ids, .ref m_goalSize, .ref m_goals, .int 0, .ref m_value, .int 0, .ref m_faults, .ref m_reached])), (m_pressed, .inl (G.2.1, 5000, .inl (upd f ((1 : Int32).toNatClampNeg) (vp_nar .byte i4))))]) d_Mod_putBit_47 1 rfl (by unfold vp_in; decide) rfl ?_
  refine pb_aload_n (pc := 48) d_Mod_putBit_48 0 rfl rfl ?_
  refine pb_dup (pc := 49) d_Mod_putBit_49 rfl ?_
  refine pb_get (pc := 50) d_Mod_putBit_50 0 36 rfl rfl (by decide) in_Mod k_1182 rfl ?_
  refine pb_iconst (pc := 53) (v := 1) d_Mod_putBit_53 (by decide) ?_
  refine pb_iadd (pc := 54) d_Mod_putBit_54 ?_
  refine pb_asi (y := 2) (by decide) ?_
  refine pb_put (pc := 55) (ty := .int) (ws' := [(h, .inr (10, [.ref m_rels, .ref m_openRels, .ref m_closeRels, .ref m_openRel, .ref m_closeRel, .ref m_comment, .ref m_ends, .ref m_order, .int 0, .int 0, .ref m_tape, .ref m_count, .ref m_nameSize, .ref m_names, .ref m_size, .ref m_data, .int 0, .ref m_looked, .int 0, .ref m_file, .int 0, .ref m_directory, .int 0, .ref m_out, .int 0, .ref m_row, .int 0, .int 0, .int 0, .int 0, .ref m_made, .ref m_length, .int 0, .int 0, .int i2, .int 8, .int 2, .ref m_pressed, .int 0, .int 0, .int 0, .ref m_mark, .int 0, .ref m_idSize, .ref m_ids, .ref m_goalSize, .ref m_goals, .int 0, .ref m_value, .int 0, .ref m_faults, .ref m_reached])), (m_pressed, .inl (G.2.1, 5000, .inl (upd f ((1 : Int32).toNatClampNeg) (vp_nar .byte i4))))]) d_Mod_putBit_55 0 36 t_Mod t_Mod_ok n_Mod rfl rfl (by decide) in_Mod k_1182 rfl (by decide +kernel) rfl rfl (Nat.le_of_ble_eq_true rfl) rfl ?_
  refine pb_aload_n (pc := 58) d_Mod_putBit_58 0 rfl rfl ?_
  refine pb_iconst (pc := 59) (v := 0) d_Mod_putBit_59 (by decide) ?_
  refine pb_put (pc := 60) (ty := .int) (ws' := [(h, .inr (10, [.ref m_rels, .ref m_openRels, .ref m_closeRels, .ref m_openRel, .ref m_closeRel, .ref m_comment, .ref m_ends, .ref m_order, .int 0, .int 0, .ref m_tape, .ref m_count, .ref m_nameSize, .ref m_names, .ref m_size, .ref m_data, .int 0, .ref m_looked, .int 0, .ref m_file, .int 0, .ref m_directory, .int 0, .ref m_out, .int 0, .ref m_row, .int 0, .int 0, .int 0, .int 0, .ref m_made, .ref m_length, .int 0, .int 0, .int 0, .int 8, .int 2, .ref m_pressed, .int 0, .int 0, .int 0, .ref m_mark, .int 0, .ref m_idSize, .ref m_ids, .ref m_goalSize, .ref m_goals, .int 0, .ref m_value, .int 0, .ref m_faults, .ref m_reached])), (m_pressed, .inl (G.2.1, 5000, .inl (upd f ((1 : Int32).toNatClampNeg) (vp_nar .byte i4))))]) d_Mod_putBit_60 0 34 t_Mod t_Mod_ok n_Mod rfl rfl (by decide) in_Mod k_1180 rfl (by decide +kernel) rfl rfl (Nat.le_of_ble_eq_true rfl) rfl ?_
  refine pb_aload_n (pc := 63) d_Mod_putBit_63 0 rfl rfl ?_
  refine pb_iconst (pc := 64) (v := 0) d_Mod_putBit_64 (by decide) ?_
  refine pb_put (pc := 65) (ty := .int) (ws' := [(h, .inr (10, [.ref m_rels, .ref m_openRels, .ref m_closeRels, .ref m_openRel, .ref m_closeRel, .ref m_comment, .ref m_ends, .ref m_order, .int 0, .int 0, .ref m_tape, .ref m_count, .ref m_nameSize, .ref m_names, .ref m_size, .ref m_data, .int 0, .ref m_looked, .int 0, .ref m_file, .int 0, .ref m_directory, .int 0, .ref m_out, .int 0, .ref m_row, .int 0, .int 0, .int 0, .int 0, .ref m_made, .ref m_length, .int 0, .int 0, .int 0, .int 0, .int 2, .ref m_pressed, .int 0, .int 0, .int 0, .ref m_mark, .int 0, .ref m_idSize, .ref m_ids, .ref m_goalSize, .ref m_goals, .int 0, .ref m_value, .int 0, .ref m_faults, .ref m_reached])), (m_pressed, .inl (G.2.1, 5000, .inl (upd f ((1 : Int32).toNatClampNeg) (vp_nar .byte i4))))]) d_Mod_putBit_65 0 35 t_Mod t_Mod_ok n_Mod rfl rfl (by decide) in_Mod k_1181 rfl (by decide +kernel) rfl rfl (Nat.le_of_ble_eq_true rfl) rfl ?_
  exact pb_vret (pc := 68) hQ d_Mod_putBit_68 rfl (0, (upd f ((1 : Int32).toNatClampNeg) (vp_nar .byte i4))) rfl [0, 1] (by decide) rfl rfl (by decide) (by decide)

theorem d_Mod_putNumber_0 : decode prog_12_method_21_code 0 = .ok (.iconst 0, 1) := by decide +kernel
theorem d_Mod_putNumber_1 : decode prog_12_method_21_code 1 = .ok (.istore_n 3, 1) := by decide +kernel
theorem d_Mod_putNumber_2 : decode prog_12_method_21_code 2 = .ok (.iload_n 3, 1) := by decide +kernel
theorem d_Mod_putNumber_3 : decode prog_12_method_21_code 3 = .ok (.iload_n 2, 1) := by decide +kernel
theorem d_Mod_putNumber_4 : decode prog_12_method_21_code 4 = .ok (.if_icmp .ge 18, 3) := by decide +kernel
theorem d_Mod_putNumber_7 : decode prog_12_method_21_code 7 = .ok (.aload_n 0, 1) := by decide +kernel
theorem d_Mod_putNumber_8 : decode prog_12_method_21_code 8 = .ok (.iload_n 1, 1) := by decide +kernel
theorem d_Mod_putNumber_9 : decode prog_12_method_21_code 9 = .ok (.iload_n 3, 1) := by decide +kernel
theorem d_Mod_putNumber_10 : decode prog_12_method_21_code 10 = .ok (.ishr, 1) := by decide +kernel
theorem d_Mod_putNumber_11 : decode prog_12_method_21_code 11 = .ok (.iconst 1, 1) := by decide +kernel
theorem d_Mod_putNumber_12 : decode prog_12_method_21_code 12 = .ok (.iand, 1) := by decide +kernel
theorem d_Mod_putNumber_13 : decode prog_12_method_21_code 13 = .ok (.invokevirtual 162, 3) := by decide +kernel
theorem k_1386 : (Jvm.Cond.methodLink "PackageBookModel" (162 : Nat) ({ cls := "PackageBookModel", name := "putBit", desc := "(I)V" } : Jvm.MethodName)) ∈ uW := uW_of 1386 (by decide +kernel) (by decide +kernel)
theorem k_1389 : (Jvm.Cond.code ({ cls := "PackageBookModel", name := "putBit", desc := "(I)V" } : Jvm.MethodName) prog_12_method_20_code (2 : Nat) (Option.none : Option Jvm.ClassFile.FieldType)) ∈ uW := uW_of 1389 (by decide +kernel) (by decide +kernel)
theorem k_1388 : (Jvm.Cond.instanceMethod ({ cls := "PackageBookModel", name := "putBit", desc := "(I)V" } : Jvm.MethodName)) ∈ uW := uW_of 1388 (by decide +kernel) (by decide +kernel)
theorem k_62 : Cond.selects "PackageBookModel" ⟨"PackageBookModel", "putBit", "(I)V"⟩ ⟨"PackageBookModel", "putBit", "(I)V"⟩ ∈ uW := uW_of 62 (by decide +kernel) (by decide +kernel)
theorem d_Mod_putNumber_16 : decode prog_12_method_21_code 16 = .ok (.iinc 3 1, 3) := by decide +kernel
theorem d_Mod_putNumber_19 : decode prog_12_method_21_code 19 = .ok (.goto (-17), 3) := by decide +kernel
theorem d_Mod_putNumber_22 : decode prog_12_method_21_code 22 = .ok (.return_, 1) := by decide +kernel
abbrev y_Mod_putNumber : MethodName := ⟨"PackageBookModel", "putNumber", "(II)V"⟩
abbrev i_Mod_putNumber : pb_I := (y_Mod_putNumber, prog_12_method_21_code, 4, (Option.none : Option Jvm.ClassFile.FieldType), [], { frames := 1, cells := 0, slots := 0, locals := 21 })
set_option maxRecDepth 100000 in
set_option maxHeartbeats 4000000 in
theorem c_Mod_num33 {l : Launch} (hl : l.stackTraces = false) (G : pb_G) (h : Nat) (m_rels : Nat) (m_openRels : Nat) (m_closeRels : Nat) (m_openRel : Nat) (m_closeRel : Nat) (m_comment : Nat) (m_ends : Nat) (m_order : Nat) (m_tape : Nat) (m_count : Nat) (m_nameSize : Nat) (m_names : Nat) (m_size : Nat) (m_data : Nat) (m_looked : Nat) (m_file : Nat) (m_directory : Nat) (m_out : Nat) (m_row : Nat) (m_made : Nat) (m_length : Nat) (m_pressed : Nat) (m_mark : Nat) (m_idSize : Nat) (m_ids : Nat) (m_goalSize : Nat) (m_goals : Nat) (m_value : Nat) (m_faults : Nat) (m_reached : Nat) (f : Nat → Int32) : Cn l G i_Mod_putNumber [.ref h, .int 3, .int 3] [(h, .inr (10, [.ref m_rels, .ref m_openRels, .ref m_closeRels, .ref m_openRel, .ref m_closeRel, .ref m_comment, .ref m_ends, .ref m_order, .int 0, .int 0, .ref m_tape, .ref m_count, .ref m_nameSize, .ref m_names, .ref m_size, .ref m_data, .int 0, .ref m_looked, .int 0, .ref m_file, .int 0, .ref m_directory, .int 0, .ref m_out, .int 0, .ref m_row, .int 0, .int 0, .int 0, .int 0, .ref m_made, .ref m_length, .int 0, .int 0, .int 0, .int 0, .int 0, .ref m_pressed, .int 0, .int 0, .int 0, .ref m_mark, .int 0, .ref m_idSize, .ref m_ids, .ref m_goalSize, .ref m_goals, .int 0, .ref m_value, .int 0, .ref m_faults, .ref m_reached])), (m_pressed, .inl (G.2.1, 5000, .inl f))] (S := Int32 × (Nat → Int32)) (fun v u => v = none) (fun u => [(h, .inr (10, [.ref m_rels, .ref m_openRels, .ref m_closeRels, .ref m_openRel, .ref m_closeRel, .ref m_comment, .ref m_ends, .ref m_order, .int 0, .int 0, .ref m_tape, .ref m_count, .ref m_nameSize, .ref m_names, .ref m_size, .ref m_data, .int 0, .ref m_looked, .int 0, .ref m_file, .int 0, .ref m_directory, .int 0, .ref m_out, .int 0, .ref m_row, .int 0, .int 0, .int 0, .int 0, .ref m_made, .ref m_length, .int 0, .int 0, .int u.1, .int 3, .int 0, .ref m_pressed, .int 0, .int 0, .int 0, .ref m_mark, .int 0, .ref m_idSize, .ref m_ids, .ref m_goalSize, .ref m_goals, .int 0, .ref m_value, .int 0, .ref m_faults, .ref m_reached])), (m_pressed, .inl (G.2.1, 5000, .inl u.2))]) := by
  refine Cn.of hl (by decide +kernel) rfl (Nat.le_of_ble_eq_true rfl) (fun M hQ => ?_)
  refine pb_eq (pc' := 0) (lo' := [(0, .ref h), (1, .int 3), (2, .int 3)]) (rest' := []) (ws' := [(h, .inr (10, [.ref m_rels, .ref m_openRels, .ref m_closeRels, .ref m_openRel, .ref m_closeRel, .ref m_comment, .ref m_ends, .ref m_order, .int 0, .int 0, .ref m_tape, .ref m_count, .ref m_nameSize, .ref m_names, .ref m_size, .ref m_data, .int 0, .ref m_looked, .int 0, .ref m_file, .int 0, .ref m_directory, .int 0, .ref m_out, .int 0, .ref m_row, .int 0, .int 0, .int 0, .int 0, .ref m_made, .ref m_length, .int 0, .int 0, .int 0, .int 0, .int 0, .ref m_pressed, .int 0, .int 0, .int 0, .ref m_mark, .int 0, .ref m_idSize, .ref m_ids, .ref m_goalSize, .ref m_goals, .int 0, .ref m_value, .int 0, .ref m_faults, .ref m_reached])), (m_pressed, .inl (G.2.1, 5000, .inl f))]) ?_
  refine pb_iconst (pc := 0) (v := 0) d_Mod_putNumber_0 (by decide) ?_
  refine pb_istore_n (pc := 1) (lo' := [(3, .int 0), (0, .ref h), (1, .int 3), (2, .int 3)]) d_Mod_putNumber_1 rfl (by decide) rfl ?_
  refine pb_iload_n (pc := 2) d_Mod_putNumber_2 0 rfl rfl ?_
  refine pb_iload_n (pc := 3) d_Mod_putNumber_3 3 rfl rfl ?_
  refine pb_icmp_ge (pc := 4) (tgt := 22) d_Mod_putNumber_4 (by decide) (fun h9 => absurd h9 (by decide)) (fun _ => ?_)
  refine pb_aload_n (pc := 7) d_Mod_putNumber_7 1 rfl rfl ?_
  refine pb_iload_n (pc := 8) d_Mod_putNumber_8 2 rfl rfl ?_
  refine pb_iload_n (pc := 9) d_Mod_putNumber_9 0 rfl rfl ?_
  refine pb_ishr (pc := 10) d_Mod_putNumber_10 ?_
  refine pb_asi (y := 3) (by decide) ?_
  refine pb_iconst (pc := 11) (v := 1) d_Mod_putNumber_11 (by decide) ?_
  refine pb_iand (pc := 12) d_Mod_putNumber_12 ?_
  refine pb_asi (y := 1) (by decide) ?_
  refine pb_callV (pc := 13) (qb := 0) (ci := 10) (nA := 1) (rest := []) (wr := []) d_Mod_putNumber_13 (c_Mod_bit_0_0 hl G h m_rels m_openRels m_closeRels m_openRel m_closeRel m_comment m_ends m_order m_tape m_count m_nameSize m_names m_size m_data m_looked m_file m_directory m_out m_row m_made m_length m_pressed m_mark m_idSize m_ids m_goalSize m_goals m_value m_faults m_reached 1 0 f) rfl rfl [0, 1] [] (by decide) rfl rfl rfl (by decide) (by decide) k_1389 rfl k_128 k_1386 k_1388 k_62 (by decide +kernel) (by decide) rfl rfl (Nat.le_of_ble_eq_true rfl) (by decide) (fun v9 u3 h2 => ?_)
  obtain ⟨hb_4, f_5⟩ := u3
  have eh2 := h2
  have eh2 : v9 = none := eh2
  subst eh2
  refine pb_eq (pc' := 16) (lo' := [(3, .int 0), (0, .ref h), (1, .int 3), (2, .int 3)]) (rest' := []) (ws' := [(h, .inr (10, [.ref m_rels, .ref m_openRels, .ref m_closeRels, .ref m_openRel, .ref m_closeRel, .ref m_comment, .ref m_ends, .ref m_order, .int 0, .int 0, .ref m_tape, .ref m_count, .ref m_nameSize, .ref m_names, .ref m_size, .ref m_data, .int 0, .ref m_looked, .int 0, .ref m_file, .int 0, .ref m_directory, .int 0, .ref m_out, .int 0, .ref m_row, .int 0, .int 0, .int 0, .int 0, .ref m_made, .ref m_length, .int 0, .int 0, .int hb_4, .int 1, .int 0, .ref m_pressed, .int 0, .int 0, .int 0, .ref m_mark, .int 0, .ref m_idSize, .ref m_ids, .ref m_goalSize, .ref m_goals, .int 0, .ref m_value, .int 0, .ref m_faults, .ref m_reached])), (m_pressed, .inl (G.2.1, 5000, .inl f_5))]) ?_
  refine pb_iinc (pc := 16) (v := 1) (lo' := [(3, .int 1), (0, .ref h), (1, .int 3), (2, .int 3)]) d_Mod_putNumber_16 0 rfl (by decide) (by decide) rfl ?_
  refine pb_goto (pc := 19) (tgt := 2) d_Mod_putNumber_19 (by decide) ?_
  refine pb_iload_n (pc := 2) d_Mod_putNumber_2 0 rfl rfl ?_
  refine pb_iload_n (pc := 3) d_Mod_putNumber_3 3 rfl rfl ?_
  refine pb_icmp_ge (pc := 4) (tgt := 22) d_Mod_putNumber_4 (by decide) (fun h9 => absurd h9 (by decide)) (fun _ => ?_)
  refine pb_aload_n (pc := 7) d_Mod_putNumber_7 1 rfl rfl ?_
  refine pb_iload_n (pc := 8) d_Mod_putNumber_8 2 rfl rfl ?_
  refine pb_iload_n (pc := 9) d_Mod_putNumber_9 0 rfl rfl ?_
  refine pb_ishr (pc := 10) d_Mod_putNumber_10 ?_
  refine pb_asi (y := 1) (by decide) ?_
  refine pb_iconst (pc := 11) (v := 1) d_Mod_putNumber_11 (by decide) ?_
  refine pb_iand (pc := 12) d_Mod_putNumber_12 ?_
  refine pb_asi (y := 1) (by decide) ?_
  refine pb_callV (pc := 13) (qb := 0) (ci := 10) (nA := 1) (rest := []) (wr := []) d_Mod_putNumber_13 (c_Mod_bit_1_0 hl G h m_rels m_openRels m_closeRels m_openRel m_closeRel m_comment m_ends m_order m_tape m_count m_nameSize m_names m_size m_data m_looked m_file m_directory m_out m_row m_made m_length m_pressed m_mark m_idSize m_ids m_goalSize m_goals m_value m_faults m_reached 1 hb_4 f_5) rfl rfl [0, 1] [] (by decide) rfl rfl rfl (by decide) (by decide) k_1389 rfl k_128 k_1386 k_1388 k_62 (by decide +kernel) (by decide) rfl rfl (Nat.le_of_ble_eq_true rfl) (by decide) (fun v9 u8 h7 => ?_)
  obtain ⟨hb_9, f_10⟩ := u8
  have eh7 := h7
  have eh7 : v9 = none := eh7
  subst eh7
  refine pb_eq (pc' := 16) (lo' := [(3, .int 1), (0, .ref h), (1, .int 3), (2, .int 3)]) (rest' := []) (ws' := [(h, .inr (10, [.ref m_rels, .ref m_openRels, .ref m_closeRels, .ref m_openRel, .ref m_closeRel, .ref m_comment, .ref m_ends, .ref m_order, .int 0, .int 0, .ref m_tape, .ref m_count, .ref m_nameSize, .ref m_names, .ref m_size, .ref m_data, .int 0, .ref m_looked, .int 0, .ref m_file, .int 0, .ref m_directory, .int 0, .ref m_out, .int 0, .ref m_row, .int 0, .int 0, .int 0, .int 0, .ref m_made, .ref m_length, .int 0, .int 0, .int hb_9, .int 2, .int 0, .ref m_pressed, .int 0, .int 0, .int 0, .ref m_mark, .int 0, .ref m_idSize, .ref m_ids, .ref m_goalSize, .ref m_goals, .int 0, .ref m_value, .int 0, .ref m_faults, .ref m_reached])), (m_pressed, .inl (G.2.1, 5000, .inl f_10))]) ?_
  refine pb_iinc (pc := 16) (v := 2) (lo' := [(3, .int 2), (0, .ref h), (1, .int 3), (2, .int 3)]) d_Mod_putNumber_16 0 rfl (by decide) (by decide) rfl ?_
  refine pb_goto (pc := 19) (tgt := 2) d_Mod_putNumber_19 (by decide) ?_
  refine pb_iload_n (pc := 2) d_Mod_putNumber_2 0 rfl rfl ?_
  refine pb_iload_n (pc := 3) d_Mod_putNumber_3 3 rfl rfl ?_
  refine pb_icmp_ge (pc := 4) (tgt := 22) d_Mod_putNumber_4 (by decide) (fun h9 => absurd h9 (by decide)) (fun _ => ?_)
  refine pb_aload_n (pc := 7) d_Mod_putNumber_7 1 rfl rfl ?_
  refine pb_iload_n (pc := 8) d_Mod_putNumber_8 2 rfl rfl ?_
  refine pb_iload_n (pc := 9) d_Mod_putNumber_9 0 rfl rfl ?_
  refine pb_ishr (pc := 10) d_Mod_putNumber_10 ?_
  refine pb_asi (y := 0) (by decide) ?_
  refine pb_iconst (pc := 11) (v := 1) d_Mod_putNumber_11 (by decide) ?_
  refine pb_iand (pc := 12) d_Mod_putNumber_12 ?_
  refine pb_asi (y := 0) (by decide) ?_
  refine pb_callV (pc := 13) (qb := 0) (ci := 10) (nA := 1) (rest := []) (wr := []) d_Mod_putNumber_13 (c_Mod_bit_2_0 hl G h m_rels m_openRels m_closeRels m_openRel m_closeRel m_comment m_ends m_order m_tape m_count m_nameSize m_names m_size m_data m_looked m_file m_directory m_out m_row m_made m_length m_pressed m_mark m_idSize m_ids m_goalSize m_goals m_value m_faults m_reached 0 hb_9 f_10) rfl rfl [0, 1] [] (by decide) rfl rfl rfl (by decide) (by decide) k_1389 rfl k_128 k_1386 k_1388 k_62 (by decide +kernel) (by decide) rfl rfl (Nat.le_of_ble_eq_true rfl) (by decide) (fun v9 u13 h12 => ?_)
  obtain ⟨hb_14, f_15⟩ := u13
  have eh12 := h12
  have eh12 : v9 = none := eh12
  subst eh12
  refine pb_eq (pc' := 16) (lo' := [(3, .int 2), (0, .ref h), (1, .int 3), (2, .int 3)]) (rest' := []) (ws' := [(h, .inr (10, [.ref m_rels, .ref m_openRels, .ref m_closeRels, .ref m_openRel, .ref m_closeRel, .ref m_comment, .ref m_ends, .ref m_order, .int 0, .int 0, .ref m_tape, .ref m_count, .ref m_nameSize, .ref m_names, .ref m_size, .ref m_data, .int 0, .ref m_looked, .int 0, .ref m_file, .int 0, .ref m_directory, .int 0, .ref m_out, .int 0, .ref m_row, .int 0, .int 0, .int 0, .int 0, .ref m_made, .ref m_length, .int 0, .int 0, .int hb_14, .int 3, .int 0, .ref m_pressed, .int 0, .int 0, .int 0, .ref m_mark, .int 0, .ref m_idSize, .ref m_ids, .ref m_goalSize, .ref m_goals, .int 0, .ref m_value, .int 0, .ref m_faults, .ref m_reached])), (m_pressed, .inl (G.2.1, 5000, .inl f_15))]) ?_
  refine pb_iinc (pc := 16) (v := 3) (lo' := [(3, .int 3), (0, .ref h), (1, .int 3), (2, .int 3)]) d_Mod_putNumber_16 0 rfl (by decide) (by decide) rfl ?_
  refine pb_goto (pc := 19) (tgt := 2) d_Mod_putNumber_19 (by decide) ?_
  refine pb_iload_n (pc := 2) d_Mod_putNumber_2 0 rfl rfl ?_
  refine pb_iload_n (pc := 3) d_Mod_putNumber_3 3 rfl rfl ?_
  refine pb_icmp_ge (pc := 4) (tgt := 22) d_Mod_putNumber_4 (by decide) (fun _ => ?_) (fun h9 => absurd h9 (by decide))
  exact pb_vret (pc := 22) hQ d_Mod_putNumber_22 rfl (hb_14, f_15) rfl [0, 1] (by decide) rfl rfl (by decide) (by decide)

theorem d_Mod_putCode_0 : decode prog_12_method_22_code 0 = .ok (.iload_n 2, 1) := by decide +kernel
theorem d_Mod_putCode_1 : decode prog_12_method_22_code 1 = .ok (.iconst 1, 1) := by decide +kernel
theorem d_Mod_putCode_2 : decode prog_12_method_22_code 2 = .ok (.isub, 1) := by decide +kernel
theorem d_Mod_putCode_3 : decode prog_12_method_22_code 3 = .ok (.istore_n 3, 1) := by decide +kernel
theorem d_Mod_putCode_4 : decode prog_12_method_22_code 4 = .ok (.iload_n 3, 1) := by decide +kernel
theorem d_Mod_putCode_5 : decode prog_12_method_22_code 5 = .ok (.ifCond .lt 18, 3) := by decide +kernel
theorem d_Mod_putCode_8 : decode prog_12_method_22_code 8 = .ok (.aload_n 0, 1) := by decide +kernel
theorem d_Mod_putCode_9 : decode prog_12_method_22_code 9 = .ok (.iload_n 1, 1) := by decide +kernel
theorem d_Mod_putCode_10 : decode prog_12_method_22_code 10 = .ok (.iload_n 3, 1) := by decide +kernel
theorem d_Mod_putCode_11 : decode prog_12_method_22_code 11 = .ok (.ishr, 1) := by decide +kernel
theorem d_Mod_putCode_12 : decode prog_12_method_22_code 12 = .ok (.iconst 1, 1) := by decide +kernel
theorem d_Mod_putCode_13 : decode prog_12_method_22_code 13 = .ok (.iand, 1) := by decide +kernel
theorem d_Mod_putCode_14 : decode prog_12_method_22_code 14 = .ok (.invokevirtual 162, 3) := by decide +kernel
theorem d_Mod_putCode_17 : decode prog_12_method_22_code 17 = .ok (.iinc 3 (-1), 3) := by decide +kernel
theorem d_Mod_putCode_20 : decode prog_12_method_22_code 20 = .ok (.goto (-16), 3) := by decide +kernel
theorem d_Mod_putCode_23 : decode prog_12_method_22_code 23 = .ok (.return_, 1) := by decide +kernel
abbrev y_Mod_putCode : MethodName := ⟨"PackageBookModel", "putCode", "(II)V"⟩
abbrev i_Mod_putCode : pb_I := (y_Mod_putCode, prog_12_method_22_code, 4, (Option.none : Option Jvm.ClassFile.FieldType), [], { frames := 1, cells := 0, slots := 0, locals := 21 })
set_option maxRecDepth 100000 in
set_option maxHeartbeats 4000000 in
theorem c_Mod_code07 {l : Launch} (hl : l.stackTraces = false) (G : pb_G) (h : Nat) (m_rels : Nat) (m_openRels : Nat) (m_closeRels : Nat) (m_openRel : Nat) (m_closeRel : Nat) (m_comment : Nat) (m_ends : Nat) (m_order : Nat) (m_tape : Nat) (m_count : Nat) (m_nameSize : Nat) (m_names : Nat) (m_size : Nat) (m_data : Nat) (m_looked : Nat) (m_file : Nat) (m_directory : Nat) (m_out : Nat) (m_row : Nat) (m_made : Nat) (m_length : Nat) (m_pressed : Nat) (m_mark : Nat) (m_idSize : Nat) (m_ids : Nat) (m_goalSize : Nat) (m_goals : Nat) (m_value : Nat) (m_faults : Nat) (m_reached : Nat) (hb : Int32) (f : Nat → Int32) : Cn l G i_Mod_putCode [.ref h, .int 0, .int 7] [(h, .inr (10, [.ref m_rels, .ref m_openRels, .ref m_closeRels, .ref m_openRel, .ref m_closeRel, .ref m_comment, .ref m_ends, .ref m_order, .int 0, .int 0, .ref m_tape, .ref m_count, .ref m_nameSize, .ref m_names, .ref m_size, .ref m_data, .int 0, .ref m_looked, .int 0, .ref m_file, .int 0, .ref m_directory, .int 0, .ref m_out, .int 0, .ref m_row, .int 0, .int 0, .int 0, .int 0, .ref m_made, .ref m_length, .int 0, .int 0, .int hb, .int 3, .int 0, .ref m_pressed, .int 0, .int 0, .int 0, .ref m_mark, .int 0, .ref m_idSize, .ref m_ids, .ref m_goalSize, .ref m_goals, .int 0, .ref m_value, .int 0, .ref m_faults, .ref m_reached])), (m_pressed, .inl (G.2.1, 5000, .inl f))] (S := Int32 × (Nat → Int32)) (fun v u => v = none) (fun u => [(h, .inr (10, [.ref m_rels, .ref m_openRels, .ref m_closeRels, .ref m_openRel, .ref m_closeRel, .ref m_comment, .ref m_ends, .ref m_order, .int 0, .int 0, .ref m_tape, .ref m_count, .ref m_nameSize, .ref m_names, .ref m_size, .ref m_data, .int 0, .ref m_looked, .int 0, .ref m_file, .int 0, .ref m_directory, .int 0, .ref m_out, .int 0, .ref m_row, .int 0, .int 0, .int 0, .int 0, .ref m_made, .ref m_length, .int 0, .int 0, .int u.1, .int 2, .int 1, .ref m_pressed, .int 0, .int 0, .int 0, .ref m_mark, .int 0, .ref m_idSize, .ref m_ids, .ref m_goalSize, .ref m_goals, .int 0, .ref m_value, .int 0, .ref m_faults, .ref m_reached])), (m_pressed, .inl (G.2.1, 5000, .inl u.2))]) := by
  refine Cn.of hl (by decide +kernel) rfl (Nat.le_of_ble_eq_true rfl) (fun M hQ => ?_)
  refine pb_eq (pc' := 0) (lo' := [(0, .ref h), (1, .int 0), (2, .int 7)]) (rest' := []) (ws' := [(h, .inr (10, [.ref m_rels, .ref m_openRels, .ref m_closeRels, .ref m_openRel, .ref m_closeRel, .ref m_comment, .ref m_ends, .ref m_order, .int 0, .int 0, .ref m_tape, .ref m_count, .ref m_nameSize, .ref m_names, .ref m_size, .ref m_data, .int 0, .ref m_looked, .int 0, .ref m_file, .int 0, .ref m_directory, .int 0, .ref m_out, .int 0, .ref m_row, .int 0, .int 0, .int 0, .int 0, .ref m_made, .ref m_length, .int 0, .int 0, .int hb, .int 3, .int 0, .ref m_pressed, .int 0, .int 0, .int 0, .ref m_mark, .int 0, .ref m_idSize, .ref m_ids, .ref m_goalSize, .ref m_goals, .int 0, .ref m_value, .int 0, .ref m_faults, .ref m_reached])), (m_pressed, .inl (G.2.1, 5000, .inl f))]) ?_
  refine pb_iload_n (pc := 0) d_Mod_putCode_0 2 rfl rfl ?_
  refine pb_iconst (pc := 1) (v := 1) d_Mod_putCode_1 (by decide) ?_
  refine pb_isub (pc := 2) d_Mod_putCode_2 ?_
  refine pb_asi (y := 6) (by decide) ?_
  refine pb_istore_n (pc := 3) (lo' := [(3, .int 6), (0, .ref h), (1, .int 0), (2, .int 7)]) d_Mod_putCode_3 rfl (by decide) rfl ?_
  refine pb_iload_n (pc := 4) d_Mod_putCode_4 0 rfl rfl ?_
  refine pb_if_lt (pc := 5) (tgt := 23) d_Mod_putCode_5 (by decide) (fun h9 => absurd h9 (by decide)) (fun _ => ?_)
  refine pb_aload_n (pc := 8) d_Mod_putCode_8 1 rfl rfl ?_
  refine pb_iload_n (pc := 9) d_Mod_putCode_9 2 rfl rfl ?_
  refine pb_iload_n (pc := 10) d_Mod_putCode_10 0 rfl rfl ?_
  refine pb_ishr (pc := 11) d_Mod_putCode_11 ?_
  refine pb_asi (y := 0) (by decide) ?_
  refine pb_iconst (pc := 12) (v := 1) d_Mod_putCode_12 (by decide) ?_
  refine pb_iand (pc := 13) d_Mod_putCode_13 ?_
  refine pb_asi (y := 0) (by decide) ?_
  refine pb_callV (pc := 14) (qb := 0) (ci := 10) (nA := 1) (rest := []) (wr := []) d_Mod_putCode_14 (c_Mod_bit_3_0 hl G h m_rels m_openRels m_closeRels m_openRel m_closeRel m_comment m_ends m_order m_tape m_count m_nameSize m_names m_size m_data m_looked m_file m_directory m_out m_row m_made m_length m_pressed m_mark m_idSize m_ids m_goalSize m_goals m_value m_faults m_reached 0 hb f) rfl rfl [0, 1] [] (by decide) rfl rfl rfl (by decide) (by decide) k_1389 rfl k_128 k_1386 k_1388 k_62 (by decide +kernel) (by decide) rfl rfl (Nat.le_of_ble_eq_true rfl) (by decide) (fun v9 u3 h2 => ?_)
  obtain ⟨hb_4, f_5⟩ := u3
  have eh2 := h2
  have eh2 : v9 = none := eh2
  subst eh2
  refine pb_eq (pc' := 17) (lo' := [(3, .int 6), (0, .ref h), (1, .int 0), (2, .int 7)]) (rest' := []) (ws' := [(h, .inr (10, [.ref m_rels, .ref m_openRels, .ref m_closeRels, .ref m_openRel, .ref m_closeRel, .ref m_comment, .ref m_ends, .ref m_order, .int 0, .int 0, .ref m_tape, .ref m_count, .ref m_nameSize, .ref m_names, .ref m_size, .ref m_data, .int 0, .ref m_looked, .int 0, .ref m_file, .int 0, .ref m_directory, .int 0, .ref m_out, .int 0, .ref m_row, .int 0, .int 0, .int 0, .int 0, .ref m_made, .ref m_length, .int 0, .int 0, .int hb_4, .int 4, .int 0, .ref m_pressed, .int 0, .int 0, .int 0, .ref m_mark, .int 0, .ref m_idSize, .ref m_ids, .ref m_goalSize, .ref m_goals, .int 0, .ref m_value, .int 0, .ref m_faults, .ref m_reached])), (m_pressed, .inl (G.2.1, 5000, .inl f_5))]) ?_
  refine pb_iinc (pc := 17) (v := 5) (lo' := [(3, .int 5), (0, .ref h), (1, .int 0), (2, .int 7)]) d_Mod_putCode_17 0 rfl (by decide) (by decide) rfl ?_
  refine pb_goto (pc := 20) (tgt := 4) d_Mod_putCode_20 (by decide) ?_
  refine pb_iload_n (pc := 4) d_Mod_putCode_4 0 rfl rfl ?_
  refine pb_if_lt (pc := 5) (tgt := 23) d_Mod_putCode_5 (by decide) (fun h9 => absurd h9 (by decide)) (fun _ => ?_)
  refine pb_aload_n (pc := 8) d_Mod_putCode_8 1 rfl rfl ?_
  refine pb_iload_n (pc := 9) d_Mod_putCode_9 2 rfl rfl ?_
  refine pb_iload_n (pc := 10) d_Mod_putCode_10 0 rfl rfl ?_
  refine pb_ishr (pc := 11) d_Mod_putCode_11 ?_
  refine pb_asi (y := 0) (by decide) ?_
  refine pb_iconst (pc := 12) (v := 1) d_Mod_putCode_12 (by decide) ?_
  refine pb_iand (pc := 13) d_Mod_putCode_13 ?_
  refine pb_asi (y := 0) (by decide) ?_
  refine pb_callV (pc := 14) (qb := 0) (ci := 10) (nA := 1) (rest := []) (wr := []) d_Mod_putCode_14 (c_Mod_bit_4_0 hl G h m_rels m_openRels m_closeRels m_openRel m_closeRel m_comment m_ends m_order m_tape m_count m_nameSize m_names m_size m_data m_looked m_file m_directory m_out m_row m_made m_length m_pressed m_mark m_idSize m_ids m_goalSize m_goals m_value m_faults m_reached 0 hb_4 f_5) rfl rfl [0, 1] [] (by decide) rfl rfl rfl (by decide) (by decide) k_1389 rfl k_128 k_1386 k_1388 k_62 (by decide +kernel) (by decide) rfl rfl (Nat.le_of_ble_eq_true rfl) (by decide) (fun v9 u8 h7 => ?_)
  obtain ⟨hb_9, f_10⟩ := u8
  have eh7 := h7
  have eh7 : v9 = none := eh7
  subst eh7
  refine pb_eq (pc' := 17) (lo' := [(3, .int 5), (0, .ref h), (1, .int 0), (2, .int 7)]) (rest' := []) (ws' := [(h, .inr (10, [.ref m_rels, .ref m_openRels, .ref m_closeRels, .ref m_openRel, .ref m_closeRel, .ref m_comment, .ref m_ends, .ref m_order, .int 0, .int 0, .ref m_tape, .ref m_count, .ref m_nameSize, .ref m_names, .ref m_size, .ref m_data, .int 0, .ref m_looked, .int 0, .ref m_file, .int 0, .ref m_directory, .int 0, .ref m_out, .int 0, .ref m_row, .int 0, .int 0, .int 0, .int 0, .ref m_made, .ref m_length, .int 0, .int 0, .int hb_9, .int 5, .int 0, .ref m_pressed, .int 0, .int 0, .int 0, .ref m_mark, .int 0, .ref m_idSize, .ref m_ids, .ref m_goalSize, .ref m_goals, .int 0, .ref m_value, .int 0, .ref m_faults, .ref m_reached])), (m_pressed, .inl (G.2.1, 5000, .inl f_10))]) ?_
  refine pb_iinc (pc := 17) (v := 4) (lo' := [(3, .int 4), (0, .ref h), (1, .int 0), (2, .int 7)]) d_Mod_putCode_17 0 rfl (by decide) (by decide) rfl ?_
  refine pb_goto (pc := 20) (tgt := 4) d_Mod_putCode_20 (by decide) ?_
  refine pb_iload_n (pc := 4) d_Mod_putCode_4 0 rfl rfl ?_
  refine pb_if_lt (pc := 5) (tgt := 23) d_Mod_putCode_5 (by decide) (fun h9 => absurd h9 (by decide)) (fun _ => ?_)
  refine pb_aload_n (pc := 8) d_Mod_putCode_8 1 rfl rfl ?_
  refine pb_iload_n (pc := 9) d_Mod_putCode_9 2 rfl rfl ?_
  refine pb_iload_n (pc := 10) d_Mod_putCode_10 0 rfl rfl ?_
  refine pb_ishr (pc := 11) d_Mod_putCode_11 ?_
  refine pb_asi (y := 0) (by decide) ?_
  refine pb_iconst (pc := 12) (v := 1) d_Mod_putCode_12 (by decide) ?_
  refine pb_iand (pc := 13) d_Mod_putCode_13 ?_
  refine pb_asi (y := 0) (by decide) ?_
  refine pb_callV (pc := 14) (qb := 0) (ci := 10) (nA := 1) (rest := []) (wr := []) d_Mod_putCode_14 (c_Mod_bit_5_0 hl G h m_rels m_openRels m_closeRels m_openRel m_closeRel m_comment m_ends m_order m_tape m_count m_nameSize m_names m_size m_data m_looked m_file m_directory m_out m_row m_made m_length m_pressed m_mark m_idSize m_ids m_goalSize m_goals m_value m_faults m_reached 0 hb_9 f_10) rfl rfl [0, 1] [] (by decide) rfl rfl rfl (by decide) (by decide) k_1389 rfl k_128 k_1386 k_1388 k_62 (by decide +kernel) (by decide) rfl rfl (Nat.le_of_ble_eq_true rfl) (by decide) (fun v9 u13 h12 => ?_)
  obtain ⟨hb_14, f_15⟩ := u13
  have eh12 := h12
  have eh12 : v9 = none := eh12
  subst eh12
  refine pb_eq (pc' := 17) (lo' := [(3, .int 4), (0, .ref h), (1, .int 0), (2, .int 7)]) (rest' := []) (ws' := [(h, .inr (10, [.ref m_rels, .ref m_openRels, .ref m_closeRels, .ref m_openRel, .ref m_closeRel, .ref m_comment, .ref m_ends, .ref m_order, .int 0, .int 0, .ref m_tape, .ref m_count, .ref m_nameSize, .ref m_names, .ref m_size, .ref m_data, .int 0, .ref m_looked, .int 0, .ref m_file, .int 0, .ref m_directory, .int 0, .ref m_out, .int 0, .ref m_row, .int 0, .int 0, .int 0, .int 0, .ref m_made, .ref m_length, .int 0, .int 0, .int hb_14, .int 6, .int 0, .ref m_pressed, .int 0, .int 0, .int 0, .ref m_mark, .int 0, .ref m_idSize, .ref m_ids, .ref m_goalSize, .ref m_goals, .int 0, .ref m_value, .int 0, .ref m_faults, .ref m_reached])), (m_pressed, .inl (G.2.1, 5000, .inl f_15))]) ?_
  refine pb_iinc (pc := 17) (v := 3) (lo' := [(3, .int 3), (0, .ref h), (1, .int 0), (2, .int 7)]) d_Mod_putCode_17 0 rfl (by decide) (by decide) rfl ?_
  refine pb_goto (pc := 20) (tgt := 4) d_Mod_putCode_20 (by decide) ?_
  refine pb_iload_n (pc := 4) d_Mod_putCode_4 0 rfl rfl ?_
  refine pb_if_lt (pc := 5) (tgt := 23) d_Mod_putCode_5 (by decide) (fun h9 => absurd h9 (by decide)) (fun _ => ?_)
  refine pb_aload_n (pc := 8) d_Mod_putCode_8 1 rfl rfl ?_
  refine pb_iload_n (pc := 9) d_Mod_putCode_9 2 rfl rfl ?_
  refine pb_iload_n (pc := 10) d_Mod_putCode_10 0 rfl rfl ?_
  refine pb_ishr (pc := 11) d_Mod_putCode_11 ?_
  refine pb_asi (y := 0) (by decide) ?_
  refine pb_iconst (pc := 12) (v := 1) d_Mod_putCode_12 (by decide) ?_
  refine pb_iand (pc := 13) d_Mod_putCode_13 ?_
  refine pb_asi (y := 0) (by decide) ?_
  refine pb_callV (pc := 14) (qb := 0) (ci := 10) (nA := 1) (rest := []) (wr := []) d_Mod_putCode_14 (c_Mod_bit_6_0 hl G h m_rels m_openRels m_closeRels m_openRel m_closeRel m_comment m_ends m_order m_tape m_count m_nameSize m_names m_size m_data m_looked m_file m_directory m_out m_row m_made m_length m_pressed m_mark m_idSize m_ids m_goalSize m_goals m_value m_faults m_reached 0 hb_14 f_15) rfl rfl [0, 1] [] (by decide) rfl rfl rfl (by decide) (by decide) k_1389 rfl k_128 k_1386 k_1388 k_62 (by decide +kernel) (by decide) rfl rfl (Nat.le_of_ble_eq_true rfl) (by decide) (fun v9 u18 h17 => ?_)
  obtain ⟨hb_19, f_20⟩ := u18
  have eh17 := h17
  have eh17 : v9 = none := eh17
  subst eh17
  refine pb_eq (pc' := 17) (lo' := [(3, .int 3), (0, .ref h), (1, .int 0), (2, .int 7)]) (rest' := []) (ws' := [(h, .inr (10, [.ref m_rels, .ref m_openRels, .ref m_closeRels, .ref m_openRel, .ref m_closeRel, .ref m_comment, .ref m_ends, .ref m_order, .int 0, .int 0, .ref m_tape, .ref m_count, .ref m_nameSize, .ref m_names, .ref m_size, .ref m_data, .int 0, .ref m_looked, .int 0, .ref m_file, .int 0, .ref m_directory, .int 0, .ref m_out, .int 0, .ref m_row, .int 0, .int 0, .int 0, .int 0, .ref m_made, .ref m_length, .int 0, .int 0, .int hb_19, .int 7, .int 0, .ref m_pressed, .int 0, .int 0, .int 0, .ref m_mark, .int 0, .ref m_idSize, .ref m_ids, .ref m_goalSize, .ref m_goals, .int 0, .ref m_value, .int 0, .ref m_faults, .ref m_reached])), (m_pressed, .inl (G.2.1, 5000, .inl f_20))]) ?_
  refine pb_iinc (pc := 17) (v := 2) (lo' := [(3, .int 2), (0, .ref h), (1, .int 0), (2, .int 7)]) d_Mod_putCode_17 0 rfl (by decide) (by decide) rfl ?_
  refine pb_goto (pc := 20) (tgt := 4) d_Mod_putCode_20 (by decide) ?_
  refine pb_iload_n (pc := 4) d_Mod_putCode_4 0 rfl rfl ?_
  refine pb_if_lt (pc := 5) (tgt := 23) d_Mod_putCode_5 (by decide) (fun h9 => absurd h9 (by decide)) (fun _ => ?_)
  refine pb_aload_n (pc := 8) d_Mod_putCode_8 1 rfl rfl ?_
  refine pb_iload_n (pc := 9) d_Mod_putCode_9 2 rfl rfl ?_
  refine pb_iload_n (pc := 10) d_Mod_putCode_10 0 rfl rfl ?_
  refine pb_ishr (pc := 11) d_Mod_putCode_11 ?_
  refine pb_asi (y := 0) (by decide) ?_
  refine pb_iconst (pc := 12) (v := 1) d_Mod_putCode_12 (by decide) ?_
  refine pb_iand (pc := 13) d_Mod_putCode_13 ?_
  refine pb_asi (y := 0) (by decide) ?_
  refine pb_callV (pc := 14) (qb := 0) (ci := 10) (nA := 1) (rest := []) (wr := []) d_Mod_putCode_14 (c_Mod_bit_7_0 hl G h m_rels m_openRels m_closeRels m_openRel m_closeRel m_comment m_ends m_order m_tape m_count m_nameSize m_names m_size m_data m_looked m_file m_directory m_out m_row m_made m_length m_pressed m_mark m_idSize m_ids m_goalSize m_goals m_value m_faults m_reached 0 hb_19 f_20) rfl rfl [0, 1] [] (by decide) rfl rfl rfl (by decide) (by decide) k_1389 rfl k_128 k_1386 k_1388 k_62 (by decide +kernel) (by decide) rfl rfl (Nat.le_of_ble_eq_true rfl) (by decide) (fun v9 u23 h22 => ?_)
  obtain ⟨hb_24, f_25⟩ := u23
  have eh22 := h22
  have eh22 : v9 = none := eh22
  subst eh22
  refine pb_eq (pc' := 17) (lo' := [(3, .int 2), (0, .ref h), (1, .int 0), (2, .int 7)]) (rest' := []) (ws' := [(h, .inr (10, [.ref m_rels, .ref m_openRels, .ref m_closeRels, .ref m_openRel, .ref m_closeRel, .ref m_comment, .ref m_ends, .ref m_order, .int 0, .int 0, .ref m_tape, .ref m_count, .ref m_nameSize, .ref m_names, .ref m_size, .ref m_data, .int 0, .ref m_looked, .int 0, .ref m_file, .int 0, .ref m_directory, .int 0, .ref m_out, .int 0, .ref m_row, .int 0, .int 0, .int 0, .int 0, .ref m_made, .ref m_length, .int 0, .int 0, .int hb_24, .int 0, .int 1, .ref m_pressed, .int 0, .int 0, .int 0, .ref m_mark, .int 0, .ref m_idSize, .ref m_ids, .ref m_goalSize, .ref m_goals, .int 0, .ref m_value, .int 0, .ref m_faults, .ref m_reached])), (m_pressed, .inl (G.2.1, 5000, .inl f_25))]) ?_
  refine pb_iinc (pc := 17) (v := 1) (lo' := [(3, .int 1), (0, .ref h), (1, .int 0), (2, .int 7)]) d_Mod_putCode_17 0 rfl (by decide) (by decide) rfl ?_
  refine pb_goto (pc := 20) (tgt := 4) d_Mod_putCode_20 (by decide) ?_
  refine pb_iload_n (pc := 4) d_Mod_putCode_4 0 rfl rfl ?_
  refine pb_if_lt (pc := 5) (tgt := 23) d_Mod_putCode_5 (by decide) (fun h9 => absurd h9 (by decide)) (fun _ => ?_)
  refine pb_aload_n (pc := 8) d_Mod_putCode_8 1 rfl rfl ?_
  refine pb_iload_n (pc := 9) d_Mod_putCode_9 2 rfl rfl ?_
  refine pb_iload_n (pc := 10) d_Mod_putCode_10 0 rfl rfl ?_
  refine pb_ishr (pc := 11) d_Mod_putCode_11 ?_
  refine pb_asi (y := 0) (by decide) ?_
  refine pb_iconst (pc := 12) (v := 1) d_Mod_putCode_12 (by decide) ?_
  refine pb_iand (pc := 13) d_Mod_putCode_13 ?_
  refine pb_asi (y := 0) (by decide) ?_
  refine pb_callV (pc := 14) (qb := 0) (ci := 10) (nA := 1) (rest := []) (wr := []) d_Mod_putCode_14 (c_Mod_bit_0_1 hl G h m_rels m_openRels m_closeRels m_openRel m_closeRel m_comment m_ends m_order m_tape m_count m_nameSize m_names m_size m_data m_looked m_file m_directory m_out m_row m_made m_length m_pressed m_mark m_idSize m_ids m_goalSize m_goals m_value m_faults m_reached 0 hb_24 f_25) rfl rfl [0, 1] [] (by decide) rfl rfl rfl (by decide) (by decide) k_1389 rfl k_128 k_1386 k_1388 k_62 (by decide +kernel) (by decide) rfl rfl (Nat.le_of_ble_eq_true rfl) (by decide) (fun v9 u28 h27 => ?_)
  obtain ⟨hb_29, f_30⟩ := u28
  have eh27 := h27
  have eh27 : v9 = none := eh27
  subst eh27
  refine pb_eq (pc' := 17) (lo' := [(3, .int 1), (0, .ref h), (1, .int 0), (2, .int 7)]) (rest' := []) (ws' := [(h, .inr (10, [.ref m_rels, .ref m_openRels, .ref m_closeRels, .ref m_openRel, .ref m_closeRel, .ref m_comment, .ref m_ends, .ref m_order, .int 0, .int 0, .ref m_tape, .ref m_count, .ref m_nameSize, .ref m_names, .ref m_size, .ref m_data, .int 0, .ref m_looked, .int 0, .ref m_file, .int 0, .ref m_directory, .int 0, .ref m_out, .int 0, .ref m_row, .int 0, .int 0, .int 0, .int 0, .ref m_made, .ref m_length, .int 0, .int 0, .int hb_29, .int 1, .int 1, .ref m_pressed, .int 0, .int 0, .int 0, .ref m_mark, .int 0, .ref m_idSize, .ref m_ids, .ref m_goalSize, .ref m_goals, .int 0, .ref m_value, .int 0, .ref m_faults, .ref m_reached])), (m_pressed, .inl (G.2.1, 5000, .inl f_30))]) ?_
  refine pb_iinc (pc := 17) (v := 0) (lo' := [(3, .int 0), (0, .ref h), (1, .int 0), (2, .int 7)]) d_Mod_putCode_17 0 rfl (by decide) (by decide) rfl ?_
  refine pb_goto (pc := 20) (tgt := 4) d_Mod_putCode_20 (by decide) ?_
  refine pb_iload_n (pc := 4) d_Mod_putCode_4 0 rfl rfl ?_
  refine pb_if_lt (pc := 5) (tgt := 23) d_Mod_putCode_5 (by decide) (fun h9 => absurd h9 (by decide)) (fun _ => ?_)
  refine pb_aload_n (pc := 8) d_Mod_putCode_8 1 rfl rfl ?_
  refine pb_iload_n (pc := 9) d_Mod_putCode_9 2 rfl rfl ?_
  refine pb_iload_n (pc := 10) d_Mod_putCode_10 0 rfl rfl ?_
  refine pb_ishr (pc := 11) d_Mod_putCode_11 ?_
  refine pb_asi (y := 0) (by decide) ?_
  refine pb_iconst (pc := 12) (v := 1) d_Mod_putCode_12 (by decide) ?_
  refine pb_iand (pc := 13) d_Mod_putCode_13 ?_
  refine pb_asi (y := 0) (by decide) ?_
  refine pb_callV (pc := 14) (qb := 0) (ci := 10) (nA := 1) (rest := []) (wr := []) d_Mod_putCode_14 (c_Mod_bit_1_1 hl G h m_rels m_openRels m_closeRels m_openRel m_closeRel m_comment m_ends m_order m_tape m_count m_nameSize m_names m_size m_data m_looked m_file m_directory m_out m_row m_made m_length m_pressed m_mark m_idSize m_ids m_goalSize m_goals m_value m_faults m_reached 0 hb_29 f_30) rfl rfl [0, 1] [] (by decide) rfl rfl rfl (by decide) (by decide) k_1389 rfl k_128 k_1386 k_1388 k_62 (by decide +kernel) (by decide) rfl rfl (Nat.le_of_ble_eq_true rfl) (by decide) (fun v9 u33 h32 => ?_)
  obtain ⟨hb_34, f_35⟩ := u33
  have eh32 := h32
  have eh32 : v9 = none := eh32
  subst eh32
  refine pb_eq (pc' := 17) (lo' := [(3, .int 0), (0, .ref h), (1, .int 0), (2, .int 7)]) (rest' := []) (ws' := [(h, .inr (10, [.ref m_rels, .ref m_openRels, .ref m_closeRels, .ref m_openRel, .ref m_closeRel, .ref m_comment, .ref m_ends, .ref m_order, .int 0, .int 0, .ref m_tape, .ref m_count, .ref m_nameSize, .ref m_names, .ref m_size, .ref m_data, .int 0, .ref m_looked, .int 0, .ref m_file, .int 0, .ref m_directory, .int 0, .ref m_out, .int 0, .ref m_row, .int 0, .int 0, .int 0, .int 0, .ref m_made, .ref m_length, .int 0, .int 0, .int hb_34, .int 2, .int 1, .ref m_pressed, .int 0, .int 0, .int 0, .ref m_mark, .int 0, .ref m_idSize, .ref m_ids, .ref m_goalSize, .ref m_goals, .int 0, .ref m_value, .int 0, .ref m_faults, .ref m_reached])), (m_pressed, .inl (G.2.1, 5000, .inl f_35))]) ?_
  refine pb_iinc (pc := 17) (v := (-1)) (lo' := [(3, .int (-1)), (0, .ref h), (1, .int 0), (2, .int 7)]) d_Mod_putCode_17 0 rfl (by decide) (by decide) rfl ?_
  refine pb_goto (pc := 20) (tgt := 4) d_Mod_putCode_20 (by decide) ?_
  refine pb_iload_n (pc := 4) d_Mod_putCode_4 0 rfl rfl ?_
  refine pb_if_lt (pc := 5) (tgt := 23) d_Mod_putCode_5 (by decide) (fun _ => ?_) (fun h9 => absurd h9 (by decide))
  exact pb_vret (pc := 23) hQ d_Mod_putCode_23 rfl (hb_34, f_35) rfl [0, 1] (by decide) rfl rfl (by decide) (by decide)

theorem d_Mod_putSymbol_0 : decode prog_12_method_23_code 0 = .ok (.iload_n 1, 1) := by decide +kernel
theorem d_Mod_putSymbol_1 : decode prog_12_method_23_code 1 = .ok (.sipush 144, 3) := by decide +kernel
theorem d_Mod_putSymbol_4 : decode prog_12_method_23_code 4 = .ok (.if_icmp .ge 16, 3) := by decide +kernel
theorem d_Mod_putSymbol_20 : decode prog_12_method_23_code 20 = .ok (.iload_n 1, 1) := by decide +kernel
theorem d_Mod_putSymbol_21 : decode prog_12_method_23_code 21 = .ok (.sipush 256, 3) := by decide +kernel
theorem d_Mod_putSymbol_24 : decode prog_12_method_23_code 24 = .ok (.if_icmp .ge 17, 3) := by decide +kernel
theorem d_Mod_putSymbol_41 : decode prog_12_method_23_code 41 = .ok (.iload_n 1, 1) := by decide +kernel
theorem d_Mod_putSymbol_42 : decode prog_12_method_23_code 42 = .ok (.sipush 280, 3) := by decide +kernel
theorem d_Mod_putSymbol_45 : decode prog_12_method_23_code 45 = .ok (.if_icmp .ge 17, 3) := by decide +kernel
theorem d_Mod_putSymbol_48 : decode prog_12_method_23_code 48 = .ok (.aload_n 0, 1) := by decide +kernel
theorem d_Mod_putSymbol_49 : decode prog_12_method_23_code 49 = .ok (.iload_n 1, 1) := by decide +kernel
theorem d_Mod_putSymbol_50 : decode prog_12_method_23_code 50 = .ok (.sipush 256, 3) := by decide +kernel
theorem d_Mod_putSymbol_53 : decode prog_12_method_23_code 53 = .ok (.isub, 1) := by decide +kernel
theorem d_Mod_putSymbol_54 : decode prog_12_method_23_code 54 = .ok (.bipush 7, 2) := by decide +kernel
theorem d_Mod_putSymbol_56 : decode prog_12_method_23_code 56 = .ok (.invokevirtual 166, 3) := by decide +kernel
theorem k_1397 : (Jvm.Cond.methodLink "PackageBookModel" (166 : Nat) ({ cls := "PackageBookModel", name := "putCode", desc := "(II)V" } : Jvm.MethodName)) ∈ uW := uW_of 1397 (by decide +kernel) (by decide +kernel)
theorem k_1400 : (Jvm.Cond.code ({ cls := "PackageBookModel", name := "putCode", desc := "(II)V" } : Jvm.MethodName) prog_12_method_22_code (4 : Nat) (Option.none : Option Jvm.ClassFile.FieldType)) ∈ uW := uW_of 1400 (by decide +kernel) (by decide +kernel)
theorem k_1399 : (Jvm.Cond.instanceMethod ({ cls := "PackageBookModel", name := "putCode", desc := "(II)V" } : Jvm.MethodName)) ∈ uW := uW_of 1399 (by decide +kernel) (by decide +kernel)
theorem k_64 : Cond.selects "PackageBookModel" ⟨"PackageBookModel", "putCode", "(II)V"⟩ ⟨"PackageBookModel", "putCode", "(II)V"⟩ ∈ uW := uW_of 64 (by decide +kernel) (by decide +kernel)
theorem d_Mod_putSymbol_59 : decode prog_12_method_23_code 59 = .ok (.goto 13, 3) := by decide +kernel
theorem d_Mod_putSymbol_72 : decode prog_12_method_23_code 72 = .ok (.return_, 1) := by decide +kernel
abbrev y_Mod_putSymbol : MethodName := ⟨"PackageBookModel", "putSymbol", "(I)V"⟩
abbrev i_Mod_putSymbol : pb_I := (y_Mod_putSymbol, prog_12_method_23_code, 2, (Option.none : Option Jvm.ClassFile.FieldType), [], { frames := 2, cells := 0, slots := 0, locals := 44 })
set_option maxRecDepth 100000 in
set_option maxHeartbeats 4000000 in
theorem c_Mod_sym256 {l : Launch} (hl : l.stackTraces = false) (G : pb_G) (h : Nat) (m_rels : Nat) (m_openRels : Nat) (m_closeRels : Nat) (m_openRel : Nat) (m_closeRel : Nat) (m_comment : Nat) (m_ends : Nat) (m_order : Nat) (m_tape : Nat) (m_count : Nat) (m_nameSize : Nat) (m_names : Nat) (m_size : Nat) (m_data : Nat) (m_looked : Nat) (m_file : Nat) (m_directory : Nat) (m_out : Nat) (m_row : Nat) (m_made : Nat) (m_length : Nat) (m_pressed : Nat) (m_mark : Nat) (m_idSize : Nat) (m_ids : Nat) (m_goalSize : Nat) (m_goals : Nat) (m_value : Nat) (m_faults : Nat) (m_reached : Nat) (hb : Int32) (f : Nat → Int32) : Cn l G i_Mod_putSymbol [.ref h, .int 256] [(h, .inr (10, [.ref m_rels, .ref m_openRels, .ref m_closeRels, .ref m_openRel, .ref m_closeRel, .ref m_comment, .ref m_ends, .ref m_order, .int 0, .int 0, .ref m_tape, .ref m_count, .ref m_nameSize, .ref m_names, .ref m_size, .ref m_data, .int 0, .ref m_looked, .int 0, .ref m_file, .int 0, .ref m_directory, .int 0, .ref m_out, .int 0, .ref m_row, .int 0, .int 0, .int 0, .int 0, .ref m_made, .ref m_length, .int 0, .int 0, .int hb, .int 3, .int 0, .ref m_pressed, .int 0, .int 0, .int 0, .ref m_mark, .int 0, .ref m_idSize, .ref m_ids, .ref m_goalSize, .ref m_goals, .int 0, .ref m_value, .int 0, .ref m_faults, .ref m_reached])), (m_pressed, .inl (G.2.1, 5000, .inl f))] (S := Int32 × (Nat → Int32)) (fun v u => v = none) (fun u => [(h, .inr (10, [.ref m_rels, .ref m_openRels, .ref m_closeRels, .ref m_openRel, .ref m_closeRel, .ref m_comment, .ref m_ends, .ref m_order, .int 0, .int 0, .ref m_tape, .ref m_count, .ref m_nameSize, .ref m_names, .ref m_size, .ref m_data, .int 0, .ref m_looked, .int 0, .ref m_file, .int 0, .ref m_directory, .int 0, .ref m_out, .int 0, .ref m_row, .int 0, .int 0, .int 0, .int 0, .ref m_made, .ref m_length, .int 0, .int 0, .int u.1, .int 2, .int 1, .ref m_pressed, .int 0, .int 0, .int 0, .ref m_mark, .int 0, .ref m_idSize, .ref m_ids, .ref m_goalSize, .ref m_goals, .int 0, .ref m_value, .int 0, .ref m_faults, .ref m_reached])), (m_pressed, .inl (G.2.1, 5000, .inl u.2))]) := by
  refine Cn.of hl (by decide +kernel) rfl (Nat.le_of_ble_eq_true rfl) (fun M hQ => ?_)
  refine pb_eq (pc' := 0) (lo' := [(0, .ref h), (1, .int 256)]) (rest' := []) (ws' := [(h, .inr (10, [.ref m_rels, .ref m_openRels, .ref m_closeRels, .ref m_openRel, .ref m_closeRel, .ref m_comment, .ref m_ends, .ref m_order, .int 0, .int 0, .ref m_tape, .ref m_count, .ref m_nameSize, .ref m_names, .ref m_size, .ref m_data, .int 0, .ref m_looked, .int 0, .ref m_file, .int 0, .ref m_directory, .int 0, .ref m_out, .int 0, .ref m_row, .int 0, .int 0, .int 0, .int 0, .ref m_made, .ref m_length, .int 0, .int 0, .int hb, .int 3, .int 0, .ref m_pressed, .int 0, .int 0, .int 0, .ref m_mark, .int 0, .ref m_idSize, .ref m_ids, .ref m_goalSize, .ref m_goals, .int 0, .ref m_value, .int 0, .ref m_faults, .ref m_reached])), (m_pressed, .inl (G.2.1, 5000, .inl f))]) ?_
  refine pb_iload_n (pc := 0) d_Mod_putSymbol_0 1 rfl rfl ?_
  refine pb_sipush (pc := 1) (v := 144) d_Mod_putSymbol_1 (by decide) ?_
  refine pb_icmp_ge (pc := 4) (tgt := 20) d_Mod_putSymbol_4 (by decide) (fun _ => ?_) (fun h9 => absurd h9 (by decide))
  refine pb_iload_n (pc := 20) d_Mod_putSymbol_20 1 rfl rfl ?_
  refine pb_sipush (pc := 21) (v := 256) d_Mod_putSymbol_21 (by decide) ?_
  refine pb_icmp_ge (pc := 24) (tgt := 41) d_Mod_putSymbol_24 (by decide) (fun _ => ?_) (fun h9 => absurd h9 (by decide))
  refine pb_iload_n (pc := 41) d_Mod_putSymbol_41 1 rfl rfl ?_
  refine pb_sipush (pc := 42) (v := 280) d_Mod_putSymbol_42 (by decide) ?_
  refine pb_icmp_ge (pc := 45) (tgt := 62) d_Mod_putSymbol_45 (by decide) (fun h9 => absurd h9 (by decide)) (fun _ => ?_)
  refine pb_aload_n (pc := 48) d_Mod_putSymbol_48 0 rfl rfl ?_
  refine pb_iload_n (pc := 49) d_Mod_putSymbol_49 1 rfl rfl ?_
  refine pb_sipush (pc := 50) (v := 256) d_Mod_putSymbol_50 (by decide) ?_
  refine pb_isub (pc := 53) d_Mod_putSymbol_53 ?_
  refine pb_asi (y := 0) (by decide) ?_
  refine pb_bipush (pc := 54) (v := 7) d_Mod_putSymbol_54 (by decide) ?_
  refine pb_callV (pc := 56) (qb := 0) (ci := 10) (nA := 2) (rest := []) (wr := []) d_Mod_putSymbol_56 (c_Mod_code07 hl G h m_rels m_openRels m_closeRels m_openRel m_closeRel m_comment m_ends m_order m_tape m_count m_nameSize m_names m_size m_data m_looked m_file m_directory m_out m_row m_made m_length m_pressed m_mark m_idSize m_ids m_goalSize m_goals m_value m_faults m_reached hb f) rfl rfl [0, 1] [] (by decide) rfl rfl rfl (by decide) (by decide) k_1400 rfl k_128 k_1397 k_1399 k_64 (by decide +kernel) (by decide) rfl rfl (Nat.le_of_ble_eq_true rfl) (by decide) (fun v9 u5 h4 => ?_)
  obtain ⟨hb_6, f_7⟩ := u5
  have eh4 := h4
  have eh4 : v9 = none := eh4
  subst eh4
  refine pb_eq (pc' := 59) (lo' := [(0, .ref h), (1, .int 256)]) (rest' := []) (ws' := [(h, .inr (10, [.ref m_rels, .ref m_openRels, .ref m_closeRels, .ref m_openRel, .ref m_closeRel, .ref m_comment, .ref m_ends, .ref m_order, .int 0, .int 0, .ref m_tape, .ref m_count, .ref m_nameSize, .ref m_names, .ref m_size, .ref m_data, .int 0, .ref m_looked, .int 0, .ref m_file, .int 0, .ref m_directory, .int 0, .ref m_out, .int 0, .ref m_row, .int 0, .int 0, .int 0, .int 0, .ref m_made, .ref m_length, .int 0, .int 0, .int hb_6, .int 2, .int 1, .ref m_pressed, .int 0, .int 0, .int 0, .ref m_mark, .int 0, .ref m_idSize, .ref m_ids, .ref m_goalSize, .ref m_goals, .int 0, .ref m_value, .int 0, .ref m_faults, .ref m_reached])), (m_pressed, .inl (G.2.1, 5000, .inl f_7))]) ?_
  refine pb_goto (pc := 59) (tgt := 72) d_Mod_putSymbol_59 (by decide) ?_
  exact pb_vret (pc := 72) hQ d_Mod_putSymbol_72 rfl (hb_6, f_7) rfl [0, 1] (by decide) rfl rfl (by decide) (by decide)

theorem d_Mod_pressRow_0 : decode prog_12_method_29_code 0 = .ok (.aload_n 0, 1) := by decide +kernel
theorem d_Mod_pressRow_1 : decode prog_12_method_29_code 1 = .ok (.iconst 0, 1) := by decide +kernel
theorem d_Mod_pressRow_2 : decode prog_12_method_29_code 2 = .ok (.putfield 159, 3) := by decide +kernel
theorem d_Mod_pressRow_5 : decode prog_12_method_29_code 5 = .ok (.aload_n 0, 1) := by decide +kernel
theorem d_Mod_pressRow_6 : decode prog_12_method_29_code 6 = .ok (.iconst 0, 1) := by decide +kernel
theorem d_Mod_pressRow_7 : decode prog_12_method_29_code 7 = .ok (.putfield 153, 3) := by decide +kernel
theorem d_Mod_pressRow_10 : decode prog_12_method_29_code 10 = .ok (.aload_n 0, 1) := by decide +kernel
theorem d_Mod_pressRow_11 : decode prog_12_method_29_code 11 = .ok (.iconst 0, 1) := by decide +kernel
theorem d_Mod_pressRow_12 : decode prog_12_method_29_code 12 = .ok (.putfield 156, 3) := by decide +kernel
theorem d_Mod_pressRow_15 : decode prog_12_method_29_code 15 = .ok (.aload_n 0, 1) := by decide +kernel
theorem d_Mod_pressRow_16 : decode prog_12_method_29_code 16 = .ok (.iconst 3, 1) := by decide +kernel
theorem d_Mod_pressRow_17 : decode prog_12_method_29_code 17 = .ok (.iconst 3, 1) := by decide +kernel
theorem d_Mod_pressRow_18 : decode prog_12_method_29_code 18 = .ok (.invokevirtual 175, 3) := by decide +kernel
theorem k_1382 : (Jvm.Cond.methodLink "PackageBookModel" (175 : Nat) ({ cls := "PackageBookModel", name := "putNumber", desc := "(II)V" } : Jvm.MethodName)) ∈ uW := uW_of 1382 (by decide +kernel) (by decide +kernel)
theorem k_1385 : (Jvm.Cond.code ({ cls := "PackageBookModel", name := "putNumber", desc := "(II)V" } : Jvm.MethodName) prog_12_method_21_code (4 : Nat) (Option.none : Option Jvm.ClassFile.FieldType)) ∈ uW := uW_of 1385 (by decide +kernel) (by decide +kernel)
theorem k_1384 : (Jvm.Cond.instanceMethod ({ cls := "PackageBookModel", name := "putNumber", desc := "(II)V" } : Jvm.MethodName)) ∈ uW := uW_of 1384 (by decide +kernel) (by decide +kernel)
theorem k_61 : Cond.selects "PackageBookModel" ⟨"PackageBookModel", "putNumber", "(II)V"⟩ ⟨"PackageBookModel", "putNumber", "(II)V"⟩ ∈ uW := uW_of 61 (by decide +kernel) (by decide +kernel)
theorem d_Mod_pressRow_21 : decode prog_12_method_29_code 21 = .ok (.iload_n 2, 1) := by decide +kernel
theorem d_Mod_pressRow_22 : decode prog_12_method_29_code 22 = .ok (.istore 4, 2) := by decide +kernel
theorem d_Mod_pressRow_24 : decode prog_12_method_29_code 24 = .ok (.iload_n 2, 1) := by decide +kernel
theorem d_Mod_pressRow_25 : decode prog_12_method_29_code 25 = .ok (.iload_n 3, 1) := by decide +kernel
theorem d_Mod_pressRow_26 : decode prog_12_method_29_code 26 = .ok (.iadd, 1) := by decide +kernel
theorem d_Mod_pressRow_27 : decode prog_12_method_29_code 27 = .ok (.istore 5, 2) := by decide +kernel
theorem d_Mod_pressRow_29 : decode prog_12_method_29_code 29 = .ok (.iload 4, 2) := by decide +kernel
theorem d_Mod_pressRow_31 : decode prog_12_method_29_code 31 = .ok (.iload 5, 2) := by decide +kernel
theorem d_Mod_pressRow_33 : decode prog_12_method_29_code 33 = .ok (.if_icmp .ge 133, 3) := by decide +kernel
theorem d_Mod_pressRow_166 : decode prog_12_method_29_code 166 = .ok (.aload_n 0, 1) := by decide +kernel
theorem d_Mod_pressRow_167 : decode prog_12_method_29_code 167 = .ok (.sipush 256, 3) := by decide +kernel
theorem d_Mod_pressRow_170 : decode prog_12_method_29_code 170 = .ok (.invokevirtual 172, 3) := by decide +kernel
theorem k_1393 : (Jvm.Cond.methodLink "PackageBookModel" (172 : Nat) ({ cls := "PackageBookModel", name := "putSymbol", desc := "(I)V" } : Jvm.MethodName)) ∈ uW := uW_of 1393 (by decide +kernel) (by decide +kernel)
theorem k_1396 : (Jvm.Cond.code ({ cls := "PackageBookModel", name := "putSymbol", desc := "(I)V" } : Jvm.MethodName) prog_12_method_23_code (2 : Nat) (Option.none : Option Jvm.ClassFile.FieldType)) ∈ uW := uW_of 1396 (by decide +kernel) (by decide +kernel)
theorem k_1395 : (Jvm.Cond.instanceMethod ({ cls := "PackageBookModel", name := "putSymbol", desc := "(I)V" } : Jvm.MethodName)) ∈ uW := uW_of 1395 (by decide +kernel) (by decide +kernel)
theorem k_63 : Cond.selects "PackageBookModel" ⟨"PackageBookModel", "putSymbol", "(I)V"⟩ ⟨"PackageBookModel", "putSymbol", "(I)V"⟩ ∈ uW := uW_of 63 (by decide +kernel) (by decide +kernel)
theorem d_Mod_pressRow_173 : decode prog_12_method_29_code 173 = .ok (.aload_n 0, 1) := by decide +kernel
theorem d_Mod_pressRow_174 : decode prog_12_method_29_code 174 = .ok (.getfield 156, 3) := by decide +kernel
theorem d_Mod_pressRow_177 : decode prog_12_method_29_code 177 = .ok (.ifCond .le 11, 3) := by decide +kernel
theorem d_Mod_pressRow_180 : decode prog_12_method_29_code 180 = .ok (.aload_n 0, 1) := by decide +kernel
theorem d_Mod_pressRow_181 : decode prog_12_method_29_code 181 = .ok (.iconst 0, 1) := by decide +kernel
theorem d_Mod_pressRow_182 : decode prog_12_method_29_code 182 = .ok (.invokevirtual 162, 3) := by decide +kernel
theorem d_Mod_pressRow_185 : decode prog_12_method_29_code 185 = .ok (.goto (-12), 3) := by decide +kernel
theorem d_Mod_pressRow_188 : decode prog_12_method_29_code 188 = .ok (.return_, 1) := by decide +kernel
abbrev y_Mod_pressRow : MethodName := ⟨"PackageBookModel", "pressRow", "([BII)V"⟩
abbrev i_Mod_pressRow : pb_I := (y_Mod_pressRow, prog_12_method_29_code, 10, (Option.none : Option Jvm.ClassFile.FieldType), [], { frames := 3, cells := 0, slots := 0, locals := 65 })
set_option maxRecDepth 100000 in
set_option maxHeartbeats 4000000 in
theorem c_Mod_pressRow0 {l : Launch} (hl : l.stackTraces = false) (G : pb_G) (h : Nat) (m_rels : Nat) (m_openRels : Nat) (m_closeRels : Nat) (m_openRel : Nat) (m_closeRel : Nat) (m_comment : Nat) (m_ends : Nat) (m_order : Nat) (m_tape : Nat) (m_count : Nat) (m_nameSize : Nat) (m_names : Nat) (m_size : Nat) (m_data : Nat) (m_looked : Nat) (m_file : Nat) (m_directory : Nat) (m_out : Nat) (m_row : Nat) (m_made : Nat) (m_length : Nat) (m_pressed : Nat) (m_mark : Nat) (m_idSize : Nat) (m_ids : Nat) (m_goalSize : Nat) (m_goals : Nat) (m_value : Nat) (m_faults : Nat) (m_reached : Nat) (b : Nat) (f : Nat → Int32) : Cn l G i_Mod_pressRow [.ref h, .ref b, .int 0, .int 0] [(h, .inr (10, [.ref m_rels, .ref m_openRels, .ref m_closeRels, .ref m_openRel, .ref m_closeRel, .ref m_comment, .ref m_ends, .ref m_order, .int 0, .int 0, .ref m_tape, .ref m_count, .ref m_nameSize, .ref m_names, .ref m_size, .ref m_data, .int 0, .ref m_looked, .int 0, .ref m_file, .int 0, .ref m_directory, .int 0, .ref m_out, .int 0, .ref m_row, .int 0, .int 0, .int 0, .int 0, .ref m_made, .ref m_length, .int 0, .int 0, .int 0, .int 0, .int 0, .ref m_pressed, .int 0, .int 0, .int 0, .ref m_mark, .int 0, .ref m_idSize, .ref m_ids, .ref m_goalSize, .ref m_goals, .int 0, .ref m_value, .int 0, .ref m_faults, .ref m_reached])), (m_pressed, .inl (G.2.1, 5000, .inl f))] (S := Int32 × (Nat → Int32)) (fun v u => v = none) (fun u => [(h, .inr (10, [.ref m_rels, .ref m_openRels, .ref m_closeRels, .ref m_openRel, .ref m_closeRel, .ref m_comment, .ref m_ends, .ref m_order, .int 0, .int 0, .ref m_tape, .ref m_count, .ref m_nameSize, .ref m_names, .ref m_size, .ref m_data, .int 0, .ref m_looked, .int 0, .ref m_file, .int 0, .ref m_directory, .int 0, .ref m_out, .int 0, .ref m_row, .int 0, .int 0, .int 0, .int 0, .ref m_made, .ref m_length, .int 0, .int 0, .int u.1, .int 0, .int 2, .ref m_pressed, .int 0, .int 0, .int 0, .ref m_mark, .int 0, .ref m_idSize, .ref m_ids, .ref m_goalSize, .ref m_goals, .int 0, .ref m_value, .int 0, .ref m_faults, .ref m_reached])), (m_pressed, .inl (G.2.1, 5000, .inl u.2))]) := by
  refine Cn.of hl (by decide +kernel) rfl (Nat.le_of_ble_eq_true rfl) (fun M hQ => ?_)
  refine pb_eq (pc' := 0) (lo' := [(0, .ref h), (1, .ref b), (2, .int 0), (3, .int 0)]) (rest' := []) (ws' := [(h, .inr (10, [.ref m_rels, .ref m_openRels, .ref m_closeRels, .ref m_openRel, .ref m_closeRel, .ref m_comment, .ref m_ends, .ref m_order, .int 0, .int 0, .ref m_tape, .ref m_count, .ref m_nameSize, .ref m_names, .ref m_size, .ref m_data, .int 0, .ref m_looked, .int 0, .ref m_file, .int 0, .ref m_directory, .int 0, .ref m_out, .int 0, .ref m_row, .int 0, .int 0, .int 0, .int 0, .ref m_made, .ref m_length, .int 0, .int 0, .int 0, .int 0, .int 0, .ref m_pressed, .int 0, .int 0, .int 0, .ref m_mark, .int 0, .ref m_idSize, .ref m_ids, .ref m_goalSize, .ref m_goals, .int 0, .ref m_value, .int 0, .ref m_faults, .ref m_reached])), (m_pressed, .inl (G.2.1, 5000, .inl f))]) ?_
  refine pb_aload_n (pc := 0) d_Mod_pressRow_0 0 rfl rfl ?_
  refine pb_iconst (pc := 1) (v := 0) d_Mod_pressRow_1 (by decide) ?_
  refine pb_put (pc := 2) (ty := .int) (ws' := [(h, .inr (10, [.ref m_rels, .ref m_openRels, .ref m_closeRels, .ref m_openRel, .ref m_closeRel, .ref m_comment, .ref m_ends, .ref m_order, .int 0, .int 0, .ref m_tape, .ref m_count, .ref m_nameSize, .ref m_names, .ref m_size, .ref m_data, .int 0, .ref m_looked, .int 0, .ref m_file, .int 0, .ref m_directory, .int 0, .ref m_out, .int 0, .ref m_row, .int 0, .int 0, .int 0, .int 0, .ref m_made, .ref m_length, .int 0, .int 0, .int 0, .int 0, .int 0, .ref m_pressed, .int 0, .int 0, .int 0, .ref m_mark, .int 0, .ref m_idSize, .ref m_ids, .ref m_goalSize, .ref m_goals, .int 0, .ref m_value, .int 0, .ref m_faults, .ref m_reached])), (m_pressed, .inl (G.2.1, 5000, .inl f))]) d_Mod_pressRow_2 0 36 t_Mod t_Mod_ok n_Mod rfl rfl (by decide) in_Mod k_1182 rfl (by decide +kernel) rfl rfl (Nat.le_of_ble_eq_true rfl) rfl ?_
  refine pb_aload_n (pc := 5) d_Mod_pressRow_5 0 rfl rfl ?_
  refine pb_iconst (pc := 6) (v := 0) d_Mod_pressRow_6 (by decide) ?_
  refine pb_put (pc := 7) (ty := .int) (ws' := [(h, .inr (10, [.ref m_rels, .ref m_openRels, .ref m_closeRels, .ref m_openRel, .ref m_closeRel, .ref m_comment, .ref m_ends, .ref m_order, .int 0, .int 0, .ref m_tape, .ref m_count, .ref m_nameSize, .ref m_names, .ref m_size, .ref m_data, .int 0, .ref m_looked, .int 0, .ref m_file, .int 0, .ref m_directory, .int 0, .ref m_out, .int 0, .ref m_row, .int 0, .int 0, .int 0, .int 0, .ref m_made, .ref m_length, .int 0, .int 0, .int 0, .int 0, .int 0, .ref m_pressed, .int 0, .int 0, .int 0, .ref m_mark, .int 0, .ref m_idSize, .ref m_ids, .ref m_goalSize, .ref m_goals, .int 0, .ref m_value, .int 0, .ref m_faults, .ref m_reached])), (m_pressed, .inl (G.2.1, 5000, .inl f))]) d_Mod_pressRow_7 0 34 t_Mod t_Mod_ok n_Mod rfl rfl (by decide) in_Mod k_1180 rfl (by decide +kernel) rfl rfl (Nat.le_of_ble_eq_true rfl) rfl ?_
  refine pb_aload_n (pc := 10) d_Mod_pressRow_10 0 rfl rfl ?_
  refine pb_iconst (pc := 11) (v := 0) d_Mod_pressRow_11 (by decide) ?_
  refine pb_put (pc := 12) (ty := .int) (ws' := [(h, .inr (10, [.ref m_rels, .ref m_openRels, .ref m_closeRels, .ref m_openRel, .ref m_closeRel, .ref m_comment, .ref m_ends, .ref m_order, .int 0, .int 0, .ref m_tape, .ref m_count, .ref m_nameSize, .ref m_names, .ref m_size, .ref m_data, .int 0, .ref m_looked, .int 0, .ref m_file, .int 0, .ref m_directory, .int 0, .ref m_out, .int 0, .ref m_row, .int 0, .int 0, .int 0, .int 0, .ref m_made, .ref m_length, .int 0, .int 0, .int 0, .int 0, .int 0, .ref m_pressed, .int 0, .int 0, .int 0, .ref m_mark, .int 0, .ref m_idSize, .ref m_ids, .ref m_goalSize, .ref m_goals, .int 0, .ref m_value, .int 0, .ref m_faults, .ref m_reached])), (m_pressed, .inl (G.2.1, 5000, .inl f))]) d_Mod_pressRow_12 0 35 t_Mod t_Mod_ok n_Mod rfl rfl (by decide) in_Mod k_1181 rfl (by decide +kernel) rfl rfl (Nat.le_of_ble_eq_true rfl) rfl ?_
  refine pb_aload_n (pc := 15) d_Mod_pressRow_15 0 rfl rfl ?_
  refine pb_iconst (pc := 16) (v := 3) d_Mod_pressRow_16 (by decide) ?_
  refine pb_iconst (pc := 17) (v := 3) d_Mod_pressRow_17 (by decide) ?_
  refine pb_callV (pc := 18) (qb := 0) (ci := 10) (nA := 2) (rest := []) (wr := []) d_Mod_pressRow_18 (c_Mod_num33 hl G h m_rels m_openRels m_closeRels m_openRel m_closeRel m_comment m_ends m_order m_tape m_count m_nameSize m_names m_size m_data m_looked m_file m_directory m_out m_row m_made m_length m_pressed m_mark m_idSize m_ids m_goalSize m_goals m_value m_faults m_reached f) rfl rfl [0, 1] [] (by decide) rfl rfl rfl (by decide) (by decide) k_1385 rfl k_128 k_1382 k_1384 k_61 (by decide +kernel) (by decide) rfl rfl (Nat.le_of_ble_eq_true rfl) (by decide) (fun v9 u2 h1 => ?_)
  obtain ⟨hb_3, f_4⟩ := u2
  have eh1 := h1
  have eh1 : v9 = none := eh1
  subst eh1
  refine pb_eq (pc' := 21) (lo' := [(0, .ref h), (1, .ref b), (2, .int 0), (3, .int 0)]) (rest' := []) (ws' := [(h, .inr (10, [.ref m_rels, .ref m_openRels, .ref m_closeRels, .ref m_openRel, .ref m_closeRel, .ref m_comment, .ref m_ends, .ref m_order, .int 0, .int 0, .ref m_tape, .ref m_count, .ref m_nameSize, .ref m_names, .ref m_size, .ref m_data, .int 0, .ref m_looked, .int 0, .ref m_file, .int 0, .ref m_directory, .int 0, .ref m_out, .int 0, .ref m_row, .int 0, .int 0, .int 0, .int 0, .ref m_made, .ref m_length, .int 0, .int 0, .int hb_3, .int 3, .int 0, .ref m_pressed, .int 0, .int 0, .int 0, .ref m_mark, .int 0, .ref m_idSize, .ref m_ids, .ref m_goalSize, .ref m_goals, .int 0, .ref m_value, .int 0, .ref m_faults, .ref m_reached])), (m_pressed, .inl (G.2.1, 5000, .inl f_4))]) ?_
  refine pb_iload_n (pc := 21) d_Mod_pressRow_21 2 rfl rfl ?_
  refine pb_istore (pc := 22) (lo' := [(4, .int 0), (0, .ref h), (1, .ref b), (2, .int 0), (3, .int 0)]) d_Mod_pressRow_22 (by decide) rfl ?_
  refine pb_iload_n (pc := 24) d_Mod_pressRow_24 3 rfl rfl ?_
  refine pb_iload_n (pc := 25) d_Mod_pressRow_25 4 rfl rfl ?_
  refine pb_iadd (pc := 26) d_Mod_pressRow_26 ?_
  refine pb_asi (y := 0) (by decide) ?_
  refine pb_istore (pc := 27) (lo' := [(5, .int 0), (4, .int 0), (0, .ref h), (1, .ref b), (2, .int 0), (3, .int 0)]) d_Mod_pressRow_27 (by decide) rfl ?_
  refine pb_iload (pc := 29) d_Mod_pressRow_29 1 rfl ?_
  refine pb_iload (pc := 31) d_Mod_pressRow_31 0 rfl ?_
  refine pb_icmp_ge (pc := 33) (tgt := 166) d_Mod_pressRow_33 (by decide) (fun _ => ?_) (fun h9 => absurd h9 (by decide))
  refine pb_aload_n (pc := 166) d_Mod_pressRow_166 2 rfl rfl ?_
  refine pb_sipush (pc := 167) (v := 256) d_Mod_pressRow_167 (by decide) ?_
  refine pb_callV (pc := 170) (qb := 0) (ci := 10) (nA := 1) (rest := []) (wr := []) d_Mod_pressRow_170 (c_Mod_sym256 hl G h m_rels m_openRels m_closeRels m_openRel m_closeRel m_comment m_ends m_order m_tape m_count m_nameSize m_names m_size m_data m_looked m_file m_directory m_out m_row m_made m_length m_pressed m_mark m_idSize m_ids m_goalSize m_goals m_value m_faults m_reached hb_3 f_4) rfl rfl [0, 1] [] (by decide) rfl rfl rfl (by decide) (by decide) k_1396 rfl k_128 k_1393 k_1395 k_63 (by decide +kernel) (by decide) rfl rfl (Nat.le_of_ble_eq_true rfl) (by decide) (fun v9 u7 h6 => ?_)
  obtain ⟨hb_8, f_9⟩ := u7
  have eh6 := h6
  have eh6 : v9 = none := eh6
  subst eh6
  refine pb_eq (pc' := 173) (lo' := [(5, .int 0), (4, .int 0), (0, .ref h), (1, .ref b), (2, .int 0), (3, .int 0)]) (rest' := []) (ws' := [(h, .inr (10, [.ref m_rels, .ref m_openRels, .ref m_closeRels, .ref m_openRel, .ref m_closeRel, .ref m_comment, .ref m_ends, .ref m_order, .int 0, .int 0, .ref m_tape, .ref m_count, .ref m_nameSize, .ref m_names, .ref m_size, .ref m_data, .int 0, .ref m_looked, .int 0, .ref m_file, .int 0, .ref m_directory, .int 0, .ref m_out, .int 0, .ref m_row, .int 0, .int 0, .int 0, .int 0, .ref m_made, .ref m_length, .int 0, .int 0, .int hb_8, .int 2, .int 1, .ref m_pressed, .int 0, .int 0, .int 0, .ref m_mark, .int 0, .ref m_idSize, .ref m_ids, .ref m_goalSize, .ref m_goals, .int 0, .ref m_value, .int 0, .ref m_faults, .ref m_reached])), (m_pressed, .inl (G.2.1, 5000, .inl f_9))]) ?_
  refine pb_aload_n (pc := 173) d_Mod_pressRow_173 2 rfl rfl ?_
  refine pb_get (pc := 174) d_Mod_pressRow_174 0 35 rfl rfl (by decide) in_Mod k_1181 rfl ?_
  refine pb_if_le (pc := 177) (tgt := 188) d_Mod_pressRow_177 (by decide) (fun h9 => absurd h9 (by decide)) (fun _ => ?_)
  refine pb_aload_n (pc := 180) d_Mod_pressRow_180 2 rfl rfl ?_
  refine pb_iconst (pc := 181) (v := 0) d_Mod_pressRow_181 (by decide) ?_
  refine pb_callV (pc := 182) (qb := 0) (ci := 10) (nA := 1) (rest := []) (wr := []) d_Mod_pressRow_182 (c_Mod_bit_2_1 hl G h m_rels m_openRels m_closeRels m_openRel m_closeRel m_comment m_ends m_order m_tape m_count m_nameSize m_names m_size m_data m_looked m_file m_directory m_out m_row m_made m_length m_pressed m_mark m_idSize m_ids m_goalSize m_goals m_value m_faults m_reached 0 hb_8 f_9) rfl rfl [0, 1] [] (by decide) rfl rfl rfl (by decide) (by decide) k_1389 rfl k_128 k_1386 k_1388 k_62 (by decide +kernel) (by decide) rfl rfl (Nat.le_of_ble_eq_true rfl) (by decide) (fun v9 u12 h11 => ?_)
  obtain ⟨hb_13, f_14⟩ := u12
  have eh11 := h11
  have eh11 : v9 = none := eh11
  subst eh11
  refine pb_eq (pc' := 185) (lo' := [(5, .int 0), (4, .int 0), (0, .ref h), (1, .ref b), (2, .int 0), (3, .int 0)]) (rest' := []) (ws' := [(h, .inr (10, [.ref m_rels, .ref m_openRels, .ref m_closeRels, .ref m_openRel, .ref m_closeRel, .ref m_comment, .ref m_ends, .ref m_order, .int 0, .int 0, .ref m_tape, .ref m_count, .ref m_nameSize, .ref m_names, .ref m_size, .ref m_data, .int 0, .ref m_looked, .int 0, .ref m_file, .int 0, .ref m_directory, .int 0, .ref m_out, .int 0, .ref m_row, .int 0, .int 0, .int 0, .int 0, .ref m_made, .ref m_length, .int 0, .int 0, .int hb_13, .int 3, .int 1, .ref m_pressed, .int 0, .int 0, .int 0, .ref m_mark, .int 0, .ref m_idSize, .ref m_ids, .ref m_goalSize, .ref m_goals, .int 0, .ref m_value, .int 0, .ref m_faults, .ref m_reached])), (m_pressed, .inl (G.2.1, 5000, .inl f_14))]) ?_
  refine pb_goto (pc := 185) (tgt := 173) d_Mod_pressRow_185 (by decide) ?_
  refine pb_aload_n (pc := 173) d_Mod_pressRow_173 2 rfl rfl ?_
  refine pb_get (pc := 174) d_Mod_pressRow_174 0 35 rfl rfl (by decide) in_Mod k_1181 rfl ?_
  refine pb_if_le (pc := 177) (tgt := 188) d_Mod_pressRow_177 (by decide) (fun h9 => absurd h9 (by decide)) (fun _ => ?_)
  refine pb_aload_n (pc := 180) d_Mod_pressRow_180 2 rfl rfl ?_
  refine pb_iconst (pc := 181) (v := 0) d_Mod_pressRow_181 (by decide) ?_
  refine pb_callV (pc := 182) (qb := 0) (ci := 10) (nA := 1) (rest := []) (wr := []) d_Mod_pressRow_182 (c_Mod_bit_3_1 hl G h m_rels m_openRels m_closeRels m_openRel m_closeRel m_comment m_ends m_order m_tape m_count m_nameSize m_names m_size m_data m_looked m_file m_directory m_out m_row m_made m_length m_pressed m_mark m_idSize m_ids m_goalSize m_goals m_value m_faults m_reached 0 hb_13 f_14) rfl rfl [0, 1] [] (by decide) rfl rfl rfl (by decide) (by decide) k_1389 rfl k_128 k_1386 k_1388 k_62 (by decide +kernel) (by decide) rfl rfl (Nat.le_of_ble_eq_true rfl) (by decide) (fun v9 u17 h16 => ?_)
  obtain ⟨hb_18, f_19⟩ := u17
  have eh16 := h16
  have eh16 : v9 = none := eh16
  subst eh16
  refine pb_eq (pc' := 185) (lo' := [(5, .int 0), (4, .int 0), (0, .ref h), (1, .ref b), (2, .int 0), (3, .int 0)]) (rest' := []) (ws' := [(h, .inr (10, [.ref m_rels, .ref m_openRels, .ref m_closeRels, .ref m_openRel, .ref m_closeRel, .ref m_comment, .ref m_ends, .ref m_order, .int 0, .int 0, .ref m_tape, .ref m_count, .ref m_nameSize, .ref m_names, .ref m_size, .ref m_data, .int 0, .ref m_looked, .int 0, .ref m_file, .int 0, .ref m_directory, .int 0, .ref m_out, .int 0, .ref m_row, .int 0, .int 0, .int 0, .int 0, .ref m_made, .ref m_length, .int 0, .int 0, .int hb_18, .int 4, .int 1, .ref m_pressed, .int 0, .int 0, .int 0, .ref m_mark, .int 0, .ref m_idSize, .ref m_ids, .ref m_goalSize, .ref m_goals, .int 0, .ref m_value, .int 0, .ref m_faults, .ref m_reached])), (m_pressed, .inl (G.2.1, 5000, .inl f_19))]) ?_
  refine pb_goto (pc := 185) (tgt := 173) d_Mod_pressRow_185 (by decide) ?_
  refine pb_aload_n (pc := 173) d_Mod_pressRow_173 2 rfl rfl ?_
  refine pb_get (pc := 174) d_Mod_pressRow_174 0 35 rfl rfl (by decide) in_Mod k_1181 rfl ?_
  refine pb_if_le (pc := 177) (tgt := 188) d_Mod_pressRow_177 (by decide) (fun h9 => absurd h9 (by decide)) (fun _ => ?_)
  refine pb_aload_n (pc := 180) d_Mod_pressRow_180 2 rfl rfl ?_
  refine pb_iconst (pc := 181) (v := 0) d_Mod_pressRow_181 (by decide) ?_
  refine pb_callV (pc := 182) (qb := 0) (ci := 10) (nA := 1) (rest := []) (wr := []) d_Mod_pressRow_182 (c_Mod_bit_4_1 hl G h m_rels m_openRels m_closeRels m_openRel m_closeRel m_comment m_ends m_order m_tape m_count m_nameSize m_names m_size m_data m_looked m_file m_directory m_out m_row m_made m_length m_pressed m_mark m_idSize m_ids m_goalSize m_goals m_value m_faults m_reached 0 hb_18 f_19) rfl rfl [0, 1] [] (by decide) rfl rfl rfl (by decide) (by decide) k_1389 rfl k_128 k_1386 k_1388 k_62 (by decide +kernel) (by decide) rfl rfl (Nat.le_of_ble_eq_true rfl) (by decide) (fun v9 u22 h21 => ?_)
  obtain ⟨hb_23, f_24⟩ := u22
  have eh21 := h21
  have eh21 : v9 = none := eh21
  subst eh21
  refine pb_eq (pc' := 185) (lo' := [(5, .int 0), (4, .int 0), (0, .ref h), (1, .ref b), (2, .int 0), (3, .int 0)]) (rest' := []) (ws' := [(h, .inr (10, [.ref m_rels, .ref m_openRels, .ref m_closeRels, .ref m_openRel, .ref m_closeRel, .ref m_comment, .ref m_ends, .ref m_order, .int 0, .int 0, .ref m_tape, .ref m_count, .ref m_nameSize, .ref m_names, .ref m_size, .ref m_data, .int 0, .ref m_looked, .int 0, .ref m_file, .int 0, .ref m_directory, .int 0, .ref m_out, .int 0, .ref m_row, .int 0, .int 0, .int 0, .int 0, .ref m_made, .ref m_length, .int 0, .int 0, .int hb_23, .int 5, .int 1, .ref m_pressed, .int 0, .int 0, .int 0, .ref m_mark, .int 0, .ref m_idSize, .ref m_ids, .ref m_goalSize, .ref m_goals, .int 0, .ref m_value, .int 0, .ref m_faults, .ref m_reached])), (m_pressed, .inl (G.2.1, 5000, .inl f_24))]) ?_
  refine pb_goto (pc := 185) (tgt := 173) d_Mod_pressRow_185 (by decide) ?_
  refine pb_aload_n (pc := 173) d_Mod_pressRow_173 2 rfl rfl ?_
  refine pb_get (pc := 174) d_Mod_pressRow_174 0 35 rfl rfl (by decide) in_Mod k_1181 rfl ?_
  refine pb_if_le (pc := 177) (tgt := 188) d_Mod_pressRow_177 (by decide) (fun h9 => absurd h9 (by decide)) (fun _ => ?_)
  refine pb_aload_n (pc := 180) d_Mod_pressRow_180 2 rfl rfl ?_
  refine pb_iconst (pc := 181) (v := 0) d_Mod_pressRow_181 (by decide) ?_
  refine pb_callV (pc := 182) (qb := 0) (ci := 10) (nA := 1) (rest := []) (wr := []) d_Mod_pressRow_182 (c_Mod_bit_5_1 hl G h m_rels m_openRels m_closeRels m_openRel m_closeRel m_comment m_ends m_order m_tape m_count m_nameSize m_names m_size m_data m_looked m_file m_directory m_out m_row m_made m_length m_pressed m_mark m_idSize m_ids m_goalSize m_goals m_value m_faults m_reached 0 hb_23 f_24) rfl rfl [0, 1] [] (by decide) rfl rfl rfl (by decide) (by decide) k_1389 rfl k_128 k_1386 k_1388 k_62 (by decide +kernel) (by decide) rfl rfl (Nat.le_of_ble_eq_true rfl) (by decide) (fun v9 u27 h26 => ?_)
  obtain ⟨hb_28, f_29⟩ := u27
  have eh26 := h26
  have eh26 : v9 = none := eh26
  subst eh26
  refine pb_eq (pc' := 185) (lo' := [(5, .int 0), (4, .int 0), (0, .ref h), (1, .ref b), (2, .int 0), (3, .int 0)]) (rest' := []) (ws' := [(h, .inr (10, [.ref m_rels, .ref m_openRels, .ref m_closeRels, .ref m_openRel, .ref m_closeRel, .ref m_comment, .ref m_ends, .ref m_order, .int 0, .int 0, .ref m_tape, .ref m_count, .ref m_nameSize, .ref m_names, .ref m_size, .ref m_data, .int 0, .ref m_looked, .int 0, .ref m_file, .int 0, .ref m_directory, .int 0, .ref m_out, .int 0, .ref m_row, .int 0, .int 0, .int 0, .int 0, .ref m_made, .ref m_length, .int 0, .int 0, .int hb_28, .int 6, .int 1, .ref m_pressed, .int 0, .int 0, .int 0, .ref m_mark, .int 0, .ref m_idSize, .ref m_ids, .ref m_goalSize, .ref m_goals, .int 0, .ref m_value, .int 0, .ref m_faults, .ref m_reached])), (m_pressed, .inl (G.2.1, 5000, .inl f_29))]) ?_
  refine pb_goto (pc := 185) (tgt := 173) d_Mod_pressRow_185 (by decide) ?_
  refine pb_aload_n (pc := 173) d_Mod_pressRow_173 2 rfl rfl ?_
  refine pb_get (pc := 174) d_Mod_pressRow_174 0 35 rfl rfl (by decide) in_Mod k_1181 rfl ?_
  refine pb_if_le (pc := 177) (tgt := 188) d_Mod_pressRow_177 (by decide) (fun h9 => absurd h9 (by decide)) (fun _ => ?_)
  refine pb_aload_n (pc := 180) d_Mod_pressRow_180 2 rfl rfl ?_
  refine pb_iconst (pc := 181) (v := 0) d_Mod_pressRow_181 (by decide) ?_
  refine pb_callV (pc := 182) (qb := 0) (ci := 10) (nA := 1) (rest := []) (wr := []) d_Mod_pressRow_182 (c_Mod_bit_6_1 hl G h m_rels m_openRels m_closeRels m_openRel m_closeRel m_comment m_ends m_order m_tape m_count m_nameSize m_names m_size m_data m_looked m_file m_directory m_out m_row m_made m_length m_pressed m_mark m_idSize m_ids m_goalSize m_goals m_value m_faults m_reached 0 hb_28 f_29) rfl rfl [0, 1] [] (by decide) rfl rfl rfl (by decide) (by decide) k_1389 rfl k_128 k_1386 k_1388 k_62 (by decide +kernel) (by decide) rfl rfl (Nat.le_of_ble_eq_true rfl) (by decide) (fun v9 u32 h31 => ?_)
  obtain ⟨hb_33, f_34⟩ := u32
  have eh31 := h31
  have eh31 : v9 = none := eh31
  subst eh31
  refine pb_eq (pc' := 185) (lo' := [(5, .int 0), (4, .int 0), (0, .ref h), (1, .ref b), (2, .int 0), (3, .int 0)]) (rest' := []) (ws' := [(h, .inr (10, [.ref m_rels, .ref m_openRels, .ref m_closeRels, .ref m_openRel, .ref m_closeRel, .ref m_comment, .ref m_ends, .ref m_order, .int 0, .int 0, .ref m_tape, .ref m_count, .ref m_nameSize, .ref m_names, .ref m_size, .ref m_data, .int 0, .ref m_looked, .int 0, .ref m_file, .int 0, .ref m_directory, .int 0, .ref m_out, .int 0, .ref m_row, .int 0, .int 0, .int 0, .int 0, .ref m_made, .ref m_length, .int 0, .int 0, .int hb_33, .int 7, .int 1, .ref m_pressed, .int 0, .int 0, .int 0, .ref m_mark, .int 0, .ref m_idSize, .ref m_ids, .ref m_goalSize, .ref m_goals, .int 0, .ref m_value, .int 0, .ref m_faults, .ref m_reached])), (m_pressed, .inl (G.2.1, 5000, .inl f_34))]) ?_
  refine pb_goto (pc := 185) (tgt := 173) d_Mod_pressRow_185 (by decide) ?_
  refine pb_aload_n (pc := 173) d_Mod_pressRow_173 2 rfl rfl ?_
  refine pb_get (pc := 174) d_Mod_pressRow_174 0 35 rfl rfl (by decide) in_Mod k_1181 rfl ?_
  refine pb_if_le (pc := 177) (tgt := 188) d_Mod_pressRow_177 (by decide) (fun h9 => absurd h9 (by decide)) (fun _ => ?_)
  refine pb_aload_n (pc := 180) d_Mod_pressRow_180 2 rfl rfl ?_
  refine pb_iconst (pc := 181) (v := 0) d_Mod_pressRow_181 (by decide) ?_
  refine pb_callV (pc := 182) (qb := 0) (ci := 10) (nA := 1) (rest := []) (wr := []) d_Mod_pressRow_182 (c_Mod_bit_7_1 hl G h m_rels m_openRels m_closeRels m_openRel m_closeRel m_comment m_ends m_order m_tape m_count m_nameSize m_names m_size m_data m_looked m_file m_directory m_out m_row m_made m_length m_pressed m_mark m_idSize m_ids m_goalSize m_goals m_value m_faults m_reached 0 hb_33 f_34) rfl rfl [0, 1] [] (by decide) rfl rfl rfl (by decide) (by decide) k_1389 rfl k_128 k_1386 k_1388 k_62 (by decide +kernel) (by decide) rfl rfl (Nat.le_of_ble_eq_true rfl) (by decide) (fun v9 u37 h36 => ?_)
  obtain ⟨hb_38, f_39⟩ := u37
  have eh36 := h36
  have eh36 : v9 = none := eh36
  subst eh36
  refine pb_eq (pc' := 185) (lo' := [(5, .int 0), (4, .int 0), (0, .ref h), (1, .ref b), (2, .int 0), (3, .int 0)]) (rest' := []) (ws' := [(h, .inr (10, [.ref m_rels, .ref m_openRels, .ref m_closeRels, .ref m_openRel, .ref m_closeRel, .ref m_comment, .ref m_ends, .ref m_order, .int 0, .int 0, .ref m_tape, .ref m_count, .ref m_nameSize, .ref m_names, .ref m_size, .ref m_data, .int 0, .ref m_looked, .int 0, .ref m_file, .int 0, .ref m_directory, .int 0, .ref m_out, .int 0, .ref m_row, .int 0, .int 0, .int 0, .int 0, .ref m_made, .ref m_length, .int 0, .int 0, .int hb_38, .int 0, .int 2, .ref m_pressed, .int 0, .int 0, .int 0, .ref m_mark, .int 0, .ref m_idSize, .ref m_ids, .ref m_goalSize, .ref m_goals, .int 0, .ref m_value, .int 0, .ref m_faults, .ref m_reached])), (m_pressed, .inl (G.2.1, 5000, .inl f_39))]) ?_
  refine pb_goto (pc := 185) (tgt := 173) d_Mod_pressRow_185 (by decide) ?_
  refine pb_aload_n (pc := 173) d_Mod_pressRow_173 2 rfl rfl ?_
  refine pb_get (pc := 174) d_Mod_pressRow_174 0 35 rfl rfl (by decide) in_Mod k_1181 rfl ?_
  refine pb_if_le (pc := 177) (tgt := 188) d_Mod_pressRow_177 (by decide) (fun _ => ?_) (fun h9 => absurd h9 (by decide))
  exact pb_vret (pc := 188) hQ d_Mod_pressRow_188 rfl (hb_38, f_39) rfl [0, 1] (by decide) rfl rfl (by decide) (by decide)

theorem d_Mod_press_0 : decode prog_12_method_30_code 0 = .ok (.aload_n 0, 1) := by decide +kernel
theorem d_Mod_press_1 : decode prog_12_method_30_code 1 = .ok (.getfield 107, 3) := by decide +kernel
theorem d_Mod_press_4 : decode prog_12_method_30_code 4 = .ok (.istore_n 1, 1) := by decide +kernel
theorem d_Mod_press_5 : decode prog_12_method_30_code 5 = .ok (.aload_n 0, 1) := by decide +kernel
theorem d_Mod_press_6 : decode prog_12_method_30_code 6 = .ok (.iconst 0, 1) := by decide +kernel
theorem d_Mod_press_7 : decode prog_12_method_30_code 7 = .ok (.putfield 107, 3) := by decide +kernel
theorem d_Mod_press_10 : decode prog_12_method_30_code 10 = .ok (.aload_n 0, 1) := by decide +kernel
theorem d_Mod_press_11 : decode prog_12_method_30_code 11 = .ok (.iload_n 1, 1) := by decide +kernel
theorem d_Mod_press_12 : decode prog_12_method_30_code 12 = .ok (.sipush 4000, 3) := by decide +kernel
theorem d_Mod_press_15 : decode prog_12_method_30_code 15 = .ok (.if_icmp .le 7, 3) := by decide +kernel
theorem d_Mod_press_22 : decode prog_12_method_30_code 22 = .ok (.iconst 0, 1) := by decide +kernel
theorem d_Mod_press_23 : decode prog_12_method_30_code 23 = .ok (.putfield 103, 3) := by decide +kernel
theorem d_Mod_press_26 : decode prog_12_method_30_code 26 = .ok (.aload_n 0, 1) := by decide +kernel
theorem d_Mod_press_27 : decode prog_12_method_30_code 27 = .ok (.getfield 103, 3) := by decide +kernel
theorem d_Mod_press_30 : decode prog_12_method_30_code 30 = .ok (.ifCond .le 5, 3) := by decide +kernel
theorem d_Mod_press_35 : decode prog_12_method_30_code 35 = .ok (.aload_n 0, 1) := by decide +kernel
theorem d_Mod_press_36 : decode prog_12_method_30_code 36 = .ok (.aload_n 0, 1) := by decide +kernel
theorem d_Mod_press_37 : decode prog_12_method_30_code 37 = .ok (.getfield 34, 3) := by decide +kernel
theorem d_Mod_press_40 : decode prog_12_method_30_code 40 = .ok (.iconst 0, 1) := by decide +kernel
theorem d_Mod_press_41 : decode prog_12_method_30_code 41 = .ok (.iload_n 1, 1) := by decide +kernel
theorem d_Mod_press_42 : decode prog_12_method_30_code 42 = .ok (.invokevirtual 191, 3) := by decide +kernel
theorem k_1378 : (Jvm.Cond.methodLink "PackageBookModel" (191 : Nat) ({ cls := "PackageBookModel", name := "pressRow", desc := "([BII)V" } : Jvm.MethodName)) ∈ uW := uW_of 1378 (by decide +kernel) (by decide +kernel)
theorem k_1381 : (Jvm.Cond.code ({ cls := "PackageBookModel", name := "pressRow", desc := "([BII)V" } : Jvm.MethodName) prog_12_method_29_code (10 : Nat) (Option.none : Option Jvm.ClassFile.FieldType)) ∈ uW := uW_of 1381 (by decide +kernel) (by decide +kernel)
theorem k_1380 : (Jvm.Cond.instanceMethod ({ cls := "PackageBookModel", name := "pressRow", desc := "([BII)V" } : Jvm.MethodName)) ∈ uW := uW_of 1380 (by decide +kernel) (by decide +kernel)
theorem k_60 : Cond.selects "PackageBookModel" ⟨"PackageBookModel", "pressRow", "([BII)V"⟩ ⟨"PackageBookModel", "pressRow", "([BII)V"⟩ ∈ uW := uW_of 60 (by decide +kernel) (by decide +kernel)
theorem d_Mod_press_45 : decode prog_12_method_30_code 45 = .ok (.aload_n 0, 1) := by decide +kernel
theorem d_Mod_press_46 : decode prog_12_method_30_code 46 = .ok (.aload_n 0, 1) := by decide +kernel
theorem d_Mod_press_47 : decode prog_12_method_30_code 47 = .ok (.getfield 159, 3) := by decide +kernel
theorem d_Mod_press_50 : decode prog_12_method_30_code 50 = .ok (.putfield 194, 3) := by decide +kernel
theorem d_Mod_press_53 : decode prog_12_method_30_code 53 = .ok (.iconst 0, 1) := by decide +kernel
theorem d_Mod_press_54 : decode prog_12_method_30_code 54 = .ok (.istore_n 2, 1) := by decide +kernel
theorem d_Mod_press_55 : decode prog_12_method_30_code 55 = .ok (.iload_n 2, 1) := by decide +kernel
theorem d_Mod_press_56 : decode prog_12_method_30_code 56 = .ok (.aload_n 0, 1) := by decide +kernel
theorem d_Mod_press_57 : decode prog_12_method_30_code 57 = .ok (.getfield 194, 3) := by decide +kernel
theorem d_Mod_press_60 : decode prog_12_method_30_code 60 = .ok (.if_icmp .ge 21, 3) := by decide +kernel
theorem d_Mod_press_63 : decode prog_12_method_30_code 63 = .ok (.aload_n 0, 1) := by decide +kernel
theorem d_Mod_press_64 : decode prog_12_method_30_code 64 = .ok (.getfield 63, 3) := by decide +kernel
theorem d_Mod_press_67 : decode prog_12_method_30_code 67 = .ok (.iload_n 2, 1) := by decide +kernel
theorem d_Mod_press_68 : decode prog_12_method_30_code 68 = .ok (.aload_n 0, 1) := by decide +kernel
theorem d_Mod_press_69 : decode prog_12_method_30_code 69 = .ok (.getfield 75, 3) := by decide +kernel
theorem d_Mod_press_72 : decode prog_12_method_30_code 72 = .ok (.iload_n 2, 1) := by decide +kernel
theorem d_Mod_press_73 : decode prog_12_method_30_code 73 = .ok (.baload, 1) := by decide +kernel
theorem d_Mod_press_74 : decode prog_12_method_30_code 74 = .ok (.bastore, 1) := by decide +kernel
theorem d_Mod_press_75 : decode prog_12_method_30_code 75 = .ok (.iinc 2 1, 3) := by decide +kernel
theorem d_Mod_press_78 : decode prog_12_method_30_code 78 = .ok (.goto (-23), 3) := by decide +kernel
theorem d_Mod_press_81 : decode prog_12_method_30_code 81 = .ok (.aload_n 0, 1) := by decide +kernel
theorem d_Mod_press_82 : decode prog_12_method_30_code 82 = .ok (.getfield 194, 3) := by decide +kernel
theorem d_Mod_press_85 : decode prog_12_method_30_code 85 = .ok (.ireturn, 1) := by decide +kernel
abbrev y_Mod_press : MethodName := ⟨"PackageBookModel", "press", "()I"⟩
abbrev i_Mod_press : pb_I := (y_Mod_press, prog_12_method_30_code, 3, (some Jvm.ClassFile.FieldType.int), [], { frames := 4, cells := 0, slots := 0, locals := 94 })
set_option maxRecDepth 100000 in
set_option maxHeartbeats 4000000 in
theorem c_Mod_press {l : Launch} (hl : l.stackTraces = false) (G : pb_G) (h : Nat) (m_rels : Nat) (m_openRels : Nat) (m_closeRels : Nat) (m_openRel : Nat) (m_closeRel : Nat) (m_comment : Nat) (m_ends : Nat) (m_order : Nat) (m_tape : Nat) (m_count : Nat) (m_nameSize : Nat) (m_names : Nat) (m_size : Nat) (m_data : Nat) (m_looked : Nat) (m_file : Nat) (m_directory : Nat) (m_out : Nat) (m_row : Nat) (m_made : Nat) (m_length : Nat) (m_pressed : Nat) (m_mark : Nat) (m_idSize : Nat) (m_ids : Nat) (m_goalSize : Nat) (m_goals : Nat) (m_value : Nat) (m_faults : Nat) (m_reached : Nat) (f : Nat → Int32) (fo : Nat → Int32) : Cn l G i_Mod_press [.ref h] [(h, .inr (10, [.ref m_rels, .ref m_openRels, .ref m_closeRels, .ref m_openRel, .ref m_closeRel, .ref m_comment, .ref m_ends, .ref m_order, .int 0, .int 0, .ref m_tape, .ref m_count, .ref m_nameSize, .ref m_names, .ref m_size, .ref m_data, .int 0, .ref m_looked, .int 0, .ref m_file, .int 0, .ref m_directory, .int 0, .ref m_out, .int 0, .ref m_row, .int 0, .int 0, .int 0, .int 0, .ref m_made, .ref m_length, .int 0, .int 0, .int 0, .int 0, .int 0, .ref m_pressed, .int 0, .int 0, .int 0, .ref m_mark, .int 0, .ref m_idSize, .ref m_ids, .ref m_goalSize, .ref m_goals, .int 0, .ref m_value, .int 0, .ref m_faults, .ref m_reached])), (m_pressed, .inl (G.2.1, 5000, .inl f)), (m_out, .inl (G.2.1, 5000, .inl fo))] (S := Int32) (fun v u => v = some (.int 2)) (fun u => [(h, .inr (10, [.ref m_rels, .ref m_openRels, .ref m_closeRels, .ref m_openRel, .ref m_closeRel, .ref m_comment, .ref m_ends, .ref m_order, .int 0, .int 0, .ref m_tape, .ref m_count, .ref m_nameSize, .ref m_names, .ref m_size, .ref m_data, .int 0, .ref m_looked, .int 0, .ref m_file, .int 0, .ref m_directory, .int 2, .ref m_out, .int 0, .ref m_row, .int 0, .int 0, .int 0, .int 0, .ref m_made, .ref m_length, .int 0, .int 0, .int u, .int 0, .int 2, .ref m_pressed, .int 0, .int 0, .int 0, .ref m_mark, .int 0, .ref m_idSize, .ref m_ids, .ref m_goalSize, .ref m_goals, .int 0, .ref m_value, .int 0, .ref m_faults, .ref m_reached]))]) := by
  refine Cn.of hl (by decide +kernel) rfl (Nat.le_of_ble_eq_true rfl) (fun M hQ => ?_)
  refine pb_eq (pc' := 0) (lo' := [(0, .ref h)]) (rest' := []) (ws' := [(h, .inr (10, [.ref m_rels, .ref m_openRels, .ref m_closeRels, .ref m_openRel, .ref m_closeRel, .ref m_comment, .ref m_ends, .ref m_order, .int 0, .int 0, .ref m_tape, .ref m_count, .ref m_nameSize, .ref m_names, .ref m_size, .ref m_data, .int 0, .ref m_looked, .int 0, .ref m_file, .int 0, .ref m_directory, .int 0, .ref m_out, .int 0, .ref m_row, .int 0, .int 0, .int 0, .int 0, .ref m_made, .ref m_length, .int 0, .int 0, .int 0, .int 0, .int 0, .ref m_pressed, .int 0, .int 0, .int 0, .ref m_mark, .int 0, .ref m_idSize, .ref m_ids, .ref m_goalSize, .ref m_goals, .int 0, .ref m_value, .int 0, .ref m_faults, .ref m_reached])), (m_pressed, .inl (G.2.1, 5000, .inl f)), (m_out, .inl (G.2.1, 5000, .inl fo))]) ?_
  refine pb_aload_n (pc := 0) d_Mod_press_0 0 rfl rfl ?_
  refine pb_get (pc := 1) d_Mod_press_1 0 9 rfl rfl (by decide) in_Mod k_1155 rfl ?_
  refine pb_istore_n (pc := 4) (lo' := [(1, .int 0), (0, .ref h)]) d_Mod_press_4 rfl (by decide) rfl ?_
  refine pb_aload_n (pc := 5) d_Mod_press_5 1 rfl rfl ?_
  refine pb_iconst (pc := 6) (v := 0) d_Mod_press_6 (by decide) ?_
  refine pb_put (pc := 7) (ty := .int) (ws' := [(h, .inr (10, [.ref m_rels, .ref m_openRels, .ref m_closeRels, .ref m_openRel, .ref m_closeRel, .ref m_comment, .ref m_ends, .ref m_order, .int 0, .int 0, .ref m_tape, .ref m_count, .ref m_nameSize, .ref m_names, .ref m_size, .ref m_data, .int 0, .ref m_looked, .int 0, .ref m_file, .int 0, .ref m_directory, .int 0, .ref m_out, .int 0, .ref m_row, .int 0, .int 0, .int 0, .int 0, .ref m_made, .ref m_length, .int 0, .int 0, .int 0, .int 0, .int 0, .ref m_pressed, .int 0, .int 0, .int 0, .ref m_mark, .int 0, .ref m_idSize, .ref m_ids, .ref m_goalSize, .ref m_goals, .int 0, .ref m_value, .int 0, .ref m_faults, .ref m_reached])), (m_pressed, .inl (G.2.1, 5000, .inl f)), (m_out, .inl (G.2.1, 5000, .inl fo))]) d_Mod_press_7 0 9 t_Mod t_Mod_ok n_Mod rfl rfl (by decide) in_Mod k_1155 rfl (by decide +kernel) rfl rfl (Nat.le_of_ble_eq_true rfl) rfl ?_
  refine pb_aload_n (pc := 10) d_Mod_press_10 1 rfl rfl ?_
  refine pb_iload_n (pc := 11) d_Mod_press_11 0 rfl rfl ?_
  refine pb_sipush (pc := 12) (v := 4000) d_Mod_press_12 (by decide) ?_
  refine pb_icmp_le (pc := 15) (tgt := 22) d_Mod_press_15 (by decide) (fun _ => ?_) (fun h9 => absurd h9 (by decide))
  refine pb_iconst (pc := 22) (v := 0) d_Mod_press_22 (by decide) ?_
  refine pb_put (pc := 23) (ty := .int) (ws' := [(h, .inr (10, [.ref m_rels, .ref m_openRels, .ref m_closeRels, .ref m_openRel, .ref m_closeRel, .ref m_comment, .ref m_ends, .ref m_order, .int 0, .int 0, .ref m_tape, .ref m_count, .ref m_nameSize, .ref m_names, .ref m_size, .ref m_data, .int 0, .ref m_looked, .int 0, .ref m_file, .int 0, .ref m_directory, .int 0, .ref m_out, .int 0, .ref m_row, .int 0, .int 0, .int 0, .int 0, .ref m_made, .ref m_length, .int 0, .int 0, .int 0, .int 0, .int 0, .ref m_pressed, .int 0, .int 0, .int 0, .ref m_mark, .int 0, .ref m_idSize, .ref m_ids, .ref m_goalSize, .ref m_goals, .int 0, .ref m_value, .int 0, .ref m_faults, .ref m_reached])), (m_pressed, .inl (G.2.1, 5000, .inl f)), (m_out, .inl (G.2.1, 5000, .inl fo))]) d_Mod_press_23 0 8 t_Mod t_Mod_ok n_Mod rfl rfl (by decide) in_Mod k_1154 rfl (by decide +kernel) rfl rfl (Nat.le_of_ble_eq_true rfl) rfl ?_
  refine pb_aload_n (pc := 26) d_Mod_press_26 1 rfl rfl ?_
  refine pb_get (pc := 27) d_Mod_press_27 0 8 rfl rfl (by decide) in_Mod k_1154 rfl ?_
  refine pb_if_le (pc := 30) (tgt := 35) d_Mod_press_30 (by decide) (fun _ => ?_) (fun h9 => absurd h9 (by decide))
  refine pb_aload_n (pc := 35) d_Mod_press_35 1 rfl rfl ?_
  refine pb_aload_n (pc := 36) d_Mod_press_36 1 rfl rfl ?_
  refine pb_get (pc := 37) d_Mod_press_37 0 10 rfl rfl (by decide) in_Mod k_1156 rfl ?_
  refine pb_iconst (pc := 40) (v := 0) d_Mod_press_40 (by decide) ?_
  refine pb_iload_n (pc := 41) d_Mod_press_41 0 rfl rfl ?_
  refine pb_callV (pc := 42) (qb := 0) (ci := 10) (nA := 3) (rest := []) (wr := [(m_out, .inl (G.2.1, 5000, .inl fo))]) d_Mod_press_42 (c_Mod_pressRow0 hl G h m_rels m_openRels m_closeRels m_openRel m_closeRel m_comment m_ends m_order m_tape m_count m_nameSize m_names m_size m_data m_looked m_file m_directory m_out m_row m_made m_length m_pressed m_mark m_idSize m_ids m_goalSize m_goals m_value m_faults m_reached m_tape f) rfl rfl [0, 1] [2] (by decide) rfl rfl rfl (by decide) (by decide) k_1381 rfl k_128 k_1378 k_1380 k_60 (by decide +kernel) (by decide) rfl rfl (Nat.le_of_ble_eq_true rfl) (by decide) (fun v9 u4 h3 => ?_)
  obtain ⟨hb_5, f_6⟩ := u4
  have eh3 := h3
  have eh3 : v9 = none := eh3
  subst eh3
  refine pb_eq (pc' := 45) (lo' := [(1, .int 0), (0, .ref h)]) (rest' := []) (ws' := [(m_out, .inl (G.2.1, 5000, .inl fo)), (h, .inr (10, [.ref m_rels, .ref m_openRels, .ref m_closeRels, .ref m_openRel, .ref m_closeRel, .ref m_comment, .ref m_ends, .ref m_order, .int 0, .int 0, .ref m_tape, .ref m_count, .ref m_nameSize, .ref m_names, .ref m_size, .ref m_data, .int 0, .ref m_looked, .int 0, .ref m_file, .int 0, .ref m_directory, .int 0, .ref m_out, .int 0, .ref m_row, .int 0, .int 0, .int 0, .int 0, .ref m_made, .ref m_length, .int 0, .int 0, .int hb_5, .int 0, .int 2, .ref m_pressed, .int 0, .int 0, .int 0, .ref m_mark, .int 0, .ref m_idSize, .ref m_ids, .ref m_goalSize, .ref m_goals, .int 0, .ref m_value, .int 0, .ref m_faults, .ref m_reached])), (m_pressed, .inl (G.2.1, 5000, .inl f_6))]) ?_
  refine pb_aload_n (pc := 45) d_Mod_press_45 1 rfl rfl ?_
  refine pb_aload_n (pc := 46) d_Mod_press_46 1 rfl rfl ?_
  refine pb_get (pc := 47) d_Mod_press_47 1 36 rfl rfl (by decide) in_Mod k_1182 rfl ?_
  refine pb_put (pc := 50) (ty := .int) (ws' := [(m_out, .inl (G.2.1, 5000, .inl fo)), (h, .inr (10, [.ref m_rels, .ref m_openRels, .ref m_closeRels, .ref m_openRel, .ref m_closeRel, .ref m_comment, .ref m_ends, .ref m_order, .int 0, .int 0, .ref m_tape, .ref m_count, .ref m_nameSize, .ref m_names, .ref m_size, .ref m_data, .int 0, .ref m_looked, .int 0, .ref m_file, .int 0, .ref m_directory, .int 2, .ref m_out, .int 0, .ref m_row, .int 0, .int 0, .int 0, .int 0, .ref m_made, .ref m_length, .int 0, .int 0, .int hb_5, .int 0, .int 2, .ref m_pressed, .int 0, .int 0, .int 0, .ref m_mark, .int 0, .ref m_idSize, .ref m_ids, .ref m_goalSize, .ref m_goals, .int 0, .ref m_value, .int 0, .ref m_faults, .ref m_reached])), (m_pressed, .inl (G.2.1, 5000, .inl f_6))]) d_Mod_press_50 1 22 t_Mod t_Mod_ok n_Mod rfl rfl (by decide) in_Mod k_1168 rfl (by decide +kernel) rfl rfl (Nat.le_of_ble_eq_true rfl) rfl ?_
  refine pb_iconst (pc := 53) (v := 0) d_Mod_press_53 (by decide) ?_
  refine pb_istore_n (pc := 54) (lo' := [(2, .int 0), (1, .int 0), (0, .ref h)]) d_Mod_press_54 rfl (by decide) rfl ?_
  refine pb_iload_n (pc := 55) d_Mod_press_55 0 rfl rfl ?_
  refine pb_aload_n (pc := 56) d_Mod_press_56 2 rfl rfl ?_
  refine pb_get (pc := 57) d_Mod_press_57 1 22 rfl rfl (by decide) in_Mod k_1168 rfl ?_
  refine pb_icmp_ge (pc := 60) (tgt := 81) d_Mod_press_60 (by decide) (fun h9 => absurd h9 (by decide)) (fun _ => ?_)
  refine pb_aload_n (pc := 63) d_Mod_press_63 2 rfl rfl ?_
  refine pb_get (pc := 64) d_Mod_press_64 1 23 rfl rfl (by decide) in_Mod k_1169 rfl ?_
  refine pb_iload_n (pc := 67) d_Mod_press_67 0 rfl rfl ?_
  refine pb_aload_n (pc := 68) d_Mod_press_68 2 rfl rfl ?_
  refine pb_get (pc := 69) d_Mod_press_69 1 37 rfl rfl (by decide) in_Mod k_1183 rfl ?_
  refine pb_iload_n (pc := 72) d_Mod_press_72 0 rfl rfl ?_
  refine pb_bald (pc := 73) d_Mod_press_73 2 rfl (by unfold vp_in; decide) ?_
  refine pb_topi (fun i8 ei8 => ?_)
  refine pb_bast (pc := 74) (ws' := [(m_out, .inl (G.2.1, 5000, .inl (upd fo ((0 : Int32).toNatClampNeg) (vp_nar .byte i8)))), (h, .inr (10, [.ref m_rels, .ref m_openRels, .ref m_closeRels, .ref m_openRel, .ref m_closeRel, .ref m_comment, .ref m_ends, .ref m_order, .int 0, .int 0, .ref m_tape, .ref m_count, .ref m_nameSize, .ref m_names, .ref m_size, .ref m_data, .int 0, .ref m_looked, .int 0, .ref m_file, .int 0, .ref m_directory, .int 2, .ref m_out, .int 0, .ref m_row, .int 0, .int 0, .int 0, .int 0, .ref m_made, .ref m_length, .int 0, .int 0, .int hb_5, .int 0, .int 2, .ref m_pressed, .int 0, .int 0, .int 0, .ref m_mark, .int 0, .ref m_idSize, .ref m_ids, .ref m_goalSize, .ref m_goals, .int 0, .ref m_value, .int 0, .ref m_faults, .ref m_reached])), (m_pressed, .inl (G.2.1, 5000, .inl f_6))]) d_Mod_press_74 0 rfl (by unfold vp_in; decide) rfl ?_
  refine pb_iinc (pc := 75) (v := 1) (lo' := [(2, .int 1), (1, .int 0), (0, .ref h)]) d_Mod_press_75 0 rfl (by decide) (by decide) rfl ?_
  refine pb_goto (pc := 78) (tgt := 55) d_Mod_press_78 (by decide) ?_
  refine pb_iload_n (pc := 55) d_Mod_press_55 0 rfl rfl ?_
  refine pb_aload_n (pc := 56) d_Mod_press_56 2 rfl rfl ?_
  refine pb_get (pc := 57) d_Mod_press_57 1 22 rfl rfl (by decide) in_Mod k_1168 rfl ?_
  refine pb_icmp_ge (pc := 60) (tgt := 81) d_Mod_press_60 (by decide) (fun h9 => absurd h9 (by decide)) (fun _ => ?_)
  refine pb_aload_n (pc := 63) d_Mod_press_63 2 rfl rfl ?_
  refine pb_get (pc := 64) d_Mod_press_64 1 23 rfl rfl (by decide) in_Mod k_1169 rfl ?_
  refine pb_iload_n (pc := 67) d_Mod_press_67 0 rfl rfl ?_
  refine pb_aload_n (pc := 68) d_Mod_press_68 2 rfl rfl ?_
  refine pb_get (pc := 69) d_Mod_press_69 1 37 rfl rfl (by decide) in_Mod k_1183 rfl ?_
  refine pb_iload_n (pc := 72) d_Mod_press_72 0 rfl rfl ?_
  refine pb_bald (pc := 73) d_Mod_press_73 2 rfl (by unfold vp_in; decide) ?_
  refine pb_topi (fun i10 ei10 => ?_)
  refine pb_bast (pc := 74) (ws' := [(m_out, .inl (G.2.1, 5000, .inl (upd (upd fo ((0 : Int32).toNatClampNeg) (vp_nar .byte i8)) ((1 : Int32).toNatClampNeg) (vp_nar .byte i10)))), (h, .inr (10, [.ref m_rels, .ref m_openRels, .ref m_closeRels, .ref m_openRel, .ref m_closeRel, .ref m_comment, .ref m_ends, .ref m_order, .int 0, .int 0, .ref m_tape, .ref m_count, .ref m_nameSize, .ref m_names, .ref m_size, .ref m_data, .int 0, .ref m_looked, .int 0, .ref m_file, .int 0, .ref m_directory, .int 2, .ref m_out, .int 0, .ref m_row, .int 0, .int 0, .int 0, .int 0, .ref m_made, .ref m_length, .int 0, .int 0, .int hb_5, .int 0, .int 2, .ref m_pressed, .int 0, .int 0, .int 0, .ref m_mark, .int 0, .ref m_idSize, .ref m_ids, .ref m_goalSize, .ref m_goals, .int 0, .ref m_value, .int 0, .ref m_faults, .ref m_reached])), (m_pressed, .inl (G.2.1, 5000, .inl f_6))]) d_Mod_press_74 0 rfl (by unfold vp_in; decide) rfl ?_
  refine pb_iinc (pc := 75) (v := 2) (lo' := [(2, .int 2), (1, .int 0), (0, .ref h)]) d_Mod_press_75 0 rfl (by decide) (by decide) rfl ?_
  refine pb_goto (pc := 78) (tgt := 55) d_Mod_press_78 (by decide) ?_
  refine pb_iload_n (pc := 55) d_Mod_press_55 0 rfl rfl ?_
  refine pb_aload_n (pc := 56) d_Mod_press_56 2 rfl rfl ?_
  refine pb_get (pc := 57) d_Mod_press_57 1 22 rfl rfl (by decide) in_Mod k_1168 rfl ?_
  refine pb_icmp_ge (pc := 60) (tgt := 81) d_Mod_press_60 (by decide) (fun _ => ?_) (fun h9 => absurd h9 (by decide))
  refine pb_aload_n (pc := 81) d_Mod_press_81 2 rfl rfl ?_
  refine pb_get (pc := 82) d_Mod_press_82 1 22 rfl rfl (by decide) in_Mod k_1168 rfl ?_
  exact pb_iret (pc := 85) hQ d_Mod_press_85 rfl rfl (hb_5) rfl [1] (by decide) rfl rfl (by decide) (by decide)
