theorem d_Mod_fault_30 : decode prog_12_method_89_code 30 = .ok (.aload_n 0, 1) := by decide +kernel
theorem d_Mod_fault_31 : decode prog_12_method_89_code 31 = .ok (.getfield 103, 3) := by decide +kernel
theorem d_Mod_fault_34 : decode prog_12_method_89_code 34 = .ok (.ifCond .le 7, 3) := by decide +kernel
theorem d_Mod_fault_41 : decode prog_12_method_89_code 41 = .ok (.aload_n 0, 1) := by decide +kernel
theorem d_Mod_fault_42 : decode prog_12_method_89_code 42 = .ok (.getfield 96, 3) := by decide +kernel
theorem d_Mod_fault_45 : decode prog_12_method_89_code 45 = .ok (.iconst 3, 1) := by decide +kernel
theorem d_Mod_fault_46 : decode prog_12_method_89_code 46 = .ok (.iload_n 1, 1) := by decide +kernel
theorem d_Mod_fault_47 : decode prog_12_method_89_code 47 = .ok (.imul, 1) := by decide +kernel
theorem d_Mod_fault_48 : decode prog_12_method_89_code 48 = .ok (.iload_n 2, 1) := by decide +kernel
theorem d_Mod_fault_49 : decode prog_12_method_89_code 49 = .ok (.iadd, 1) := by decide +kernel
theorem d_Mod_fault_50 : decode prog_12_method_89_code 50 = .ok (.iaload, 1) := by decide +kernel
theorem d_Mod_fault_51 : decode prog_12_method_89_code 51 = .ok (.ireturn, 1) := by decide +kernel
theorem d_Mod_fault_37 : decode prog_12_method_89_code 37 = .ok (.iconst 0, 1) := by decide +kernel
theorem d_Mod_fault_38 : decode prog_12_method_89_code 38 = .ok (.goto 13, 3) := by decide +kernel
theorem d_Mod_fault_0 : decode prog_12_method_89_code 0 = .ok (.aload_n 0, 1) := by decide +kernel
theorem d_Mod_fault_1 : decode prog_12_method_89_code 1 = .ok (.iload_n 1, 1) := by decide +kernel
theorem d_Mod_fault_2 : decode prog_12_method_89_code 2 = .ok (.ifCond .lt 20, 3) := by decide +kernel
theorem d_Mod_fault_22 : decode prog_12_method_89_code 22 = .ok (.iconst 1, 1) := by decide +kernel
theorem d_Mod_fault_23 : decode prog_12_method_89_code 23 = .ok (.goto 4, 3) := by decide +kernel
theorem d_Mod_fault_27 : decode prog_12_method_89_code 27 = .ok (.putfield 103, 3) := by decide +kernel
theorem d_Mod_fault_5 : decode prog_12_method_89_code 5 = .ok (.iload_n 1, 1) := by decide +kernel
theorem d_Mod_fault_6 : decode prog_12_method_89_code 6 = .ok (.aload_n 0, 1) := by decide +kernel
theorem d_Mod_fault_7 : decode prog_12_method_89_code 7 = .ok (.getfield 410, 3) := by decide +kernel
theorem d_Mod_fault_10 : decode prog_12_method_89_code 10 = .ok (.if_icmp .ge 12, 3) := by decide +kernel
theorem d_Mod_fault_13 : decode prog_12_method_89_code 13 = .ok (.iload_n 2, 1) := by decide +kernel
theorem d_Mod_fault_14 : decode prog_12_method_89_code 14 = .ok (.ifCond .lt 8, 3) := by decide +kernel
theorem d_Mod_fault_17 : decode prog_12_method_89_code 17 = .ok (.iload_n 2, 1) := by decide +kernel
theorem d_Mod_fault_18 : decode prog_12_method_89_code 18 = .ok (.iconst 2, 1) := by decide +kernel
theorem d_Mod_fault_19 : decode prog_12_method_89_code 19 = .ok (.if_icmp .le 7, 3) := by decide +kernel
theorem d_Mod_fault_26 : decode prog_12_method_89_code 26 = .ok (.iconst 0, 1) := by decide +kernel
abbrev y_Mod_fault : MethodName := ⟨"PackageBookModel", "fault", "(II)I"⟩
abbrev i_Mod_fault : pb_I := (y_Mod_fault, prog_12_method_89_code, 3, (some Jvm.ClassFile.FieldType.int), [], { frames := 0, cells := 0, slots := 0, locals := 0 })
set_option maxRecDepth 100000 in
set_option maxHeartbeats 4000000 in
theorem g_Mod_fault {l : Launch} (hl : l.stackTraces = false) (G : pb_G) (h : Nat) (m_rels : Nat) (m_openRels : Nat) (m_closeRels : Nat) (m_openRel : Nat) (m_closeRel : Nat) (m_comment : Nat) (m_ends : Nat) (m_order : Nat) (m_tape : Nat) (m_count : Nat) (m_nameSize : Nat) (m_names : Nat) (m_size : Nat) (m_data : Nat) (m_looked : Nat) (m_file : Nat) (m_directory : Nat) (m_out : Nat) (m_row : Nat) (m_made : Nat) (m_length : Nat) (m_pressed : Nat) (m_mark : Nat) (m_idSize : Nat) (m_ids : Nat) (m_goalSize : Nat) (m_goals : Nat) (m_value : Nat) (m_faults : Nat) (m_reached : Nat) (v_thrown : Int32) (v_taped : Int32) (v_lookedSize : Int32) (v_fileSize : Int32) (v_directorySize : Int32) (v_outSize : Int32) (v_rowSize : Int32) (v_bitAt : Int32) (v_bitEnd : Int32) (v_why : Int32) (v_madeSize : Int32) (v_firstCount : Int32) (v_secondCount : Int32) (v_heldBits : Int32) (v_heldCount : Int32) (v_pressedSize : Int32) (v_at : Int32) (v_bad : Int32) (v_markSize : Int32) (v_relationCount : Int32) (v_valueSize : Int32) (v_faultCount : Int32) (a_faults : Nat → Int32) (k : Int32) (w : Int32) (f1 : v_faultCount.toInt ≤ 2000) : Cn l G i_Mod_fault [.ref h, .int k, .int w] [(h, .inr (10, [.ref m_rels, .ref m_openRels, .ref m_closeRels, .ref m_openRel, .ref m_closeRel, .ref m_comment, .ref m_ends, .ref m_order, .int v_thrown, .int v_taped, .ref m_tape, .ref m_count, .ref m_nameSize, .ref m_names, .ref m_size, .ref m_data, .int v_lookedSize, .ref m_looked, .int v_fileSize, .ref m_file, .int v_directorySize, .ref m_directory, .int v_outSize, .ref m_out, .int v_rowSize, .ref m_row, .int v_bitAt, .int v_bitEnd, .int v_why, .int v_madeSize, .ref m_made, .ref m_length, .int v_firstCount, .int v_secondCount, .int v_heldBits, .int v_heldCount, .int v_pressedSize, .ref m_pressed, .int v_at, .int v_bad, .int v_markSize, .ref m_mark, .int v_relationCount, .ref m_idSize, .ref m_ids, .ref m_goalSize, .ref m_goals, .int v_valueSize, .ref m_value, .int v_faultCount, .ref m_faults, .ref m_reached])), (m_faults, .inl (G.2.2.1, 6000, .inl a_faults))] (S := Int32 × Int32) (fun rv_ u => rv_ = some (.int u.1)) (fun u => [(h, .inr (10, [.ref m_rels, .ref m_openRels, .ref m_closeRels, .ref m_openRel, .ref m_closeRel, .ref m_comment, .ref m_ends, .ref m_order, .int u.2, .int v_taped, .ref m_tape, .ref m_count, .ref m_nameSize, .ref m_names, .ref m_size, .ref m_data, .int v_lookedSize, .ref m_looked, .int v_fileSize, .ref m_file, .int v_directorySize, .ref m_directory, .int v_outSize, .ref m_out, .int v_rowSize, .ref m_row, .int v_bitAt, .int v_bitEnd, .int v_why, .int v_madeSize, .ref m_made, .ref m_length, .int v_firstCount, .int v_secondCount, .int v_heldBits, .int v_heldCount, .int v_pressedSize, .ref m_pressed, .int v_at, .int v_bad, .int v_markSize, .ref m_mark, .int v_relationCount, .ref m_idSize, .ref m_ids, .ref m_goalSize, .ref m_goals, .int v_valueSize, .ref m_value, .int v_faultCount, .ref m_faults, .ref m_reached])), (m_faults, .inl (G.2.2.1, 6000, .inl a_faults))]) := by
  refine Cn.of hl (by decide +kernel) rfl (Nat.le_of_ble_eq_true rfl) (fun M hQ => ?_)
  refine pb_eq (pc' := 0) (lo' := [(0, .ref h), (1, .int k), (2, .int w)]) (rest' := []) (ws' := [(h, .inr (10, [.ref m_rels, .ref m_openRels, .ref m_closeRels, .ref m_openRel, .ref m_closeRel, .ref m_comment, .ref m_ends, .ref m_order, .int v_thrown, .int v_taped, .ref m_tape, .ref m_count, .ref m_nameSize, .ref m_names, .ref m_size, .ref m_data, .int v_lookedSize, .ref m_looked, .int v_fileSize, .ref m_file, .int v_directorySize, .ref m_directory, .int v_outSize, .ref m_out, .int v_rowSize, .ref m_row, .int v_bitAt, .int v_bitEnd, .int v_why, .int v_madeSize, .ref m_made, .ref m_length, .int v_firstCount, .int v_secondCount, .int v_heldBits, .int v_heldCount, .int v_pressedSize, .ref m_pressed, .int v_at, .int v_bad, .int v_markSize, .ref m_mark, .int v_relationCount, .ref m_idSize, .ref m_ids, .ref m_goalSize, .ref m_goals, .int v_valueSize, .ref m_value, .int v_faultCount, .ref m_faults, .ref m_reached])), (m_faults, .inl (G.2.2.1, 6000, .inl a_faults))]) ?_
  have zl0 : (0 : Int32).toInt = 0 := by decide
  have zl1 : (1 : Int32).toInt = 1 := by decide
  have zl3 : (3 : Int32).toInt = 3 := by decide
  have hJ30_1 : ∀ (th_ : Int32), (0 ≤ th_.toInt) → (th_.toInt = 0 → 0 ≤ k.toInt ∧ k.toInt < v_faultCount.toInt ∧ 0 ≤ w.toInt ∧ w.toInt ≤ 2) → pb_P l G M i_Mod_fault 30 [(0, .ref h), (1, .int k), (2, .int w)] [] [(h, .inr (10, [.ref m_rels, .ref m_openRels, .ref m_closeRels, .ref m_openRel, .ref m_closeRel, .ref m_comment, .ref m_ends, .ref m_order, .int th_, .int v_taped, .ref m_tape, .ref m_count, .ref m_nameSize, .ref m_names, .ref m_size, .ref m_data, .int v_lookedSize, .ref m_looked, .int v_fileSize, .ref m_file, .int v_directorySize, .ref m_directory, .int v_outSize, .ref m_out, .int v_rowSize, .ref m_row, .int v_bitAt, .int v_bitEnd, .int v_why, .int v_madeSize, .ref m_made, .ref m_length, .int v_firstCount, .int v_secondCount, .int v_heldBits, .int v_heldCount, .int v_pressedSize, .ref m_pressed, .int v_at, .int v_bad, .int v_markSize, .ref m_mark, .int v_relationCount, .ref m_idSize, .ref m_ids, .ref m_goalSize, .ref m_goals, .int v_valueSize, .ref m_value, .int v_faultCount, .ref m_faults, .ref m_reached])), (m_faults, .inl (G.2.2.1, 6000, .inl a_faults))] 0 0 := by
    intro th_ j0 j1
    refine pb_aload_n (pc := 30) d_Mod_fault_30 0 rfl rfl ?_
    refine pb_get (pc := 31) d_Mod_fault_31 0 8 rfl rfl (by decide) in_Mod k_1154 rfl ?_
    refine pb_if_le (pc := 34) (tgt := 41) d_Mod_fault_34 (by decide) (fun wx2 => ?_) (fun wx2 => ?_)
    · have twx2 : th_.toInt ≤ 0 := (ti_le rfl (by decide)).mp wx2
      refine pb_aload_n (pc := 41) d_Mod_fault_41 0 rfl rfl ?_
      refine pb_get (pc := 42) d_Mod_fault_42 0 50 rfl rfl (by decide) in_Mod k_1196 rfl ?_
      refine pb_iconst (pc := 45) (v := 3) d_Mod_fault_45 (by decide) ?_
      refine pb_iload_n (pc := 46) d_Mod_fault_46 1 rfl rfl ?_
      refine pb_imul (pc := 47) d_Mod_fault_47 ?_
      refine pb_topi (fun ix3 eix3 => ?_)
      try have tix3 : ix3.toInt = 3 * k.toInt := ti_mul eix3 (by decide) rfl (by omega) (by omega)
      refine pb_iload_n (pc := 48) d_Mod_fault_48 2 rfl rfl ?_
      refine pb_iadd (pc := 49) d_Mod_fault_49 ?_
      refine pb_topi (fun ix4 eix4 => ?_)
      try have tix4 : ix4.toInt = ix3.toInt + w.toInt := t2_add eix4 rfl rfl (by omega)
      refine pb_iald (pc := 50) d_Mod_fault_50 1 rfl (vp_in_iff.mpr (by omega)) ?_
      refine pb_topi (fun ix5 eix5 => ?_)
      have tix5 : ix5.toInt = gx a_faults (ix4.toInt) := gx_ld eix5 rfl
      exact pb_iret (pc := 51) hQ d_Mod_fault_51 rfl rfl (ix5, th_) rfl [0, 1] (by decide) rfl rfl (by decide) (by decide)
    · have twx2 : ¬ th_.toInt ≤ 0 := fun z9 => wx2 ((ti_le rfl (by decide)).mpr z9)
      refine pb_iconst (pc := 37) (v := 0) d_Mod_fault_37 (by decide) ?_
      refine pb_goto (pc := 38) (tgt := 51) d_Mod_fault_38 (by decide) ?_
      exact pb_iret (pc := 51) hQ d_Mod_fault_51 rfl rfl (0, th_) rfl [0, 1] (by decide) rfl rfl (by decide) (by decide)
  refine pb_aload_n (pc := 0) d_Mod_fault_0 0 rfl rfl ?_
  refine pb_iload_n (pc := 1) d_Mod_fault_1 1 rfl rfl ?_
  refine pb_if_lt (pc := 2) (tgt := 22) d_Mod_fault_2 (by decide) (fun wx6 => ?_) (fun wx6 => ?_)
  · have twx6 : k.toInt < 0 := (ti_lt rfl (by decide)).mp wx6
    refine pb_iconst (pc := 22) (v := 1) d_Mod_fault_22 (by decide) ?_
    refine pb_goto (pc := 23) (tgt := 27) d_Mod_fault_23 (by decide) ?_
    refine pb_put (pc := 27) (ty := .int) (ws' := [(h, .inr (10, [.ref m_rels, .ref m_openRels, .ref m_closeRels, .ref m_openRel, .ref m_closeRel, .ref m_comment, .ref m_ends, .ref m_order, .int 1, .int v_taped, .ref m_tape, .ref m_count, .ref m_nameSize, .ref m_names, .ref m_size, .ref m_data, .int v_lookedSize, .ref m_looked, .int v_fileSize, .ref m_file, .int v_directorySize, .ref m_directory, .int v_outSize, .ref m_out, .int v_rowSize, .ref m_row, .int v_bitAt, .int v_bitEnd, .int v_why, .int v_madeSize, .ref m_made, .ref m_length, .int v_firstCount, .int v_secondCount, .int v_heldBits, .int v_heldCount, .int v_pressedSize, .ref m_pressed, .int v_at, .int v_bad, .int v_markSize, .ref m_mark, .int v_relationCount, .ref m_idSize, .ref m_ids, .ref m_goalSize, .ref m_goals, .int v_valueSize, .ref m_value, .int v_faultCount, .ref m_faults, .ref m_reached])), (m_faults, .inl (G.2.2.1, 6000, .inl a_faults))]) d_Mod_fault_27 0 8 t_Mod t_Mod_ok n_Mod rfl rfl (by decide) in_Mod k_1154 rfl (by decide +kernel) rfl rfl (Nat.le_of_ble_eq_true rfl) rfl ?_
    exact hJ30_1 1 (by first | (with_reducible assumption) | omega (splitDisjunctions := false) | assumption | omega | decide) (by first | (with_reducible assumption) | omega (splitDisjunctions := false) | assumption | omega | decide)
  · have twx6 : ¬ k.toInt < 0 := fun z9 => wx6 ((ti_lt rfl (by decide)).mpr z9)
    refine pb_iload_n (pc := 5) d_Mod_fault_5 1 rfl rfl ?_
    refine pb_aload_n (pc := 6) d_Mod_fault_6 0 rfl rfl ?_
    refine pb_get (pc := 7) d_Mod_fault_7 0 49 rfl rfl (by decide) in_Mod k_1195 rfl ?_
    refine pb_icmp_ge (pc := 10) (tgt := 22) d_Mod_fault_10 (by decide) (fun wx7 => ?_) (fun wx7 => ?_)
    · have twx7 : v_faultCount.toInt ≤ k.toInt := (ti_le rfl rfl).mp wx7
      refine pb_iconst (pc := 22) (v := 1) d_Mod_fault_22 (by decide) ?_
      refine pb_goto (pc := 23) (tgt := 27) d_Mod_fault_23 (by decide) ?_
      refine pb_put (pc := 27) (ty := .int) (ws' := [(h, .inr (10, [.ref m_rels, .ref m_openRels, .ref m_closeRels, .ref m_openRel, .ref m_closeRel, .ref m_comment, .ref m_ends, .ref m_order, .int 1, .int v_taped, .ref m_tape, .ref m_count, .ref m_nameSize, .ref m_names, .ref m_size, .ref m_data, .int v_lookedSize, .ref m_looked, .int v_fileSize, .ref m_file, .int v_directorySize, .ref m_directory, .int v_outSize, .ref m_out, .int v_rowSize, .ref m_row, .int v_bitAt, .int v_bitEnd, .int v_why, .int v_madeSize, .ref m_made, .ref m_length, .int v_firstCount, .int v_secondCount, .int v_heldBits, .int v_heldCount, .int v_pressedSize, .ref m_pressed, .int v_at, .int v_bad, .int v_markSize, .ref m_mark, .int v_relationCount, .ref m_idSize, .ref m_ids, .ref m_goalSize, .ref m_goals, .int v_valueSize, .ref m_value, .int v_faultCount, .ref m_faults, .ref m_reached])), (m_faults, .inl (G.2.2.1, 6000, .inl a_faults))]) d_Mod_fault_27 0 8 t_Mod t_Mod_ok n_Mod rfl rfl (by decide) in_Mod k_1154 rfl (by decide +kernel) rfl rfl (Nat.le_of_ble_eq_true rfl) rfl ?_
      exact hJ30_1 1 (by first | (with_reducible assumption) | omega (splitDisjunctions := false) | assumption | omega | decide) (by first | (with_reducible assumption) | omega (splitDisjunctions := false) | assumption | omega | decide)
    · have twx7 : ¬ v_faultCount.toInt ≤ k.toInt := fun z9 => wx7 ((ti_le rfl rfl).mpr z9)
      refine pb_iload_n (pc := 13) d_Mod_fault_13 2 rfl rfl ?_
      refine pb_if_lt (pc := 14) (tgt := 22) d_Mod_fault_14 (by decide) (fun wx8 => ?_) (fun wx8 => ?_)
      · have twx8 : w.toInt < 0 := (ti_lt rfl (by decide)).mp wx8
        refine pb_iconst (pc := 22) (v := 1) d_Mod_fault_22 (by decide) ?_
        refine pb_goto (pc := 23) (tgt := 27) d_Mod_fault_23 (by decide) ?_
        refine pb_put (pc := 27) (ty := .int) (ws' := [(h, .inr (10, [.ref m_rels, .ref m_openRels, .ref m_closeRels, .ref m_openRel, .ref m_closeRel, .ref m_comment, .ref m_ends, .ref m_order, .int 1, .int v_taped, .ref m_tape, .ref m_count, .ref m_nameSize, .ref m_names, .ref m_size, .ref m_data, .int v_lookedSize, .ref m_looked, .int v_fileSize, .ref m_file, .int v_directorySize, .ref m_directory, .int v_outSize, .ref m_out, .int v_rowSize, .ref m_row, .int v_bitAt, .int v_bitEnd, .int v_why, .int v_madeSize, .ref m_made, .ref m_length, .int v_firstCount, .int v_secondCount, .int v_heldBits, .int v_heldCount, .int v_pressedSize, .ref m_pressed, .int v_at, .int v_bad, .int v_markSize, .ref m_mark, .int v_relationCount, .ref m_idSize, .ref m_ids, .ref m_goalSize, .ref m_goals, .int v_valueSize, .ref m_value, .int v_faultCount, .ref m_faults, .ref m_reached])), (m_faults, .inl (G.2.2.1, 6000, .inl a_faults))]) d_Mod_fault_27 0 8 t_Mod t_Mod_ok n_Mod rfl rfl (by decide) in_Mod k_1154 rfl (by decide +kernel) rfl rfl (Nat.le_of_ble_eq_true rfl) rfl ?_
        exact hJ30_1 1 (by first | (with_reducible assumption) | omega (splitDisjunctions := false) | assumption | omega | decide) (by first | (with_reducible assumption) | omega (splitDisjunctions := false) | assumption | omega | decide)
      · have twx8 : ¬ w.toInt < 0 := fun z9 => wx8 ((ti_lt rfl (by decide)).mpr z9)
        refine pb_iload_n (pc := 17) d_Mod_fault_17 2 rfl rfl ?_
        refine pb_iconst (pc := 18) (v := 2) d_Mod_fault_18 (by decide) ?_
        refine pb_icmp_le (pc := 19) (tgt := 26) d_Mod_fault_19 (by decide) (fun wx9 => ?_) (fun wx9 => ?_)
        · have twx9 : w.toInt ≤ 2 := (ti_le rfl (by decide)).mp wx9
          refine pb_iconst (pc := 26) (v := 0) d_Mod_fault_26 (by decide) ?_
          refine pb_put (pc := 27) (ty := .int) (ws' := [(h, .inr (10, [.ref m_rels, .ref m_openRels, .ref m_closeRels, .ref m_openRel, .ref m_closeRel, .ref m_comment, .ref m_ends, .ref m_order, .int 0, .int v_taped, .ref m_tape, .ref m_count, .ref m_nameSize, .ref m_names, .ref m_size, .ref m_data, .int v_lookedSize, .ref m_looked, .int v_fileSize, .ref m_file, .int v_directorySize, .ref m_directory, .int v_outSize, .ref m_out, .int v_rowSize, .ref m_row, .int v_bitAt, .int v_bitEnd, .int v_why, .int v_madeSize, .ref m_made, .ref m_length, .int v_firstCount, .int v_secondCount, .int v_heldBits, .int v_heldCount, .int v_pressedSize, .ref m_pressed, .int v_at, .int v_bad, .int v_markSize, .ref m_mark, .int v_relationCount, .ref m_idSize, .ref m_ids, .ref m_goalSize, .ref m_goals, .int v_valueSize, .ref m_value, .int v_faultCount, .ref m_faults, .ref m_reached])), (m_faults, .inl (G.2.2.1, 6000, .inl a_faults))]) d_Mod_fault_27 0 8 t_Mod t_Mod_ok n_Mod rfl rfl (by decide) in_Mod k_1154 rfl (by decide +kernel) rfl rfl (Nat.le_of_ble_eq_true rfl) rfl ?_
          exact hJ30_1 0 (by first | (with_reducible assumption) | omega (splitDisjunctions := false) | assumption | omega | decide) (by first | (with_reducible assumption) | omega (splitDisjunctions := false) | assumption | omega | decide)
        · have twx9 : ¬ w.toInt ≤ 2 := fun z9 => wx9 ((ti_le rfl (by decide)).mpr z9)
          refine pb_iconst (pc := 22) (v := 1) d_Mod_fault_22 (by decide) ?_
          refine pb_goto (pc := 23) (tgt := 27) d_Mod_fault_23 (by decide) ?_
          refine pb_put (pc := 27) (ty := .int) (ws' := [(h, .inr (10, [.ref m_rels, .ref m_openRels, .ref m_closeRels, .ref m_openRel, .ref m_closeRel, .ref m_comment, .ref m_ends, .ref m_order, .int 1, .int v_taped, .ref m_tape, .ref m_count, .ref m_nameSize, .ref m_names, .ref m_size, .ref m_data, .int v_lookedSize, .ref m_looked, .int v_fileSize, .ref m_file, .int v_directorySize, .ref m_directory, .int v_outSize, .ref m_out, .int v_rowSize, .ref m_row, .int v_bitAt, .int v_bitEnd, .int v_why, .int v_madeSize, .ref m_made, .ref m_length, .int v_firstCount, .int v_secondCount, .int v_heldBits, .int v_heldCount, .int v_pressedSize, .ref m_pressed, .int v_at, .int v_bad, .int v_markSize, .ref m_mark, .int v_relationCount, .ref m_idSize, .ref m_ids, .ref m_goalSize, .ref m_goals, .int v_valueSize, .ref m_value, .int v_faultCount, .ref m_faults, .ref m_reached])), (m_faults, .inl (G.2.2.1, 6000, .inl a_faults))]) d_Mod_fault_27 0 8 t_Mod t_Mod_ok n_Mod rfl rfl (by decide) in_Mod k_1154 rfl (by decide +kernel) rfl rfl (Nat.le_of_ble_eq_true rfl) rfl ?_
          exact hJ30_1 1 (by first | (with_reducible assumption) | omega (splitDisjunctions := false) | assumption | omega | decide) (by first | (with_reducible assumption) | omega (splitDisjunctions := false) | assumption | omega | decide)

theorem d_Mod_relations_0 : decode prog_12_method_90_code 0 = .ok (.aload_n 0, 1) := by decide +kernel
theorem d_Mod_relations_1 : decode prog_12_method_90_code 1 = .ok (.iload_n 1, 1) := by decide +kernel
theorem d_Mod_relations_2 : decode prog_12_method_90_code 2 = .ok (.ifCond .lt 13, 3) := by decide +kernel
theorem d_Mod_relations_15 : decode prog_12_method_90_code 15 = .ok (.iconst 1, 1) := by decide +kernel
theorem d_Mod_relations_16 : decode prog_12_method_90_code 16 = .ok (.goto 4, 3) := by decide +kernel
theorem d_Mod_relations_20 : decode prog_12_method_90_code 20 = .ok (.putfield 103, 3) := by decide +kernel
theorem d_Mod_relations_23 : decode prog_12_method_90_code 23 = .ok (.aload_n 0, 1) := by decide +kernel
theorem d_Mod_relations_24 : decode prog_12_method_90_code 24 = .ok (.getfield 103, 3) := by decide +kernel
theorem d_Mod_relations_27 : decode prog_12_method_90_code 27 = .ok (.ifCond .le 5, 3) := by decide +kernel
theorem d_Mod_relations_30 : decode prog_12_method_90_code 30 = .ok (.iconst 0, 1) := by decide +kernel
theorem d_Mod_relations_31 : decode prog_12_method_90_code 31 = .ok (.ireturn, 1) := by decide +kernel
theorem d_Mod_relations_5 : decode prog_12_method_90_code 5 = .ok (.iload_n 1, 1) := by decide +kernel
theorem d_Mod_relations_6 : decode prog_12_method_90_code 6 = .ok (.aload_n 0, 1) := by decide +kernel
theorem d_Mod_relations_7 : decode prog_12_method_90_code 7 = .ok (.getfield 37, 3) := by decide +kernel
theorem d_Mod_relations_10 : decode prog_12_method_90_code 10 = .ok (.iconst 0, 1) := by decide +kernel
theorem d_Mod_relations_11 : decode prog_12_method_90_code 11 = .ok (.iaload, 1) := by decide +kernel
theorem d_Mod_relations_12 : decode prog_12_method_90_code 12 = .ok (.if_icmp .lt 7, 3) := by decide +kernel
theorem d_Mod_relations_19 : decode prog_12_method_90_code 19 = .ok (.iconst 0, 1) := by decide +kernel
theorem d_Mod_relations_32 : decode prog_12_method_90_code 32 = .ok (.aload_n 0, 1) := by decide +kernel
theorem d_Mod_relations_33 : decode prog_12_method_90_code 33 = .ok (.iload_n 1, 1) := by decide +kernel
theorem d_Mod_relations_34 : decode prog_12_method_90_code 34 = .ok (.invokevirtual 413, 3) := by decide +kernel
theorem d_Mod_relations_37 : decode prog_12_method_90_code 37 = .ok (.ifCond .eq 10, 3) := by decide +kernel
theorem d_Mod_relations_47 : decode prog_12_method_90_code 47 = .ok (.iconst (-1), 1) := by decide +kernel
theorem d_Mod_relations_48 : decode prog_12_method_90_code 48 = .ok (.ireturn, 1) := by decide +kernel
theorem d_Mod_relations_40 : decode prog_12_method_90_code 40 = .ok (.aload_n 0, 1) := by decide +kernel
theorem d_Mod_relations_41 : decode prog_12_method_90_code 41 = .ok (.getfield 389, 3) := by decide +kernel
theorem d_Mod_relations_44 : decode prog_12_method_90_code 44 = .ok (.goto 4, 3) := by decide +kernel
abbrev y_Mod_relations : MethodName := ⟨"PackageBookModel", "relations", "(I)I"⟩
abbrev i_Mod_relations : pb_I := (y_Mod_relations, prog_12_method_90_code, 2, (some Jvm.ClassFile.FieldType.int), [], { frames := 8, cells := 0, slots := 0, locals := 177 })
set_option maxRecDepth 100000 in
set_option maxHeartbeats 4000000 in
theorem g_Mod_relations {l : Launch} (hl : l.stackTraces = false) (G : pb_G) (h : Nat) (m_rels : Nat) (m_openRels : Nat) (m_closeRels : Nat) (m_openRel : Nat) (m_closeRel : Nat) (m_comment : Nat) (m_ends : Nat) (m_order : Nat) (m_tape : Nat) (m_count : Nat) (m_nameSize : Nat) (m_names : Nat) (m_size : Nat) (m_data : Nat) (m_looked : Nat) (m_file : Nat) (m_directory : Nat) (m_out : Nat) (m_row : Nat) (m_made : Nat) (m_length : Nat) (m_pressed : Nat) (m_mark : Nat) (m_idSize : Nat) (m_ids : Nat) (m_goalSize : Nat) (m_goals : Nat) (m_value : Nat) (m_faults : Nat) (m_reached : Nat) (v_thrown : Int32) (v_taped : Int32) (v_lookedSize : Int32) (v_fileSize : Int32) (v_directorySize : Int32) (v_outSize : Int32) (v_rowSize : Int32) (v_bitAt : Int32) (v_bitEnd : Int32) (v_why : Int32) (v_madeSize : Int32) (v_firstCount : Int32) (v_secondCount : Int32) (v_heldBits : Int32) (v_heldCount : Int32) (v_pressedSize : Int32) (v_at : Int32) (v_bad : Int32) (v_markSize : Int32) (v_relationCount : Int32) (v_valueSize : Int32) (v_faultCount : Int32) (a_mark : Nat → Int32) (a_value : Nat → Int32) (a_ids : Nat → Int32) (a_goals : Nat → Int32) (a_idSize : Nat → Int32) (a_goalSize : Nat → Int32) (a_openRel : Nat → Int32) (a_closeRel : Nat → Int32) (a_ends : Nat → Int32) (a_comment : Nat → Int32) (a_openRels : Nat → Int32) (a_closeRels : Nat → Int32) (a_size : Nat → Int32) (a_data : Nat → Int32) (a_names : Nat → Int32) (a_nameSize : Nat → Int32) (a_rels : Nat → Int32) (a_count : Nat → Int32) (a_looked : Nat → Int32) (i : Int32) (vs0 : 0 ≤ v_valueSize.toInt) (vs1 : v_valueSize.toInt ≤ 4000) (ID : ∀ x : Int, 0 ≤ x → x < 200 → 0 ≤ gx a_idSize x ∧ gx a_idSize x ≤ 8) (GO : ∀ x : Int, 0 ≤ x → x < 200 → 0 ≤ gx a_goalSize x ∧ gx a_goalSize x ≤ 24) (C_openRel : ∀ x : Int, 0 ≤ x → x < 4 → 0 ≤ gx a_openRel x) (C_closeRel : ∀ x : Int, 0 ≤ x → x < 5 → 0 ≤ gx a_closeRel x) (C_ends : ∀ x : Int, 0 ≤ x → x < 2 → 0 ≤ gx a_ends x) (C_comment : ∀ x : Int, 0 ≤ x → x < 4 → 0 ≤ gx a_comment x) (C6_openRel : ∀ x : Int, 0 ≤ x → x < 4 → gx a_openRel x = tE_ x) (C6_closeRel : ∀ x : Int, 0 ≤ x → x < 5 → gx a_closeRel x = tF_ x) (C6_ends : ∀ x : Int, 0 ≤ x → x < 2 → gx a_ends x = tG_ x) (C6_comment : ∀ x : Int, 0 ≤ x → x < 4 → gx a_comment x = tC_ x) (C_openRels : ∀ x : Int, 0 ≤ x → x < 5 → 0 ≤ gx a_openRels x) (C_closeRels : ∀ x : Int, 0 ≤ x → x < 6 → 0 ≤ gx a_closeRels x) (C6_openRels : ∀ x : Int, 0 ≤ x → x < 5 → gx a_openRels x = tH_ x) (C6_closeRels : ∀ x : Int, 0 ≤ x → x < 6 → gx a_closeRels x = tI_ x) (I : ms_I 0 (gx a_count 0) a_nameSize a_size a_names) (y0 : 0 ≤ v_lookedSize.toInt) (y1 : v_lookedSize.toInt ≤ 8000) (C6_rels : ∀ x : Int, 0 ≤ x → x < 5 → gx a_rels x = tr_ x) (u0_ : 0 ≤ v_relationCount.toInt) (u1_ : v_relationCount.toInt ≤ 200) (u2_ : v_bad.toInt = 0 ∨ v_bad.toInt = 1) (F_a_mark : sb_Fit a_mark) (F_a_value : sb_Fit a_value) (F_a_ids : sb_Fit a_ids) (F_a_goals : sb_Fit a_goals) (F_a_openRel : sb_Fit a_openRel) (F_a_closeRel : sb_Fit a_closeRel) (F_a_ends : sb_Fit a_ends) (F_a_comment : sb_Fit a_comment) (F_a_openRels : sb_Fit a_openRels) (F_a_closeRels : sb_Fit a_closeRels) (F_a_data : sb_Fit a_data) (F_a_names : sb_Fit a_names) (F_a_rels : sb_Fit a_rels) (F_a_looked : sb_Fit a_looked) : Cn l G i_Mod_relations [.ref h, .int i] [(h, .inr (10, [.ref m_rels, .ref m_openRels, .ref m_closeRels, .ref m_openRel, .ref m_closeRel, .ref m_comment, .ref m_ends, .ref m_order, .int v_thrown, .int v_taped, .ref m_tape, .ref m_count, .ref m_nameSize, .ref m_names, .ref m_size, .ref m_data, .int v_lookedSize, .ref m_looked, .int v_fileSize, .ref m_file, .int v_directorySize, .ref m_directory, .int v_outSize, .ref m_out, .int v_rowSize, .ref m_row, .int v_bitAt, .int v_bitEnd, .int v_why, .int v_madeSize, .ref m_made, .ref m_length, .int v_firstCount, .int v_secondCount, .int v_heldBits, .int v_heldCount, .int v_pressedSize, .ref m_pressed, .int v_at, .int v_bad, .int v_markSize, .ref m_mark, .int v_relationCount, .ref m_idSize, .ref m_ids, .ref m_goalSize, .ref m_goals, .int v_valueSize, .ref m_value, .int v_faultCount, .ref m_faults, .ref m_reached])), (m_mark, .inl (G.2.1, 4000, .inl a_mark)), (m_value, .inl (G.2.1, 4000, .inl a_value)), (m_ids, .inl (G.2.1, 1600, .inl a_ids)), (m_goals, .inl (G.2.1, 4800, .inl a_goals)), (m_idSize, .inl (G.2.2.1, 200, .inl a_idSize)), (m_goalSize, .inl (G.2.2.1, 200, .inl a_goalSize)), (m_openRel, .inl (G.2.1, 4, .inl a_openRel)), (m_closeRel, .inl (G.2.1, 5, .inl a_closeRel)), (m_ends, .inl (G.2.1, 2, .inl a_ends)), (m_comment, .inl (G.2.1, 4, .inl a_comment)), (m_openRels, .inl (G.2.1, 5, .inl a_openRels)), (m_closeRels, .inl (G.2.1, 6, .inl a_closeRels)), (m_size, .inl (G.2.2.1, 34, .inl a_size)), (m_data, .inl (G.2.1, 136000, .inl a_data)), (m_names, .inl (G.2.1, 816, .inl a_names)), (m_nameSize, .inl (G.2.2.1, 34, .inl a_nameSize)), (m_rels, .inl (G.2.1, 5, .inl a_rels)), (m_count, .inl (G.2.2.1, 2, .inl a_count)), (m_looked, .inl (G.2.1, 40, .inl a_looked))] (S := Int32 × Int32 × Int32 × Int32 × Int32 × Int32 × Int32 × (Nat → Int32) × (Nat → Int32) × Int32 × (Nat → Int32) × (Nat → Int32) × (Nat → Int32) × (Nat → Int32) × (Nat → Int32)) (fun rv_ u => rv_ = some (.int u.1) ∧ (0 ≤ u.2.2.2.2.2.1.toInt) ∧ (u.2.2.2.2.2.1.toInt ≤ 200) ∧ (u.2.2.2.1.toInt = 0 ∨ u.2.2.2.1.toInt = 1) ∧ (0 ≤ u.2.2.2.2.2.2.2.2.2.1.toInt) ∧ (u.2.2.2.2.2.2.2.2.2.1.toInt ≤ 4000) ∧ (∀ x : Int, 0 ≤ x → x < 200 → 0 ≤ gx u.2.2.2.2.2.2.2.2.2.2.2.2.2.1 x ∧ gx u.2.2.2.2.2.2.2.2.2.2.2.2.2.1 x ≤ 8) ∧ (∀ x : Int, 0 ≤ x → x < 200 → 0 ≤ gx u.2.2.2.2.2.2.2.2.2.2.2.2.2.2 x ∧ gx u.2.2.2.2.2.2.2.2.2.2.2.2.2.2 x ≤ 24) ∧ (0 ≤ u.2.2.2.2.2.2.1.toInt) ∧ (u.2.2.2.2.2.2.1.toInt ≤ 8000) ∧ (u.2.1.toInt = 0 ∨ u.2.1.toInt = 1) ∧ (u.2.1.toInt = 1 → ¬ (0 ≤ i.toInt ∧ i.toInt < gx a_count 0)) ∧ (u.2.1.toInt = 0 → (0 ≤ i.toInt ∧ i.toInt < gx a_count 0) ∧ hid_ (∃ t : Int, isF_ (cN_ (gx a_count 0) a_names a_nameSize) (gx a_nameSize i.toInt + 5) (tn6_ (cN_ (gx a_count 0) a_names a_nameSize) i.toInt) t ∧ u.1.toInt = nl6_ (tT6_ t (mk_ (fun j => gr a_data (4000 * t + j)) (gx a_size t))))) ∧ (sb_Fit u.2.2.2.2.2.2.2.1) ∧ (sb_Fit u.2.2.2.2.2.2.2.2.1) ∧ (sb_Fit u.2.2.2.2.2.2.2.2.2.2.1) ∧ (sb_Fit u.2.2.2.2.2.2.2.2.2.2.2.1) ∧ (sb_Fit u.2.2.2.2.2.2.2.2.2.2.2.2.1)) (fun u => [(h, .inr (10, [.ref m_rels, .ref m_openRels, .ref m_closeRels, .ref m_openRel, .ref m_closeRel, .ref m_comment, .ref m_ends, .ref m_order, .int u.2.1, .int v_taped, .ref m_tape, .ref m_count, .ref m_nameSize, .ref m_names, .ref m_size, .ref m_data, .int u.2.2.2.2.2.2.1, .ref m_looked, .int v_fileSize, .ref m_file, .int v_directorySize, .ref m_directory, .int v_outSize, .ref m_out, .int v_rowSize, .ref m_row, .int v_bitAt, .int v_bitEnd, .int v_why, .int v_madeSize, .ref m_made, .ref m_length, .int v_firstCount, .int v_secondCount, .int v_heldBits, .int v_heldCount, .int v_pressedSize, .ref m_pressed, .int u.2.2.1, .int u.2.2.2.1, .int u.2.2.2.2.1, .ref m_mark, .int u.2.2.2.2.2.1, .ref m_idSize, .ref m_ids, .ref m_goalSize, .ref m_goals, .int u.2.2.2.2.2.2.2.2.2.1, .ref m_value, .int v_faultCount, .ref m_faults, .ref m_reached])), (m_mark, .inl (G.2.1, 4000, .inl u.2.2.2.2.2.2.2.1)), (m_value, .inl (G.2.1, 4000, .inl u.2.2.2.2.2.2.2.2.2.2.1)), (m_ids, .inl (G.2.1, 1600, .inl u.2.2.2.2.2.2.2.2.2.2.2.1)), (m_goals, .inl (G.2.1, 4800, .inl u.2.2.2.2.2.2.2.2.2.2.2.2.1)), (m_idSize, .inl (G.2.2.1, 200, .inl u.2.2.2.2.2.2.2.2.2.2.2.2.2.1)), (m_goalSize, .inl (G.2.2.1, 200, .inl u.2.2.2.2.2.2.2.2.2.2.2.2.2.2)), (m_openRel, .inl (G.2.1, 4, .inl a_openRel)), (m_closeRel, .inl (G.2.1, 5, .inl a_closeRel)), (m_ends, .inl (G.2.1, 2, .inl a_ends)), (m_comment, .inl (G.2.1, 4, .inl a_comment)), (m_openRels, .inl (G.2.1, 5, .inl a_openRels)), (m_closeRels, .inl (G.2.1, 6, .inl a_closeRels)), (m_size, .inl (G.2.2.1, 34, .inl a_size)), (m_data, .inl (G.2.1, 136000, .inl a_data)), (m_names, .inl (G.2.1, 816, .inl a_names)), (m_nameSize, .inl (G.2.2.1, 34, .inl a_nameSize)), (m_rels, .inl (G.2.1, 5, .inl a_rels)), (m_count, .inl (G.2.2.1, 2, .inl a_count)), (m_looked, .inl (G.2.1, 40, .inl u.2.2.2.2.2.2.2.2.1))]) := by
  refine Cn.of hl (by decide +kernel) rfl (Nat.le_of_ble_eq_true rfl) (fun M hQ => ?_)
  refine pb_eq (pc' := 0) (lo' := [(0, .ref h), (1, .int i)]) (rest' := []) (ws' := [(h, .inr (10, [.ref m_rels, .ref m_openRels, .ref m_closeRels, .ref m_openRel, .ref m_closeRel, .ref m_comment, .ref m_ends, .ref m_order, .int v_thrown, .int v_taped, .ref m_tape, .ref m_count, .ref m_nameSize, .ref m_names, .ref m_size, .ref m_data, .int v_lookedSize, .ref m_looked, .int v_fileSize, .ref m_file, .int v_directorySize, .ref m_directory, .int v_outSize, .ref m_out, .int v_rowSize, .ref m_row, .int v_bitAt, .int v_bitEnd, .int v_why, .int v_madeSize, .ref m_made, .ref m_length, .int v_firstCount, .int v_secondCount, .int v_heldBits, .int v_heldCount, .int v_pressedSize, .ref m_pressed, .int v_at, .int v_bad, .int v_markSize, .ref m_mark, .int v_relationCount, .ref m_idSize, .ref m_ids, .ref m_goalSize, .ref m_goals, .int v_valueSize, .ref m_value, .int v_faultCount, .ref m_faults, .ref m_reached])), (m_mark, .inl (G.2.1, 4000, .inl a_mark)), (m_value, .inl (G.2.1, 4000, .inl a_value)), (m_ids, .inl (G.2.1, 1600, .inl a_ids)), (m_goals, .inl (G.2.1, 4800, .inl a_goals)), (m_idSize, .inl (G.2.2.1, 200, .inl a_idSize)), (m_goalSize, .inl (G.2.2.1, 200, .inl a_goalSize)), (m_openRel, .inl (G.2.1, 4, .inl a_openRel)), (m_closeRel, .inl (G.2.1, 5, .inl a_closeRel)), (m_ends, .inl (G.2.1, 2, .inl a_ends)), (m_comment, .inl (G.2.1, 4, .inl a_comment)), (m_openRels, .inl (G.2.1, 5, .inl a_openRels)), (m_closeRels, .inl (G.2.1, 6, .inl a_closeRels)), (m_size, .inl (G.2.2.1, 34, .inl a_size)), (m_data, .inl (G.2.1, 136000, .inl a_data)), (m_names, .inl (G.2.1, 816, .inl a_names)), (m_nameSize, .inl (G.2.2.1, 34, .inl a_nameSize)), (m_rels, .inl (G.2.1, 5, .inl a_rels)), (m_count, .inl (G.2.2.1, 2, .inl a_count)), (m_looked, .inl (G.2.1, 40, .inl a_looked))]) ?_
  have zm1 : ((-1) : Int32).toInt = (-1) := by decide
  have zl0 : (0 : Int32).toInt = 0 := by decide
  have zl1 : (1 : Int32).toInt = 1 := by decide
  have w0 := I.1
  have w1 := I.2.1
  refine pb_aload_n (pc := 0) d_Mod_relations_0 0 rfl rfl ?_
  refine pb_iload_n (pc := 1) d_Mod_relations_1 1 rfl rfl ?_
  refine pb_if_lt (pc := 2) (tgt := 15) d_Mod_relations_2 (by decide) (fun wx1 => ?_) (fun wx1 => ?_)
  · have twx1 : i.toInt < 0 := (ti_lt rfl (by decide)).mp wx1
    refine pb_iconst (pc := 15) (v := 1) d_Mod_relations_15 (by decide) ?_
    refine pb_goto (pc := 16) (tgt := 20) d_Mod_relations_16 (by decide) ?_
    refine pb_put (pc := 20) (ty := .int) (ws' := [(h, .inr (10, [.ref m_rels, .ref m_openRels, .ref m_closeRels, .ref m_openRel, .ref m_closeRel, .ref m_comment, .ref m_ends, .ref m_order, .int 1, .int v_taped, .ref m_tape, .ref m_count, .ref m_nameSize, .ref m_names, .ref m_size, .ref m_data, .int v_lookedSize, .ref m_looked, .int v_fileSize, .ref m_file, .int v_directorySize, .ref m_directory, .int v_outSize, .ref m_out, .int v_rowSize, .ref m_row, .int v_bitAt, .int v_bitEnd, .int v_why, .int v_madeSize, .ref m_made, .ref m_length, .int v_firstCount, .int v_secondCount, .int v_heldBits, .int v_heldCount, .int v_pressedSize, .ref m_pressed, .int v_at, .int v_bad, .int v_markSize, .ref m_mark, .int v_relationCount, .ref m_idSize, .ref m_ids, .ref m_goalSize, .ref m_goals, .int v_valueSize, .ref m_value, .int v_faultCount, .ref m_faults, .ref m_reached])), (m_mark, .inl (G.2.1, 4000, .inl a_mark)), (m_value, .inl (G.2.1, 4000, .inl a_value)), (m_ids, .inl (G.2.1, 1600, .inl a_ids)), (m_goals, .inl (G.2.1, 4800, .inl a_goals)), (m_idSize, .inl (G.2.2.1, 200, .inl a_idSize)), (m_goalSize, .inl (G.2.2.1, 200, .inl a_goalSize)), (m_openRel, .inl (G.2.1, 4, .inl a_openRel)), (m_closeRel, .inl (G.2.1, 5, .inl a_closeRel)), (m_ends, .inl (G.2.1, 2, .inl a_ends)), (m_comment, .inl (G.2.1, 4, .inl a_comment)), (m_openRels, .inl (G.2.1, 5, .inl a_openRels)), (m_closeRels, .inl (G.2.1, 6, .inl a_closeRels)), (m_size, .inl (G.2.2.1, 34, .inl a_size)), (m_data, .inl (G.2.1, 136000, .inl a_data)), (m_names, .inl (G.2.1, 816, .inl a_names)), (m_nameSize, .inl (G.2.2.1, 34, .inl a_nameSize)), (m_rels, .inl (G.2.1, 5, .inl a_rels)), (m_count, .inl (G.2.2.1, 2, .inl a_count)), (m_looked, .inl (G.2.1, 40, .inl a_looked))]) d_Mod_relations_20 0 8 t_Mod t_Mod_ok n_Mod rfl rfl (by decide) in_Mod k_1154 rfl (by decide +kernel) rfl rfl (Nat.le_of_ble_eq_true rfl) rfl ?_
    refine pb_aload_n (pc := 23) d_Mod_relations_23 0 rfl rfl ?_
    refine pb_get (pc := 24) d_Mod_relations_24 0 8 rfl rfl (by decide) in_Mod k_1154 rfl ?_
    refine pb_if_le (pc := 27) (tgt := 32) d_Mod_relations_27 (by decide) (fun h9 => absurd h9 (by decide)) (fun _ => ?_)
    refine pb_iconst (pc := 30) (v := 0) d_Mod_relations_30 (by decide) ?_
    exact pb_iret (pc := 31) hQ d_Mod_relations_31 rfl rfl (0, 1, v_at, v_bad, v_markSize, v_relationCount, v_lookedSize, a_mark, a_looked, v_valueSize, a_value, a_ids, a_goals, a_idSize, a_goalSize) ⟨rfl, (by (try dsimp only); first | done | (with_reducible assumption) | omega (splitDisjunctions := false) | assumption | omega | decide), (by (try dsimp only); first | done | (with_reducible assumption) | omega (splitDisjunctions := false) | assumption | omega | decide), (by (try dsimp only); first | done | (with_reducible assumption) | omega (splitDisjunctions := false) | assumption | omega | decide), (by (try dsimp only); first | done | (with_reducible assumption) | omega (splitDisjunctions := false) | assumption | omega | decide), (by (try dsimp only); first | done | (with_reducible assumption) | omega (splitDisjunctions := false) | assumption | omega | decide), (show ∀ x : Int, 0 ≤ x → x < 200 → 0 ≤ gx a_idSize x ∧ gx a_idSize x ≤ 8 from (by first | exact ID | assumption)), (show ∀ x : Int, 0 ≤ x → x < 200 → 0 ≤ gx a_goalSize x ∧ gx a_goalSize x ≤ 24 from (by first | exact GO | assumption)), (by (try dsimp only); first | done | (with_reducible assumption) | omega (splitDisjunctions := false) | assumption | omega | decide), (by (try dsimp only); first | done | (with_reducible assumption) | omega (splitDisjunctions := false) | assumption | omega | decide), (by (try dsimp only); first | done | (with_reducible assumption) | omega (splitDisjunctions := false) | assumption | omega | decide), (by (try dsimp only); first | done | (with_reducible assumption) | omega (splitDisjunctions := false) | assumption | omega | decide), (show (1 : Int32).toInt = 0 → (0 ≤ i.toInt ∧ i.toInt < gx a_count 0) ∧ hid_ (∃ t : Int, isF_ (cN_ (gx a_count 0) a_names a_nameSize) (gx a_nameSize i.toInt + 5) (tn6_ (cN_ (gx a_count 0) a_names a_nameSize) i.toInt) t ∧ (0 : Int32).toInt = nl6_ (tT6_ t (mk_ (fun j => gr a_data (4000 * t + j)) (gx a_size t)))) from (by first | exact fun q9 => absurd q9 (by omega) | exact fun _ => ⟨by omega, by obtain ⟨t9, y1, y2⟩ := hid_o rrF; exact hid_i ⟨t9, y1, nl_m y2 (by omega)⟩⟩)), F_a_mark, F_a_looked, F_a_value, F_a_ids, F_a_goals⟩ [0, 1, 2, 3, 4, 5, 6, 7, 8, 9, 10, 11, 12, 13, 14, 15, 16, 17, 18, 19] (by decide) rfl rfl (by decide) (by decide)
  · have twx1 : ¬ i.toInt < 0 := fun z9 => wx1 ((ti_lt rfl (by decide)).mpr z9)
    refine pb_iload_n (pc := 5) d_Mod_relations_5 1 rfl rfl ?_
    refine pb_aload_n (pc := 6) d_Mod_relations_6 0 rfl rfl ?_
    refine pb_get (pc := 7) d_Mod_relations_7 0 11 rfl rfl (by decide) in_Mod k_1157 rfl ?_
    refine pb_iconst (pc := 10) (v := 0) d_Mod_relations_10 (by decide) ?_
    refine pb_iald (pc := 11) d_Mod_relations_11 18 rfl (by unfold vp_in; decide) ?_
    refine pb_topi (fun ix3 eix3 => ?_)
    have tix3 : ix3.toInt = gx a_count (0) := gx_ld eix3 (by omega)
    refine pb_icmp_lt (pc := 12) (tgt := 19) d_Mod_relations_12 (by decide) (fun wx4 => ?_) (fun wx4 => ?_)
    · have twx4 : i.toInt < ix3.toInt := (ti_lt rfl rfl).mp wx4
      refine pb_iconst (pc := 19) (v := 0) d_Mod_relations_19 (by decide) ?_
      refine pb_put (pc := 20) (ty := .int) (ws' := [(h, .inr (10, [.ref m_rels, .ref m_openRels, .ref m_closeRels, .ref m_openRel, .ref m_closeRel, .ref m_comment, .ref m_ends, .ref m_order, .int 0, .int v_taped, .ref m_tape, .ref m_count, .ref m_nameSize, .ref m_names, .ref m_size, .ref m_data, .int v_lookedSize, .ref m_looked, .int v_fileSize, .ref m_file, .int v_directorySize, .ref m_directory, .int v_outSize, .ref m_out, .int v_rowSize, .ref m_row, .int v_bitAt, .int v_bitEnd, .int v_why, .int v_madeSize, .ref m_made, .ref m_length, .int v_firstCount, .int v_secondCount, .int v_heldBits, .int v_heldCount, .int v_pressedSize, .ref m_pressed, .int v_at, .int v_bad, .int v_markSize, .ref m_mark, .int v_relationCount, .ref m_idSize, .ref m_ids, .ref m_goalSize, .ref m_goals, .int v_valueSize, .ref m_value, .int v_faultCount, .ref m_faults, .ref m_reached])), (m_mark, .inl (G.2.1, 4000, .inl a_mark)), (m_value, .inl (G.2.1, 4000, .inl a_value)), (m_ids, .inl (G.2.1, 1600, .inl a_ids)), (m_goals, .inl (G.2.1, 4800, .inl a_goals)), (m_idSize, .inl (G.2.2.1, 200, .inl a_idSize)), (m_goalSize, .inl (G.2.2.1, 200, .inl a_goalSize)), (m_openRel, .inl (G.2.1, 4, .inl a_openRel)), (m_closeRel, .inl (G.2.1, 5, .inl a_closeRel)), (m_ends, .inl (G.2.1, 2, .inl a_ends)), (m_comment, .inl (G.2.1, 4, .inl a_comment)), (m_openRels, .inl (G.2.1, 5, .inl a_openRels)), (m_closeRels, .inl (G.2.1, 6, .inl a_closeRels)), (m_size, .inl (G.2.2.1, 34, .inl a_size)), (m_data, .inl (G.2.1, 136000, .inl a_data)), (m_names, .inl (G.2.1, 816, .inl a_names)), (m_nameSize, .inl (G.2.2.1, 34, .inl a_nameSize)), (m_rels, .inl (G.2.1, 5, .inl a_rels)), (m_count, .inl (G.2.2.1, 2, .inl a_count)), (m_looked, .inl (G.2.1, 40, .inl a_looked))]) d_Mod_relations_20 0 8 t_Mod t_Mod_ok n_Mod rfl rfl (by decide) in_Mod k_1154 rfl (by decide +kernel) rfl rfl (Nat.le_of_ble_eq_true rfl) rfl ?_
      refine pb_aload_n (pc := 23) d_Mod_relations_23 0 rfl rfl ?_
      refine pb_get (pc := 24) d_Mod_relations_24 0 8 rfl rfl (by decide) in_Mod k_1154 rfl ?_
      refine pb_if_le (pc := 27) (tgt := 32) d_Mod_relations_27 (by decide) (fun _ => ?_) (fun h9 => absurd h9 (by decide))
      refine pb_aload_n (pc := 32) d_Mod_relations_32 0 rfl rfl ?_
      refine pb_iload_n (pc := 33) d_Mod_relations_33 1 rfl rfl ?_
      refine pb_callV (pc := 34) (I := i_Mod_relations) (qb := 0) (ci := 10) (nA := 1) (rest := []) (wr := []) d_Mod_relations_34 (g_Mod_readRelations hl G h m_rels m_openRels m_closeRels m_openRel m_closeRel m_comment m_ends m_order m_tape m_count m_nameSize m_names m_size m_data m_looked m_file m_directory m_out m_row m_made m_length m_pressed m_mark m_idSize m_ids m_goalSize m_goals m_value m_faults m_reached 0 v_taped v_lookedSize v_fileSize v_directorySize v_outSize v_rowSize v_bitAt v_bitEnd v_why v_madeSize v_firstCount v_secondCount v_heldBits v_heldCount v_pressedSize v_at v_bad v_markSize v_relationCount v_valueSize v_faultCount a_mark a_value a_ids a_goals a_idSize a_goalSize a_openRel a_closeRel a_ends a_comment a_openRels a_closeRels a_size a_data a_names a_nameSize a_rels a_count a_looked i (by first | (with_reducible assumption) | omega (splitDisjunctions := false) | assumption | omega | decide) (by first | (with_reducible assumption) | omega (splitDisjunctions := false) | assumption | omega | decide) (by first | assumption | decide | omega) (by first | assumption | decide | omega) (by first | assumption | decide | omega) (by first | assumption | decide | omega) (by first | assumption | decide | omega) (by first | assumption | decide | omega) (by first | assumption | decide | omega) (by first | assumption | decide | omega) (by first | assumption | decide | omega) (by first | assumption | decide | omega) (by first | assumption | decide | omega) (by first | assumption | decide | omega) (by first | assumption | decide | omega) (by first | assumption | decide | omega) (by first | assumption | decide | omega) (by first | (with_reducible assumption) | omega (splitDisjunctions := false) | assumption | omega | decide) (by first | (with_reducible assumption) | omega (splitDisjunctions := false) | assumption | omega | decide) (by first | assumption | decide | omega) (by first | (with_reducible assumption) | omega (splitDisjunctions := false) | assumption | omega | decide) (by first | (with_reducible assumption) | omega (splitDisjunctions := false) | assumption | omega | decide) F_a_mark F_a_value F_a_ids F_a_goals F_a_openRel F_a_closeRel F_a_ends F_a_comment F_a_openRels F_a_closeRels F_a_data F_a_names F_a_rels F_a_looked) rfl rfl [0, 1, 2, 3, 4, 5, 6, 7, 8, 9, 10, 11, 12, 13, 14, 15, 16, 17, 18, 19] [] (by decide) rfl rfl rfl (by decide) (by decide) k_1565 rfl k_128 k_1562 k_1564 k_95 ⟨rfl, hy_Mod_readRelations⟩ (by decide) rfl rfl (Nat.le_of_ble_eq_true rfl) (by decide) (fun v9 ux7 ch6 => ?_)
      obtain ⟨r_8, at_9, b_10, ms_11, rc_12, ls_13, mk_14, lk_15, vs_16, va_17, id_18, gg_19, is_20, gs_21⟩ := ux7
      obtain ⟨ech6, ch6⟩ := ch6
      have ech6 : v9 = some (.int r_8) := ech6
      subst ech6
      obtain ⟨fh22, fh23, fh24, fh25, fh26, fh27, fh28, fh29, fh30, fh31, fh32, fh33, fh34, fh35, fh36, fh37, fh38, fh39⟩ : (r_8.toInt = 0 ∨ r_8.toInt = 1) ∧ (r_8.toInt = 1 → rc_12.toInt = 0 ∨ ∃ t : Int, isT a_nameSize a_names a_rels (gx a_count 0) (i.toInt) t ∧ 20 * rc_12.toInt ≤ gx a_size t) ∧ (0 ≤ rc_12.toInt) ∧ (rc_12.toInt ≤ 200) ∧ (b_10.toInt = 0 ∨ b_10.toInt = 1) ∧ (0 ≤ vs_16.toInt) ∧ (vs_16.toInt ≤ 4000) ∧ (∀ x : Int, 0 ≤ x → x < 200 → 0 ≤ gx is_20 x ∧ gx is_20 x ≤ 8) ∧ (∀ x : Int, 0 ≤ x → x < 200 → 0 ≤ gx gs_21 x ∧ gx gs_21 x ≤ 24) ∧ (0 ≤ ls_13.toInt) ∧ (ls_13.toInt ≤ 8000) ∧ ((r_8.toInt = 1 ∧ b_10.toInt = 0) ∨ (r_8.toInt = 0 ∧ ¬ b_10.toInt = 0)) ∧ (hid_ (∃ t : Int, isF_ (cN_ (gx a_count 0) a_names a_nameSize) (gx a_nameSize i.toInt + 5) (tn6_ (cN_ (gx a_count 0) a_names a_nameSize) i.toInt) t ∧ mR6_ (tT6_ t (mk_ (fun j => gr a_data (4000 * t + j)) (gx a_size t))) b_10.toInt rc_12.toInt is_20 id_18 gs_21 gg_19)) ∧ (sb_Fit mk_14) ∧ (sb_Fit lk_15) ∧ (sb_Fit va_17) ∧ (sb_Fit id_18) ∧ (sb_Fit gg_19) := ch6
      have rrF := fh34
      refine pb_eq (pc' := 37) (lo' := [(0, .ref h), (1, .int i)]) (rest' := [.int r_8]) (ws' := [(h, .inr (10, [.ref m_rels, .ref m_openRels, .ref m_closeRels, .ref m_openRel, .ref m_closeRel, .ref m_comment, .ref m_ends, .ref m_order, .int 0, .int v_taped, .ref m_tape, .ref m_count, .ref m_nameSize, .ref m_names, .ref m_size, .ref m_data, .int ls_13, .ref m_looked, .int v_fileSize, .ref m_file, .int v_directorySize, .ref m_directory, .int v_outSize, .ref m_out, .int v_rowSize, .ref m_row, .int v_bitAt, .int v_bitEnd, .int v_why, .int v_madeSize, .ref m_made, .ref m_length, .int v_firstCount, .int v_secondCount, .int v_heldBits, .int v_heldCount, .int v_pressedSize, .ref m_pressed, .int at_9, .int b_10, .int ms_11, .ref m_mark, .int rc_12, .ref m_idSize, .ref m_ids, .ref m_goalSize, .ref m_goals, .int vs_16, .ref m_value, .int v_faultCount, .ref m_faults, .ref m_reached])), (m_mark, .inl (G.2.1, 4000, .inl mk_14)), (m_value, .inl (G.2.1, 4000, .inl va_17)), (m_ids, .inl (G.2.1, 1600, .inl id_18)), (m_goals, .inl (G.2.1, 4800, .inl gg_19)), (m_idSize, .inl (G.2.2.1, 200, .inl is_20)), (m_goalSize, .inl (G.2.2.1, 200, .inl gs_21)), (m_openRel, .inl (G.2.1, 4, .inl a_openRel)), (m_closeRel, .inl (G.2.1, 5, .inl a_closeRel)), (m_ends, .inl (G.2.1, 2, .inl a_ends)), (m_comment, .inl (G.2.1, 4, .inl a_comment)), (m_openRels, .inl (G.2.1, 5, .inl a_openRels)), (m_closeRels, .inl (G.2.1, 6, .inl a_closeRels)), (m_size, .inl (G.2.2.1, 34, .inl a_size)), (m_data, .inl (G.2.1, 136000, .inl a_data)), (m_names, .inl (G.2.1, 816, .inl a_names)), (m_nameSize, .inl (G.2.2.1, 34, .inl a_nameSize)), (m_rels, .inl (G.2.1, 5, .inl a_rels)), (m_count, .inl (G.2.2.1, 2, .inl a_count)), (m_looked, .inl (G.2.1, 40, .inl lk_15))]) ?_
      refine pb_if_eq (pc := 37) (tgt := 47) d_Mod_relations_37 (by decide) (fun wx40 => ?_) (fun wx40 => ?_)
      · have twx40 : r_8.toInt = 0 := (ti_eq rfl (by decide)).mp wx40
        refine pb_iconst (pc := 47) (v := (-1)) d_Mod_relations_47 (by decide) ?_
        exact pb_iret (pc := 48) hQ d_Mod_relations_48 rfl rfl ((-1), 0, at_9, b_10, ms_11, rc_12, ls_13, mk_14, lk_15, vs_16, va_17, id_18, gg_19, is_20, gs_21) ⟨rfl, (by (try dsimp only); first | done | (with_reducible assumption) | omega (splitDisjunctions := false) | assumption | (clear fh23; first | omega (splitDisjunctions := false) | omega) | omega | decide), (by (try dsimp only); first | done | (with_reducible assumption) | omega (splitDisjunctions := false) | assumption | (clear fh23; first | omega (splitDisjunctions := false) | omega) | omega | decide), (by (try dsimp only); first | done | (with_reducible assumption) | omega (splitDisjunctions := false) | assumption | (clear fh23; first | omega (splitDisjunctions := false) | omega) | omega | decide), (by (try dsimp only); first | done | (with_reducible assumption) | omega (splitDisjunctions := false) | assumption | (clear fh23; first | omega (splitDisjunctions := false) | omega) | omega | decide), (by (try dsimp only); first | done | (with_reducible assumption) | omega (splitDisjunctions := false) | assumption | (clear fh23; first | omega (splitDisjunctions := false) | omega) | omega | decide), (show ∀ x : Int, 0 ≤ x → x < 200 → 0 ≤ gx is_20 x ∧ gx is_20 x ≤ 8 from (by first | exact ID | assumption)), (show ∀ x : Int, 0 ≤ x → x < 200 → 0 ≤ gx gs_21 x ∧ gx gs_21 x ≤ 24 from (by first | exact GO | assumption)), (by (try dsimp only); first | done | (with_reducible assumption) | omega (splitDisjunctions := false) | assumption | (clear fh23; first | omega (splitDisjunctions := false) | omega) | omega | decide), (by (try dsimp only); first | done | (with_reducible assumption) | omega (splitDisjunctions := false) | assumption | (clear fh23; first | omega (splitDisjunctions := false) | omega) | omega | decide), (by (try dsimp only); first | done | (with_reducible assumption) | omega (splitDisjunctions := false) | assumption | (clear fh23; first | omega (splitDisjunctions := false) | omega) | omega | decide), (by (try dsimp only); first | done | (with_reducible assumption) | omega (splitDisjunctions := false) | assumption | exact fun q90 => (by clear fh23; first | omega (splitDisjunctions := false) | omega) | omega | decide), (show (0 : Int32).toInt = 0 → (0 ≤ i.toInt ∧ i.toInt < gx a_count 0) ∧ hid_ (∃ t : Int, isF_ (cN_ (gx a_count 0) a_names a_nameSize) (gx a_nameSize i.toInt + 5) (tn6_ (cN_ (gx a_count 0) a_names a_nameSize) i.toInt) t ∧ ((-1) : Int32).toInt = nl6_ (tT6_ t (mk_ (fun j => gr a_data (4000 * t + j)) (gx a_size t)))) from (by first | exact fun q9 => absurd q9 (by omega) | exact fun _ => ⟨by omega, by obtain ⟨t9, y1, y2⟩ := hid_o rrF; exact hid_i ⟨t9, y1, nl_m y2 (by omega)⟩⟩)), fh35, fh36, fh37, fh38, fh39⟩ [0, 1, 2, 3, 4, 5, 6, 7, 8, 9, 10, 11, 12, 13, 14, 15, 16, 17, 18, 19] (by decide) rfl rfl (by decide) (by decide)
      · have twx40 : ¬ r_8.toInt = 0 := fun z9 => wx40 ((ti_eq rfl (by decide)).mpr z9)
        refine pb_aload_n (pc := 40) d_Mod_relations_40 0 rfl rfl ?_
        refine pb_get (pc := 41) d_Mod_relations_41 0 42 rfl rfl (by decide) in_Mod k_1188 rfl ?_
        refine pb_goto (pc := 44) (tgt := 48) d_Mod_relations_44 (by decide) ?_
        exact pb_iret (pc := 48) hQ d_Mod_relations_48 rfl rfl (rc_12, 0, at_9, b_10, ms_11, rc_12, ls_13, mk_14, lk_15, vs_16, va_17, id_18, gg_19, is_20, gs_21) ⟨rfl, (by (try dsimp only); first | done | (with_reducible assumption) | omega (splitDisjunctions := false) | assumption | (clear fh23; first | omega (splitDisjunctions := false) | omega) | omega | decide), (by (try dsimp only); first | done | (with_reducible assumption) | omega (splitDisjunctions := false) | assumption | (clear fh23; first | omega (splitDisjunctions := false) | omega) | omega | decide), (by (try dsimp only); first | done | (with_reducible assumption) | omega (splitDisjunctions := false) | assumption | (clear fh23; first | omega (splitDisjunctions := false) | omega) | omega | decide), (by (try dsimp only); first | done | (with_reducible assumption) | omega (splitDisjunctions := false) | assumption | (clear fh23; first | omega (splitDisjunctions := false) | omega) | omega | decide), (by (try dsimp only); first | done | (with_reducible assumption) | omega (splitDisjunctions := false) | assumption | (clear fh23; first | omega (splitDisjunctions := false) | omega) | omega | decide), (show ∀ x : Int, 0 ≤ x → x < 200 → 0 ≤ gx is_20 x ∧ gx is_20 x ≤ 8 from (by first | exact ID | assumption)), (show ∀ x : Int, 0 ≤ x → x < 200 → 0 ≤ gx gs_21 x ∧ gx gs_21 x ≤ 24 from (by first | exact GO | assumption)), (by (try dsimp only); first | done | (with_reducible assumption) | omega (splitDisjunctions := false) | assumption | (clear fh23; first | omega (splitDisjunctions := false) | omega) | omega | decide), (by (try dsimp only); first | done | (with_reducible assumption) | omega (splitDisjunctions := false) | assumption | (clear fh23; first | omega (splitDisjunctions := false) | omega) | omega | decide), (by (try dsimp only); first | done | (with_reducible assumption) | omega (splitDisjunctions := false) | assumption | (clear fh23; first | omega (splitDisjunctions := false) | omega) | omega | decide), (by (try dsimp only); first | done | (with_reducible assumption) | omega (splitDisjunctions := false) | assumption | exact fun q90 => (by clear fh23; first | omega (splitDisjunctions := false) | omega) | omega | decide), (show (0 : Int32).toInt = 0 → (0 ≤ i.toInt ∧ i.toInt < gx a_count 0) ∧ hid_ (∃ t : Int, isF_ (cN_ (gx a_count 0) a_names a_nameSize) (gx a_nameSize i.toInt + 5) (tn6_ (cN_ (gx a_count 0) a_names a_nameSize) i.toInt) t ∧ rc_12.toInt = nl6_ (tT6_ t (mk_ (fun j => gr a_data (4000 * t + j)) (gx a_size t)))) from (by first | exact fun q9 => absurd q9 (by omega) | exact fun _ => ⟨by omega, by obtain ⟨t9, y1, y2⟩ := hid_o rrF; exact hid_i ⟨t9, y1, nl_m y2 (by omega)⟩⟩)), fh35, fh36, fh37, fh38, fh39⟩ [0, 1, 2, 3, 4, 5, 6, 7, 8, 9, 10, 11, 12, 13, 14, 15, 16, 17, 18, 19] (by decide) rfl rfl (by decide) (by decide)
    · have twx4 : ¬ i.toInt < ix3.toInt := fun z9 => wx4 ((ti_lt rfl rfl).mpr z9)
      refine pb_iconst (pc := 15) (v := 1) d_Mod_relations_15 (by decide) ?_
      refine pb_goto (pc := 16) (tgt := 20) d_Mod_relations_16 (by decide) ?_
      refine pb_put (pc := 20) (ty := .int) (ws' := [(h, .inr (10, [.ref m_rels, .ref m_openRels, .ref m_closeRels, .ref m_openRel, .ref m_closeRel, .ref m_comment, .ref m_ends, .ref m_order, .int 1, .int v_taped, .ref m_tape, .ref m_count, .ref m_nameSize, .ref m_names, .ref m_size, .ref m_data, .int v_lookedSize, .ref m_looked, .int v_fileSize, .ref m_file, .int v_directorySize, .ref m_directory, .int v_outSize, .ref m_out, .int v_rowSize, .ref m_row, .int v_bitAt, .int v_bitEnd, .int v_why, .int v_madeSize, .ref m_made, .ref m_length, .int v_firstCount, .int v_secondCount, .int v_heldBits, .int v_heldCount, .int v_pressedSize, .ref m_pressed, .int v_at, .int v_bad, .int v_markSize, .ref m_mark, .int v_relationCount, .ref m_idSize, .ref m_ids, .ref m_goalSize, .ref m_goals, .int v_valueSize, .ref m_value, .int v_faultCount, .ref m_faults, .ref m_reached])), (m_mark, .inl (G.2.1, 4000, .inl a_mark)), (m_value, .inl (G.2.1, 4000, .inl a_value)), (m_ids, .inl (G.2.1, 1600, .inl a_ids)), (m_goals, .inl (G.2.1, 4800, .inl a_goals)), (m_idSize, .inl (G.2.2.1, 200, .inl a_idSize)), (m_goalSize, .inl (G.2.2.1, 200, .inl a_goalSize)), (m_openRel, .inl (G.2.1, 4, .inl a_openRel)), (m_closeRel, .inl (G.2.1, 5, .inl a_closeRel)), (m_ends, .inl (G.2.1, 2, .inl a_ends)), (m_comment, .inl (G.2.1, 4, .inl a_comment)), (m_openRels, .inl (G.2.1, 5, .inl a_openRels)), (m_closeRels, .inl (G.2.1, 6, .inl a_closeRels)), (m_size, .inl (G.2.2.1, 34, .inl a_size)), (m_data, .inl (G.2.1, 136000, .inl a_data)), (m_names, .inl (G.2.1, 816, .inl a_names)), (m_nameSize, .inl (G.2.2.1, 34, .inl a_nameSize)), (m_rels, .inl (G.2.1, 5, .inl a_rels)), (m_count, .inl (G.2.2.1, 2, .inl a_count)), (m_looked, .inl (G.2.1, 40, .inl a_looked))]) d_Mod_relations_20 0 8 t_Mod t_Mod_ok n_Mod rfl rfl (by decide) in_Mod k_1154 rfl (by decide +kernel) rfl rfl (Nat.le_of_ble_eq_true rfl) rfl ?_
      refine pb_aload_n (pc := 23) d_Mod_relations_23 0 rfl rfl ?_
      refine pb_get (pc := 24) d_Mod_relations_24 0 8 rfl rfl (by decide) in_Mod k_1154 rfl ?_
      refine pb_if_le (pc := 27) (tgt := 32) d_Mod_relations_27 (by decide) (fun h9 => absurd h9 (by decide)) (fun _ => ?_)
      refine pb_iconst (pc := 30) (v := 0) d_Mod_relations_30 (by decide) ?_
      exact pb_iret (pc := 31) hQ d_Mod_relations_31 rfl rfl (0, 1, v_at, v_bad, v_markSize, v_relationCount, v_lookedSize, a_mark, a_looked, v_valueSize, a_value, a_ids, a_goals, a_idSize, a_goalSize) ⟨rfl, (by (try dsimp only); first | done | (with_reducible assumption) | omega (splitDisjunctions := false) | assumption | omega | decide), (by (try dsimp only); first | done | (with_reducible assumption) | omega (splitDisjunctions := false) | assumption | omega | decide), (by (try dsimp only); first | done | (with_reducible assumption) | omega (splitDisjunctions := false) | assumption | omega | decide), (by (try dsimp only); first | done | (with_reducible assumption) | omega (splitDisjunctions := false) | assumption | omega | decide), (by (try dsimp only); first | done | (with_reducible assumption) | omega (splitDisjunctions := false) | assumption | omega | decide), (show ∀ x : Int, 0 ≤ x → x < 200 → 0 ≤ gx a_idSize x ∧ gx a_idSize x ≤ 8 from (by first | exact ID | assumption)), (show ∀ x : Int, 0 ≤ x → x < 200 → 0 ≤ gx a_goalSize x ∧ gx a_goalSize x ≤ 24 from (by first | exact GO | assumption)), (by (try dsimp only); first | done | (with_reducible assumption) | omega (splitDisjunctions := false) | assumption | omega | decide), (by (try dsimp only); first | done | (with_reducible assumption) | omega (splitDisjunctions := false) | assumption | omega | decide), (by (try dsimp only); first | done | (with_reducible assumption) | omega (splitDisjunctions := false) | assumption | omega | decide), (by (try dsimp only); first | done | (with_reducible assumption) | omega (splitDisjunctions := false) | assumption | omega | decide), (show (1 : Int32).toInt = 0 → (0 ≤ i.toInt ∧ i.toInt < gx a_count 0) ∧ hid_ (∃ t : Int, isF_ (cN_ (gx a_count 0) a_names a_nameSize) (gx a_nameSize i.toInt + 5) (tn6_ (cN_ (gx a_count 0) a_names a_nameSize) i.toInt) t ∧ (0 : Int32).toInt = nl6_ (tT6_ t (mk_ (fun j => gr a_data (4000 * t + j)) (gx a_size t)))) from (by first | exact fun q9 => absurd q9 (by omega) | exact fun _ => ⟨by omega, by obtain ⟨t9, y1, y2⟩ := hid_o rrF; exact hid_i ⟨t9, y1, nl_m y2 (by omega)⟩⟩)), F_a_mark, F_a_looked, F_a_value, F_a_ids, F_a_goals⟩ [0, 1, 2, 3, 4, 5, 6, 7, 8, 9, 10, 11, 12, 13, 14, 15, 16, 17, 18, 19] (by decide) rfl rfl (by decide) (by decide)

theorem d_Mod_relation_28 : decode prog_12_method_91_code 28 = .ok (.aload_n 0, 1) := by decide +kernel
theorem d_Mod_relation_29 : decode prog_12_method_91_code 29 = .ok (.iload_n 3, 1) := by decide +kernel
theorem d_Mod_relation_30 : decode prog_12_method_91_code 30 = .ok (.ifCond .eq 19, 3) := by decide +kernel
theorem d_Mod_relation_49 : decode prog_12_method_91_code 49 = .ok (.iconst 1, 1) := by decide +kernel
theorem d_Mod_relation_50 : decode prog_12_method_91_code 50 = .ok (.putfield 103, 3) := by decide +kernel
theorem d_Mod_relation_53 : decode prog_12_method_91_code 53 = .ok (.aload_n 0, 1) := by decide +kernel
theorem d_Mod_relation_54 : decode prog_12_method_91_code 54 = .ok (.getfield 103, 3) := by decide +kernel
theorem d_Mod_relation_57 : decode prog_12_method_91_code 57 = .ok (.ifCond .le 7, 3) := by decide +kernel
theorem d_Mod_relation_60 : decode prog_12_method_91_code 60 = .ok (.iconst 0, 1) := by decide +kernel
theorem d_Mod_relation_61 : decode prog_12_method_91_code 61 = .ok (.goto 8, 3) := by decide +kernel
theorem d_Mod_relation_69 : decode prog_12_method_91_code 69 = .ok (.ireturn, 1) := by decide +kernel
theorem d_Mod_relation_33 : decode prog_12_method_91_code 33 = .ok (.iload_n 2, 1) := by decide +kernel
theorem d_Mod_relation_34 : decode prog_12_method_91_code 34 = .ok (.ifCond .lt 15, 3) := by decide +kernel
theorem d_Mod_relation_37 : decode prog_12_method_91_code 37 = .ok (.iload_n 2, 1) := by decide +kernel
theorem d_Mod_relation_38 : decode prog_12_method_91_code 38 = .ok (.aload_n 0, 1) := by decide +kernel
theorem d_Mod_relation_39 : decode prog_12_method_91_code 39 = .ok (.getfield 389, 3) := by decide +kernel
theorem d_Mod_relation_42 : decode prog_12_method_91_code 42 = .ok (.if_icmp .ge 7, 3) := by decide +kernel
theorem d_Mod_relation_45 : decode prog_12_method_91_code 45 = .ok (.iconst 0, 1) := by decide +kernel
theorem d_Mod_relation_46 : decode prog_12_method_91_code 46 = .ok (.goto 4, 3) := by decide +kernel
theorem d_Mod_relation_64 : decode prog_12_method_91_code 64 = .ok (.aload_n 0, 1) := by decide +kernel
theorem d_Mod_relation_65 : decode prog_12_method_91_code 65 = .ok (.iload_n 2, 1) := by decide +kernel
theorem d_Mod_relation_66 : decode prog_12_method_91_code 66 = .ok (.invokevirtual 423, 3) := by decide +kernel
theorem d_Mod_relation_0 : decode prog_12_method_91_code 0 = .ok (.iload_n 1, 1) := by decide +kernel
theorem d_Mod_relation_1 : decode prog_12_method_91_code 1 = .ok (.ifCond .lt 25, 3) := by decide +kernel
theorem d_Mod_relation_26 : decode prog_12_method_91_code 26 = .ok (.iconst 0, 1) := by decide +kernel
theorem d_Mod_relation_27 : decode prog_12_method_91_code 27 = .ok (.istore_n 3, 1) := by decide +kernel
theorem d_Mod_relation_4 : decode prog_12_method_91_code 4 = .ok (.iload_n 1, 1) := by decide +kernel
theorem d_Mod_relation_5 : decode prog_12_method_91_code 5 = .ok (.aload_n 0, 1) := by decide +kernel
theorem d_Mod_relation_6 : decode prog_12_method_91_code 6 = .ok (.getfield 37, 3) := by decide +kernel
theorem d_Mod_relation_9 : decode prog_12_method_91_code 9 = .ok (.iconst 0, 1) := by decide +kernel
theorem d_Mod_relation_10 : decode prog_12_method_91_code 10 = .ok (.iaload, 1) := by decide +kernel
theorem d_Mod_relation_11 : decode prog_12_method_91_code 11 = .ok (.if_icmp .ge 15, 3) := by decide +kernel
theorem d_Mod_relation_14 : decode prog_12_method_91_code 14 = .ok (.aload_n 0, 1) := by decide +kernel
theorem d_Mod_relation_15 : decode prog_12_method_91_code 15 = .ok (.iload_n 1, 1) := by decide +kernel
theorem d_Mod_relation_16 : decode prog_12_method_91_code 16 = .ok (.invokevirtual 413, 3) := by decide +kernel
theorem d_Mod_relation_19 : decode prog_12_method_91_code 19 = .ok (.ifCond .eq 7, 3) := by decide +kernel
theorem d_Mod_relation_22 : decode prog_12_method_91_code 22 = .ok (.iconst 1, 1) := by decide +kernel
theorem d_Mod_relation_23 : decode prog_12_method_91_code 23 = .ok (.goto 4, 3) := by decide +kernel
abbrev y_Mod_relation : MethodName := ⟨"PackageBookModel", "relation", "(II)I"⟩
abbrev i_Mod_relation : pb_I := (y_Mod_relation, prog_12_method_91_code, 4, (some Jvm.ClassFile.FieldType.int), [], { frames := 8, cells := 0, slots := 0, locals := 177 })
set_option maxRecDepth 100000 in
set_option maxHeartbeats 4000000 in
theorem g_Mod_relation {l : Launch} (hl : l.stackTraces = false) (G : pb_G) (h : Nat) (m_rels : Nat) (m_openRels : Nat) (m_closeRels : Nat) (m_openRel : Nat) (m_closeRel : Nat) (m_comment : Nat) (m_ends : Nat) (m_order : Nat) (m_tape : Nat) (m_count : Nat) (m_nameSize : Nat) (m_names : Nat) (m_size : Nat) (m_data : Nat) (m_looked : Nat) (m_file : Nat) (m_directory : Nat) (m_out : Nat) (m_row : Nat) (m_made : Nat) (m_length : Nat) (m_pressed : Nat) (m_mark : Nat) (m_idSize : Nat) (m_ids : Nat) (m_goalSize : Nat) (m_goals : Nat) (m_value : Nat) (m_faults : Nat) (m_reached : Nat) (v_thrown : Int32) (v_taped : Int32) (v_lookedSize : Int32) (v_fileSize : Int32) (v_directorySize : Int32) (v_outSize : Int32) (v_rowSize : Int32) (v_bitAt : Int32) (v_bitEnd : Int32) (v_why : Int32) (v_madeSize : Int32) (v_firstCount : Int32) (v_secondCount : Int32) (v_heldBits : Int32) (v_heldCount : Int32) (v_pressedSize : Int32) (v_at : Int32) (v_bad : Int32) (v_markSize : Int32) (v_relationCount : Int32) (v_valueSize : Int32) (v_faultCount : Int32) (a_mark : Nat → Int32) (a_value : Nat → Int32) (a_ids : Nat → Int32) (a_goals : Nat → Int32) (a_idSize : Nat → Int32) (a_goalSize : Nat → Int32) (a_openRel : Nat → Int32) (a_closeRel : Nat → Int32) (a_ends : Nat → Int32) (a_comment : Nat → Int32) (a_openRels : Nat → Int32) (a_closeRels : Nat → Int32) (a_size : Nat → Int32) (a_data : Nat → Int32) (a_names : Nat → Int32) (a_nameSize : Nat → Int32) (a_rels : Nat → Int32) (a_count : Nat → Int32) (a_looked : Nat → Int32) (i : Int32) (k : Int32) (vs0 : 0 ≤ v_valueSize.toInt) (vs1 : v_valueSize.toInt ≤ 4000) (ID : ∀ x : Int, 0 ≤ x → x < 200 → 0 ≤ gx a_idSize x ∧ gx a_idSize x ≤ 8) (GO : ∀ x : Int, 0 ≤ x → x < 200 → 0 ≤ gx a_goalSize x ∧ gx a_goalSize x ≤ 24) (C_openRel : ∀ x : Int, 0 ≤ x → x < 4 → 0 ≤ gx a_openRel x) (C_closeRel : ∀ x : Int, 0 ≤ x → x < 5 → 0 ≤ gx a_closeRel x) (C_ends : ∀ x : Int, 0 ≤ x → x < 2 → 0 ≤ gx a_ends x) (C_comment : ∀ x : Int, 0 ≤ x → x < 4 → 0 ≤ gx a_comment x) (C6_openRel : ∀ x : Int, 0 ≤ x → x < 4 → gx a_openRel x = tE_ x) (C6_closeRel : ∀ x : Int, 0 ≤ x → x < 5 → gx a_closeRel x = tF_ x) (C6_ends : ∀ x : Int, 0 ≤ x → x < 2 → gx a_ends x = tG_ x) (C6_comment : ∀ x : Int, 0 ≤ x → x < 4 → gx a_comment x = tC_ x) (C_openRels : ∀ x : Int, 0 ≤ x → x < 5 → 0 ≤ gx a_openRels x) (C_closeRels : ∀ x : Int, 0 ≤ x → x < 6 → 0 ≤ gx a_closeRels x) (C6_openRels : ∀ x : Int, 0 ≤ x → x < 5 → gx a_openRels x = tH_ x) (C6_closeRels : ∀ x : Int, 0 ≤ x → x < 6 → gx a_closeRels x = tI_ x) (I : ms_I 0 (gx a_count 0) a_nameSize a_size a_names) (y0 : 0 ≤ v_lookedSize.toInt) (y1 : v_lookedSize.toInt ≤ 8000) (C6_rels : ∀ x : Int, 0 ≤ x → x < 5 → gx a_rels x = tr_ x) (u0_ : 0 ≤ v_relationCount.toInt) (u1_ : v_relationCount.toInt ≤ 200) (u2_ : v_bad.toInt = 0 ∨ v_bad.toInt = 1) (F_a_mark : sb_Fit a_mark) (F_a_value : sb_Fit a_value) (F_a_ids : sb_Fit a_ids) (F_a_goals : sb_Fit a_goals) (F_a_openRel : sb_Fit a_openRel) (F_a_closeRel : sb_Fit a_closeRel) (F_a_ends : sb_Fit a_ends) (F_a_comment : sb_Fit a_comment) (F_a_openRels : sb_Fit a_openRels) (F_a_closeRels : sb_Fit a_closeRels) (F_a_data : sb_Fit a_data) (F_a_names : sb_Fit a_names) (F_a_rels : sb_Fit a_rels) (F_a_looked : sb_Fit a_looked) : Cn l G i_Mod_relation [.ref h, .int i, .int k] [(h, .inr (10, [.ref m_rels, .ref m_openRels, .ref m_closeRels, .ref m_openRel, .ref m_closeRel, .ref m_comment, .ref m_ends, .ref m_order, .int v_thrown, .int v_taped, .ref m_tape, .ref m_count, .ref m_nameSize, .ref m_names, .ref m_size, .ref m_data, .int v_lookedSize, .ref m_looked, .int v_fileSize, .ref m_file, .int v_directorySize, .ref m_directory, .int v_outSize, .ref m_out, .int v_rowSize, .ref m_row, .int v_bitAt, .int v_bitEnd, .int v_why, .int v_madeSize, .ref m_made, .ref m_length, .int v_firstCount, .int v_secondCount, .int v_heldBits, .int v_heldCount, .int v_pressedSize, .ref m_pressed, .int v_at, .int v_bad, .int v_markSize, .ref m_mark, .int v_relationCount, .ref m_idSize, .ref m_ids, .ref m_goalSize, .ref m_goals, .int v_valueSize, .ref m_value, .int v_faultCount, .ref m_faults, .ref m_reached])), (m_mark, .inl (G.2.1, 4000, .inl a_mark)), (m_value, .inl (G.2.1, 4000, .inl a_value)), (m_ids, .inl (G.2.1, 1600, .inl a_ids)), (m_goals, .inl (G.2.1, 4800, .inl a_goals)), (m_idSize, .inl (G.2.2.1, 200, .inl a_idSize)), (m_goalSize, .inl (G.2.2.1, 200, .inl a_goalSize)), (m_openRel, .inl (G.2.1, 4, .inl a_openRel)), (m_closeRel, .inl (G.2.1, 5, .inl a_closeRel)), (m_ends, .inl (G.2.1, 2, .inl a_ends)), (m_comment, .inl (G.2.1, 4, .inl a_comment)), (m_openRels, .inl (G.2.1, 5, .inl a_openRels)), (m_closeRels, .inl (G.2.1, 6, .inl a_closeRels)), (m_size, .inl (G.2.2.1, 34, .inl a_size)), (m_data, .inl (G.2.1, 136000, .inl a_data)), (m_names, .inl (G.2.1, 816, .inl a_names)), (m_nameSize, .inl (G.2.2.1, 34, .inl a_nameSize)), (m_rels, .inl (G.2.1, 5, .inl a_rels)), (m_count, .inl (G.2.2.1, 2, .inl a_count)), (m_looked, .inl (G.2.1, 40, .inl a_looked))] (S := Int32 × Int32 × Int32 × Int32 × Int32 × Int32 × Int32 × (Nat → Int32) × (Nat → Int32) × Int32 × (Nat → Int32) × (Nat → Int32) × (Nat → Int32) × (Nat → Int32) × (Nat → Int32)) (fun rv_ u => rv_ = some (.int u.1) ∧ (0 ≤ u.2.2.2.2.2.1.toInt) ∧ (u.2.2.2.2.2.1.toInt ≤ 200) ∧ (u.2.2.2.1.toInt = 0 ∨ u.2.2.2.1.toInt = 1) ∧ (0 ≤ u.2.2.2.2.2.2.2.2.2.1.toInt) ∧ (u.2.2.2.2.2.2.2.2.2.1.toInt ≤ 4000) ∧ (∀ x : Int, 0 ≤ x → x < 200 → 0 ≤ gx u.2.2.2.2.2.2.2.2.2.2.2.2.2.1 x ∧ gx u.2.2.2.2.2.2.2.2.2.2.2.2.2.1 x ≤ 8) ∧ (∀ x : Int, 0 ≤ x → x < 200 → 0 ≤ gx u.2.2.2.2.2.2.2.2.2.2.2.2.2.2 x ∧ gx u.2.2.2.2.2.2.2.2.2.2.2.2.2.2 x ≤ 24) ∧ (0 ≤ u.2.2.2.2.2.2.1.toInt) ∧ (u.2.2.2.2.2.2.1.toInt ≤ 8000) ∧ (hid_ ((¬ (0 ≤ i.toInt ∧ i.toInt < gx a_count 0) ∧ u.2.1.toInt = 1) ∨ ((0 ≤ i.toInt ∧ i.toInt < gx a_count 0) ∧ ∃ t : Int, isF_ (cN_ (gx a_count 0) a_names a_nameSize) (gx a_nameSize i.toInt + 5) (tn6_ (cN_ (gx a_count 0) a_names a_nameSize) i.toInt) t ∧ gq6_ (cN_ (gx a_count 0) a_names a_nameSize) (tT6_ t (mk_ (fun j => gr a_data (4000 * t + j)) (gx a_size t))) k.toInt u.1.toInt u.2.1.toInt))) ∧ (sb_Fit u.2.2.2.2.2.2.2.1) ∧ (sb_Fit u.2.2.2.2.2.2.2.2.1) ∧ (sb_Fit u.2.2.2.2.2.2.2.2.2.2.1) ∧ (sb_Fit u.2.2.2.2.2.2.2.2.2.2.2.1) ∧ (sb_Fit u.2.2.2.2.2.2.2.2.2.2.2.2.1)) (fun u => [(h, .inr (10, [.ref m_rels, .ref m_openRels, .ref m_closeRels, .ref m_openRel, .ref m_closeRel, .ref m_comment, .ref m_ends, .ref m_order, .int u.2.1, .int v_taped, .ref m_tape, .ref m_count, .ref m_nameSize, .ref m_names, .ref m_size, .ref m_data, .int u.2.2.2.2.2.2.1, .ref m_looked, .int v_fileSize, .ref m_file, .int v_directorySize, .ref m_directory, .int v_outSize, .ref m_out, .int v_rowSize, .ref m_row, .int v_bitAt, .int v_bitEnd, .int v_why, .int v_madeSize, .ref m_made, .ref m_length, .int v_firstCount, .int v_secondCount, .int v_heldBits, .int v_heldCount, .int v_pressedSize, .ref m_pressed, .int u.2.2.1, .int u.2.2.2.1, .int u.2.2.2.2.1, .ref m_mark, .int u.2.2.2.2.2.1, .ref m_idSize, .ref m_ids, .ref m_goalSize, .ref m_goals, .int u.2.2.2.2.2.2.2.2.2.1, .ref m_value, .int v_faultCount, .ref m_faults, .ref m_reached])), (m_mark, .inl (G.2.1, 4000, .inl u.2.2.2.2.2.2.2.1)), (m_value, .inl (G.2.1, 4000, .inl u.2.2.2.2.2.2.2.2.2.2.1)), (m_ids, .inl (G.2.1, 1600, .inl u.2.2.2.2.2.2.2.2.2.2.2.1)), (m_goals, .inl (G.2.1, 4800, .inl u.2.2.2.2.2.2.2.2.2.2.2.2.1)), (m_idSize, .inl (G.2.2.1, 200, .inl u.2.2.2.2.2.2.2.2.2.2.2.2.2.1)), (m_goalSize, .inl (G.2.2.1, 200, .inl u.2.2.2.2.2.2.2.2.2.2.2.2.2.2)), (m_openRel, .inl (G.2.1, 4, .inl a_openRel)), (m_closeRel, .inl (G.2.1, 5, .inl a_closeRel)), (m_ends, .inl (G.2.1, 2, .inl a_ends)), (m_comment, .inl (G.2.1, 4, .inl a_comment)), (m_openRels, .inl (G.2.1, 5, .inl a_openRels)), (m_closeRels, .inl (G.2.1, 6, .inl a_closeRels)), (m_size, .inl (G.2.2.1, 34, .inl a_size)), (m_data, .inl (G.2.1, 136000, .inl a_data)), (m_names, .inl (G.2.1, 816, .inl a_names)), (m_nameSize, .inl (G.2.2.1, 34, .inl a_nameSize)), (m_rels, .inl (G.2.1, 5, .inl a_rels)), (m_count, .inl (G.2.2.1, 2, .inl a_count)), (m_looked, .inl (G.2.1, 40, .inl u.2.2.2.2.2.2.2.2.1))]) := by
  refine Cn.of hl (by decide +kernel) rfl (Nat.le_of_ble_eq_true rfl) (fun M hQ => ?_)
  refine pb_eq (pc' := 0) (lo' := [(0, .ref h), (1, .int i), (2, .int k)]) (rest' := []) (ws' := [(h, .inr (10, [.ref m_rels, .ref m_openRels, .ref m_closeRels, .ref m_openRel, .ref m_closeRel, .ref m_comment, .ref m_ends, .ref m_order, .int v_thrown, .int v_taped, .ref m_tape, .ref m_count, .ref m_nameSize, .ref m_names, .ref m_size, .ref m_data, .int v_lookedSize, .ref m_looked, .int v_fileSize, .ref m_file, .int v_directorySize, .ref m_directory, .int v_outSize, .ref m_out, .int v_rowSize, .ref m_row, .int v_bitAt, .int v_bitEnd, .int v_why, .int v_madeSize, .ref m_made, .ref m_length, .int v_firstCount, .int v_secondCount, .int v_heldBits, .int v_heldCount, .int v_pressedSize, .ref m_pressed, .int v_at, .int v_bad, .int v_markSize, .ref m_mark, .int v_relationCount, .ref m_idSize, .ref m_ids, .ref m_goalSize, .ref m_goals, .int v_valueSize, .ref m_value, .int v_faultCount, .ref m_faults, .ref m_reached])), (m_mark, .inl (G.2.1, 4000, .inl a_mark)), (m_value, .inl (G.2.1, 4000, .inl a_value)), (m_ids, .inl (G.2.1, 1600, .inl a_ids)), (m_goals, .inl (G.2.1, 4800, .inl a_goals)), (m_idSize, .inl (G.2.2.1, 200, .inl a_idSize)), (m_goalSize, .inl (G.2.2.1, 200, .inl a_goalSize)), (m_openRel, .inl (G.2.1, 4, .inl a_openRel)), (m_closeRel, .inl (G.2.1, 5, .inl a_closeRel)), (m_ends, .inl (G.2.1, 2, .inl a_ends)), (m_comment, .inl (G.2.1, 4, .inl a_comment)), (m_openRels, .inl (G.2.1, 5, .inl a_openRels)), (m_closeRels, .inl (G.2.1, 6, .inl a_closeRels)), (m_size, .inl (G.2.2.1, 34, .inl a_size)), (m_data, .inl (G.2.1, 136000, .inl a_data)), (m_names, .inl (G.2.1, 816, .inl a_names)), (m_nameSize, .inl (G.2.2.1, 34, .inl a_nameSize)), (m_rels, .inl (G.2.1, 5, .inl a_rels)), (m_count, .inl (G.2.2.1, 2, .inl a_count)), (m_looked, .inl (G.2.1, 40, .inl a_looked))]) ?_
  have zl0 : (0 : Int32).toInt = 0 := by decide
  have zl1 : (1 : Int32).toInt = 1 := by decide
  have w0 := I.1
  have w1 := I.2.1
  have hJ28_1 : ∀ (th3 : Int32) (at3 : Int32) (b3 : Int32) (ms3 : Int32) (rc3 : Int32) (ls3 : Int32) (mk3 : Nat → Int32) (lk3 : Nat → Int32) (vs3 : Int32) (va3 : Nat → Int32) (id3 : Nat → Int32) (gg3 : Nat → Int32) (is3 : Nat → Int32) (gs3 : Nat → Int32), (sb_Fit mk3) → (sb_Fit lk3) → (sb_Fit va3) → (sb_Fit id3) → (sb_Fit gg3) → (0 ≤ rc3.toInt) → (rc3.toInt ≤ 200) → (b3.toInt = 0 ∨ b3.toInt = 1) → (0 ≤ vs3.toInt) → (vs3.toInt ≤ 4000) → (∀ x : Int, 0 ≤ x → x < 200 → 0 ≤ gx is3 x ∧ gx is3 x ≤ 8) → (∀ x : Int, 0 ≤ x → x < 200 → 0 ≤ gx gs3 x ∧ gx gs3 x ≤ 24) → (0 ≤ ls3.toInt) → (ls3.toInt ≤ 8000) → (hid_ ((¬ (0 ≤ i.toInt ∧ i.toInt < gx a_count 0) ∧ th3.toInt = 0) ∨ ((0 ≤ i.toInt ∧ i.toInt < gx a_count 0) ∧ ∃ t : Int, isF_ (cN_ (gx a_count 0) a_names a_nameSize) (gx a_nameSize i.toInt + 5) (tn6_ (cN_ (gx a_count 0) a_names a_nameSize) i.toInt) t ∧ mR6_ (tT6_ t (mk_ (fun j => gr a_data (4000 * t + j)) (gx a_size t))) b3.toInt rc3.toInt is3 id3 gs3 gg3 ∧ ((th3.toInt = 1 ∧ b3.toInt = 0) ∨ (th3.toInt = 0 ∧ ¬ b3.toInt = 0))))) → pb_P l G M i_Mod_relation 28 [(3, .int th3), (0, .ref h), (1, .int i), (2, .int k)] [] [(h, .inr (10, [.ref m_rels, .ref m_openRels, .ref m_closeRels, .ref m_openRel, .ref m_closeRel, .ref m_comment, .ref m_ends, .ref m_order, .int v_thrown, .int v_taped, .ref m_tape, .ref m_count, .ref m_nameSize, .ref m_names, .ref m_size, .ref m_data, .int ls3, .ref m_looked, .int v_fileSize, .ref m_file, .int v_directorySize, .ref m_directory, .int v_outSize, .ref m_out, .int v_rowSize, .ref m_row, .int v_bitAt, .int v_bitEnd, .int v_why, .int v_madeSize, .ref m_made, .ref m_length, .int v_firstCount, .int v_secondCount, .int v_heldBits, .int v_heldCount, .int v_pressedSize, .ref m_pressed, .int at3, .int b3, .int ms3, .ref m_mark, .int rc3, .ref m_idSize, .ref m_ids, .ref m_goalSize, .ref m_goals, .int vs3, .ref m_value, .int v_faultCount, .ref m_faults, .ref m_reached])), (m_mark, .inl (G.2.1, 4000, .inl mk3)), (m_value, .inl (G.2.1, 4000, .inl va3)), (m_ids, .inl (G.2.1, 1600, .inl id3)), (m_goals, .inl (G.2.1, 4800, .inl gg3)), (m_idSize, .inl (G.2.2.1, 200, .inl is3)), (m_goalSize, .inl (G.2.2.1, 200, .inl gs3)), (m_openRel, .inl (G.2.1, 4, .inl a_openRel)), (m_closeRel, .inl (G.2.1, 5, .inl a_closeRel)), (m_ends, .inl (G.2.1, 2, .inl a_ends)), (m_comment, .inl (G.2.1, 4, .inl a_comment)), (m_openRels, .inl (G.2.1, 5, .inl a_openRels)), (m_closeRels, .inl (G.2.1, 6, .inl a_closeRels)), (m_size, .inl (G.2.2.1, 34, .inl a_size)), (m_data, .inl (G.2.1, 136000, .inl a_data)), (m_names, .inl (G.2.1, 816, .inl a_names)), (m_nameSize, .inl (G.2.2.1, 34, .inl a_nameSize)), (m_rels, .inl (G.2.1, 5, .inl a_rels)), (m_count, .inl (G.2.2.1, 2, .inl a_count)), (m_looked, .inl (G.2.1, 40, .inl lk3))] 0 0 := by
    intro th3 at3 b3 ms3 rc3 ls3 mk3 lk3 vs3 va3 id3 gg3 is3 gs3 F_mk3 F_lk3 F_va3 F_id3 F_gg3 u03 u13 u3 vf03 vf13 ID3 GO3 lk03 lk13 j9
    refine pb_aload_n (pc := 28) d_Mod_relation_28 1 rfl rfl ?_
    refine pb_iload_n (pc := 29) d_Mod_relation_29 0 rfl rfl ?_
    refine pb_if_eq (pc := 30) (tgt := 49) d_Mod_relation_30 (by decide) (fun wx2 => ?_) (fun wx2 => ?_)
    · have twx2 : th3.toInt = 0 := (ti_eq rfl (by decide)).mp wx2
      refine pb_iconst (pc := 49) (v := 1) d_Mod_relation_49 (by decide) ?_
      refine pb_put (pc := 50) (ty := .int) (ws' := [(h, .inr (10, [.ref m_rels, .ref m_openRels, .ref m_closeRels, .ref m_openRel, .ref m_closeRel, .ref m_comment, .ref m_ends, .ref m_order, .int 1, .int v_taped, .ref m_tape, .ref m_count, .ref m_nameSize, .ref m_names, .ref m_size, .ref m_data, .int ls3, .ref m_looked, .int v_fileSize, .ref m_file, .int v_directorySize, .ref m_directory, .int v_outSize, .ref m_out, .int v_rowSize, .ref m_row, .int v_bitAt, .int v_bitEnd, .int v_why, .int v_madeSize, .ref m_made, .ref m_length, .int v_firstCount, .int v_secondCount, .int v_heldBits, .int v_heldCount, .int v_pressedSize, .ref m_pressed, .int at3, .int b3, .int ms3, .ref m_mark, .int rc3, .ref m_idSize, .ref m_ids, .ref m_goalSize, .ref m_goals, .int vs3, .ref m_value, .int v_faultCount, .ref m_faults, .ref m_reached])), (m_mark, .inl (G.2.1, 4000, .inl mk3)), (m_value, .inl (G.2.1, 4000, .inl va3)), (m_ids, .inl (G.2.1, 1600, .inl id3)), (m_goals, .inl (G.2.1, 4800, .inl gg3)), (m_idSize, .inl (G.2.2.1, 200, .inl is3)), (m_goalSize, .inl (G.2.2.1, 200, .inl gs3)), (m_openRel, .inl (G.2.1, 4, .inl a_openRel)), (m_closeRel, .inl (G.2.1, 5, .inl a_closeRel)), (m_ends, .inl (G.2.1, 2, .inl a_ends)), (m_comment, .inl (G.2.1, 4, .inl a_comment)), (m_openRels, .inl (G.2.1, 5, .inl a_openRels)), (m_closeRels, .inl (G.2.1, 6, .inl a_closeRels)), (m_size, .inl (G.2.2.1, 34, .inl a_size)), (m_data, .inl (G.2.1, 136000, .inl a_data)), (m_names, .inl (G.2.1, 816, .inl a_names)), (m_nameSize, .inl (G.2.2.1, 34, .inl a_nameSize)), (m_rels, .inl (G.2.1, 5, .inl a_rels)), (m_count, .inl (G.2.2.1, 2, .inl a_count)), (m_looked, .inl (G.2.1, 40, .inl lk3))]) d_Mod_relation_50 0 8 t_Mod t_Mod_ok n_Mod rfl rfl (by decide) in_Mod k_1154 rfl (by decide +kernel) rfl rfl (Nat.le_of_ble_eq_true rfl) rfl ?_
      refine pb_aload_n (pc := 53) d_Mod_relation_53 1 rfl rfl ?_
      refine pb_get (pc := 54) d_Mod_relation_54 0 8 rfl rfl (by decide) in_Mod k_1154 rfl ?_
      refine pb_if_le (pc := 57) (tgt := 64) d_Mod_relation_57 (by decide) (fun h9 => absurd h9 (by decide)) (fun _ => ?_)
      refine pb_iconst (pc := 60) (v := 0) d_Mod_relation_60 (by decide) ?_
      refine pb_goto (pc := 61) (tgt := 69) d_Mod_relation_61 (by decide) ?_
      exact pb_iret (pc := 69) hQ d_Mod_relation_69 rfl rfl (0, 1, at3, b3, ms3, rc3, ls3, mk3, lk3, vs3, va3, id3, gg3, is3, gs3) ⟨rfl, (by (try dsimp only); first | done | (with_reducible assumption) | omega (splitDisjunctions := false) | assumption | omega | decide), (by (try dsimp only); first | done | (with_reducible assumption) | omega (splitDisjunctions := false) | assumption | omega | decide), (by (try dsimp only); first | done | (with_reducible assumption) | omega (splitDisjunctions := false) | assumption | omega | decide), (by (try dsimp only); first | done | (with_reducible assumption) | omega (splitDisjunctions := false) | assumption | omega | decide), (by (try dsimp only); first | done | (with_reducible assumption) | omega (splitDisjunctions := false) | assumption | omega | decide), (show ∀ x : Int, 0 ≤ x → x < 200 → 0 ≤ gx is3 x ∧ gx is3 x ≤ 8 from (by first | exact ID | assumption)), (show ∀ x : Int, 0 ≤ x → x < 200 → 0 ≤ gx gs3 x ∧ gx gs3 x ≤ 24 from (by first | exact GO | assumption)), (by (try dsimp only); first | done | (with_reducible assumption) | omega (splitDisjunctions := false) | assumption | omega | decide), (by (try dsimp only); first | done | (with_reducible assumption) | omega (splitDisjunctions := false) | assumption | omega | decide), (show hid_ ((¬ (0 ≤ i.toInt ∧ i.toInt < gx a_count 0) ∧ (1 : Int32).toInt = 1) ∨ ((0 ≤ i.toInt ∧ i.toInt < gx a_count 0) ∧ ∃ t : Int, isF_ (cN_ (gx a_count 0) a_names a_nameSize) (gx a_nameSize i.toInt + 5) (tn6_ (cN_ (gx a_count 0) a_names a_nameSize) i.toInt) t ∧ gq6_ (cN_ (gx a_count 0) a_names a_nameSize) (tT6_ t (mk_ (fun j => gr a_data (4000 * t + j)) (gx a_size t))) k.toInt (0 : Int32).toInt (1 : Int32).toInt)) from (by rcases hid_o j9 with ⟨y1, y2⟩ | ⟨y1, t9, y2, y3, y4⟩; exact hid_i (Or.inl ⟨y1, by omega⟩); exact hid_i (Or.inr ⟨y1, t9, y2, gq_m y3 (by first | exact Or.inl ⟨by omega, by omega, by omega, by omega, goF⟩ | exact Or.inr ⟨by omega, by omega⟩)⟩))), F_mk3, F_lk3, F_va3, F_id3, F_gg3⟩ [0, 1, 2, 3, 4, 5, 6, 7, 8, 9, 10, 11, 12, 13, 14, 15, 16, 17, 18, 19] (by decide) rfl rfl (by decide) (by decide)
    · have twx2 : ¬ th3.toInt = 0 := fun z9 => wx2 ((ti_eq rfl (by decide)).mpr z9)
      refine pb_iload_n (pc := 33) d_Mod_relation_33 3 rfl rfl ?_
      refine pb_if_lt (pc := 34) (tgt := 49) d_Mod_relation_34 (by decide) (fun wx4 => ?_) (fun wx4 => ?_)
      · have twx4 : k.toInt < 0 := (ti_lt rfl (by decide)).mp wx4
        refine pb_iconst (pc := 49) (v := 1) d_Mod_relation_49 (by decide) ?_
        refine pb_put (pc := 50) (ty := .int) (ws' := [(h, .inr (10, [.ref m_rels, .ref m_openRels, .ref m_closeRels, .ref m_openRel, .ref m_closeRel, .ref m_comment, .ref m_ends, .ref m_order, .int 1, .int v_taped, .ref m_tape, .ref m_count, .ref m_nameSize, .ref m_names, .ref m_size, .ref m_data, .int ls3, .ref m_looked, .int v_fileSize, .ref m_file, .int v_directorySize, .ref m_directory, .int v_outSize, .ref m_out, .int v_rowSize, .ref m_row, .int v_bitAt, .int v_bitEnd, .int v_why, .int v_madeSize, .ref m_made, .ref m_length, .int v_firstCount, .int v_secondCount, .int v_heldBits, .int v_heldCount, .int v_pressedSize, .ref m_pressed, .int at3, .int b3, .int ms3, .ref m_mark, .int rc3, .ref m_idSize, .ref m_ids, .ref m_goalSize, .ref m_goals, .int vs3, .ref m_value, .int v_faultCount, .ref m_faults, .ref m_reached])), (m_mark, .inl (G.2.1, 4000, .inl mk3)), (m_value, .inl (G.2.1, 4000, .inl va3)), (m_ids, .inl (G.2.1, 1600, .inl id3)), (m_goals, .inl (G.2.1, 4800, .inl gg3)), (m_idSize, .inl (G.2.2.1, 200, .inl is3)), (m_goalSize, .inl (G.2.2.1, 200, .inl gs3)), (m_openRel, .inl (G.2.1, 4, .inl a_openRel)), (m_closeRel, .inl (G.2.1, 5, .inl a_closeRel)), (m_ends, .inl (G.2.1, 2, .inl a_ends)), (m_comment, .inl (G.2.1, 4, .inl a_comment)), (m_openRels, .inl (G.2.1, 5, .inl a_openRels)), (m_closeRels, .inl (G.2.1, 6, .inl a_closeRels)), (m_size, .inl (G.2.2.1, 34, .inl a_size)), (m_data, .inl (G.2.1, 136000, .inl a_data)), (m_names, .inl (G.2.1, 816, .inl a_names)), (m_nameSize, .inl (G.2.2.1, 34, .inl a_nameSize)), (m_rels, .inl (G.2.1, 5, .inl a_rels)), (m_count, .inl (G.2.2.1, 2, .inl a_count)), (m_looked, .inl (G.2.1, 40, .inl lk3))]) d_Mod_relation_50 0 8 t_Mod t_Mod_ok n_Mod rfl rfl (by decide) in_Mod k_1154 rfl (by decide +kernel) rfl rfl (Nat.le_of_ble_eq_true rfl) rfl ?_
        refine pb_aload_n (pc := 53) d_Mod_relation_53 1 rfl rfl ?_
        refine pb_get (pc := 54) d_Mod_relation_54 0 8 rfl rfl (by decide) in_Mod k_1154 rfl ?_
        refine pb_if_le (pc := 57) (tgt := 64) d_Mod_relation_57 (by decide) (fun h9 => absurd h9 (by decide)) (fun _ => ?_)
        refine pb_iconst (pc := 60) (v := 0) d_Mod_relation_60 (by decide) ?_
        refine pb_goto (pc := 61) (tgt := 69) d_Mod_relation_61 (by decide) ?_
        exact pb_iret (pc := 69) hQ d_Mod_relation_69 rfl rfl (0, 1, at3, b3, ms3, rc3, ls3, mk3, lk3, vs3, va3, id3, gg3, is3, gs3) ⟨rfl, (by (try dsimp only); first | done | (with_reducible assumption) | omega (splitDisjunctions := false) | assumption | omega | decide), (by (try dsimp only); first | done | (with_reducible assumption) | omega (splitDisjunctions := false) | assumption | omega | decide), (by (try dsimp only); first | done | (with_reducible assumption) | omega (splitDisjunctions := false) | assumption | omega | decide), (by (try dsimp only); first | done | (with_reducible assumption) | omega (splitDisjunctions := false) | assumption | omega | decide), (by (try dsimp only); first | done | (with_reducible assumption) | omega (splitDisjunctions := false) | assumption | omega | decide), (show ∀ x : Int, 0 ≤ x → x < 200 → 0 ≤ gx is3 x ∧ gx is3 x ≤ 8 from (by first | exact ID | assumption)), (show ∀ x : Int, 0 ≤ x → x < 200 → 0 ≤ gx gs3 x ∧ gx gs3 x ≤ 24 from (by first | exact GO | assumption)), (by (try dsimp only); first | done | (with_reducible assumption) | omega (splitDisjunctions := false) | assumption | omega | decide), (by (try dsimp only); first | done | (with_reducible assumption) | omega (splitDisjunctions := false) | assumption | omega | decide), (show hid_ ((¬ (0 ≤ i.toInt ∧ i.toInt < gx a_count 0) ∧ (1 : Int32).toInt = 1) ∨ ((0 ≤ i.toInt ∧ i.toInt < gx a_count 0) ∧ ∃ t : Int, isF_ (cN_ (gx a_count 0) a_names a_nameSize) (gx a_nameSize i.toInt + 5) (tn6_ (cN_ (gx a_count 0) a_names a_nameSize) i.toInt) t ∧ gq6_ (cN_ (gx a_count 0) a_names a_nameSize) (tT6_ t (mk_ (fun j => gr a_data (4000 * t + j)) (gx a_size t))) k.toInt (0 : Int32).toInt (1 : Int32).toInt)) from (by rcases hid_o j9 with ⟨y1, y2⟩ | ⟨y1, t9, y2, y3, y4⟩; exact hid_i (Or.inl ⟨y1, by omega⟩); exact hid_i (Or.inr ⟨y1, t9, y2, gq_m y3 (by first | exact Or.inl ⟨by omega, by omega, by omega, by omega, goF⟩ | exact Or.inr ⟨by omega, by omega⟩)⟩))), F_mk3, F_lk3, F_va3, F_id3, F_gg3⟩ [0, 1, 2, 3, 4, 5, 6, 7, 8, 9, 10, 11, 12, 13, 14, 15, 16, 17, 18, 19] (by decide) rfl rfl (by decide) (by decide)
      · have twx4 : ¬ k.toInt < 0 := fun z9 => wx4 ((ti_lt rfl (by decide)).mpr z9)
        refine pb_iload_n (pc := 37) d_Mod_relation_37 3 rfl rfl ?_
        refine pb_aload_n (pc := 38) d_Mod_relation_38 1 rfl rfl ?_
        refine pb_get (pc := 39) d_Mod_relation_39 0 42 rfl rfl (by decide) in_Mod k_1188 rfl ?_
        refine pb_icmp_ge (pc := 42) (tgt := 49) d_Mod_relation_42 (by decide) (fun wx6 => ?_) (fun wx6 => ?_)
        · have twx6 : rc3.toInt ≤ k.toInt := (ti_le rfl rfl).mp wx6
          refine pb_iconst (pc := 49) (v := 1) d_Mod_relation_49 (by decide) ?_
          refine pb_put (pc := 50) (ty := .int) (ws' := [(h, .inr (10, [.ref m_rels, .ref m_openRels, .ref m_closeRels, .ref m_openRel, .ref m_closeRel, .ref m_comment, .ref m_ends, .ref m_order, .int 1, .int v_taped, .ref m_tape, .ref m_count, .ref m_nameSize, .ref m_names, .ref m_size, .ref m_data, .int ls3, .ref m_looked, .int v_fileSize, .ref m_file, .int v_directorySize, .ref m_directory, .int v_outSize, .ref m_out, .int v_rowSize, .ref m_row, .int v_bitAt, .int v_bitEnd, .int v_why, .int v_madeSize, .ref m_made, .ref m_length, .int v_firstCount, .int v_secondCount, .int v_heldBits, .int v_heldCount, .int v_pressedSize, .ref m_pressed, .int at3, .int b3, .int ms3, .ref m_mark, .int rc3, .ref m_idSize, .ref m_ids, .ref m_goalSize, .ref m_goals, .int vs3, .ref m_value, .int v_faultCount, .ref m_faults, .ref m_reached])), (m_mark, .inl (G.2.1, 4000, .inl mk3)), (m_value, .inl (G.2.1, 4000, .inl va3)), (m_ids, .inl (G.2.1, 1600, .inl id3)), (m_goals, .inl (G.2.1, 4800, .inl gg3)), (m_idSize, .inl (G.2.2.1, 200, .inl is3)), (m_goalSize, .inl (G.2.2.1, 200, .inl gs3)), (m_openRel, .inl (G.2.1, 4, .inl a_openRel)), (m_closeRel, .inl (G.2.1, 5, .inl a_closeRel)), (m_ends, .inl (G.2.1, 2, .inl a_ends)), (m_comment, .inl (G.2.1, 4, .inl a_comment)), (m_openRels, .inl (G.2.1, 5, .inl a_openRels)), (m_closeRels, .inl (G.2.1, 6, .inl a_closeRels)), (m_size, .inl (G.2.2.1, 34, .inl a_size)), (m_data, .inl (G.2.1, 136000, .inl a_data)), (m_names, .inl (G.2.1, 816, .inl a_names)), (m_nameSize, .inl (G.2.2.1, 34, .inl a_nameSize)), (m_rels, .inl (G.2.1, 5, .inl a_rels)), (m_count, .inl (G.2.2.1, 2, .inl a_count)), (m_looked, .inl (G.2.1, 40, .inl lk3))]) d_Mod_relation_50 0 8 t_Mod t_Mod_ok n_Mod rfl rfl (by decide) in_Mod k_1154 rfl (by decide +kernel) rfl rfl (Nat.le_of_ble_eq_true rfl) rfl ?_
          refine pb_aload_n (pc := 53) d_Mod_relation_53 1 rfl rfl ?_
          refine pb_get (pc := 54) d_Mod_relation_54 0 8 rfl rfl (by decide) in_Mod k_1154 rfl ?_
          refine pb_if_le (pc := 57) (tgt := 64) d_Mod_relation_57 (by decide) (fun h9 => absurd h9 (by decide)) (fun _ => ?_)
          refine pb_iconst (pc := 60) (v := 0) d_Mod_relation_60 (by decide) ?_
          refine pb_goto (pc := 61) (tgt := 69) d_Mod_relation_61 (by decide) ?_
          exact pb_iret (pc := 69) hQ d_Mod_relation_69 rfl rfl (0, 1, at3, b3, ms3, rc3, ls3, mk3, lk3, vs3, va3, id3, gg3, is3, gs3) ⟨rfl, (by (try dsimp only); first | done | (with_reducible assumption) | omega (splitDisjunctions := false) | assumption | omega | decide), (by (try dsimp only); first | done | (with_reducible assumption) | omega (splitDisjunctions := false) | assumption | omega | decide), (by (try dsimp only); first | done | (with_reducible assumption) | omega (splitDisjunctions := false) | assumption | omega | decide), (by (try dsimp only); first | done | (with_reducible assumption) | omega (splitDisjunctions := false) | assumption | omega | decide), (by (try dsimp only); first | done | (with_reducible assumption) | omega (splitDisjunctions := false) | assumption | omega | decide), (show ∀ x : Int, 0 ≤ x → x < 200 → 0 ≤ gx is3 x ∧ gx is3 x ≤ 8 from (by first | exact ID | assumption)), (show ∀ x : Int, 0 ≤ x → x < 200 → 0 ≤ gx gs3 x ∧ gx gs3 x ≤ 24 from (by first | exact GO | assumption)), (by (try dsimp only); first | done | (with_reducible assumption) | omega (splitDisjunctions := false) | assumption | omega | decide), (by (try dsimp only); first | done | (with_reducible assumption) | omega (splitDisjunctions := false) | assumption | omega | decide), (show hid_ ((¬ (0 ≤ i.toInt ∧ i.toInt < gx a_count 0) ∧ (1 : Int32).toInt = 1) ∨ ((0 ≤ i.toInt ∧ i.toInt < gx a_count 0) ∧ ∃ t : Int, isF_ (cN_ (gx a_count 0) a_names a_nameSize) (gx a_nameSize i.toInt + 5) (tn6_ (cN_ (gx a_count 0) a_names a_nameSize) i.toInt) t ∧ gq6_ (cN_ (gx a_count 0) a_names a_nameSize) (tT6_ t (mk_ (fun j => gr a_data (4000 * t + j)) (gx a_size t))) k.toInt (0 : Int32).toInt (1 : Int32).toInt)) from (by rcases hid_o j9 with ⟨y1, y2⟩ | ⟨y1, t9, y2, y3, y4⟩; exact hid_i (Or.inl ⟨y1, by omega⟩); exact hid_i (Or.inr ⟨y1, t9, y2, gq_m y3 (by first | exact Or.inl ⟨by omega, by omega, by omega, by omega, goF⟩ | exact Or.inr ⟨by omega, by omega⟩)⟩))), F_mk3, F_lk3, F_va3, F_id3, F_gg3⟩ [0, 1, 2, 3, 4, 5, 6, 7, 8, 9, 10, 11, 12, 13, 14, 15, 16, 17, 18, 19] (by decide) rfl rfl (by decide) (by decide)
        · have twx6 : ¬ rc3.toInt ≤ k.toInt := fun z9 => wx6 ((ti_le rfl rfl).mpr z9)
          refine pb_iconst (pc := 45) (v := 0) d_Mod_relation_45 (by decide) ?_
          refine pb_goto (pc := 46) (tgt := 50) d_Mod_relation_46 (by decide) ?_
          refine pb_put (pc := 50) (ty := .int) (ws' := [(h, .inr (10, [.ref m_rels, .ref m_openRels, .ref m_closeRels, .ref m_openRel, .ref m_closeRel, .ref m_comment, .ref m_ends, .ref m_order, .int 0, .int v_taped, .ref m_tape, .ref m_count, .ref m_nameSize, .ref m_names, .ref m_size, .ref m_data, .int ls3, .ref m_looked, .int v_fileSize, .ref m_file, .int v_directorySize, .ref m_directory, .int v_outSize, .ref m_out, .int v_rowSize, .ref m_row, .int v_bitAt, .int v_bitEnd, .int v_why, .int v_madeSize, .ref m_made, .ref m_length, .int v_firstCount, .int v_secondCount, .int v_heldBits, .int v_heldCount, .int v_pressedSize, .ref m_pressed, .int at3, .int b3, .int ms3, .ref m_mark, .int rc3, .ref m_idSize, .ref m_ids, .ref m_goalSize, .ref m_goals, .int vs3, .ref m_value, .int v_faultCount, .ref m_faults, .ref m_reached])), (m_mark, .inl (G.2.1, 4000, .inl mk3)), (m_value, .inl (G.2.1, 4000, .inl va3)), (m_ids, .inl (G.2.1, 1600, .inl id3)), (m_goals, .inl (G.2.1, 4800, .inl gg3)), (m_idSize, .inl (G.2.2.1, 200, .inl is3)), (m_goalSize, .inl (G.2.2.1, 200, .inl gs3)), (m_openRel, .inl (G.2.1, 4, .inl a_openRel)), (m_closeRel, .inl (G.2.1, 5, .inl a_closeRel)), (m_ends, .inl (G.2.1, 2, .inl a_ends)), (m_comment, .inl (G.2.1, 4, .inl a_comment)), (m_openRels, .inl (G.2.1, 5, .inl a_openRels)), (m_closeRels, .inl (G.2.1, 6, .inl a_closeRels)), (m_size, .inl (G.2.2.1, 34, .inl a_size)), (m_data, .inl (G.2.1, 136000, .inl a_data)), (m_names, .inl (G.2.1, 816, .inl a_names)), (m_nameSize, .inl (G.2.2.1, 34, .inl a_nameSize)), (m_rels, .inl (G.2.1, 5, .inl a_rels)), (m_count, .inl (G.2.2.1, 2, .inl a_count)), (m_looked, .inl (G.2.1, 40, .inl lk3))]) d_Mod_relation_50 0 8 t_Mod t_Mod_ok n_Mod rfl rfl (by decide) in_Mod k_1154 rfl (by decide +kernel) rfl rfl (Nat.le_of_ble_eq_true rfl) rfl ?_
          refine pb_aload_n (pc := 53) d_Mod_relation_53 1 rfl rfl ?_
          refine pb_get (pc := 54) d_Mod_relation_54 0 8 rfl rfl (by decide) in_Mod k_1154 rfl ?_
          refine pb_if_le (pc := 57) (tgt := 64) d_Mod_relation_57 (by decide) (fun _ => ?_) (fun h9 => absurd h9 (by decide))
          refine pb_aload_n (pc := 64) d_Mod_relation_64 1 rfl rfl ?_
          refine pb_iload_n (pc := 65) d_Mod_relation_65 3 rfl rfl ?_
          refine pb_callV (pc := 66) (I := i_Mod_relation) (qb := 0) (ci := 10) (nA := 1) (rest := []) (wr := [(m_mark, .inl (G.2.1, 4000, .inl mk3)), (m_value, .inl (G.2.1, 4000, .inl va3)), (m_ids, .inl (G.2.1, 1600, .inl id3)), (m_idSize, .inl (G.2.2.1, 200, .inl is3)), (m_openRel, .inl (G.2.1, 4, .inl a_openRel)), (m_closeRel, .inl (G.2.1, 5, .inl a_closeRel)), (m_ends, .inl (G.2.1, 2, .inl a_ends)), (m_comment, .inl (G.2.1, 4, .inl a_comment)), (m_openRels, .inl (G.2.1, 5, .inl a_openRels)), (m_closeRels, .inl (G.2.1, 6, .inl a_closeRels)), (m_size, .inl (G.2.2.1, 34, .inl a_size)), (m_data, .inl (G.2.1, 136000, .inl a_data)), (m_rels, .inl (G.2.1, 5, .inl a_rels))]) d_Mod_relation_66 (g_Mod_goalOf hl G h m_rels m_openRels m_closeRels m_openRel m_closeRel m_comment m_ends m_order m_tape m_count m_nameSize m_names m_size m_data m_looked m_file m_directory m_out m_row m_made m_length m_pressed m_mark m_idSize m_ids m_goalSize m_goals m_value m_faults m_reached 0 v_taped ls3 v_fileSize v_directorySize v_outSize v_rowSize v_bitAt v_bitEnd v_why v_madeSize v_firstCount v_secondCount v_heldBits v_heldCount v_pressedSize at3 b3 ms3 rc3 vs3 v_faultCount gg3 gs3 a_names a_nameSize lk3 a_count a_size k (by first | assumption | decide | omega) (by first | assumption | decide | omega) (by first | (with_reducible assumption) | omega (splitDisjunctions := false) | assumption | omega | decide) (by first | (with_reducible assumption) | omega (splitDisjunctions := false) | assumption | omega | decide) F_gg3 (by first | assumption | decide | omega) F_lk3) rfl rfl [0, 4, 6, 15, 16, 19, 18] [1, 2, 3, 5, 7, 8, 9, 10, 11, 12, 13, 14, 17] (by decide) rfl rfl rfl (by decide) (by decide) k_1655 rfl k_128 k_1652 k_1654 k_115 ⟨rfl, hy_Mod_goalOf⟩ (by decide) rfl rfl (Nat.le_of_ble_eq_true rfl) (by decide) (fun v9 ux10 ch9 => ?_)
          obtain ⟨r_11, ls_12, lk_13⟩ := ux10
          obtain ⟨ech9, ch9⟩ := ch9
          have ech9 : v9 = some (.int r_11) := ech9
          subst ech9
          obtain ⟨fh14, fh15, fh16, fh17, fh18, fh19⟩ : (-1 ≤ r_11.toInt) ∧ (r_11.toInt < gx a_count 0) ∧ (0 ≤ ls_12.toInt) ∧ (ls_12.toInt ≤ 8000) ∧ (isF_ (cN_ (gx a_count 0) a_names a_nameSize) (gx gs3 k.toInt) (fun j => gx gg3 (24 * k.toInt + j)) r_11.toInt) ∧ (sb_Fit lk_13) := ch9
          have goF := fh18
          refine pb_eq (pc' := 69) (lo' := [(3, .int th3), (0, .ref h), (1, .int i), (2, .int k)]) (rest' := [.int r_11]) (ws' := [(m_mark, .inl (G.2.1, 4000, .inl mk3)), (m_value, .inl (G.2.1, 4000, .inl va3)), (m_ids, .inl (G.2.1, 1600, .inl id3)), (m_idSize, .inl (G.2.2.1, 200, .inl is3)), (m_openRel, .inl (G.2.1, 4, .inl a_openRel)), (m_closeRel, .inl (G.2.1, 5, .inl a_closeRel)), (m_ends, .inl (G.2.1, 2, .inl a_ends)), (m_comment, .inl (G.2.1, 4, .inl a_comment)), (m_openRels, .inl (G.2.1, 5, .inl a_openRels)), (m_closeRels, .inl (G.2.1, 6, .inl a_closeRels)), (m_size, .inl (G.2.2.1, 34, .inl a_size)), (m_data, .inl (G.2.1, 136000, .inl a_data)), (m_rels, .inl (G.2.1, 5, .inl a_rels)), (h, .inr (10, [.ref m_rels, .ref m_openRels, .ref m_closeRels, .ref m_openRel, .ref m_closeRel, .ref m_comment, .ref m_ends, .ref m_order, .int 0, .int v_taped, .ref m_tape, .ref m_count, .ref m_nameSize, .ref m_names, .ref m_size, .ref m_data, .int ls_12, .ref m_looked, .int v_fileSize, .ref m_file, .int v_directorySize, .ref m_directory, .int v_outSize, .ref m_out, .int v_rowSize, .ref m_row, .int v_bitAt, .int v_bitEnd, .int v_why, .int v_madeSize, .ref m_made, .ref m_length, .int v_firstCount, .int v_secondCount, .int v_heldBits, .int v_heldCount, .int v_pressedSize, .ref m_pressed, .int at3, .int b3, .int ms3, .ref m_mark, .int rc3, .ref m_idSize, .ref m_ids, .ref m_goalSize, .ref m_goals, .int vs3, .ref m_value, .int v_faultCount, .ref m_faults, .ref m_reached])), (m_goals, .inl (G.2.1, 4800, .inl gg3)), (m_goalSize, .inl (G.2.2.1, 200, .inl gs3)), (m_names, .inl (G.2.1, 816, .inl a_names)), (m_nameSize, .inl (G.2.2.1, 34, .inl a_nameSize)), (m_looked, .inl (G.2.1, 40, .inl lk_13)), (m_count, .inl (G.2.2.1, 2, .inl a_count))]) ?_
          exact pb_iret (pc := 69) hQ d_Mod_relation_69 rfl rfl (r_11, 0, at3, b3, ms3, rc3, ls_12, mk3, lk_13, vs3, va3, id3, gg3, is3, gs3) ⟨rfl, (by (try dsimp only); first | done | (with_reducible assumption) | omega (splitDisjunctions := false) | assumption | omega | decide), (by (try dsimp only); first | done | (with_reducible assumption) | omega (splitDisjunctions := false) | assumption | omega | decide), (by (try dsimp only); first | done | (with_reducible assumption) | omega (splitDisjunctions := false) | assumption | omega | decide), (by (try dsimp only); first | done | (with_reducible assumption) | omega (splitDisjunctions := false) | assumption | omega | decide), (by (try dsimp only); first | done | (with_reducible assumption) | omega (splitDisjunctions := false) | assumption | omega | decide), (show ∀ x : Int, 0 ≤ x → x < 200 → 0 ≤ gx is3 x ∧ gx is3 x ≤ 8 from (by first | exact ID | assumption)), (show ∀ x : Int, 0 ≤ x → x < 200 → 0 ≤ gx gs3 x ∧ gx gs3 x ≤ 24 from (by first | exact GO | assumption)), (by (try dsimp only); first | done | (with_reducible assumption) | omega (splitDisjunctions := false) | assumption | omega | decide), (by (try dsimp only); first | done | (with_reducible assumption) | omega (splitDisjunctions := false) | assumption | omega | decide), (show hid_ ((¬ (0 ≤ i.toInt ∧ i.toInt < gx a_count 0) ∧ (0 : Int32).toInt = 1) ∨ ((0 ≤ i.toInt ∧ i.toInt < gx a_count 0) ∧ ∃ t : Int, isF_ (cN_ (gx a_count 0) a_names a_nameSize) (gx a_nameSize i.toInt + 5) (tn6_ (cN_ (gx a_count 0) a_names a_nameSize) i.toInt) t ∧ gq6_ (cN_ (gx a_count 0) a_names a_nameSize) (tT6_ t (mk_ (fun j => gr a_data (4000 * t + j)) (gx a_size t))) k.toInt r_11.toInt (0 : Int32).toInt)) from (by rcases hid_o j9 with ⟨y1, y2⟩ | ⟨y1, t9, y2, y3, y4⟩; exact hid_i (Or.inl ⟨y1, by omega⟩); exact hid_i (Or.inr ⟨y1, t9, y2, gq_m y3 (by first | exact Or.inl ⟨by omega, by omega, by omega, by omega, goF⟩ | exact Or.inr ⟨by omega, by omega⟩)⟩))), F_mk3, fh19, F_va3, F_id3, F_gg3⟩ [13, 0, 1, 2, 14, 3, 15, 4, 5, 6, 7, 8, 9, 10, 11, 16, 17, 12, 19, 18] (by decide) rfl rfl (by decide) (by decide)
  refine pb_iload_n (pc := 0) d_Mod_relation_0 1 rfl rfl ?_
  refine pb_if_lt (pc := 1) (tgt := 26) d_Mod_relation_1 (by decide) (fun wx20 => ?_) (fun wx20 => ?_)
  · have twx20 : i.toInt < 0 := (ti_lt rfl (by decide)).mp wx20
    refine pb_iconst (pc := 26) (v := 0) d_Mod_relation_26 (by decide) ?_
    refine pb_istore_n (pc := 27) (lo' := [(3, .int 0), (0, .ref h), (1, .int i), (2, .int k)]) d_Mod_relation_27 rfl (by decide) rfl ?_
    exact hJ28_1 0 v_at v_bad v_markSize v_relationCount v_lookedSize a_mark a_looked v_valueSize a_value a_ids a_goals a_idSize a_goalSize F_a_mark F_a_looked F_a_value F_a_ids F_a_goals (by first | (with_reducible assumption) | omega (splitDisjunctions := false) | assumption | omega | decide) (by first | (with_reducible assumption) | omega (splitDisjunctions := false) | assumption | omega | decide) (by first | (with_reducible assumption) | omega (splitDisjunctions := false) | assumption | omega | decide) (by first | (with_reducible assumption) | omega (splitDisjunctions := false) | assumption | omega | decide) (by first | (with_reducible assumption) | omega (splitDisjunctions := false) | assumption | omega | decide) (by first | exact ID | assumption) (by first | exact GO | assumption) (by first | (with_reducible assumption) | omega (splitDisjunctions := false) | assumption | omega | decide) (by first | (with_reducible assumption) | omega (splitDisjunctions := false) | assumption | omega | decide) (by first | (obtain ⟨t9, y1, y2⟩ := hid_o rrF; exact hid_i (Or.inr ⟨by omega, t9, y1, y2, by omega⟩)) | exact hid_i (Or.inl ⟨by omega, by omega⟩))
  · have twx20 : ¬ i.toInt < 0 := fun z9 => wx20 ((ti_lt rfl (by decide)).mpr z9)
    refine pb_iload_n (pc := 4) d_Mod_relation_4 1 rfl rfl ?_
    refine pb_aload_n (pc := 5) d_Mod_relation_5 0 rfl rfl ?_
    refine pb_get (pc := 6) d_Mod_relation_6 0 11 rfl rfl (by decide) in_Mod k_1157 rfl ?_
    refine pb_iconst (pc := 9) (v := 0) d_Mod_relation_9 (by decide) ?_
    refine pb_iald (pc := 10) d_Mod_relation_10 18 rfl (by unfold vp_in; decide) ?_
    refine pb_topi (fun ix21 eix21 => ?_)
    have tix21 : ix21.toInt = gx a_count (0) := gx_ld eix21 (by omega)
    refine pb_icmp_ge (pc := 11) (tgt := 26) d_Mod_relation_11 (by decide) (fun wx22 => ?_) (fun wx22 => ?_)
    · have twx22 : ix21.toInt ≤ i.toInt := (ti_le rfl rfl).mp wx22
      refine pb_iconst (pc := 26) (v := 0) d_Mod_relation_26 (by decide) ?_
      refine pb_istore_n (pc := 27) (lo' := [(3, .int 0), (0, .ref h), (1, .int i), (2, .int k)]) d_Mod_relation_27 rfl (by decide) rfl ?_
      exact hJ28_1 0 v_at v_bad v_markSize v_relationCount v_lookedSize a_mark a_looked v_valueSize a_value a_ids a_goals a_idSize a_goalSize F_a_mark F_a_looked F_a_value F_a_ids F_a_goals (by first | (with_reducible assumption) | omega (splitDisjunctions := false) | assumption | omega | decide) (by first | (with_reducible assumption) | omega (splitDisjunctions := false) | assumption | omega | decide) (by first | (with_reducible assumption) | omega (splitDisjunctions := false) | assumption | omega | decide) (by first | (with_reducible assumption) | omega (splitDisjunctions := false) | assumption | omega | decide) (by first | (with_reducible assumption) | omega (splitDisjunctions := false) | assumption | omega | decide) (by first | exact ID | assumption) (by first | exact GO | assumption) (by first | (with_reducible assumption) | omega (splitDisjunctions := false) | assumption | omega | decide) (by first | (with_reducible assumption) | omega (splitDisjunctions := false) | assumption | omega | decide) (by first | (obtain ⟨t9, y1, y2⟩ := hid_o rrF; exact hid_i (Or.inr ⟨by omega, t9, y1, y2, by omega⟩)) | exact hid_i (Or.inl ⟨by omega, by omega⟩))
    · have twx22 : ¬ ix21.toInt ≤ i.toInt := fun z9 => wx22 ((ti_le rfl rfl).mpr z9)
      refine pb_aload_n (pc := 14) d_Mod_relation_14 0 rfl rfl ?_
      refine pb_iload_n (pc := 15) d_Mod_relation_15 1 rfl rfl ?_
      refine pb_callV (pc := 16) (I := i_Mod_relation) (qb := 0) (ci := 10) (nA := 1) (rest := []) (wr := []) d_Mod_relation_16 (g_Mod_readRelations hl G h m_rels m_openRels m_closeRels m_openRel m_closeRel m_comment m_ends m_order m_tape m_count m_nameSize m_names m_size m_data m_looked m_file m_directory m_out m_row m_made m_length m_pressed m_mark m_idSize m_ids m_goalSize m_goals m_value m_faults m_reached v_thrown v_taped v_lookedSize v_fileSize v_directorySize v_outSize v_rowSize v_bitAt v_bitEnd v_why v_madeSize v_firstCount v_secondCount v_heldBits v_heldCount v_pressedSize v_at v_bad v_markSize v_relationCount v_valueSize v_faultCount a_mark a_value a_ids a_goals a_idSize a_goalSize a_openRel a_closeRel a_ends a_comment a_openRels a_closeRels a_size a_data a_names a_nameSize a_rels a_count a_looked i (by first | (with_reducible assumption) | omega (splitDisjunctions := false) | assumption | omega | decide) (by first | (with_reducible assumption) | omega (splitDisjunctions := false) | assumption | omega | decide) (by first | assumption | decide | omega) (by first | assumption | decide | omega) (by first | assumption | decide | omega) (by first | assumption | decide | omega) (by first | assumption | decide | omega) (by first | assumption | decide | omega) (by first | assumption | decide | omega) (by first | assumption | decide | omega) (by first | assumption | decide | omega) (by first | assumption | decide | omega) (by first | assumption | decide | omega) (by first | assumption | decide | omega) (by first | assumption | decide | omega) (by first | assumption | decide | omega) (by first | assumption | decide | omega) (by first | (with_reducible assumption) | omega (splitDisjunctions := false) | assumption | omega | decide) (by first | (with_reducible assumption) | omega (splitDisjunctions := false) | assumption | omega | decide) (by first | assumption | decide | omega) (by first | (with_reducible assumption) | omega (splitDisjunctions := false) | assumption | omega | decide) (by first | (with_reducible assumption) | omega (splitDisjunctions := false) | assumption | omega | decide) F_a_mark F_a_value F_a_ids F_a_goals F_a_openRel F_a_closeRel F_a_ends F_a_comment F_a_openRels F_a_closeRels F_a_data F_a_names F_a_rels F_a_looked) rfl rfl [0, 1, 2, 3, 4, 5, 6, 7, 8, 9, 10, 11, 12, 13, 14, 15, 16, 17, 18, 19] [] (by decide) rfl rfl rfl (by decide) (by decide) k_1565 rfl k_128 k_1562 k_1564 k_95 ⟨rfl, hy_Mod_readRelations⟩ (by decide) rfl rfl (Nat.le_of_ble_eq_true rfl) (by decide) (fun v9 ux24 ch23 => ?_)
      obtain ⟨r_25, at_26, b_27, ms_28, rc_29, ls_30, mk_31, lk_32, vs_33, va_34, id_35, gg_36, is_37, gs_38⟩ := ux24
      obtain ⟨ech23, ch23⟩ := ch23
      have ech23 : v9 = some (.int r_25) := ech23
      subst ech23
      obtain ⟨fh39, fh40, fh41, fh42, fh43, fh44, fh45, fh46, fh47, fh48, fh49, fh50, fh51, fh52, fh53, fh54, fh55, fh56⟩ : (r_25.toInt = 0 ∨ r_25.toInt = 1) ∧ (r_25.toInt = 1 → rc_29.toInt = 0 ∨ ∃ t : Int, isT a_nameSize a_names a_rels (gx a_count 0) (i.toInt) t ∧ 20 * rc_29.toInt ≤ gx a_size t) ∧ (0 ≤ rc_29.toInt) ∧ (rc_29.toInt ≤ 200) ∧ (b_27.toInt = 0 ∨ b_27.toInt = 1) ∧ (0 ≤ vs_33.toInt) ∧ (vs_33.toInt ≤ 4000) ∧ (∀ x : Int, 0 ≤ x → x < 200 → 0 ≤ gx is_37 x ∧ gx is_37 x ≤ 8) ∧ (∀ x : Int, 0 ≤ x → x < 200 → 0 ≤ gx gs_38 x ∧ gx gs_38 x ≤ 24) ∧ (0 ≤ ls_30.toInt) ∧ (ls_30.toInt ≤ 8000) ∧ ((r_25.toInt = 1 ∧ b_27.toInt = 0) ∨ (r_25.toInt = 0 ∧ ¬ b_27.toInt = 0)) ∧ (hid_ (∃ t : Int, isF_ (cN_ (gx a_count 0) a_names a_nameSize) (gx a_nameSize i.toInt + 5) (tn6_ (cN_ (gx a_count 0) a_names a_nameSize) i.toInt) t ∧ mR6_ (tT6_ t (mk_ (fun j => gr a_data (4000 * t + j)) (gx a_size t))) b_27.toInt rc_29.toInt is_37 id_35 gs_38 gg_36)) ∧ (sb_Fit mk_31) ∧ (sb_Fit lk_32) ∧ (sb_Fit va_34) ∧ (sb_Fit id_35) ∧ (sb_Fit gg_36) := ch23
      have rrF := fh51
      refine pb_eq (pc' := 19) (lo' := [(0, .ref h), (1, .int i), (2, .int k)]) (rest' := [.int r_25]) (ws' := [(h, .inr (10, [.ref m_rels, .ref m_openRels, .ref m_closeRels, .ref m_openRel, .ref m_closeRel, .ref m_comment, .ref m_ends, .ref m_order, .int v_thrown, .int v_taped, .ref m_tape, .ref m_count, .ref m_nameSize, .ref m_names, .ref m_size, .ref m_data, .int ls_30, .ref m_looked, .int v_fileSize, .ref m_file, .int v_directorySize, .ref m_directory, .int v_outSize, .ref m_out, .int v_rowSize, .ref m_row, .int v_bitAt, .int v_bitEnd, .int v_why, .int v_madeSize, .ref m_made, .ref m_length, .int v_firstCount, .int v_secondCount, .int v_heldBits, .int v_heldCount, .int v_pressedSize, .ref m_pressed, .int at_26, .int b_27, .int ms_28, .ref m_mark, .int rc_29, .ref m_idSize, .ref m_ids, .ref m_goalSize, .ref m_goals, .int vs_33, .ref m_value, .int v_faultCount, .ref m_faults, .ref m_reached])), (m_mark, .inl (G.2.1, 4000, .inl mk_31)), (m_value, .inl (G.2.1, 4000, .inl va_34)), (m_ids, .inl (G.2.1, 1600, .inl id_35)), (m_goals, .inl (G.2.1, 4800, .inl gg_36)), (m_idSize, .inl (G.2.2.1, 200, .inl is_37)), (m_goalSize, .inl (G.2.2.1, 200, .inl gs_38)), (m_openRel, .inl (G.2.1, 4, .inl a_openRel)), (m_closeRel, .inl (G.2.1, 5, .inl a_closeRel)), (m_ends, .inl (G.2.1, 2, .inl a_ends)), (m_comment, .inl (G.2.1, 4, .inl a_comment)), (m_openRels, .inl (G.2.1, 5, .inl a_openRels)), (m_closeRels, .inl (G.2.1, 6, .inl a_closeRels)), (m_size, .inl (G.2.2.1, 34, .inl a_size)), (m_data, .inl (G.2.1, 136000, .inl a_data)), (m_names, .inl (G.2.1, 816, .inl a_names)), (m_nameSize, .inl (G.2.2.1, 34, .inl a_nameSize)), (m_rels, .inl (G.2.1, 5, .inl a_rels)), (m_count, .inl (G.2.2.1, 2, .inl a_count)), (m_looked, .inl (G.2.1, 40, .inl lk_32))]) ?_
      refine pb_if_eq (pc := 19) (tgt := 26) d_Mod_relation_19 (by decide) (fun wx57 => ?_) (fun wx57 => ?_)
      · have twx57 : r_25.toInt = 0 := (ti_eq rfl (by decide)).mp wx57
        refine pb_iconst (pc := 26) (v := 0) d_Mod_relation_26 (by decide) ?_
        refine pb_istore_n (pc := 27) (lo' := [(3, .int 0), (0, .ref h), (1, .int i), (2, .int k)]) d_Mod_relation_27 rfl (by decide) rfl ?_
        exact hJ28_1 0 at_26 b_27 ms_28 rc_29 ls_30 mk_31 lk_32 vs_33 va_34 id_35 gg_36 is_37 gs_38 fh52 fh53 fh54 fh55 fh56 (by first | (with_reducible assumption) | omega (splitDisjunctions := false) | assumption | (clear fh40; first | omega (splitDisjunctions := false) | omega) | omega | decide) (by first | (with_reducible assumption) | omega (splitDisjunctions := false) | assumption | (clear fh40; first | omega (splitDisjunctions := false) | omega) | omega | decide) (by first | (with_reducible assumption) | omega (splitDisjunctions := false) | assumption | (clear fh40; first | omega (splitDisjunctions := false) | omega) | omega | decide) (by first | (with_reducible assumption) | omega (splitDisjunctions := false) | assumption | (clear fh40; first | omega (splitDisjunctions := false) | omega) | omega | decide) (by first | (with_reducible assumption) | omega (splitDisjunctions := false) | assumption | (clear fh40; first | omega (splitDisjunctions := false) | omega) | omega | decide) (by first | exact ID | assumption) (by first | exact GO | assumption) (by first | (with_reducible assumption) | omega (splitDisjunctions := false) | assumption | (clear fh40; first | omega (splitDisjunctions := false) | omega) | omega | decide) (by first | (with_reducible assumption) | omega (splitDisjunctions := false) | assumption | (clear fh40; first | omega (splitDisjunctions := false) | omega) | omega | decide) (by first | (obtain ⟨t9, y1, y2⟩ := hid_o rrF; exact hid_i (Or.inr ⟨by omega, t9, y1, y2, by omega⟩)) | exact hid_i (Or.inl ⟨by omega, by omega⟩))
      · have twx57 : ¬ r_25.toInt = 0 := fun z9 => wx57 ((ti_eq rfl (by decide)).mpr z9)
        refine pb_iconst (pc := 22) (v := 1) d_Mod_relation_22 (by decide) ?_
        refine pb_goto (pc := 23) (tgt := 27) d_Mod_relation_23 (by decide) ?_
        refine pb_istore_n (pc := 27) (lo' := [(3, .int 1), (0, .ref h), (1, .int i), (2, .int k)]) d_Mod_relation_27 rfl (by decide) rfl ?_
        exact hJ28_1 1 at_26 b_27 ms_28 rc_29 ls_30 mk_31 lk_32 vs_33 va_34 id_35 gg_36 is_37 gs_38 fh52 fh53 fh54 fh55 fh56 (by first | (with_reducible assumption) | omega (splitDisjunctions := false) | assumption | (clear fh40; first | omega (splitDisjunctions := false) | omega) | omega | decide) (by first | (with_reducible assumption) | omega (splitDisjunctions := false) | assumption | (clear fh40; first | omega (splitDisjunctions := false) | omega) | omega | decide) (by first | (with_reducible assumption) | omega (splitDisjunctions := false) | assumption | (clear fh40; first | omega (splitDisjunctions := false) | omega) | omega | decide) (by first | (with_reducible assumption) | omega (splitDisjunctions := false) | assumption | (clear fh40; first | omega (splitDisjunctions := false) | omega) | omega | decide) (by first | (with_reducible assumption) | omega (splitDisjunctions := false) | assumption | (clear fh40; first | omega (splitDisjunctions := false) | omega) | omega | decide) (by first | exact ID | assumption) (by first | exact GO | assumption) (by first | (with_reducible assumption) | omega (splitDisjunctions := false) | assumption | (clear fh40; first | omega (splitDisjunctions := false) | omega) | omega | decide) (by first | (with_reducible assumption) | omega (splitDisjunctions := false) | assumption | (clear fh40; first | omega (splitDisjunctions := false) | omega) | omega | decide) (by first | (obtain ⟨t9, y1, y2⟩ := hid_o rrF; exact hid_i (Or.inr ⟨by omega, t9, y1, y2, by omega⟩)) | exact hid_i (Or.inl ⟨by omega, by omega⟩))
/-! methods that may throw, their calls, and catching (launches without stack traces) -/
section PX
variable {l : Launch} {G : pb_G} {M : pb_M} {I : pb_I} {pc : Nat} {lo : List (Nat × Value)} {rest : List Value} {ws : va_W} {ck cn : Nat}
/-- what a method leaves that returns or throws: px of the exception's class and of the world then -/
def cx_Q {S SX : Type} (G : pb_G) (A : Nat → Prop) (post : Option Value → S → Prop) (w1 : S → va_W) (px : String → SX → Prop) (wx : SX → va_W) (mc ms : Nat) : Array Value → State → Outcome → State → Prop := fun a s0 o t =>
  (cn_Q G A post w1 a s0 o t ∧ ∃ L, FrameEnd s0 o t L mc ms ∧ ∀ q ∈ L, A q.base) ∨
  ∃ (q : Addr) (E : String) (ce : Cell) (L : List Loc) (u : SX), o = .threw q ∧ (px E u ∧ va_P G.1 vwCl (wx u) t.heap ∧ va_D A (wx u) ∧ va_F A s0 t) ∧ t.heap[q]? = some ce ∧ ce.vm = .none ∧ s0.vm.findClass E = some ce.cls ∧ s0.WarmedH t.vm ∧ s0.sameButNew ({ t with vm := s0.vm } : State) L mc ms ∧ ∀ z ∈ L, A z.base
def Cx (l : Launch) (G : pb_G) (I : pb_I) (as : List Value) (w0 : va_W) {S SX : Type} (post : Option Value → S → Prop) (w1 : S → va_W) (px : String → SX → Prop) (wx : SX → va_W) : Prop :=
  ∀ sz : Nat, MetFree l (pi_y I) (headSpec (pi_w I) (pi_R I)) (va_Pc as (cn_B G w0 sz)) (fun _ _ _ _ _ => True) (cx_Q G (va_A w0 sz) post w1 px wx (pi_R I).cells (pi_R I).slots)
def pb_Rx {S SX : Type} (G : pb_G) (M : pb_M) (I : pb_I) (post : Option Value → S → Prop) (w1 : S → va_W) (px : String → SX → Prop) (wx : SX → va_W) : Prop :=
  pm_Q M = (fun t => ∃ o, t.status = .running ∧ Ended t (pm_b M) o ∧ cx_Q G (pm_A M) post w1 px wx (pi_R I).cells (pi_R I).slots (pm_a M) (pm_s M) o t) ∧ ∀ x ∈ (pm_c M).exceptionTable.toList, False
theorem pb_iretx {S SX : Type} {post : Option Value → S → Prop} {w1 : S → va_W} {px : String → SX → Prop} {wx : SX → va_W} {v : Int32} (hQ : pb_Rx G M I post w1 px wx) (hd : decode (pi_c I) pc = .ok (.ireturn, 1)) {ty : FieldType} (hr : pi_r I = some ty) (hn : narrow ty (.int v) = .int v) (u : S) (hp : post (some (.int v)) u) (is : List Nat) (h1 : va_nd is = true) (h2 : is.map (fun i => ws[i]?) = (w1 u).map some) (h3 : is.filterMap (fun i => ws[i]?) = w1 u) (h4 : ck ≤ (pi_R I).cells) (h5 : cn ≤ (pi_R I).slots) : pb_P l G M I pc lo [.int v] ws ck cn := fun E H locs ls hP hD hS hl => by
  refine W.widen h4 h5 ?_
  rw [show pm_Q M = _ from hQ.1]
  intro T hT X
  obtain ⟨t, a1, o, b1, b2, b3, b4⟩ := (W.zret (Qc := cn_Q G (pm_A M) post w1) (free := pm_A M) E.1 E.2.1 ((pb_ret E).trans hr) hn (fun t ht hW => ⟨⟨_, u, rfl, hp, by rw [ht]; exact hP.sub is h3, hD.sub is h1 h2⟩, hS.F ht⟩) hS.2.2 hd (pb_lock E)) T hT X
  exact ⟨t, a1, o, b1, b2, Or.inl ⟨b3, b4⟩⟩
theorem Cx.of {S SX : Type} {as : List Value} {w0 : va_W} {post : Option Value → S → Prop} {w1 : S → va_W} {px : String → SX → Prop} {wx : SX → va_W} (hl : l.stackTraces = false) (hy : plainName (pi_y I).cls = true) (hw : pi_d I = .code (pi_y I) (pi_c I) (pi_n I) (pi_r I)) (hn : (lg_sl as).length ≤ pi_n I)
    (body : ∀ M : pb_M, pb_Rx G M I post w1 px wx → pb_P l G M I 0 (lv_args 0 as) [] w0 0 0) : Cx l G I as w0 post w1 px wx := by
  intro sz
  have hw2 := pb_hw hw
  refine MetFree.of_bodyS (code := pi_c I) (maxLocals := pi_n I) (ret := pi_r I) hy ?_ ?_
  · intro args s m h hn
    obtain ⟨meth, c, h1, h2, h3, h4, h5, h6, -, -⟩ := Cond.code_spec hn (atoms_spec (ws := pi_w I) h _ (by rw [hw2]; exact List.mem_cons_self))
    exact ⟨meth, c, h1, h2, h3, h4, h5, h6⟩
  · intro p e s m args below meth c s₁ B hml hv _
    have hh0 : s₁.heap = s.heap := by rw [B.state]; rfl
    have ht : ∀ x ∈ c.exceptionTable.toList, False := by
      obtain ⟨meth9, c9, h1, h2, -, -, -, -, h7, -⟩ := Cond.code_spec B.named (atoms_spec (ws := pi_w I) B.pre _ (by rw [hw2]; exact List.mem_cons_self))
      cases Option.some.inj (h1.symm.trans B.method)
      cases Option.some.inj (h2.symm.trans (Stand.of_body B).code)
      intro x hx
      rw [Array.isEmpty_iff.mp h7] at hx
      cases hx
    obtain ⟨rfl, hsz, hP, hK, hD0, hZ⟩ := hv
    subst hsz
    have hl9 := lv_entry as hn
    have K := body ((p, e, s, m, as.toArray), (below, meth, c), (va_A w0 s.heap.size, fun t => ∃ o, t.status = .running ∧ Ended t below o ∧ cx_Q G (va_A w0 s.heap.size) post w1 px wx (pi_R I).cells (pi_R I).slots as.toArray s o t)) ⟨rfl, ht⟩
      ⟨B.exec, B.bytes, hml, findClass_of_methodNamed B.named, fun w h => atoms_spec (ws := pi_w I) B.pre w (List.mem_cons_of_mem _ h), hK, fun q h => Or.inr h, B.notSynchronized, fun h9 => (name_of_methodNamed B.named B.method).1.trans h9, B.returns, hl, hZ⟩ s.heap [] _ hP hD0.self va_S.rf hl9
    obtain ⟨t, a1, o, b1, b2, b3⟩ := K s₁ hh0 (Stand.of_body B)
    refine ⟨t, o, ?_, b1, b2, b3⟩
    rw [lg_entry_eq]
    exact a1
/-- the same place, begun anew there -/
theorem px_base {p : Program} {e : Env} {R R' : Room} {s T : State} {m : MethodId} {args : Array Value} {below : List Frame} {meth : Method} {c : Code} {locs : List Loc} {cells slots : Nat} (X : Stand p l e R s m args below meth c T locs cells slots) (hf : R'.frames ≤ R.frames) (hl : R'.locals ≤ R.locals) (hc : cells + R'.cells ≤ R.cells) (hs : slots + R'.slots ≤ R.slots) :
    Stand p l e R' ((T.setVm s.vm).setFrames (.invoking m args :: below)) m args below meth c T [] 0 0 := by
  have htop : (T.setVm s.vm).topJava?.isSome := X.here.top
  have hF : ((T.setVm s.vm).setFrames (.invoking m args :: below)).frames = .invoking m args :: below := State.frames_setFrames _ (State.cur_lt_of_top htop)
  obtain ⟨g₀, hg0⟩ := Option.isSome_iff_exists.mp htop
  obtain ⟨r, hr⟩ := State.topJava?_eq_some.mp hg0
  have hl9 : e.platform.stackLimits (T.setVm s.vm).me = e.platform.stackLimits s.me := X.limits
  have hb9 : (T.setVm s.vm).me.stackBytes = s.me.stackBytes := X.bytes
  have hd9 : (T.heap.toList.drop T.heap.size) = [] := List.drop_eq_nil_of_le (Nat.le_of_eq Array.length_toList)
  refine ⟨X.admits, X.cas, X.clock, hF, ?_, X.hears, X.method, X.code, X.here, X.tail, X.warmed, ?_, ?_, ?_⟩
  · have h := X.room
    have hU : ((T.setVm s.vm).setFrames (.invoking m args :: below)).localsInUse = s.localsInUse := by
      rw [State.localsInUse_invoking hF (meth := meth) (c := c) X.method X.code, State.localsInUse_invoking X.frames X.method X.code]
    simp only [State.hasRoom, Bool.and_eq_true, decide_eq_true_eq] at h ⊢
    obtain ⟨⟨⟨⟨h1, h2, h3, h4, h5, h6⟩, h7⟩, h8⟩, h9⟩ := h
    rw [X.frames, List.length_cons] at h2 h3
    have q1 := X.heapSize
    have q2 := X.used
    simp only [hF, hU, List.length_cons, State.stackLimits_setFrames, State.stackBytes_setFrames, hl9, hb9]
    refine ⟨⟨⟨⟨by omega, by omega, by omega, by omega, by omega, h6⟩, ?_⟩, ?_⟩, X.book⟩
    · show T.heap.size + R'.cells ≤ e.platform.maxCells
      omega
    · show T.slotsUsed + R'.slots ≤ e.platform.maxSlots
      omega
  · rw [State.stackLimits_setFrames]; rfl
  · rw [State.stackBytes_setFrames]; rfl
  · refine ⟨?_, Nat.le_refl _, Nat.le_refl _, ?_, ?_, fun a c9 h9 => ⟨c9, h9, rfl, rfl, fun _ _ => rfl⟩⟩
    · obtain ⟨t, ht, -⟩ := State.frames_cons hr
      show T.setVm s.vm = { ((T.setVm s.vm).setFrames (.invoking m args :: below)).setFrames (T.setVm s.vm).frames with heap := T.heap, slotsUsed := T.slotsUsed }
      rw [State.setFrames_setFrames, State.setFrames_self ht]
      rfl
    · show T.slotsUsed = T.slotsUsed + ((T.heap.toList.drop T.heap.size).map (·.slots.size)).sum
      rw [hd9]; rfl
    · show ((T.heap.toList.drop T.heap.size).map (·.slots.size)).sum ≤ 0
      rw [hd9]; exact Nat.le_refl _
theorem px_frame {s U : State} {locs : List Loc} {k n : Nat} (h : s.sameButNew ({ U with vm := s.vm } : State) locs k n) : s.heap.size ≤ U.heap.size ∧ ∀ q : Nat, q < s.heap.size → (∀ z ∈ locs, z.base ≠ q) → U.heap[q]? = s.heap[q]? := by
  obtain ⟨-, h2, -, -, -, h6⟩ := h
  refine ⟨h2, fun q hq hz => ?_⟩
  obtain ⟨c9, e1, e2, -, e4⟩ := h6 q _ (Array.getElem?_eq_getElem hq)
  have hs : c9.slots = (s.heap[q]).slots := Array.ext_getElem? fun i => e4 i fun hm => hz _ hm rfl
  rw [hs] at e2
  have h9 : c9 = s.heap[q] := e2
  have e5 : U.heap[q]? = some c9 := e1
  rw [e5, h9, Array.getElem?_eq_getElem hq]
/-- the words of a throw but for the four that are about the heap -/
def px_no (w : Cond) : Bool := decide (w ≠ .isRef (.static Bundle.tN "UNASSIGNED_STACK" Bundle.steD)) && decide (w ≠ .isRef (.static Bundle.tN "SUPPRESSED_SENTINEL" Bundle.listD)) && decide (w ≠ .laysStatic Bundle.tN "UNASSIGNED_STACK" Bundle.steD) && decide (w ≠ .laysStatic Bundle.tN "SUPPRESSED_SENTINEL" Bundle.listD)
def px_in (L : List Cond) : Bool := L.all fun w => !px_no w || (decide (w ∈ lw_tbl) && (goodWord w || pb_isN w))
theorem px_words {L : List Cond} (hin : px_in L = true) (E : pb_Ev l G M I) {s' : State} {H : Heap} {locs : List Loc} (hS : va_S (pm_A M) (pm_s M).heap H locs) (hvm : s'.vm = (pm_s M).vm) (hhp : s'.heap = H) : ∀ w ∈ L, w.before (pm_a M) s' = true := by
  have hW0 : (pm_s M).WarmedH s'.vm := by rw [hvm]; exact State.WarmedH.refl _
  have hZ := pb_Z.same (U := s') hvm ((pb_z E).kept hS)
  rw [← hhp] at hZ
  intro w hw
  have h1 := List.all_eq_true.mp hin w hw
  by_cases e1 : w = .isRef (.static Bundle.tN "UNASSIGNED_STACK" Bundle.steD)
  · rw [e1]; exact hZ.2.2.2.1.isRef
  by_cases e2 : w = .isRef (.static Bundle.tN "SUPPRESSED_SENTINEL" Bundle.listD)
  · rw [e2]; exact hZ.2.2.2.2.1.isRef
  by_cases e3 : w = .laysStatic Bundle.tN "UNASSIGNED_STACK" Bundle.steD
  · rw [e3]; exact hZ.2.2.2.1.lays
  by_cases e4 : w = .laysStatic Bundle.tN "SUPPRESSED_SENTINEL" Bundle.listD
  · rw [e4]; exact hZ.2.2.2.2.1.lays
  have hno : px_no w = true := by unfold px_no; rw [decide_eq_true e1, decide_eq_true e2, decide_eq_true e3, decide_eq_true e4]; rfl
  rw [hno] at h1
  simp only [Bool.not_true, Bool.false_or, Bool.and_eq_true, Bool.or_eq_true, decide_eq_true_eq] at h1
  obtain ⟨hm, hg | hg⟩ := h1
  · have hu : w ∈ uW := List.mem_filter.mpr ⟨hm, hg⟩
    exact word_at hW0 (uW_good hu) (pb_w E hu)
  · have hu : w ∈ uN := List.mem_filter.mpr ⟨hm, hg⟩
    exact uN_use hu (hZ.2.1 w hu)
theorem px_own {own X : String} {ic : Nat} {names : List String} {a b : Cond} (h0 : px_in (Bundle.throwableAtoms ++ Bundle.throwableSAtoms) = true) (h1 : px_in (a :: b :: (Bundle.ownAtoms own ic X names).drop (Bundle.throwableAtoms ++ Bundle.throwableSAtoms).length) = true) : px_in (a :: b :: Bundle.ownAtoms own ic X names) = true := by
  have e : Bundle.ownAtoms own ic X names = (Bundle.throwableAtoms ++ Bundle.throwableSAtoms) ++ (Bundle.ownAtoms own ic X names).drop (Bundle.throwableAtoms ++ Bundle.throwableSAtoms).length := by
    unfold Bundle.ownAtoms
    rw [List.append_assoc (Bundle.throwableAtoms ++ Bundle.throwableSAtoms), List.drop_left]
  have h2 : px_in ([a, b] ++ (Bundle.ownAtoms own ic X names).drop (Bundle.throwableAtoms ++ Bundle.throwableSAtoms).length) = true := h1
  show px_in ([a, b] ++ Bundle.ownAtoms own ic X names) = true
  unfold px_in at h0 h2 ⊢
  rw [List.all_append, Bool.and_eq_true] at h2
  rw [e, List.all_append, List.all_append, h2.1, h0, h2.2]; rfl
theorem px_base0 : px_in (Bundle.throwableAtoms ++ Bundle.throwableSAtoms) = true := by decide +kernel
set_option maxHeartbeats 1000000 in
/-- throw new cls(text) -/
theorem pb_throwS {S SX : Type} {post : Option Value → S → Prop} {w1 : S → va_W} {px : String → SX → Prop} {wx : SX → va_W} {cls text : String} {names : List String} {ik is ic : Nat} (hQ : pb_Rx G M I post w1 px wx)
    (d0 : decode (pi_c I) pc = .ok (.new ik, 3)) (d3 : decode (pi_c I) (pc + 3) = .ok (.dup, 1)) (d4 : decode (pi_c I) (pc + 4) = .ok (.ldc is, 2)) (d6 : decode (pi_c I) (pc + 6) = .ok (.invokespecial ic, 3)) (d9 : decode (pi_c I) (pc + 9) = .ok (.athrow, 1))
    (hcls : Bundle.fit cls = true) (hnames : ∀ n ∈ names, Bundle.fit n = true) (hat : px_in (.classLink (pi_y I).cls ik cls :: .initialized cls :: Bundle.ownAtoms (pi_y I).cls ic cls names) = true) (hstr : ((pi_y I).cls, is, text) ∈ pb_strs)
    (h6 : names.length + 3 < (pi_R I).frames) (h7 : (rest.map fun v => v.category).sum + (13 * (names.length + 1) + 43) ≤ (pi_R I).locals) (h4 : ck + 1 ≤ (pi_R I).cells) (h5 : cn + 6 ≤ (pi_R I).slots)
    (u : SX) (hp : px cls u) (ps : List Nat) (h1 : va_nd ps = true) (h2 : ps.map (fun i => ws[i]?) = (wx u).map some) (h3 : ps.filterMap (fun i => ws[i]?) = wx u) : pb_P l G M I pc lo rest ws ck cn := fun E H locs ls hP hD hS hl => by
  rw [show pm_Q M = _ from hQ.1]
  obtain ⟨sa, hsa⟩ := (pb_z E).2.2.1 _ hstr
  intro T hT X
  have htr : (pm_e M).platform.stackTraces = false := (show (pm_e M).platform.stackTraces = l.stackTraces by rw [X.admits.platform]).trans (pb_tr E)
  have Y := px_base X (R' := { frames := (pi_R I).frames, locals := (pi_R I).locals, cells := 1, slots := 6 }) (Nat.le_refl _) (Nat.le_refl _) h4 h5
  obtain ⟨s', hA⟩ : ∃ z, z = (T.setVm (pm_s M).vm).setFrames (.invoking (pm_m M) (pm_a M) :: (pm_b M)) := ⟨_, rfl⟩
  rw [← hA] at Y
  have hvm : s'.vm = (pm_s M).vm := by rw [hA]; rfl
  have hhp : s'.heap = H := by rw [hA]; exact hT
  have hW0 : (pm_s M).WarmedH s'.vm := by rw [hvm]; exact State.WarmedH.refl _
  have hw := px_words hat E hS hvm hhp
  have hk' := hw _ List.mem_cons_self
  have hini' := hw _ (List.mem_cons_of_mem _ List.mem_cons_self)
  have h : ∀ w ∈ Bundle.ownAtoms (pi_y I).cls ic cls names, w.before (pm_a M) s' = true := fun w hw9 => hw w (List.mem_cons_of_mem _ (List.mem_cons_of_mem _ hw9))
  have hown' : s'.vm.findClass (pi_y I).cls = some (pm_m M).cls := by rw [hvm]; exact E.2.2.2.1
  have hins : (Cond.instantiable cls 6).before (pm_a M) s' = true := h _ (by simp [Bundle.ownAtoms])
  obtain ⟨vm₁, cX, kX, hfX, hkX, -, -, X₁, st1⟩ := Y.newCold E.1 (own := (pi_y I).cls) (C := cls) (index := ik) (n := 6) hown' hk' hins hini'
    (g := F0 (pm_m M) pc ls rest) rfl (by rw [E.2.1]; exact d0) (Nat.le_refl _) (Nat.le_refl _)
  generalize hT1 : (T.setVm vm₁).pushCell { cls := cX, slots := kX.instanceTypes.map defaultValue, vm := .none } = T1 at X₁ st1
  have hcat : (Value.ref T.heap.size).category = 1 := rfl
  have hcellA : T1.heap[T.heap.size]? = some (freshCell cX kX) := by rw [← hT1]; exact State.heap_pushCell_size _ _
  have d3' : decode (pm_c M).code (pc + 3) = .ok (.dup, 1) := by rw [E.2.1]; exact d3
  have d4' : decode (pm_c M).code (pc + 4) = .ok (.ldc is, 2) := by rw [E.2.1]; exact d4
  have hstr' : vk_R (pi_y I).cls is text sa s' := vk_R.warm hW0 hsa
  have hexec : (pm_p M).tables.exec = Jvm.exec := E.1
  obtain ⟨U, hsteps, hrun, hend, hW, hsame, ce, hce, hO⟩ := X₁.ctorThrowS E.1 htr (own := (pi_y I).cls) (cls := cls) (names := names) (ic := ic) hown' hcls hnames h (fun x hx => nomatch hx) hfX hkX hcellA (by rw [hhp, hT]; exact Nat.le_refl _) (msg := .ref sa) rfl
    (g := { method := pm_m M, pc := pc + 6, locals := ls, stack := .ref sa :: .ref T.heap.size :: .ref T.heap.size :: rest, locked := none }) rfl (hl.1.trans E.2.2.1.symm) rfl rfl (rest := rest) rfl
    (by rw [E.2.1]; exact d6) (by rw [E.2.1]; exact d9) (fun x hx => (hQ.2 x hx).elim) h6 (by simp only [List.map_cons, List.sum_cons, hcat]; omega) (pb_lock E)
  obtain ⟨f1, f2⟩ := px_frame hsame
  rw [hhp] at f1 f2
  have hWs : (pm_s M).WarmedH U.vm := State.WarmedH.trans hW0 hW
  have hcl : (pm_s M).vm.findClass cls = some ce.cls := by
    have h9 := hO.cls
    rw [hvm] at h9
    exact h9
  have hall : (pm_s M).sameButNew ({ U with vm := (pm_s M).vm } : State) locs (pi_R I).cells (pi_R I).slots := by
    subst hA
    obtain ⟨e1, e2⟩ := hsame
    rw [State.setFrames_setFrames] at e1
    have g2 : (T.setVm (pm_s M).vm).sameButNew ({ U with vm := (pm_s M).vm } : State) [] (0 + 1) (0 + 6) := ⟨e1, e2⟩
    have g3 := X.same.trans g2
    rw [List.append_nil] at g3
    exact g3.mono h4 h5
  have hkeep : ∀ q : Nat, q < H.size → U.heap[q]? = H[q]? := fun q hq => f2 q hq (fun z hz => nomatch hz)
  refine ⟨U, ?_, .threw T.heap.size, hrun, hend, Or.inr ⟨T.heap.size, cls, ce, locs, u, rfl, ⟨hp, (hP.sub ps h3).kept (fun k q hq => hkeep q.1 (va_at.lt ((hP.sub ps h3) k q hq))), hD.sub ps h1 h2, Nat.le_trans hS.1 f1, fun q hq hA9 => ?_⟩, hce, hO.vm, hcl, hWs, hall, hS.2.2⟩⟩
  · refine st1 _ ?_
    show Steps (pm_p M).tables (pm_e M) (pm_b M) (T1.setTop { method := pm_m M, pc := pc + 3, locals := ls, stack := .ref T.heap.size :: rest, locked := none }) _
    jvm_step X₁.here [X₁.here.top, hexec, d3', Value.category]
    exact X₁.ldcString E.1 (own := (pi_y I).cls) (text := text) (index := is) (a := sa) hown' hstr'.1 hstr'.2
      (g := { method := pm_m M, pc := pc + 4, locals := ls, stack := .ref T.heap.size :: .ref T.heap.size :: rest, locked := none }) rfl d4' _ hsteps
  · rw [hkeep q (Nat.lt_of_lt_of_le hq hS.1)]
    exact hS.2.1 q hq hA9
set_option maxHeartbeats 1000000 in
/-- a call that comes back, or throws: from the callee's contract, at the call's own place -/
theorem px_back {S SX : Type} {J : pb_I} {as : List Value} {w0 : va_W} {post : Option Value → S → Prop} {w1 : S → va_W} {px : String → SX → Prop} {wx : SX → va_W} (hM : Cx l G J as w0 post w1 px wx) (hcd : pi_d J ∈ uW) (hw : pi_d J = .code (pi_y J) (pi_c J) (pi_n J) (pi_r J)) (hini : Cond.initialized (pi_y J).cls ∈ uW) (hRm : (pi_R J).frames + 1 ≤ (pi_R I).frames ∧ 8 + (pi_n J + 11) + (pi_R J).locals ≤ (pi_R I).locals) (hf : ck + (pi_R J).cells ≤ (pi_R I).cells ∧ cn + (pi_R J).slots ≤ (pi_R I).slots)
    (E : pb_Ev l G M I) {H : Heap} {locs : List Loc} {T : State} (hT : T.heap = H) (X : Stand (pm_p M) l (pm_e M) (pi_R I) (pm_s M) (pm_m M) (pm_a M) (pm_b M) (pm_h M) (pm_c M) T locs ck cn) (hpre : ∀ U : State, U.heap = H → (pm_s M).WarmedH U.vm → va_Pc as (cn_B G w0 H.size) as.toArray U)
    {g : JFrame} {ig : Instr} {mk : MethodId} (hg : g.method = pm_m M) (hsize : g.locals.size = (pm_c M).maxLocals) (hdg : decode (pm_c M).code g.pc = .ok (ig, 3)) (hW : 2 * g.monitorRoom + (g.stack.map fun v => v.category).sum ≤ 8) (hn : T.methodNamed? (pi_y J) = some mk) :
    (∃ (v : Option Value) (s0 t T' : State) (L : List Loc), s0.heap = H ∧ Stand (pm_p M) l (pm_e M) (pi_R I) (pm_s M) (pm_m M) (pm_a M) (pm_b M) (pm_h M) (pm_c M) T' (locs ++ L) (ck + (pi_R J).cells) (cn + (pi_R J).slots) ∧ (∀ q ∈ L, va_A w0 H.size q.base) ∧ T'.heap = t.heap ∧ cn_Q G (va_A w0 H.size) post w1 as.toArray s0 (.returned v) t ∧
      Steps (pm_p M).tables (pm_e M) (pm_b M) (doInvoke (pm_e M) (T.setTop g) [] mk as.toArray).1 (T'.setTop { g with pc := g.pc + 3, stack := v.toList ++ g.stack })) ∨
    (∃ (q : Addr) (E0 : String) (ce : Cell) (u : SX) (s0 t T' : State) (L : List Loc), s0.heap = H ∧ Stand (pm_p M) l (pm_e M) (pi_R I) (pm_s M) (pm_m M) (pm_a M) (pm_b M) (pm_h M) (pm_c M) T' (locs ++ L) (ck + (pi_R J).cells) (cn + (pi_R J).slots) ∧ (∀ z ∈ L, va_A w0 H.size z.base) ∧ T'.heap = t.heap ∧ (px E0 u ∧ va_P G.1 vwCl (wx u) t.heap ∧ va_D (va_A w0 H.size) (wx u) ∧ va_F (va_A w0 H.size) s0 t) ∧ t.heap[q]? = some ce ∧ ce.vm = .none ∧ (pm_s M).vm.findClass E0 = some ce.cls ∧
      Steps (pm_p M).tables (pm_e M) (pm_b M) (doInvoke (pm_e M) (T.setTop g) [] mk as.toArray).1 ((T'.setTop g).pushFrame (.throwing q))) := by
  have hws : ∀ w ∈ pi_w J, ∀ (a' : Array Value) (U : State), (pm_s M).WarmedH U.vm → w.before a' U = true := fun w hw9 a' U hU => by
    have hu := (pb_gd hcd w hw9).1
    exact word_at hU (uW_good hu) (pb_w E hu)
  have h1 : (headSpec (pi_w J) (pi_R J)).pre.before as.toArray T = true := atoms_intro fun w hw9 => hws w hw9 _ _ X.warmed
  have h2 : (Cond.code (pi_y J) (pi_c J) (pi_n J) (pi_r J)).before as.toArray T = true := by rw [← hw]; exact hws _ List.mem_cons_self _ _ X.warmed
  have h3 : (Cond.initialized (pi_y J).cls).before as.toArray T = true := word_at X.warmed (uW_good hini) (pb_w E hini)
  have hPc : va_Pc as (cn_B G w0 H.size) as.toArray (T.calling g mk as.toArray) := cn_blind _ _ _ _ (hpre T hT X.warmed)
  obtain ⟨methY, cY, hmY, hcY, -, hlY, -, -, -, -⟩ := Cond.code_spec hn h2
  obtain ⟨kY, hkY, -⟩ := className_of_methodNamed hn
  have hinitY : kY.init = .initialized := Cond.initialized_spec (findClass_of_methodNamed hn) hkY h3
  have h : At T g.method (pm_c M) (pm_b M) := by rw [hg]; exact X.here
  have happ : (headSpec (pi_w J) (pi_R J)).appliesLoose (pi_y J) (pm_e M).platform (T.calling g mk as.toArray) = true :=
    Spec.appliesLoose_calling (g := g) h hdg hn hkY hinitY
      (X.room_calling (g := g) (R' := (headSpec (pi_w J) (pi_R J)).room) hsize hmY hcY hRm.1 (by have := hRm.2; rw [hlY]; show _ + (pi_R J).locals ≤ _; omega) hf.1 hf.2) h1
  obtain ⟨mid, hmid⟩ := h.above
  have hfr : (T.setTop g).frames = (.java g :: mid) ++ pm_b M := by rw [State.frames_setTop' g h.top, hmid]; rfl
  obtain ⟨o, s₂, hsteps, -, hend, hq⟩ := Steps.callFree (hM H.size) (pm_p M) X.admits X.cas X.clock (acts := []) hfr happ hPc trivial
  have hq' : cx_Q G (va_A w0 H.size) post w1 px wx (pi_R J).cells (pi_R J).slots as.toArray (T.calling g mk as.toArray) o s₂ := hq
  rw [State.frames_setTop' g h.top] at hend
  obtain ⟨g₀, hg0⟩ := Option.isSome_iff_exists.mp h.top
  obtain ⟨r, hr⟩ := State.topJava?_eq_some.mp hg0
  have hr' : (({ T with heap := s₂.heap, slotsUsed := s₂.slotsUsed } : State).setVm s₂.vm).frames = .java g₀ :: r := hr
  have hs0 : (T.calling g mk as.toArray).heap = H := hT
  rcases hq' with ⟨hqc, L, hfe, hL⟩ | ⟨q, E0, ce, L, u, rfl, hpx, hce, hcv, hcl, hW₂, hsm, hL⟩
  · obtain ⟨⟨v, rfl⟩, hW₂, e2, q2, q3, q4, q5, q6⟩ := id hfe
    have e3 : s₂ = ({ (T.calling g mk as.toArray).setFrames s₂.frames with heap := s₂.heap, slotsUsed := s₂.slotsUsed } : State).setVm s₂.vm := by
      have e9 : s₂ = ({ s₂ with vm := (T.calling g mk as.toArray).vm } : State).setVm s₂.vm := rfl
      rw [e2] at e9
      exact e9
    obtain ⟨c₂, i₂, len₂, hc₂, hd₂, hf₂⟩ := hend
    have hW' : T.WarmedH s₂.vm := hW₂
    have hcc : c₂ = pm_c M := by
      have g1 : s₂.code? g.method = T.code? g.method := by
        rw [State.code?_eq, State.code?_eq, hW'.alike.method?]
      exact Option.some.inj (hc₂.symm.trans (g1.trans h.code))
    subst hcc
    have hlen : len₂ = 3 := by rw [hdg] at hd₂; cases hd₂; rfl
    subst hlen
    have hs₂ : s₂ = (({ T with heap := s₂.heap, slotsUsed := s₂.slotsUsed } : State).setVm s₂.vm).setTop { g with pc := g.pc + 3, stack := v.toList ++ g.stack } := by
      refine e3.trans ?_
      rw [hf₂, State.calling_eq h.top, State.setFrames_setFrames, State.setTop_of_frames _ hr', hr]
      rfl
    have hsame : T.sameButNew ({ T with heap := s₂.heap, slotsUsed := s₂.slotsUsed } : State) L (pi_R J).cells (pi_R J).slots := by
      refine ⟨?_, q2, q3, q4, q5, q6⟩
      obtain ⟨t, ht, -⟩ := State.frames_cons hr
      show ({ T with heap := s₂.heap, slotsUsed := s₂.slotsUsed } : State) = { T.setFrames T.frames with heap := s₂.heap, slotsUsed := s₂.slotsUsed }
      rw [State.setFrames_self ht]
    refine Or.inl ⟨v, _, s₂, (({ T with heap := s₂.heap, slotsUsed := s₂.slotsUsed } : State).setVm s₂.vm), L, hs0,
      ⟨X.admits, X.cas, X.clock, X.frames, X.room, X.hears, X.method, X.code, (X.here.setHeapUsed s₂.heap s₂.slotsUsed).setVm hW'.alike, X.tail, State.WarmedH.trans X.warmed hW', X.limits, X.bytes, X.same.trans (hsame.setVm (pm_s M).vm)⟩, hL, rfl, hqc, ?_⟩
    rw [← hs₂]
    exact hsteps
  · obtain ⟨e2, q2, q3, q4, q5, q6⟩ := id hsm
    have e3 : s₂ = ({ (T.calling g mk as.toArray).setFrames s₂.frames with heap := s₂.heap, slotsUsed := s₂.slotsUsed } : State).setVm s₂.vm := by
      have e9 : s₂ = ({ s₂ with vm := (T.calling g mk as.toArray).vm } : State).setVm s₂.vm := rfl
      rw [e2] at e9
      exact e9
    have hf₂ : s₂.frames = .throwing q :: .java g :: T.frames.tail := hend
    have hW' : T.WarmedH s₂.vm := hW₂
    have hs₂ : s₂ = ((({ T with heap := s₂.heap, slotsUsed := s₂.slotsUsed } : State).setVm s₂.vm).setTop g).pushFrame (.throwing q) := by
      refine e3.trans ?_
      rw [hf₂, State.calling_eq h.top, State.setFrames_setFrames, State.pushFrame, State.frames_setTop _ hr', State.setTop_of_frames _ hr', State.setFrames_setFrames, hr]
      rfl
    have hsame : T.sameButNew ({ T with heap := s₂.heap, slotsUsed := s₂.slotsUsed } : State) L (pi_R J).cells (pi_R J).slots := by
      refine ⟨?_, q2, q3, q4, q5, q6⟩
      obtain ⟨t, ht, -⟩ := State.frames_cons hr
      show ({ T with heap := s₂.heap, slotsUsed := s₂.slotsUsed } : State) = { T.setFrames T.frames with heap := s₂.heap, slotsUsed := s₂.slotsUsed }
      rw [State.setFrames_self ht]
    have hcl9 : (pm_s M).vm.findClass E0 = some ce.cls := by
      have g1 : T.vm.findClass E0 = some ce.cls := hcl
      rw [X.warmed.alike.findClass] at g1
      exact g1
    refine Or.inr ⟨q, E0, ce, u, _, s₂, (({ T with heap := s₂.heap, slotsUsed := s₂.slotsUsed } : State).setVm s₂.vm), L, hs0,
      ⟨X.admits, X.cas, X.clock, X.frames, X.room, X.hears, X.method, X.code, (X.here.setHeapUsed s₂.heap s₂.slotsUsed).setVm hW'.alike, X.tail, State.WarmedH.trans X.warmed hW', X.limits, X.bytes, X.same.trans (hsame.setVm (pm_s M).vm)⟩, hL, rfl, hpx, hce, hcv, hcl9, ?_⟩
    rw [← hs₂]
    exact hsteps
/-- at a place where q, of class E0, is being thrown -/
def pb_X (l : Launch) (G : pb_G) (M : pb_M) (I : pb_I) (pc : Nat) (lo : List (Nat × Value)) (rest : List Value) (ws : va_W) (ck cn : Nat) (E0 : String) : Prop :=
  pb_Ev l G M I → ∀ (H : Heap) (locs : List Loc) (ls : Array Slot) (q : Addr) (ce : Cell), va_P G.1 vwCl ws H → va_D (pm_A M) ws → va_S (pm_A M) (pm_s M).heap H locs → lv_has ls (pi_n I) lo → H[q]? = some ce → ce.vm = .none → (pm_s M).vm.findClass E0 = some ce.cls →
    ∀ T : State, T.heap = H → Stand (pm_p M) l (pm_e M) (pi_R I) (pm_s M) (pm_m M) (pm_a M) (pm_b M) (pm_h M) (pm_c M) T locs ck cn → ∃ t, Steps (pm_p M).tables (pm_e M) (pm_b M) ((T.setTop (F0 (pm_m M) pc ls rest)).pushFrame (.throwing q)) t ∧ pm_Q M t
theorem pb_catch {E0 name : String} {x : ExceptionTableEntry} {suf : List ExceptionTableEntry} (hT : (pm_c M).exceptionTable.toList = x :: suf) (hx : covers x pc = true) (h0 : x.catchType ≠ 0) (hlk : Cond.classLink (pi_y I).cls x.catchType name ∈ uW) (hcast : Cond.castable E0 name ∈ uN)
    (kk : ∀ q : Nat, pb_P l G M I x.handlerPc lo [.ref q] ws ck cn) : pb_X l G M I pc lo rest ws ck cn E0 := fun E H locs ls q ce hP hD hS hl g1 g2 g3 T hT9 X => by
  have hpl : (pm_e M).platform.magicAccessors = ({} : Platform).magicAccessors := by rw [X.admits.platform]
  obtain ⟨c3, c4, hc3, hc4, hasg⟩ := Cond.castable_spec (pb_n E hcast)
  cases Option.some.inj (hc3.symm.trans g3)
  obtain ⟨c5, hc5, hcl5⟩ := Cond.classLink_spec E.2.2.2.1 (pb_w E hlk) (pm_e M).platform hpl
  cases Option.some.inj (hc4.symm.trans hc5)
  obtain ⟨vm', X', st⟩ := X.thenCaughtThrough q (g := F0 (pm_m M) pc ls rest) rfl (Steps.refl _) (by rw [hT9]; exact g1) (by rw [g2]; rfl) (by obtain ⟨k9, h9, -⟩ := Vm.findClass_spec g3; exact ⟨k9, h9⟩) [] x suf hT
    (fun z hz => absurd hz List.not_mem_nil) hx (Or.inr ⟨h0, c4, hcl5, hasg⟩)
  obtain ⟨t, a1, b1⟩ := kk q E H locs ls hP hD hS hl (T.setVm vm') hT9 X'
  exact ⟨t, st.trans a1, b1⟩
theorem pb_catch2 {E0 name nm1 : String} {y x : ExceptionTableEntry} {suf : List ExceptionTableEntry} (hT : (pm_c M).exceptionTable.toList = y :: x :: suf) (hx : covers x pc = true) (h0 : x.catchType ≠ 0) (hlk : Cond.classLink (pi_y I).cls x.catchType name ∈ uW) (hcast : Cond.castable E0 name ∈ uN) (h01 : y.catchType ≠ 0) (hlk1 : Cond.classLink (pi_y I).cls y.catchType nm1 ∈ uW) (hnc : (E0, nm1) ∈ pb_ncs)
    (kk : ∀ q : Nat, pb_P l G M I x.handlerPc lo [.ref q] ws ck cn) : pb_X l G M I pc lo rest ws ck cn E0 := fun E H locs ls q ce hP hD hS hl g1 g2 g3 T hT9 X => by
  have hpl : (pm_e M).platform.magicAccessors = ({} : Platform).magicAccessors := by rw [X.admits.platform]
  obtain ⟨c3, c4, hc3, hc4, hasg⟩ := Cond.castable_spec (pb_n E hcast)
  cases Option.some.inj (hc3.symm.trans g3)
  obtain ⟨c5, hc5, hcl5⟩ := Cond.classLink_spec E.2.2.2.1 (pb_w E hlk) (pm_e M).platform hpl
  cases Option.some.inj (hc4.symm.trans hc5)
  obtain ⟨c6, t6, n1, n2, n3⟩ := (pb_z E).2.2.2.2.2.2.2.2.2 _ hnc
  cases Option.some.inj (n1.symm.trans g3)
  obtain ⟨c7, hc7, hcl7⟩ := Cond.classLink_spec E.2.2.2.1 (pb_w E hlk1) (pm_e M).platform hpl
  cases Option.some.inj (n2.symm.trans hc7)
  obtain ⟨vm', X', st⟩ := X.thenCaughtThrough q (g := F0 (pm_m M) pc ls rest) rfl (Steps.refl _) (by rw [hT9]; exact g1) (by rw [g2]; rfl) (by obtain ⟨k9, h9, -⟩ := Vm.findClass_spec g3; exact ⟨k9, h9⟩) [y] x suf hT
    (fun z hz => by
      obtain rfl := List.mem_singleton.mp hz
      exact Or.inr ⟨h01, _, hcl7, n3⟩) hx (Or.inr ⟨h0, c4, hcl5, hasg⟩)
  obtain ⟨t, a1, b1⟩ := kk q E H locs ls hP hD hS hl (T.setVm vm') hT9 X'
  exact ⟨t, st.trans a1, b1⟩
theorem pb_out {S SX : Type} {post : Option Value → S → Prop} {w1 : S → va_W} {px : String → SX → Prop} {wx : SX → va_W} {E0 : String} (hQ : pb_Rx G M I post w1 px wx) (u : SX) (hp : px E0 u) (ps : List Nat) (h1 : va_nd ps = true) (h2 : ps.map (fun i => ws[i]?) = (wx u).map some) (h3 : ps.filterMap (fun i => ws[i]?) = wx u) (h4 : ck ≤ (pi_R I).cells) (h5 : cn ≤ (pi_R I).slots) : pb_X l G M I pc lo rest ws ck cn E0 := fun E H locs ls q ce hP hD hS hl g1 g2 g3 T hT X => by
  rw [show pm_Q M = _ from hQ.1]
  obtain ⟨st1, hrun, hend, hW, hsm⟩ := X.leaveThrown q (g := F0 (pm_m M) pc ls rest) rfl rfl rfl (fun x hx => (hQ.2 x hx).elim) (pb_lock E)
  have hcell9 : (T.setFrames (.throwing q :: pm_b M)).heap[q]? = some ce := by
    show T.heap[q]? = some ce
    rw [hT]; exact g1
  have hhp : (T.setFrames (.throwing q :: pm_b M)).heap = H := hT
  exact ⟨_, st1, .threw q, hrun, hend, Or.inr ⟨q, E0, ce, locs, u, rfl, ⟨hp, by rw [hhp]; exact hP.sub ps h3, hD.sub ps h1 h2, hS.F hhp⟩, hcell9, g2, g3, hW, hsm.mono h4 h5, hS.2.2⟩⟩
theorem px_go {S SX : Type} {J : pb_I} {as : List Value} {post : Option Value → S → Prop} {w1 : S → va_W} {px : String → SX → Prop} {wx : SX → va_W} {w0 wr : va_W} {st0 : List Value} {ls : Array Slot} {H : Heap} {locs : List Loc} (E : pb_Ev l G M I) (hP : va_P G.1 vwCl ws H) (hD : va_D (pm_A M) ws) (hS : va_S (pm_A M) (pm_s M).heap H locs) (hl : lv_has ls (pi_n I) lo)
    (isC isR : List Nat) (hC : isC.map (fun i => ws[i]?) = w0.map some) (hR : isR.map (fun i => ws[i]?) = wr.map some) (hn : va_nd isR = true) (hdis : ∀ i ∈ isR, i ∉ isC) {T T1 : State} {mk : MethodId} {g : JFrame} (hgF : g = F0 (pm_m M) pc ls rest)
    (hstep : ∀ tg, Steps (pm_p M).tables (pm_e M) (pm_b M) (doInvoke (pm_e M) (T1.setTop g) [] mk as.toArray).1 tg → Steps (pm_p M).tables (pm_e M) (pm_b M) (T.setTop (F0 (pm_m M) pc ls st0)) tg)
    (hb : (∃ (v : Option Value) (s0 t T' : State) (L : List Loc), s0.heap = H ∧ Stand (pm_p M) l (pm_e M) (pi_R I) (pm_s M) (pm_m M) (pm_a M) (pm_b M) (pm_h M) (pm_c M) T' (locs ++ L) (ck + (pi_R J).cells) (cn + (pi_R J).slots) ∧ (∀ q ∈ L, va_A w0 H.size q.base) ∧ T'.heap = t.heap ∧ cn_Q G (va_A w0 H.size) post w1 as.toArray s0 (.returned v) t ∧
      Steps (pm_p M).tables (pm_e M) (pm_b M) (doInvoke (pm_e M) (T1.setTop g) [] mk as.toArray).1 (T'.setTop { g with pc := g.pc + 3, stack := v.toList ++ g.stack })) ∨
    (∃ (q : Addr) (E0 : String) (ce : Cell) (u : SX) (s0 t T' : State) (L : List Loc), s0.heap = H ∧ Stand (pm_p M) l (pm_e M) (pi_R I) (pm_s M) (pm_m M) (pm_a M) (pm_b M) (pm_h M) (pm_c M) T' (locs ++ L) (ck + (pi_R J).cells) (cn + (pi_R J).slots) ∧ (∀ z ∈ L, va_A w0 H.size z.base) ∧ T'.heap = t.heap ∧ (px E0 u ∧ va_P G.1 vwCl (wx u) t.heap ∧ va_D (va_A w0 H.size) (wx u) ∧ va_F (va_A w0 H.size) s0 t) ∧ t.heap[q]? = some ce ∧ ce.vm = .none ∧ (pm_s M).vm.findClass E0 = some ce.cls ∧
      Steps (pm_p M).tables (pm_e M) (pm_b M) (doInvoke (pm_e M) (T1.setTop g) [] mk as.toArray).1 ((T'.setTop g).pushFrame (.throwing q))))
    (kx : ∀ (E0 : String) (u : SX), px E0 u → pb_X l G M I pc lo rest (wr ++ wx u) (ck + (pi_R J).cells) (cn + (pi_R J).slots) E0)
    (kk : ∀ (v : Option Value) (u : S), post v u → pb_P l G M I (pc + 3) lo (cn_st v rest) (wr ++ w1 u) (ck + (pi_R J).cells) (cn + (pi_R J).slots)) :
    ∃ t, Steps (pm_p M).tables (pm_e M) (pm_b M) (T.setTop (F0 (pm_m M) pc ls st0)) t ∧ pm_Q M t := by
  subst hgF
  have hF := va_free hD hS (pb_hA E) isC hC
  have hSj : ∀ {T' : State} {L : List Loc}, H.size ≤ T'.heap.size → (∀ q : Nat, q < H.size → ¬ va_A w0 H.size q → T'.heap[q]? = H[q]?) → (∀ q ∈ L, va_A w0 H.size q.base) → va_S (pm_A M) (pm_s M).heap T'.heap (locs ++ L) := fun hz hk hL =>
    ⟨Nat.le_trans hS.1 hz, fun q h1 h2 => by rw [hk q (Nat.lt_of_lt_of_le h1 hS.1) (fun z => h2 (hF q z))]; exact hS.2.1 q h1 h2, fun q hq => by
      rcases List.mem_append.mp hq with h | h
      · exact hS.2.2 q h
      · exact hF _ (hL q h)⟩
  rcases hb with ⟨v, s0, t, T', L, h0, X', hL, e1, ⟨⟨v', u, hv, hp, hP1, hD1⟩, hz, hk⟩, st⟩ | ⟨q, E0, ce, u, s0, t, T', L, h0, X', hL, e1, ⟨hp, hP1, hD1, hz, hk⟩, hce, hcv, hcl, st⟩
  · cases hv
    rw [h0] at hz hk
    rw [← e1] at hP1 hz hk
    obtain ⟨hP2, hD2⟩ := va_join hP hD isC isR hC hR hn hdis hk hF hP1 hD1
    obtain ⟨t2, a1, b1⟩ := kk v u hp E T'.heap (locs ++ L) ls hP2 hD2 (hSj hz hk hL) hl T' rfl X'
    rw [← cn_st_eq] at a1
    exact ⟨t2, hstep _ (st.trans a1), b1⟩
  · rw [h0] at hz hk
    rw [← e1] at hP1 hz hk hce
    obtain ⟨hP2, hD2⟩ := va_join hP hD isC isR hC hR hn hdis hk hF hP1 hD1
    obtain ⟨t2, a1, b1⟩ := kx E0 u hp E T'.heap (locs ++ L) ls q ce hP2 hD2 (hSj hz hk hL) hl hce hcv hcl T' rfl X'
    exact ⟨t2, hstep _ (st.trans a1), b1⟩
set_option maxHeartbeats 1000000 in
/-- a call of an object's method that may throw -/
theorem pb_callVX {S SX : Type} {J : pb_I} {nA : Nat} {as : List Value} {b index qb ci N : Nat} {T9 : u_T} {fs : List Value} {w0 wr : va_W} {post : Option Value → S → Prop} {w1 : S → va_W} {px : String → SX → Prop} {wx : SX → va_W} (hd : decode (pi_c I) pc = .ok (.invokevirtual index, 3)) (hM : Cx l G J (.ref b :: as) w0 post w1 px wx)
    (hb : ws[qb]? = some (b, .inr (ci, fs))) (hc : vwCl[ci]? = some ((pi_y J).cls, T9, N))
    (isC isR : List Nat) (h0 : va_nd isC = true) (hC : isC.map (fun i => ws[i]?) = w0.map some) (hC2 : isC.filterMap (fun i => ws[i]?) = w0) (hR : isR.map (fun i => ws[i]?) = wr.map some) (hn : va_nd isR = true) (hdis : ∀ i ∈ isR, i ∉ isC)
    (hcd : pi_d J ∈ uW) (hw : pi_d J = .code (pi_y J) (pi_c J) (pi_n J) (pi_r J)) (hini : Cond.initialized (pi_y J).cls ∈ uW) (hlk : Cond.methodLink (pi_y I).cls index (pi_y J) ∈ uW) (hin : Cond.instanceMethod (pi_y J) ∈ uW) (hsel : Cond.selects (pi_y J).cls (pi_y J) (pi_y J) ∈ uW)
    (hy : (pi_y J).cls ≠ "java/lang/invoke/MethodHandle" ∧ (pi_y J).cls ≠ "java/lang/invoke/VarHandle" ∧ (parseMethodDescriptor (pi_y J).desc).map (fun d => d.parameters.length) = some nA) (hRm : (pi_R J).frames + 1 ≤ (pi_R I).frames ∧ 8 + (pi_n J + 11) + (pi_R J).locals ≤ (pi_R I).locals) (hA9 : as.length = nA)
    {st0 : List Value} (hst : st0 = as.reverse ++ .ref b :: rest) (h8 : (rest.map fun v => v.category).sum ≤ 8) (hf : ck + (pi_R J).cells ≤ (pi_R I).cells ∧ cn + (pi_R J).slots ≤ (pi_R I).slots)
    (kx : ∀ (E0 : String) (u : SX), px E0 u → pb_X l G M I pc lo rest (wr ++ wx u) (ck + (pi_R J).cells) (cn + (pi_R J).slots) E0)
    (kk : ∀ (v : Option Value) (u : S), post v u → pb_P l G M I (pc + 3) lo (cn_st v rest) (wr ++ w1 u) (ck + (pi_R J).cells) (cn + (pi_R J).slots)) : pb_P l G M I pc lo st0 ws ck cn := fun E H locs ls hP hD hS hl => by
  subst hst
  intro T hT X
  obtain ⟨cellB, hcB, hoB, hclB⟩ := va_recv (pb_k E) hP hc hb
  have hcode : (Cond.code (pi_y J) (pi_c J) (pi_n J) (pi_r J)).before (pm_a M) (pm_s M) = true := by rw [← hw]; exact pb_w E hcd
  obtain ⟨mk, methM, hnamed, hmethM, hstM, habM⟩ := Cond.instanceMethod_spec (pb_w E hin)
  obtain ⟨methM', cM, hmethM', -, -, -, -, -, -, hsigM⟩ := Cond.code_spec hnamed hcode
  cases hmethM.symm.trans hmethM'
  obtain ⟨c2, r2, m2, q1, q2, q3, q4, kP, hkP, hkPi⟩ := Cond.selects_spec (pb_w E hsel)
  cases hclB.symm.trans q1
  cases (State.methodFound?_of_named hnamed ⟨hy.1, hy.2.1⟩).symm.trans q2
  cases hnamed.symm.trans q3
  have hselP : selectMethod (pm_e M).platform (pm_s M).vm cellB.cls mk = .method mk := by rw [Launch.admits_selectMethod X.admits]; exact q4
  have hlen : as.length = methM.sig.parameters.length := by
    have h2 := hy.2.2
    rw [hsigM] at h2
    exact hA9.trans (Option.some.inj h2).symm
  obtain ⟨vm₁, X₁, hstep₁⟩ := X.invokevirtual E.1 E.2.2.2.1 (pb_w E hlk) hnamed hmethM hstM hkP hkPi ⟨hy.1, hy.2.1⟩ (a := b) (cell := cellB) (by rw [hT]; exact hcB)
    (fun z h => by rw [h] at hoB; cases hoB) hselP hmethM habM hkP hkPi (g := F0 (pm_m M) pc ls (as.reverse ++ .ref b :: rest)) rfl (argsL := as) (rest := rest) hlen rfl (by rw [E.2.1]; exact hd)
  refine px_go E hP hD hS hl isC isR hC hR hn hdis (T1 := T.setVm vm₁) (g := F0 (pm_m M) pc ls rest) rfl (fun tg h => hstep₁ _ fun acts => by rw [doInvoke_state]; exact h)
    (px_back (T := T.setVm vm₁) hM hcd hw hini hRm hf E (show (T.setVm vm₁).heap = H from hT) X₁ (cn_pre E hP hD hS isC h0 hC hC2) rfl (hl.1.trans E.2.2.1.symm) (by rw [E.2.1]; exact hd) (lv_room h8) (X₁.named hnamed)) kx kk
set_option maxHeartbeats 1000000 in
/-- a call of a static method that may throw -/
theorem pb_callSX {S SX : Type} {J : pb_I} {nA : Nat} {as : List Value} {index : Nat} {w0 wr : va_W} {post : Option Value → S → Prop} {w1 : S → va_W} {px : String → SX → Prop} {wx : SX → va_W} (hd : decode (pi_c I) pc = .ok (.invokestatic index, 3)) (hM : Cx l G J as w0 post w1 px wx)
    (isC isR : List Nat) (h0 : va_nd isC = true) (hC : isC.map (fun i => ws[i]?) = w0.map some) (hC2 : isC.filterMap (fun i => ws[i]?) = w0) (hR : isR.map (fun i => ws[i]?) = wr.map some) (hn : va_nd isR = true) (hdis : ∀ i ∈ isR, i ∉ isC)
    (hcd : pi_d J ∈ uW) (hw : pi_d J = .code (pi_y J) (pi_c J) (pi_n J) (pi_r J)) (hini : Cond.initialized (pi_y J).cls ∈ uW) (hlk : Cond.methodLink (pi_y I).cls index (pi_y J) ∈ uW) (hst9 : Cond.static (pi_y J) ∈ uW)
    (hy : (pi_y J).cls ≠ "java/lang/invoke/MethodHandle" ∧ (pi_y J).cls ≠ "java/lang/invoke/VarHandle" ∧ (parseMethodDescriptor (pi_y J).desc).map (fun d => d.parameters.length) = some nA) (hRm : (pi_R J).frames + 1 ≤ (pi_R I).frames ∧ 8 + (pi_n J + 11) + (pi_R J).locals ≤ (pi_R I).locals) (hA9 : as.length = nA)
    {st0 : List Value} (hst : st0 = as.reverse ++ rest) (h8 : (rest.map fun v => v.category).sum ≤ 8) (hf : ck + (pi_R J).cells ≤ (pi_R I).cells ∧ cn + (pi_R J).slots ≤ (pi_R I).slots)
    (kx : ∀ (E0 : String) (u : SX), px E0 u → pb_X l G M I pc lo rest (wr ++ wx u) (ck + (pi_R J).cells) (cn + (pi_R J).slots) E0)
    (kk : ∀ (v : Option Value) (u : S), post v u → pb_P l G M I (pc + 3) lo (cn_st v rest) (wr ++ w1 u) (ck + (pi_R J).cells) (cn + (pi_R J).slots)) : pb_P l G M I pc lo st0 ws ck cn := fun E H locs ls hP hD hS hl => by
  subst hst
  intro T hT X
  have hcode : (Cond.code (pi_y J) (pi_c J) (pi_n J) (pi_r J)).before (pm_a M) (pm_s M) = true := by rw [← hw]; exact pb_w E hcd
  obtain ⟨mk, hnamed⟩ := Cond.code_named hcode
  obtain ⟨methM', cM, hmethM, -, -, -, -, -, -, hsigM⟩ := Cond.code_spec hnamed hcode
  have hstatic : methM'.isStatic = true := Cond.static_spec hnamed hmethM (pb_w E hst9)
  obtain ⟨kP, hkP, -⟩ := className_of_methodNamed hnamed
  have hinitP : kP.init = .initialized := Cond.initialized_spec (findClass_of_methodNamed hnamed) hkP (pb_w E hini)
  have hlen : as.length = methM'.sig.parameters.length := by
    have h2 := hy.2.2
    rw [hsigM] at h2
    exact hA9.trans (Option.some.inj h2).symm
  obtain ⟨vm₁, X₁, hstep₁⟩ := X.invokestatic E.1 E.2.2.2.1 (pb_w E hlk) hnamed hmethM hstatic hkP hinitP ⟨hy.1, hy.2.1⟩ (g := F0 (pm_m M) pc ls (as.reverse ++ rest)) rfl (argsL := as) (rest := rest) hlen rfl (by rw [E.2.1]; exact hd)
  refine px_go E hP hD hS hl isC isR hC hR hn hdis (T1 := T.setVm vm₁) (g := F0 (pm_m M) pc ls rest) rfl (fun tg h => hstep₁ _ fun acts => by rw [doInvoke_state]; exact h)
    (px_back (T := T.setVm vm₁) hM hcd hw hini hRm hf E (show (T.setVm vm₁).heap = H from hT) X₁ (cn_pre E hP hD hS isC h0 hC hC2) rfl (hl.1.trans E.2.2.1.symm) (by rw [E.2.1]; exact hd) (lv_room h8) (X₁.named hnamed)) kx kk
/-- a method with handlers that only returns -/
theorem Cn.ofW {S : Type} {as : List Value} {w0 : va_W} {post : Option Value → S → Prop} {w1 : S → va_W} {hh : List (Nat × Nat × Nat × Nat)} (hl : l.stackTraces = false) (hy : plainName (pi_y I).cls = true) (hw : pi_d I = .codeWith (pi_y I) (pi_c I) (pi_n I) (pi_r I) hh) (hn : (lg_sl as).length ≤ pi_n I)
    (body : ∀ M : pb_M, pb_Rq G M I post w1 → (pm_c M).exceptionTable.toList = tableOf hh → pb_P l G M I 0 (lv_args 0 as) [] w0 0 0) : Cn l G I as w0 post w1 := by
  intro sz
  refine va_MetW (cc := pi_c I) (maxL := pi_n I) (ret := pi_r I) hy (pb_hw hw) ?_
  intro p e s m args below meth c s₁ B hml hv
  obtain ⟨rfl, hsz, hP, hK, hD0, hZ⟩ := hv
  have hT : c.exceptionTable.toList = tableOf hh := by
    obtain ⟨m9, meth9, c9, hn9, h1, h2, -, -, h6, -⟩ := Cond.codeWith_spec (atoms_spec (ws := pi_w I) B.pre _ (by rw [pb_hw hw]; exact List.mem_cons_self))
    cases Option.some.inj (hn9.symm.trans B.named)
    cases Option.some.inj (h1.symm.trans B.method)
    cases Option.some.inj (h2.symm.trans (Stand.of_body B).code)
    rw [← h6, table_eq]
  subst hsz
  have hl9 := lv_entry as hn
  rw [lg_entry_eq]
  exact body ((p, e, s, m, as.toArray), (below, meth, c), (va_A w0 s.heap.size, MQ below (cn_Q G (va_A w0 s.heap.size) post w1) as.toArray s (pi_R I).cells (pi_R I).slots (va_A w0 s.heap.size))) rfl hT
    ⟨B.exec, B.bytes, hml, findClass_of_methodNamed B.named, fun w h => atoms_spec (ws := pi_w I) B.pre w (List.mem_cons_of_mem _ h), hK, fun q h => Or.inr h, B.notSynchronized, fun h9 => (name_of_methodNamed B.named B.method).1.trans h9, B.returns, hl, hZ⟩ s.heap [] _ hP hD0.self va_S.rf hl9
set_option maxHeartbeats 1000000 in
/-- a call of a static method with handlers that only returns -/
theorem pb_callSW {S : Type} {J : pb_I} {nA : Nat} {as : List Value} {index : Nat} {w0 wr : va_W} {post : Option Value → S → Prop} {w1 : S → va_W} {hh : List (Nat × Nat × Nat × Nat)} (hd : decode (pi_c I) pc = .ok (.invokestatic index, 3)) (hM : Cn l G J as w0 post w1)
    (isC isR : List Nat) (h0 : va_nd isC = true) (hC : isC.map (fun i => ws[i]?) = w0.map some) (hC2 : isC.filterMap (fun i => ws[i]?) = w0) (hR : isR.map (fun i => ws[i]?) = wr.map some) (hn : va_nd isR = true) (hdis : ∀ i ∈ isR, i ∉ isC)
    (hcd : pi_d J ∈ uW) (hw : pi_d J = .codeWith (pi_y J) (pi_c J) (pi_n J) (pi_r J) hh) (hini : Cond.initialized (pi_y J).cls ∈ uW) (hlk : Cond.methodLink (pi_y I).cls index (pi_y J) ∈ uW) (hst9 : Cond.static (pi_y J) ∈ uW)
    (hy : (pi_y J).cls ≠ "java/lang/invoke/MethodHandle" ∧ (pi_y J).cls ≠ "java/lang/invoke/VarHandle" ∧ (parseMethodDescriptor (pi_y J).desc).map (fun d => d.parameters.length) = some nA) (hRm : (pi_R J).frames + 1 ≤ (pi_R I).frames ∧ 8 + (pi_n J + 11) + (pi_R J).locals ≤ (pi_R I).locals) (hA9 : as.length = nA)
    {st0 : List Value} (hst : st0 = as.reverse ++ rest) (h8 : (rest.map fun v => v.category).sum ≤ 8) (hf : ck + (pi_R J).cells ≤ (pi_R I).cells ∧ cn + (pi_R J).slots ≤ (pi_R I).slots)
    (kk : ∀ (v : Option Value) (u : S), post v u → pb_P l G M I (pc + 3) lo (cn_st v rest) (wr ++ w1 u) (ck + (pi_R J).cells) (cn + (pi_R J).slots)) : pb_P l G M I pc lo st0 ws ck cn := fun E H locs ls hP hD hS hl => by
  subst hst
  refine cn_go (mc := (pi_R J).cells) (ms := (pi_R J).slots) (a := as.toArray) E hP hD hS hl isC isR hC hR hn hdis ?_ kk
  intro T hT X
  have hws : ∀ w ∈ pi_w J, ∀ (a' : Array Value) (U : State), (pm_s M).WarmedH U.vm → w.before a' U = true := fun w hw9 a' U hU => by
    have hu := (pb_gd hcd w hw9).1
    exact word_at hU (uW_good hu) (pb_w E hu)
  have hcode : (Cond.codeWith (pi_y J) (pi_c J) (pi_n J) (pi_r J) hh).before (pm_a M) (pm_s M) = true := by rw [← hw]; exact pb_w E hcd
  have hK : Back l (pi_R I) (pm_p M) (pm_e M) (pm_b M) (pm_s M) (pm_a M) (pi_y J) 3 8 (PreOf (pi_R I) (pi_R J).cells (pi_R J).slots (va_Pc as (cn_B G w0 H.size))) (PostOf (cn_Q G (va_A w0 H.size) post w1) (pi_R J).cells (pi_R J).slots (va_A w0 H.size)) :=
    va_backW (bytes := pi_c J) (maxL := pi_n J) (ret := pi_r J) (hh := hh) (hM H.size) cn_blind rfl rfl hRm.1 hRm.2 hws (by rw [← hw]; exact List.mem_cons_self) (fun a' U hU => word_at hU (uW_good hini) (pb_w E hini))
  obtain ⟨mk, methM, cM, hnamed, hmethM, -, -, -, -, -, -, hsigM⟩ := Cond.codeWith_spec hcode
  have hstatic : methM.isStatic = true := Cond.static_spec hnamed hmethM (pb_w E hst9)
  obtain ⟨kP, hkP, -⟩ := className_of_methodNamed hnamed
  have hinitP : kP.init = .initialized := Cond.initialized_spec (findClass_of_methodNamed hnamed) hkP (pb_w E hini)
  have hlen : as.length = methM.sig.parameters.length := by
    have h2 := hy.2.2
    rw [hsigM] at h2
    exact hA9.trans (Option.some.inj h2).symm
  obtain ⟨vm₁, X₁, hstep₁⟩ := X.invokestatic E.1 E.2.2.2.1 (pb_w E hlk) hnamed hmethM hstatic hkP hinitP ⟨hy.1, hy.2.1⟩ (g := F0 (pm_m M) pc ls (as.reverse ++ rest)) rfl (argsL := as) (rest := rest) hlen rfl (by rw [E.2.1]; exact hd)
  obtain ⟨v, ⟨U', l2, c2, s2⟩, X', ⟨g', mk', t, L, e1, e2, hq, g1, hL, g2, g3⟩, hsteps⟩ := hK (pm_m M) (pm_h M) (pm_c M) ⟨T.setVm vm₁, locs, ck, cn⟩ (F0 (pm_m M) pc ls rest) (.invokestatic index) mk as.toArray X₁ rfl (hl.1.trans E.2.2.1.symm) (by rw [E.2.1]; exact hd) (lv_room h8) (X₁.named hnamed) ⟨hf.1, hf.2, cn_pre E hP hD hS isC h0 hC hC2 (T.setVm vm₁) hT X₁.warmed⟩
  dsimp only [Pt.U, Pt.locs, Pt.cells, Pt.slots] at X' e1 e2 g1 g2 g3 hsteps
  subst g1; subst g2; subst g3
  exact ⟨v, _, t, U', L, hT, X', hL, e1, e2, hq, fun target h => hstep₁ _ fun acts => by rw [doInvoke_state]; exact hsteps.trans h⟩
end PX
section PL
variable {l : Launch} {G : pb_G} {M : pb_M} {I : pb_I} {pc : Nat} {lo : List (Nat × Value)} {rest : List Value} {ws : va_W} {ck cn : Nat}
theorem pb_sld {b L : Nat} {xs : Nat → Int32} {i : Int32} (hX : va_X b L xs (pm_s M) (pm_s M).heap) (hbl : b < (pm_s M).heap.size) (hbA : ¬ pm_A M b) (hin : vp_in i L) (hd : decode (pi_c I) pc = .ok (.iaload, 1)) (kk : pb_P l G M I (pc + 1) lo (.int (xs i.toNatClampNeg) :: rest) ws ck cn) : pb_P l G M I pc lo (.int i :: .ref b :: rest) ws ck cn := fun E H locs ls hP hD hS hl => va_sld E.1 E.2.1 hX hbl hbA hS hin hd (kk E H locs ls hP hD hS hl)
theorem pb_slen {b L : Nat} {xs : Nat → Int32} (hX : va_X b L xs (pm_s M) (pm_s M).heap) (hbl : b < (pm_s M).heap.size) (hbA : ¬ pm_A M b) (hd : decode (pi_c I) pc = .ok (.arraylength, 1)) (kk : pb_P l G M I (pc + 1) lo (.int (Int32.ofNat L) :: rest) ws ck cn) : pb_P l G M I pc lo (.ref b :: rest) ws ck cn := fun E H locs ls hP hD hS hl => va_slen E.1 E.2.1 hX hbl hbA hS hd (kk E H locs ls hP hD hS hl)
theorem pb_tabOut {dflt lw hi : Int} {offs : Array Int} {len : Nat} {x : Int32} {tgt : Nat} (hd : decode (pi_c I) pc = .ok (.tableswitch dflt lw hi offs, len)) (h : x.toInt < lw ∨ hi < x.toInt) (ht : (pc : Int) + dflt = (tgt : Int)) (kk : pb_P l G M I tgt lo rest ws ck cn) : pb_P l G M I pc lo (.int x :: rest) ws ck cn := fun E H locs ls hP hD hS hl => lv_tableOut E.1 E.2.1 hd h ht (kk E H locs ls hP hD hS hl)
theorem pb_tabIn {dflt lw hi : Int} {offs : Array Int} {len : Nat} {x : Int32} {off : Int} {tgt : Nat} (hd : decode (pi_c I) pc = .ok (.tableswitch dflt lw hi offs, len)) (h1 : ¬ x.toInt < lw) (h2 : ¬ hi < x.toInt) (ho : offs[(x.toInt - lw).toNat]? = some off) (ht : (pc : Int) + off = (tgt : Int)) (kk : pb_P l G M I tgt lo rest ws ck cn) : pb_P l G M I pc lo (.int x :: rest) ws ck cn := fun E H locs ls hP hD hS hl => lv_tableIn E.1 E.2.1 hd h1 h2 ho ht (kk E H locs ls hP hD hS hl)
theorem lg_cmp0 {x y : Int64} : lg_cmp x y = 0 ↔ x = y := by
  unfold lg_cmp
  constructor
  · intro h
    split at h
    · exact absurd h (by decide)
    · split at h
      · assumption
      · exact absurd h (by decide)
  · intro h
    subst h
    simp
end PL
theorem d_Book_takeTape_0 : decode prog_1_method_20_code 0 = .ok (.aload_n 0, 1) := by decide +kernel
theorem d_Book_takeTape_1 : decode prog_1_method_20_code 1 = .ok (.getfield 14, 3) := by decide +kernel
theorem d_Book_takeTape_4 : decode prog_1_method_20_code 4 = .ok (.getfield 84, 3) := by decide +kernel
theorem k_165 : (Jvm.Cond.fieldLinkNest "PackageBook" (84 : Nat) "PackageBook$Row" "size" "I" "PackageBook") ∈ uN := uN_c0 48 rfl (by decide +kernel)
theorem d_Book_takeTape_7 : decode prog_1_method_20_code 7 = .ok (.istore_n 1, 1) := by decide +kernel
theorem d_Book_takeTape_8 : decode prog_1_method_20_code 8 = .ok (.aload_n 0, 1) := by decide +kernel
theorem d_Book_takeTape_9 : decode prog_1_method_20_code 9 = .ok (.getfield 14, 3) := by decide +kernel
theorem d_Book_takeTape_12 : decode prog_1_method_20_code 12 = .ok (.iconst 0, 1) := by decide +kernel
theorem d_Book_takeTape_13 : decode prog_1_method_20_code 13 = .ok (.putfield 84, 3) := by decide +kernel
theorem d_Book_takeTape_16 : decode prog_1_method_20_code 16 = .ok (.iload_n 1, 1) := by decide +kernel
theorem d_Book_takeTape_17 : decode prog_1_method_20_code 17 = .ok (.ireturn, 1) := by decide +kernel
abbrev y_Book_takeTape : MethodName := ⟨"PackageBook", "takeTape", "()I"⟩
abbrev i_Book_takeTape : pb_I := (y_Book_takeTape, prog_1_method_20_code, 2, (some Jvm.ClassFile.FieldType.int), [], { frames := 0, cells := 0, slots := 0, locals := 0 })
set_option maxRecDepth 100000 in
set_option maxHeartbeats 4000000 in
theorem g_Book_takeTape {l : Launch} (hl : l.stackTraces = false) (G : pb_G) (h : Nat) (ta : Nat) (ca : Nat) (ps : Nat) (xe : Nat) (mk : Nat) (rd : Nat) (mu : Nat) (fi : Nat) (go : Nat) (sp : Nat) (ss : Nat) (tab : Nat) (tas : Int32) : Cn l G i_Book_takeTape [.ref h] [(h, .inr (9, [.ref ta, .ref ca, .ref ps, .ref xe, .ref mk, .ref rd, .ref mu, .ref fi, .ref go, .ref sp, .ref ss])), (ta, .inr (0, [.ref tab, .int tas]))] (S := Unit) (fun rv_ u => rv_ = some (.int tas)) (fun u => [(h, .inr (9, [.ref ta, .ref ca, .ref ps, .ref xe, .ref mk, .ref rd, .ref mu, .ref fi, .ref go, .ref sp, .ref ss])), (ta, .inr (0, [.ref tab, .int 0]))]) := by
  refine Cn.of hl (by decide +kernel) rfl (Nat.le_of_ble_eq_true rfl) (fun M hQ => ?_)
  refine pb_eq (pc' := 0) (lo' := [(0, .ref h)]) (rest' := []) (ws' := [(h, .inr (9, [.ref ta, .ref ca, .ref ps, .ref xe, .ref mk, .ref rd, .ref mu, .ref fi, .ref go, .ref sp, .ref ss])), (ta, .inr (0, [.ref tab, .int tas]))]) ?_
  have zl0 : (0 : Int32).toInt = 0 := by decide
  have zl1 : (1 : Int32).toInt = 1 := by decide
  refine pb_aload_n (pc := 0) d_Book_takeTape_0 0 rfl rfl ?_
  refine pb_get (pc := 1) d_Book_takeTape_1 0 0 rfl rfl (by decide) in_Book k_417 rfl ?_
  refine pb_getN (pc := 4) d_Book_takeTape_4 1 1 rfl rfl (by decide) in_Row k_165 rfl ?_
  refine pb_istore_n (pc := 7) (lo' := [(1, .int tas), (0, .ref h)]) d_Book_takeTape_7 rfl (by decide) rfl ?_
  refine pb_aload_n (pc := 8) d_Book_takeTape_8 1 rfl rfl ?_
  refine pb_get (pc := 9) d_Book_takeTape_9 0 0 rfl rfl (by decide) in_Book k_417 rfl ?_
  refine pb_iconst (pc := 12) (v := 0) d_Book_takeTape_12 (by decide) ?_
  refine pb_putN (pc := 13) (ty := .int) (ws' := [(h, .inr (9, [.ref ta, .ref ca, .ref ps, .ref xe, .ref mk, .ref rd, .ref mu, .ref fi, .ref go, .ref sp, .ref ss])), (ta, .inr (0, [.ref tab, .int 0]))]) d_Book_takeTape_13 1 1 t_Row t_Row_ok n_Row rfl rfl (by decide) in_Row k_165 rfl (by decide +kernel) rfl rfl (Nat.le_of_ble_eq_true rfl) rfl ?_
  refine pb_iload_n (pc := 16) d_Book_takeTape_16 0 rfl rfl ?_
  exact pb_iret (pc := 17) hQ d_Book_takeTape_17 rfl rfl () rfl [0, 1] (by decide) rfl rfl (by decide) (by decide)

theorem d_Book_type_0 : decode prog_1_method_2_code 0 = .ok (.iload_n 3, 1) := by decide +kernel
theorem d_Book_type_1 : decode prog_1_method_2_code 1 = .ok (.iconst 1, 1) := by decide +kernel
theorem d_Book_type_2 : decode prog_1_method_2_code 2 = .ok (.if_icmp .lt 9, 3) := by decide +kernel
theorem d_Book_type_11 : decode prog_1_method_2_code 11 = .ok (.new 77, 3) := by decide +kernel
theorem tx_Book_77_81 : px_in (.classLink "PackageBook" 77 "java/lang/IllegalArgumentException" :: .initialized "java/lang/IllegalArgumentException" :: Bundle.ownAtoms "PackageBook" 81 "java/lang/IllegalArgumentException" ["java/lang/RuntimeException", "java/lang/Exception"]) = true := px_own px_base0 (by decide +kernel)
theorem d_Book_type_14 : decode prog_1_method_2_code 14 = .ok (.dup, 1) := by decide +kernel
theorem d_Book_type_15 : decode prog_1_method_2_code 15 = .ok (.ldc 79, 2) := by decide +kernel
theorem d_Book_type_17 : decode prog_1_method_2_code 17 = .ok (.invokespecial 81, 3) := by decide +kernel
theorem d_Book_type_20 : decode prog_1_method_2_code 20 = .ok (.athrow, 1) := by decide +kernel
theorem d_Book_type_5 : decode prog_1_method_2_code 5 = .ok (.iload_n 3, 1) := by decide +kernel
theorem d_Book_type_6 : decode prog_1_method_2_code 6 = .ok (.bipush 8, 2) := by decide +kernel
theorem d_Book_type_8 : decode prog_1_method_2_code 8 = .ok (.if_icmp .le 13, 3) := by decide +kernel
theorem d_Book_type_21 : decode prog_1_method_2_code 21 = .ok (.aload_n 0, 1) := by decide +kernel
theorem d_Book_type_22 : decode prog_1_method_2_code 22 = .ok (.getfield 14, 3) := by decide +kernel
theorem d_Book_type_25 : decode prog_1_method_2_code 25 = .ok (.getfield 84, 3) := by decide +kernel
theorem d_Book_type_28 : decode prog_1_method_2_code 28 = .ok (.iload_n 3, 1) := by decide +kernel
theorem d_Book_type_29 : decode prog_1_method_2_code 29 = .ok (.iadd, 1) := by decide +kernel
theorem d_Book_type_30 : decode prog_1_method_2_code 30 = .ok (.sipush 8000, 3) := by decide +kernel
theorem d_Book_type_33 : decode prog_1_method_2_code 33 = .ok (.if_icmp .le 13, 3) := by decide +kernel
theorem d_Book_type_46 : decode prog_1_method_2_code 46 = .ok (.iconst 0, 1) := by decide +kernel
theorem d_Book_type_47 : decode prog_1_method_2_code 47 = .ok (.istore 4, 2) := by decide +kernel
theorem d_Book_type_49 : decode prog_1_method_2_code 49 = .ok (.iload 4, 2) := by decide +kernel
theorem d_Book_type_51 : decode prog_1_method_2_code 51 = .ok (.iload_n 3, 1) := by decide +kernel
theorem d_Book_type_52 : decode prog_1_method_2_code 52 = .ok (.if_icmp .ge 24, 3) := by decide +kernel
theorem d_Book_type_76 : decode prog_1_method_2_code 76 = .ok (.aload_n 0, 1) := by decide +kernel
theorem d_Book_type_77 : decode prog_1_method_2_code 77 = .ok (.getfield 14, 3) := by decide +kernel
theorem d_Book_type_80 : decode prog_1_method_2_code 80 = .ok (.getfield 84, 3) := by decide +kernel
theorem d_Book_type_83 : decode prog_1_method_2_code 83 = .ok (.ireturn, 1) := by decide +kernel
theorem d_Book_type_55 : decode prog_1_method_2_code 55 = .ok (.aload_n 0, 1) := by decide +kernel
theorem d_Book_type_56 : decode prog_1_method_2_code 56 = .ok (.getfield 14, 3) := by decide +kernel
theorem d_Book_type_59 : decode prog_1_method_2_code 59 = .ok (.lload_n 1, 1) := by decide +kernel
theorem d_Book_type_60 : decode prog_1_method_2_code 60 = .ok (.bipush 8, 2) := by decide +kernel
theorem d_Book_type_62 : decode prog_1_method_2_code 62 = .ok (.iload 4, 2) := by decide +kernel
theorem d_Book_type_64 : decode prog_1_method_2_code 64 = .ok (.imul, 1) := by decide +kernel
theorem d_Book_type_65 : decode prog_1_method_2_code 65 = .ok (.lushr, 1) := by decide +kernel
theorem d_Book_type_66 : decode prog_1_method_2_code 66 = .ok (.l2i, 1) := by decide +kernel
theorem d_Book_type_67 : decode prog_1_method_2_code 67 = .ok (.invokevirtual 93, 3) := by decide +kernel
theorem k_1023 : (Jvm.Cond.methodLink "PackageBook" (93 : Nat) ({ cls := "PackageBook$Row", name := "putByte", desc := "(I)V" } : Jvm.MethodName)) ∈ uW := uW_c3 186 rfl (by decide +kernel)
theorem d_Book_type_70 : decode prog_1_method_2_code 70 = .ok (.iinc 4 1, 3) := by decide +kernel
theorem d_Book_type_73 : decode prog_1_method_2_code 73 = .ok (.goto (-24), 3) := by decide +kernel
theorem d_Book_type_36 : decode prog_1_method_2_code 36 = .ok (.new 88, 3) := by decide +kernel
theorem tx_Book_88_92 : px_in (.classLink "PackageBook" 88 "java/lang/UnsupportedOperationException" :: .initialized "java/lang/UnsupportedOperationException" :: Bundle.ownAtoms "PackageBook" 92 "java/lang/UnsupportedOperationException" ["java/lang/RuntimeException", "java/lang/Exception"]) = true := px_own px_base0 (by decide +kernel)
theorem d_Book_type_39 : decode prog_1_method_2_code 39 = .ok (.dup, 1) := by decide +kernel
theorem d_Book_type_40 : decode prog_1_method_2_code 40 = .ok (.ldc 90, 2) := by decide +kernel
theorem d_Book_type_42 : decode prog_1_method_2_code 42 = .ok (.invokespecial 92, 3) := by decide +kernel
theorem d_Book_type_45 : decode prog_1_method_2_code 45 = .ok (.athrow, 1) := by decide +kernel
abbrev y_Book_type : MethodName := ⟨"PackageBook", "type", "(JI)I"⟩
abbrev i_Book_type : pb_I := (y_Book_type, prog_1_method_2_code, 5, (some Jvm.ClassFile.FieldType.int), [], { frames := 6, cells := 1, slots := 6, locals := 90 })
set_option maxRecDepth 100000 in
set_option maxHeartbeats 4000000 in
theorem g_Book_type {l : Launch} (hl : l.stackTraces = false) (G : pb_G) (h : Nat) (ta : Nat) (ca : Nat) (ps : Nat) (xe : Nat) (mk : Nat) (rd : Nat) (mu : Nat) (fi : Nat) (go : Nat) (sp : Nat) (ss : Nat) (tab : Nat) (taf : Nat → Int32) (tas : Int32) (w : Int64) (n : Int32) (t0 : 0 ≤ tas.toInt) (t1 : tas.toInt ≤ 8000) (F_taf : sb_Fit taf) : Cx l G i_Book_type [.ref h, .long w, .int n] [(h, .inr (9, [.ref ta, .ref ca, .ref ps, .ref xe, .ref mk, .ref rd, .ref mu, .ref fi, .ref go, .ref sp, .ref ss])), (ta, .inr (0, [.ref tab, .int tas])), (tab, .inl (G.2.1, 8000, .inl taf))] (S := Int32 × Int32 × (Nat → Int32)) (SX := Unit) (fun rv_ u => rv_ = some (.int u.1) ∧ (1 ≤ n.toInt ∧ n.toInt ≤ 8) ∧ (u.2.1.toInt = tas.toInt + n.toInt) ∧ (u.1.toInt = u.2.1.toInt) ∧ (u.2.1.toInt ≤ 8000) ∧ (tp_T taf u.2.2 tas.toInt u.2.1.toInt w) ∧ (sb_Fit u.2.2)) (fun u => [(h, .inr (9, [.ref ta, .ref ca, .ref ps, .ref xe, .ref mk, .ref rd, .ref mu, .ref fi, .ref go, .ref sp, .ref ss])), (ta, .inr (0, [.ref tab, .int u.2.1])), (tab, .inl (G.2.1, 8000, .inl u.2.2))]) (fun E u => (E = "java/lang/IllegalArgumentException" ∧ (¬ (1 ≤ n.toInt ∧ n.toInt ≤ 8))) ∨ (E = "java/lang/UnsupportedOperationException" ∧ (1 ≤ n.toInt ∧ n.toInt ≤ 8) ∧ (8000 < tas.toInt + n.toInt))) (fun u => [(h, .inr (9, [.ref ta, .ref ca, .ref ps, .ref xe, .ref mk, .ref rd, .ref mu, .ref fi, .ref go, .ref sp, .ref ss])), (ta, .inr (0, [.ref tab, .int tas])), (tab, .inl (G.2.1, 8000, .inl taf))]) := by
  refine Cx.of hl (by decide +kernel) rfl (Nat.le_of_ble_eq_true rfl) (fun M hQ => ?_)
  refine pb_eq (pc' := 0) (lo' := [(0, .ref h), (1, .long w), (3, .int n)]) (rest' := []) (ws' := [(h, .inr (9, [.ref ta, .ref ca, .ref ps, .ref xe, .ref mk, .ref rd, .ref mu, .ref fi, .ref go, .ref sp, .ref ss])), (ta, .inr (0, [.ref tab, .int tas])), (tab, .inl (G.2.1, 8000, .inl taf))]) ?_
  have zl0 : (0 : Int32).toInt = 0 := by decide
  have zl1 : (1 : Int32).toInt = 1 := by decide
  have zl8 : (8 : Int32).toInt = 8 := by decide
  refine pb_iload_n (pc := 0) d_Book_type_0 2 rfl rfl ?_
  refine pb_iconst (pc := 1) (v := 1) d_Book_type_1 (by decide) ?_
  refine pb_icmp_lt (pc := 2) (tgt := 11) d_Book_type_2 (by decide) (fun wx1 => ?_) (fun wx1 => ?_)
  · have twx1 : n.toInt < 1 := (ti_lt rfl (by decide)).mp wx1
    exact pb_throwS (pc := 11) (cls := "java/lang/IllegalArgumentException") (text := "one to eight bytes can be typed") (names := ["java/lang/RuntimeException", "java/lang/Exception"]) hQ d_Book_type_11 d_Book_type_14 d_Book_type_15 d_Book_type_17 d_Book_type_20 (by decide +kernel) (by decide +kernel) tx_Book_77_81 (by decide +kernel) (by decide) (Nat.le_of_ble_eq_true rfl) (by decide) (by decide) () (Or.inl ⟨rfl, (by (try dsimp only); first | done | (with_reducible assumption) | omega (splitDisjunctions := false) | assumption | omega | decide)⟩) [0, 1, 2] (by decide) rfl rfl
  · have twx1 : ¬ n.toInt < 1 := fun z9 => wx1 ((ti_lt rfl (by decide)).mpr z9)
    refine pb_iload_n (pc := 5) d_Book_type_5 2 rfl rfl ?_
    refine pb_bipush (pc := 6) (v := 8) d_Book_type_6 (by decide) ?_
    refine pb_icmp_le (pc := 8) (tgt := 21) d_Book_type_8 (by decide) (fun wx2 => ?_) (fun wx2 => ?_)
    · have twx2 : n.toInt ≤ 8 := (ti_le rfl (by decide)).mp wx2
      refine pb_aload_n (pc := 21) d_Book_type_21 0 rfl rfl ?_
      refine pb_get (pc := 22) d_Book_type_22 0 0 rfl rfl (by decide) in_Book k_417 rfl ?_
      refine pb_getN (pc := 25) d_Book_type_25 1 1 rfl rfl (by decide) in_Row k_165 rfl ?_
      refine pb_iload_n (pc := 28) d_Book_type_28 2 rfl rfl ?_
      refine pb_iadd (pc := 29) d_Book_type_29 ?_
      refine pb_topi (fun ix3 eix3 => ?_)
      try have tix3 : ix3.toInt = tas.toInt + n.toInt := t2_add eix3 rfl rfl (by omega)
      refine pb_sipush (pc := 30) (v := 8000) d_Book_type_30 (by decide) ?_
      refine pb_icmp_le (pc := 33) (tgt := 46) d_Book_type_33 (by decide) (fun wx4 => ?_) (fun wx4 => ?_)
      · have twx4 : ix3.toInt ≤ 8000 := (ti_le rfl (by decide)).mp wx4
        refine pb_iconst (pc := 46) (v := 0) d_Book_type_46 (by decide) ?_
        refine pb_istore (pc := 47) (lo' := [(4, .int 0), (0, .ref h), (1, .long w), (3, .int n)]) d_Book_type_47 (by decide) rfl ?_
        have hL49_5 : ∀ (N9 : Nat) (k : Int32) (t : Int32) (g : Nat → Int32), (sb_Fit g) → (0 ≤ k.toInt) → (k.toInt ≤ n.toInt) → (t.toInt = tas.toInt + k.toInt) → (tp_T taf g tas.toInt t.toInt w) → ((n.toInt - k.toInt).toNat) < N9 → pb_P l G M i_Book_type 49 [(4, .int k), (0, .ref h), (1, .long w), (3, .int n)] [] [(h, .inr (9, [.ref ta, .ref ca, .ref ps, .ref xe, .ref mk, .ref rd, .ref mu, .ref fi, .ref go, .ref sp, .ref ss])), (ta, .inr (0, [.ref tab, .int t])), (tab, .inl (G.2.1, 8000, .inl g))] 0 0 := by
          intro N9
          induction N9 with
          | zero => intro k t g F_g k0 k1 k2 kt hm9; exact absurd hm9 (Nat.not_lt_zero _)
          | succ N9 ih49 =>
            intro k t g F_g k0 k1 k2 kt hm9
            refine pb_iload (pc := 49) d_Book_type_49 0 rfl ?_
            refine pb_iload_n (pc := 51) d_Book_type_51 3 rfl rfl ?_
            refine pb_icmp_ge (pc := 52) (tgt := 76) d_Book_type_52 (by decide) (fun wx6 => ?_) (fun wx6 => ?_)
            · have twx6 : n.toInt ≤ k.toInt := (ti_le rfl rfl).mp wx6
              refine pb_aload_n (pc := 76) d_Book_type_76 1 rfl rfl ?_
              refine pb_get (pc := 77) d_Book_type_77 0 0 rfl rfl (by decide) in_Book k_417 rfl ?_
              refine pb_getN (pc := 80) d_Book_type_80 1 1 rfl rfl (by decide) in_Row k_165 rfl ?_
              exact pb_iretx (pc := 83) hQ d_Book_type_83 rfl rfl (t, t, g) ⟨rfl, (by (try dsimp only); first | done | (with_reducible assumption) | omega (splitDisjunctions := false) | assumption | omega | decide), (by (try dsimp only); first | done | (with_reducible assumption) | omega (splitDisjunctions := false) | assumption | omega | decide), (by (try dsimp only); first | done | (with_reducible assumption) | omega (splitDisjunctions := false) | assumption | omega | decide), (by (try dsimp only); first | done | (with_reducible assumption) | omega (splitDisjunctions := false) | assumption | omega | decide), (by (try dsimp only); first | done | assumption | decide | omega), F_g⟩ [0, 1, 2] (by decide) rfl rfl (by decide) (by decide)
            · have twx6 : ¬ n.toInt ≤ k.toInt := fun z9 => wx6 ((ti_le rfl rfl).mpr z9)
              refine pb_aload_n (pc := 55) d_Book_type_55 1 rfl rfl ?_
              refine pb_get (pc := 56) d_Book_type_56 0 0 rfl rfl (by decide) in_Book k_417 rfl ?_
              refine pb_lload_n (pc := 59) d_Book_type_59 2 rfl rfl ?_
              refine pb_bipush (pc := 60) (v := 8) d_Book_type_60 (by decide) ?_
              refine pb_iload (pc := 62) d_Book_type_62 0 rfl ?_
              refine pb_imul (pc := 64) d_Book_type_64 ?_
              refine pb_topi (fun ix7 eix7 => ?_)
              try have tix7 : ix7.toInt = 8 * k.toInt := ti_mul eix7 (by decide) rfl (by omega) (by omega)
              refine pb_lushr (pc := 65) d_Book_type_65 rfl ?_
              refine pb_topl (fun jx8 ejx8 => ?_)
              refine pb_l2i (pc := 66) d_Book_type_66 rfl ?_
              refine pb_topi (fun ix9 eix9 => ?_)
              try have tix9 : ix9.toInt = jx8.toInt := ti_l2i eix9 rfl (by omega) (by omega)
              refine pb_callV (pc := 67) (I := i_Book_type) (qb := 1) (ci := 0) (nA := 1) (rest := []) (wr := [(h, .inr (9, [.ref ta, .ref ca, .ref ps, .ref xe, .ref mk, .ref rd, .ref mu, .ref fi, .ref go, .ref sp, .ref ss]))]) d_Book_type_67 (g_Row_putByte hl G ta tab 8000 g t ix9 (by first | (with_reducible assumption) | omega (splitDisjunctions := false) | assumption | omega | decide) (by first | (with_reducible assumption) | omega (splitDisjunctions := false) | assumption | omega | decide) (by first | (with_reducible assumption) | omega (splitDisjunctions := false) | assumption | omega | decide) F_g) rfl rfl [1, 2] [0] (by decide) rfl rfl rfl (by decide) (by decide) k_555 rfl k_119 k_1023 k_553 k_554 ⟨rfl, hy_Row_putByte⟩ (by decide) rfl rfl (Nat.le_of_ble_eq_true rfl) (by decide) (fun v9 ux11 ch10 => ?_)
              obtain ⟨s_12, f_13⟩ := ux11
              obtain ⟨ech10, ch10⟩ := ch10
              have ech10 : v9 = none := ech10
              subst ech10
              obtain ⟨fh14, fh15, fh16⟩ : (s_12.toInt = t.toInt + 1) ∧ (∀ j : Int, 0 ≤ j → gr f_13 j = if j = t.toInt then ix9.toInt8.toInt32 else gr g j) ∧ (sb_Fit f_13) := ch10
              have kt2 : tp_T taf f_13 tas.toInt s_12.toInt w := tp_step kt fh15 (by omega) (by omega) (tp_c2 (u := ix9) (by assumption) (by assumption) (by omega) (by omega) (by omega))
              refine pb_eq (pc' := 70) (lo' := [(4, .int k), (0, .ref h), (1, .long w), (3, .int n)]) (rest' := []) (ws' := [(h, .inr (9, [.ref ta, .ref ca, .ref ps, .ref xe, .ref mk, .ref rd, .ref mu, .ref fi, .ref go, .ref sp, .ref ss])), (ta, .inr (0, [.ref tab, .int s_12])), (tab, .inl (G.2.1, 8000, .inl f_13))]) ?_
              refine pb_iincN (pc := 70) (c := 1) d_Book_type_70 0 rfl (by decide) (by decide) (fun ix17 eix17 => ?_)
              have tix17 : ix17.toInt = k.toInt + 1 := t2_add eix17 rfl (by decide) (by first | (exact omg_1d140a567a twx2 k0 twx6) | (have r90 := ti_rng k; have r91 := ti_rng ix17; have r92 := ti_rng n; omega))
              refine pb_eq (pc' := 73) (lo' := [(4, .int ix17), (0, .ref h), (1, .long w), (3, .int n)]) (rest' := []) (ws' := [(h, .inr (9, [.ref ta, .ref ca, .ref ps, .ref xe, .ref mk, .ref rd, .ref mu, .ref fi, .ref go, .ref sp, .ref ss])), (ta, .inr (0, [.ref tab, .int s_12])), (tab, .inl (G.2.1, 8000, .inl f_13))]) ?_
              refine pb_goto (pc := 73) (tgt := 49) d_Book_type_73 (by decide) ?_
              exact ih49 ix17 s_12 f_13 fh16 (by first | (with_reducible assumption) | omega (splitDisjunctions := false) | assumption | omega | decide) (by first | (with_reducible assumption) | (exact omg_1d77bbf042 twx6 tix17) | assumption | omega | decide) (by first | (with_reducible assumption) | omega (splitDisjunctions := false) | assumption | omega | decide) kt2 (by (exact omg_7c8a06b1f5 hm9 twx6 tix17))
        exact hL49_5 _ 0 tas taf F_taf (by first | (with_reducible assumption) | omega (splitDisjunctions := false) | assumption | omega | decide) (by first | (with_reducible assumption) | omega (splitDisjunctions := false) | assumption | omega | decide) (by first | (with_reducible assumption) | omega (splitDisjunctions := false) | assumption | omega | decide) (tp_T0 (by omega)) (Nat.lt_succ_self _)
      · have twx4 : ¬ ix3.toInt ≤ 8000 := fun z9 => wx4 ((ti_le rfl (by decide)).mpr z9)
        exact pb_throwS (pc := 36) (cls := "java/lang/UnsupportedOperationException") (text := "the tape is full") (names := ["java/lang/RuntimeException", "java/lang/Exception"]) hQ d_Book_type_36 d_Book_type_39 d_Book_type_40 d_Book_type_42 d_Book_type_45 (by decide +kernel) (by decide +kernel) tx_Book_88_92 (by decide +kernel) (by decide) (Nat.le_of_ble_eq_true rfl) (by decide) (by decide) () (Or.inr (⟨rfl, (by (try dsimp only); first | done | (with_reducible assumption) | omega (splitDisjunctions := false) | assumption | omega | decide), (by (try dsimp only); first | done | (with_reducible assumption) | omega (splitDisjunctions := false) | assumption | omega | decide)⟩)) [0, 1, 2] (by decide) rfl rfl
    · have twx2 : ¬ n.toInt ≤ 8 := fun z9 => wx2 ((ti_le rfl (by decide)).mpr z9)
      exact pb_throwS (pc := 11) (cls := "java/lang/IllegalArgumentException") (text := "one to eight bytes can be typed") (names := ["java/lang/RuntimeException", "java/lang/Exception"]) hQ d_Book_type_11 d_Book_type_14 d_Book_type_15 d_Book_type_17 d_Book_type_20 (by decide +kernel) (by decide +kernel) tx_Book_77_81 (by decide +kernel) (by decide) (Nat.le_of_ble_eq_true rfl) (by decide) (by decide) () (Or.inl ⟨rfl, (by (try dsimp only); first | done | (with_reducible assumption) | omega (splitDisjunctions := false) | assumption | omega | decide)⟩) [0, 1, 2] (by decide) rfl rfl

theorem d_Book_again_0 : decode prog_1_method_3_code 0 = .ok (.iload_n 1, 1) := by decide +kernel
theorem d_Book_again_1 : decode prog_1_method_3_code 1 = .ok (.ifCond .lt 14, 3) := by decide +kernel
theorem d_Book_again_15 : decode prog_1_method_3_code 15 = .ok (.new 77, 3) := by decide +kernel
theorem d_Book_again_18 : decode prog_1_method_3_code 18 = .ok (.dup, 1) := by decide +kernel
theorem d_Book_again_19 : decode prog_1_method_3_code 19 = .ok (.ldc 96, 2) := by decide +kernel
theorem d_Book_again_21 : decode prog_1_method_3_code 21 = .ok (.invokespecial 81, 3) := by decide +kernel
theorem d_Book_again_24 : decode prog_1_method_3_code 24 = .ok (.athrow, 1) := by decide +kernel
theorem d_Book_again_4 : decode prog_1_method_3_code 4 = .ok (.iload_n 1, 1) := by decide +kernel
theorem d_Book_again_5 : decode prog_1_method_3_code 5 = .ok (.aload_n 0, 1) := by decide +kernel
theorem d_Book_again_6 : decode prog_1_method_3_code 6 = .ok (.getfield 14, 3) := by decide +kernel
theorem d_Book_again_9 : decode prog_1_method_3_code 9 = .ok (.getfield 84, 3) := by decide +kernel
theorem d_Book_again_12 : decode prog_1_method_3_code 12 = .ok (.if_icmp .le 13, 3) := by decide +kernel
theorem d_Book_again_25 : decode prog_1_method_3_code 25 = .ok (.aload_n 0, 1) := by decide +kernel
theorem d_Book_again_26 : decode prog_1_method_3_code 26 = .ok (.getfield 14, 3) := by decide +kernel
theorem d_Book_again_29 : decode prog_1_method_3_code 29 = .ok (.getfield 84, 3) := by decide +kernel
theorem d_Book_again_32 : decode prog_1_method_3_code 32 = .ok (.iload_n 1, 1) := by decide +kernel
theorem d_Book_again_33 : decode prog_1_method_3_code 33 = .ok (.iadd, 1) := by decide +kernel
theorem d_Book_again_34 : decode prog_1_method_3_code 34 = .ok (.sipush 8000, 3) := by decide +kernel
theorem d_Book_again_37 : decode prog_1_method_3_code 37 = .ok (.if_icmp .le 13, 3) := by decide +kernel
theorem d_Book_again_50 : decode prog_1_method_3_code 50 = .ok (.aload_n 0, 1) := by decide +kernel
theorem d_Book_again_51 : decode prog_1_method_3_code 51 = .ok (.getfield 14, 3) := by decide +kernel
theorem d_Book_again_54 : decode prog_1_method_3_code 54 = .ok (.aload_n 0, 1) := by decide +kernel
theorem d_Book_again_55 : decode prog_1_method_3_code 55 = .ok (.getfield 14, 3) := by decide +kernel
theorem d_Book_again_58 : decode prog_1_method_3_code 58 = .ok (.getfield 98, 3) := by decide +kernel
theorem k_157 : (Jvm.Cond.fieldLinkNest "PackageBook" (98 : Nat) "PackageBook$Row" "bytes" "[B" "PackageBook") ∈ uN := uN_c0 40 rfl (by decide +kernel)
theorem d_Book_again_61 : decode prog_1_method_3_code 61 = .ok (.aload_n 0, 1) := by decide +kernel
theorem d_Book_again_62 : decode prog_1_method_3_code 62 = .ok (.getfield 14, 3) := by decide +kernel
theorem d_Book_again_65 : decode prog_1_method_3_code 65 = .ok (.getfield 84, 3) := by decide +kernel
theorem d_Book_again_68 : decode prog_1_method_3_code 68 = .ok (.iload_n 1, 1) := by decide +kernel
theorem d_Book_again_69 : decode prog_1_method_3_code 69 = .ok (.isub, 1) := by decide +kernel
theorem d_Book_again_70 : decode prog_1_method_3_code 70 = .ok (.iload_n 1, 1) := by decide +kernel
theorem d_Book_again_71 : decode prog_1_method_3_code 71 = .ok (.invokevirtual 102, 3) := by decide +kernel
theorem k_1032 : (Jvm.Cond.methodLink "PackageBook" (102 : Nat) ({ cls := "PackageBook$Row", name := "putBytes", desc := "([BII)V" } : Jvm.MethodName)) ∈ uW := uW_c3 195 rfl (by decide +kernel)
theorem d_Book_again_74 : decode prog_1_method_3_code 74 = .ok (.aload_n 0, 1) := by decide +kernel
theorem d_Book_again_75 : decode prog_1_method_3_code 75 = .ok (.getfield 14, 3) := by decide +kernel
theorem d_Book_again_78 : decode prog_1_method_3_code 78 = .ok (.getfield 84, 3) := by decide +kernel
theorem d_Book_again_81 : decode prog_1_method_3_code 81 = .ok (.ireturn, 1) := by decide +kernel
theorem d_Book_again_40 : decode prog_1_method_3_code 40 = .ok (.new 88, 3) := by decide +kernel
theorem d_Book_again_43 : decode prog_1_method_3_code 43 = .ok (.dup, 1) := by decide +kernel
theorem d_Book_again_44 : decode prog_1_method_3_code 44 = .ok (.ldc 90, 2) := by decide +kernel
theorem d_Book_again_46 : decode prog_1_method_3_code 46 = .ok (.invokespecial 92, 3) := by decide +kernel
theorem d_Book_again_49 : decode prog_1_method_3_code 49 = .ok (.athrow, 1) := by decide +kernel
abbrev y_Book_again : MethodName := ⟨"PackageBook", "again", "(I)I"⟩
abbrev i_Book_again : pb_I := (y_Book_again, prog_1_method_3_code, 2, (some Jvm.ClassFile.FieldType.int), [], { frames := 6, cells := 1, slots := 6, locals := 90 })
set_option maxRecDepth 100000 in
set_option maxHeartbeats 4000000 in
theorem g_Book_again {l : Launch} (hl : l.stackTraces = false) (G : pb_G) (h : Nat) (ta : Nat) (ca : Nat) (ps : Nat) (xe : Nat) (mk : Nat) (rd : Nat) (mu : Nat) (fi : Nat) (go : Nat) (sp : Nat) (ss : Nat) (tab : Nat) (taf : Nat → Int32) (tas : Int32) (n : Int32) (t0 : 0 ≤ tas.toInt) (t1 : tas.toInt ≤ 8000) (F_taf : sb_Fit taf) : Cx l G i_Book_again [.ref h, .int n] [(h, .inr (9, [.ref ta, .ref ca, .ref ps, .ref xe, .ref mk, .ref rd, .ref mu, .ref fi, .ref go, .ref sp, .ref ss])), (ta, .inr (0, [.ref tab, .int tas])), (tab, .inl (G.2.1, 8000, .inl taf))] (S := Int32 × Int32 × (Nat → Int32)) (SX := Unit) (fun rv_ u => rv_ = some (.int u.1) ∧ (0 ≤ n.toInt ∧ n.toInt ≤ tas.toInt) ∧ (u.2.1.toInt = tas.toInt + n.toInt) ∧ (u.1.toInt = u.2.1.toInt) ∧ (u.2.1.toInt ≤ 8000) ∧ (tp_G taf u.2.2 tas.toInt u.2.1.toInt n.toInt) ∧ (sb_Fit u.2.2)) (fun u => [(h, .inr (9, [.ref ta, .ref ca, .ref ps, .ref xe, .ref mk, .ref rd, .ref mu, .ref fi, .ref go, .ref sp, .ref ss])), (ta, .inr (0, [.ref tab, .int u.2.1])), (tab, .inl (G.2.1, 8000, .inl u.2.2))]) (fun E u => (E = "java/lang/IllegalArgumentException" ∧ (¬ (0 ≤ n.toInt ∧ n.toInt ≤ tas.toInt))) ∨ (E = "java/lang/UnsupportedOperationException" ∧ (0 ≤ n.toInt ∧ n.toInt ≤ tas.toInt) ∧ (8000 < tas.toInt + n.toInt))) (fun u => [(h, .inr (9, [.ref ta, .ref ca, .ref ps, .ref xe, .ref mk, .ref rd, .ref mu, .ref fi, .ref go, .ref sp, .ref ss])), (ta, .inr (0, [.ref tab, .int tas])), (tab, .inl (G.2.1, 8000, .inl taf))]) := by
  refine Cx.of hl (by decide +kernel) rfl (Nat.le_of_ble_eq_true rfl) (fun M hQ => ?_)
  refine pb_eq (pc' := 0) (lo' := [(0, .ref h), (1, .int n)]) (rest' := []) (ws' := [(h, .inr (9, [.ref ta, .ref ca, .ref ps, .ref xe, .ref mk, .ref rd, .ref mu, .ref fi, .ref go, .ref sp, .ref ss])), (ta, .inr (0, [.ref tab, .int tas])), (tab, .inl (G.2.1, 8000, .inl taf))]) ?_
  have zl0 : (0 : Int32).toInt = 0 := by decide
  have zl1 : (1 : Int32).toInt = 1 := by decide
  refine pb_iload_n (pc := 0) d_Book_again_0 1 rfl rfl ?_
  refine pb_if_lt (pc := 1) (tgt := 15) d_Book_again_1 (by decide) (fun wx1 => ?_) (fun wx1 => ?_)
  · have twx1 : n.toInt < 0 := (ti_lt rfl (by decide)).mp wx1
    exact pb_throwS (pc := 15) (cls := "java/lang/IllegalArgumentException") (text := "the tape has not so many bytes") (names := ["java/lang/RuntimeException", "java/lang/Exception"]) hQ d_Book_again_15 d_Book_again_18 d_Book_again_19 d_Book_again_21 d_Book_again_24 (by decide +kernel) (by decide +kernel) tx_Book_77_81 (by decide +kernel) (by decide) (Nat.le_of_ble_eq_true rfl) (by decide) (by decide) () (Or.inl ⟨rfl, (by (try dsimp only); first | done | (with_reducible assumption) | omega (splitDisjunctions := false) | assumption | omega | decide)⟩) [0, 1, 2] (by decide) rfl rfl
  · have twx1 : ¬ n.toInt < 0 := fun z9 => wx1 ((ti_lt rfl (by decide)).mpr z9)
    refine pb_iload_n (pc := 4) d_Book_again_4 1 rfl rfl ?_
    refine pb_aload_n (pc := 5) d_Book_again_5 0 rfl rfl ?_
    refine pb_get (pc := 6) d_Book_again_6 0 0 rfl rfl (by decide) in_Book k_417 rfl ?_
    refine pb_getN (pc := 9) d_Book_again_9 1 1 rfl rfl (by decide) in_Row k_165 rfl ?_
    refine pb_icmp_le (pc := 12) (tgt := 25) d_Book_again_12 (by decide) (fun wx2 => ?_) (fun wx2 => ?_)
    · have twx2 : n.toInt ≤ tas.toInt := (ti_le rfl rfl).mp wx2
      refine pb_aload_n (pc := 25) d_Book_again_25 0 rfl rfl ?_
      refine pb_get (pc := 26) d_Book_again_26 0 0 rfl rfl (by decide) in_Book k_417 rfl ?_
      refine pb_getN (pc := 29) d_Book_again_29 1 1 rfl rfl (by decide) in_Row k_165 rfl ?_
      refine pb_iload_n (pc := 32) d_Book_again_32 1 rfl rfl ?_
      refine pb_iadd (pc := 33) d_Book_again_33 ?_
      refine pb_topi (fun ix3 eix3 => ?_)
      try have tix3 : ix3.toInt = tas.toInt + n.toInt := t2_add eix3 rfl rfl (by omega)
      refine pb_sipush (pc := 34) (v := 8000) d_Book_again_34 (by decide) ?_
      refine pb_icmp_le (pc := 37) (tgt := 50) d_Book_again_37 (by decide) (fun wx4 => ?_) (fun wx4 => ?_)
      · have twx4 : ix3.toInt ≤ 8000 := (ti_le rfl (by decide)).mp wx4
        refine pb_aload_n (pc := 50) d_Book_again_50 0 rfl rfl ?_
        refine pb_get (pc := 51) d_Book_again_51 0 0 rfl rfl (by decide) in_Book k_417 rfl ?_
        refine pb_aload_n (pc := 54) d_Book_again_54 0 rfl rfl ?_
        refine pb_get (pc := 55) d_Book_again_55 0 0 rfl rfl (by decide) in_Book k_417 rfl ?_
        refine pb_getN (pc := 58) d_Book_again_58 1 0 rfl rfl (by decide) in_Row k_157 rfl ?_
        refine pb_aload_n (pc := 61) d_Book_again_61 0 rfl rfl ?_
        refine pb_get (pc := 62) d_Book_again_62 0 0 rfl rfl (by decide) in_Book k_417 rfl ?_
        refine pb_getN (pc := 65) d_Book_again_65 1 1 rfl rfl (by decide) in_Row k_165 rfl ?_
        refine pb_iload_n (pc := 68) d_Book_again_68 1 rfl rfl ?_
        refine pb_isub (pc := 69) d_Book_again_69 ?_
        refine pb_topi (fun ix5 eix5 => ?_)
        try have tix5 : ix5.toInt = tas.toInt - n.toInt := t2_sub eix5 rfl rfl (by omega)
        refine pb_iload_n (pc := 70) d_Book_again_70 1 rfl rfl ?_
        refine pb_callV (pc := 71) (I := i_Book_again) (qb := 1) (ci := 0) (nA := 3) (rest := []) (wr := [(h, .inr (9, [.ref ta, .ref ca, .ref ps, .ref xe, .ref mk, .ref rd, .ref mu, .ref fi, .ref go, .ref sp, .ref ss]))]) d_Book_again_71 (g_Row_putBytes1 hl G ta tab 8000 taf tas ix5 n (by first | (with_reducible assumption) | omega (splitDisjunctions := false) | assumption | omega | decide) (by first | (with_reducible assumption) | omega (splitDisjunctions := false) | assumption | omega | decide) (by first | (with_reducible assumption) | omega (splitDisjunctions := false) | assumption | omega | decide) (by first | (with_reducible assumption) | omega (splitDisjunctions := false) | assumption | omega | decide) (by first | (with_reducible assumption) | omega (splitDisjunctions := false) | assumption | omega | decide) (by first | (with_reducible assumption) | omega (splitDisjunctions := false) | assumption | omega | decide) F_taf) rfl rfl [1, 2] [0] (by decide) rfl rfl rfl (by decide) (by decide) k_564 rfl k_119 k_1032 k_562 k_563 ⟨rfl, hy_Row_putBytes⟩ (by decide) rfl rfl (Nat.le_of_ble_eq_true rfl) (by decide) (fun v9 ux7 ch6 => ?_)
        obtain ⟨s_8, f_9⟩ := ux7
        obtain ⟨ech6, ch6⟩ := ch6
        have ech6 : v9 = none := ech6
        subst ech6
        obtain ⟨fh10, fh11, fh12, fh13⟩ : (s_8.toInt = tas.toInt + n.toInt) ∧ (∀ j : Int, 0 ≤ j → gr f_9 j = if tas.toInt ≤ j ∧ j < tas.toInt + n.toInt then gr taf (ix5.toInt + (j - tas.toInt)) else gr taf j) ∧ (ap_ taf tas.toInt f_9 s_8.toInt (bl_ taf ix5.toInt n.toInt)) ∧ (sb_Fit f_9) := ch6
        have kt2 : tp_G taf f_9 tas.toInt s_8.toInt n.toInt := tg_cpy fh11 (by omega) (by omega)
        refine pb_eq (pc' := 74) (lo' := [(0, .ref h), (1, .int n)]) (rest' := []) (ws' := [(h, .inr (9, [.ref ta, .ref ca, .ref ps, .ref xe, .ref mk, .ref rd, .ref mu, .ref fi, .ref go, .ref sp, .ref ss])), (ta, .inr (0, [.ref tab, .int s_8])), (tab, .inl (G.2.1, 8000, .inl f_9))]) ?_
        refine pb_aload_n (pc := 74) d_Book_again_74 0 rfl rfl ?_
        refine pb_get (pc := 75) d_Book_again_75 0 0 rfl rfl (by decide) in_Book k_417 rfl ?_
        refine pb_getN (pc := 78) d_Book_again_78 1 1 rfl rfl (by decide) in_Row k_165 rfl ?_
        exact pb_iretx (pc := 81) hQ d_Book_again_81 rfl rfl (s_8, s_8, f_9) ⟨rfl, (by (try dsimp only); first | done | (with_reducible assumption) | omega (splitDisjunctions := false) | assumption | omega | decide), (by (try dsimp only); first | done | (with_reducible assumption) | omega (splitDisjunctions := false) | assumption | omega | decide), (by (try dsimp only); first | done | (with_reducible assumption) | omega (splitDisjunctions := false) | assumption | omega | decide), (by (try dsimp only); first | done | (with_reducible assumption) | omega (splitDisjunctions := false) | assumption | omega | decide), (by (try dsimp only); first | done | assumption | decide | omega), fh13⟩ [0, 1, 2] (by decide) rfl rfl (by decide) (by decide)
      · have twx4 : ¬ ix3.toInt ≤ 8000 := fun z9 => wx4 ((ti_le rfl (by decide)).mpr z9)
        exact pb_throwS (pc := 40) (cls := "java/lang/UnsupportedOperationException") (text := "the tape is full") (names := ["java/lang/RuntimeException", "java/lang/Exception"]) hQ d_Book_again_40 d_Book_again_43 d_Book_again_44 d_Book_again_46 d_Book_again_49 (by decide +kernel) (by decide +kernel) tx_Book_88_92 (by decide +kernel) (by decide) (Nat.le_of_ble_eq_true rfl) (by decide) (by decide) () (Or.inr (⟨rfl, (by (try dsimp only); first | done | (with_reducible assumption) | omega (splitDisjunctions := false) | assumption | omega | decide), (by (try dsimp only); first | done | (with_reducible assumption) | omega (splitDisjunctions := false) | assumption | omega | decide)⟩)) [0, 1, 2] (by decide) rfl rfl
    · have twx2 : ¬ n.toInt ≤ tas.toInt := fun z9 => wx2 ((ti_le rfl rfl).mpr z9)
      exact pb_throwS (pc := 15) (cls := "java/lang/IllegalArgumentException") (text := "the tape has not so many bytes") (names := ["java/lang/RuntimeException", "java/lang/Exception"]) hQ d_Book_again_15 d_Book_again_18 d_Book_again_19 d_Book_again_21 d_Book_again_24 (by decide +kernel) (by decide +kernel) tx_Book_77_81 (by decide +kernel) (by decide) (Nat.le_of_ble_eq_true rfl) (by decide) (by decide) () (Or.inl ⟨rfl, (by (try dsimp only); first | done | (with_reducible assumption) | omega (splitDisjunctions := false) | assumption | omega | decide)⟩) [0, 1, 2] (by decide) rfl rfl

theorem d_Book_add_0 : decode prog_1_method_4_code 0 = .ok (.aload_n 0, 1) := by decide +kernel
theorem d_Book_add_1 : decode prog_1_method_4_code 1 = .ok (.invokevirtual 106, 3) := by decide +kernel
theorem k_455 : (Jvm.Cond.methodLink "PackageBook" (106 : Nat) ({ cls := "PackageBook", name := "takeTape", desc := "()I" } : Jvm.MethodName)) ∈ uW := uW_c1 98 rfl (by decide +kernel)
theorem k_458 : (Jvm.Cond.code ({ cls := "PackageBook", name := "takeTape", desc := "()I" } : Jvm.MethodName) prog_1_method_20_code (2 : Nat) (Option.some Jvm.ClassFile.FieldType.int)) ∈ uW := uW_c1 101 rfl (by decide +kernel)
theorem k_457 : (Jvm.Cond.instanceMethod ({ cls := "PackageBook", name := "takeTape", desc := "()I" } : Jvm.MethodName)) ∈ uW := uW_c1 100 rfl (by decide +kernel)
theorem k_0 : Cond.selects "PackageBook" ⟨"PackageBook", "takeTape", "()I"⟩ ⟨"PackageBook", "takeTape", "()I"⟩ ∈ uW := uW_of 0 (by decide +kernel) (by decide +kernel)
theorem hy_Book_takeTape : (y_Book_takeTape).cls ≠ "java/lang/invoke/MethodHandle" ∧ (y_Book_takeTape).cls ≠ "java/lang/invoke/VarHandle" ∧ (parseMethodDescriptor (y_Book_takeTape).desc).map (fun d => d.parameters.length) = some 0 := by decide +kernel
theorem d_Book_add_4 : decode prog_1_method_4_code 4 = .ok (.istore_n 2, 1) := by decide +kernel
theorem d_Book_add_5 : decode prog_1_method_4_code 5 = .ok (.iload_n 1, 1) := by decide +kernel
theorem d_Book_add_6 : decode prog_1_method_4_code 6 = .ok (.ifCond .lt 23, 3) := by decide +kernel
theorem d_Book_add_29 : decode prog_1_method_4_code 29 = .ok (.new 77, 3) := by decide +kernel
theorem d_Book_add_32 : decode prog_1_method_4_code 32 = .ok (.dup, 1) := by decide +kernel
theorem d_Book_add_33 : decode prog_1_method_4_code 33 = .ok (.ldc 114, 2) := by decide +kernel
theorem d_Book_add_35 : decode prog_1_method_4_code 35 = .ok (.invokespecial 81, 3) := by decide +kernel
theorem d_Book_add_38 : decode prog_1_method_4_code 38 = .ok (.athrow, 1) := by decide +kernel
theorem d_Book_add_9 : decode prog_1_method_4_code 9 = .ok (.iload_n 1, 1) := by decide +kernel
theorem d_Book_add_10 : decode prog_1_method_4_code 10 = .ok (.iload_n 2, 1) := by decide +kernel
theorem d_Book_add_11 : decode prog_1_method_4_code 11 = .ok (.if_icmp .gt 18, 3) := by decide +kernel
theorem d_Book_add_14 : decode prog_1_method_4_code 14 = .ok (.aload_n 0, 1) := by decide +kernel
theorem d_Book_add_15 : decode prog_1_method_4_code 15 = .ok (.getfield 14, 3) := by decide +kernel
theorem d_Book_add_18 : decode prog_1_method_4_code 18 = .ok (.getfield 98, 3) := by decide +kernel
theorem d_Book_add_21 : decode prog_1_method_4_code 21 = .ok (.iconst 0, 1) := by decide +kernel
theorem d_Book_add_22 : decode prog_1_method_4_code 22 = .ok (.iload_n 1, 1) := by decide +kernel
theorem d_Book_add_23 : decode prog_1_method_4_code 23 = .ok (.invokestatic 110, 3) := by decide +kernel
theorem k_1040 : (Jvm.Cond.methodLink "PackageBook" (110 : Nat) ({ cls := "PackageBook", name := "isName", desc := "([BII)Z" } : Jvm.MethodName)) ∈ uW := uW_c3 203 rfl (by decide +kernel)
theorem d_Book_add_26 : decode prog_1_method_4_code 26 = .ok (.ifCond .ne 13, 3) := by decide +kernel
theorem d_Book_add_39 : decode prog_1_method_4_code 39 = .ok (.aload_n 0, 1) := by decide +kernel
theorem d_Book_add_40 : decode prog_1_method_4_code 40 = .ok (.getfield 70, 3) := by decide +kernel
theorem d_Book_add_43 : decode prog_1_method_4_code 43 = .ok (.aload_n 0, 1) := by decide +kernel
theorem d_Book_add_44 : decode prog_1_method_4_code 44 = .ok (.getfield 14, 3) := by decide +kernel
theorem d_Book_add_47 : decode prog_1_method_4_code 47 = .ok (.getfield 98, 3) := by decide +kernel
theorem d_Book_add_50 : decode prog_1_method_4_code 50 = .ok (.iconst 0, 1) := by decide +kernel
theorem d_Book_add_51 : decode prog_1_method_4_code 51 = .ok (.iload_n 1, 1) := by decide +kernel
theorem d_Book_add_52 : decode prog_1_method_4_code 52 = .ok (.invokevirtual 116, 3) := by decide +kernel
theorem k_459 : (Jvm.Cond.methodLink "PackageBook" (116 : Nat) ({ cls := "PackageBook$Shelf", name := "find", desc := "([BII)I" } : Jvm.MethodName)) ∈ uW := uW_c1 102 rfl (by decide +kernel)
theorem d_Book_add_55 : decode prog_1_method_4_code 55 = .ok (.istore_n 3, 1) := by decide +kernel
theorem d_Book_add_56 : decode prog_1_method_4_code 56 = .ok (.aload_n 0, 1) := by decide +kernel
theorem d_Book_add_57 : decode prog_1_method_4_code 57 = .ok (.getfield 70, 3) := by decide +kernel
theorem d_Book_add_60 : decode prog_1_method_4_code 60 = .ok (.iload_n 3, 1) := by decide +kernel
theorem d_Book_add_61 : decode prog_1_method_4_code 61 = .ok (.iload_n 2, 1) := by decide +kernel
theorem d_Book_add_62 : decode prog_1_method_4_code 62 = .ok (.iload_n 1, 1) := by decide +kernel
theorem d_Book_add_63 : decode prog_1_method_4_code 63 = .ok (.isub, 1) := by decide +kernel
theorem d_Book_add_64 : decode prog_1_method_4_code 64 = .ok (.invokevirtual 120, 3) := by decide +kernel
theorem k_1042 : (Jvm.Cond.methodLink "PackageBook" (120 : Nat) ({ cls := "PackageBook$Shelf", name := "hasRoom", desc := "(II)Z" } : Jvm.MethodName)) ∈ uW := uW_c3 205 rfl (by decide +kernel)
theorem d_Book_add_67 : decode prog_1_method_4_code 67 = .ok (.ifCond .ne 13, 3) := by decide +kernel
theorem d_Book_add_80 : decode prog_1_method_4_code 80 = .ok (.aload_n 0, 1) := by decide +kernel
theorem d_Book_add_81 : decode prog_1_method_4_code 81 = .ok (.getfield 70, 3) := by decide +kernel
theorem d_Book_add_84 : decode prog_1_method_4_code 84 = .ok (.iload_n 3, 1) := by decide +kernel
theorem d_Book_add_85 : decode prog_1_method_4_code 85 = .ok (.invokevirtual 126, 3) := by decide +kernel
theorem k_466 : (Jvm.Cond.methodLink "PackageBook" (126 : Nat) ({ cls := "PackageBook$Shelf", name := "takeOut", desc := "(I)V" } : Jvm.MethodName)) ∈ uW := uW_c1 109 rfl (by decide +kernel)
theorem k_469 : (Jvm.Cond.code ({ cls := "PackageBook$Shelf", name := "takeOut", desc := "(I)V" } : Jvm.MethodName) prog_10_method_8_code (5 : Nat) (Option.none : Option Jvm.ClassFile.FieldType)) ∈ uW := uW_c1 112 rfl (by decide +kernel)
theorem k_467 : (Jvm.Cond.instanceMethod ({ cls := "PackageBook$Shelf", name := "takeOut", desc := "(I)V" } : Jvm.MethodName)) ∈ uW := uW_c1 110 rfl (by decide +kernel)
theorem k_468 : (Jvm.Cond.selects "PackageBook$Shelf" ({ cls := "PackageBook$Shelf", name := "takeOut", desc := "(I)V" } : Jvm.MethodName) ({ cls := "PackageBook$Shelf", name := "takeOut", desc := "(I)V" } : Jvm.MethodName)) ∈ uW := uW_c1 111 rfl (by decide +kernel)
theorem hy_Shelf_takeOut : (y_Shelf_takeOut).cls ≠ "java/lang/invoke/MethodHandle" ∧ (y_Shelf_takeOut).cls ≠ "java/lang/invoke/VarHandle" ∧ (parseMethodDescriptor (y_Shelf_takeOut).desc).map (fun d => d.parameters.length) = some 1 := by decide +kernel
theorem d_Book_add_88 : decode prog_1_method_4_code 88 = .ok (.aload_n 0, 1) := by decide +kernel
theorem d_Book_add_89 : decode prog_1_method_4_code 89 = .ok (.getfield 70, 3) := by decide +kernel
theorem d_Book_add_92 : decode prog_1_method_4_code 92 = .ok (.aload_n 0, 1) := by decide +kernel
theorem d_Book_add_93 : decode prog_1_method_4_code 93 = .ok (.getfield 14, 3) := by decide +kernel
theorem d_Book_add_96 : decode prog_1_method_4_code 96 = .ok (.getfield 98, 3) := by decide +kernel
theorem d_Book_add_99 : decode prog_1_method_4_code 99 = .ok (.iconst 0, 1) := by decide +kernel
theorem d_Book_add_100 : decode prog_1_method_4_code 100 = .ok (.iload_n 1, 1) := by decide +kernel
theorem d_Book_add_101 : decode prog_1_method_4_code 101 = .ok (.aload_n 0, 1) := by decide +kernel
theorem d_Book_add_102 : decode prog_1_method_4_code 102 = .ok (.getfield 14, 3) := by decide +kernel
theorem d_Book_add_105 : decode prog_1_method_4_code 105 = .ok (.getfield 98, 3) := by decide +kernel
theorem d_Book_add_108 : decode prog_1_method_4_code 108 = .ok (.iload_n 1, 1) := by decide +kernel
theorem d_Book_add_109 : decode prog_1_method_4_code 109 = .ok (.iload_n 2, 1) := by decide +kernel
theorem d_Book_add_110 : decode prog_1_method_4_code 110 = .ok (.iload_n 1, 1) := by decide +kernel
theorem d_Book_add_111 : decode prog_1_method_4_code 111 = .ok (.isub, 1) := by decide +kernel
theorem d_Book_add_112 : decode prog_1_method_4_code 112 = .ok (.invokevirtual 129, 3) := by decide +kernel
theorem k_1044 : (Jvm.Cond.methodLink "PackageBook" (129 : Nat) ({ cls := "PackageBook$Shelf", name := "bringIn", desc := "([BII[BII)V" } : Jvm.MethodName)) ∈ uW := uW_c3 207 rfl (by decide +kernel)
theorem d_Book_add_115 : decode prog_1_method_4_code 115 = .ok (.aload_n 0, 1) := by decide +kernel
theorem d_Book_add_116 : decode prog_1_method_4_code 116 = .ok (.getfield 70, 3) := by decide +kernel
theorem d_Book_add_119 : decode prog_1_method_4_code 119 = .ok (.getfield 133, 3) := by decide +kernel
theorem k_405 : (Jvm.Cond.fieldLinkNest "PackageBook" (133 : Nat) "PackageBook$Shelf" "count" "I" "PackageBook") ∈ uN := uN_c1 48 rfl (by decide +kernel)
theorem d_Book_add_122 : decode prog_1_method_4_code 122 = .ok (.ireturn, 1) := by decide +kernel
theorem d_Book_add_70 : decode prog_1_method_4_code 70 = .ok (.new 88, 3) := by decide +kernel
theorem d_Book_add_73 : decode prog_1_method_4_code 73 = .ok (.dup, 1) := by decide +kernel
theorem d_Book_add_74 : decode prog_1_method_4_code 74 = .ok (.ldc 124, 2) := by decide +kernel
theorem d_Book_add_76 : decode prog_1_method_4_code 76 = .ok (.invokespecial 92, 3) := by decide +kernel
theorem d_Book_add_79 : decode prog_1_method_4_code 79 = .ok (.athrow, 1) := by decide +kernel
abbrev y_Book_add : MethodName := ⟨"PackageBook", "add", "(I)I"⟩
abbrev i_Book_add : pb_I := (y_Book_add, prog_1_method_4_code, 4, (some Jvm.ClassFile.FieldType.int), [], { frames := 6, cells := 1, slots := 6, locals := 90 })
set_option maxRecDepth 100000 in
set_option maxHeartbeats 4000000 in
theorem g_Book_add {l : Launch} (hl : l.stackTraces = false) (G : pb_G) (h : Nat) (ta : Nat) (ca : Nat) (ps : Nat) (xe : Nat) (mk : Nat) (rd : Nat) (mu : Nat) (fi : Nat) (go : Nat) (sp : Nat) (ss : Nat) (tab : Nat) (taf : Nat → Int32) (tas : Int32) (tn : Nat) (tz : Nat) (tb : Nat) (tg : Nat) (c : Int32) (tfn : Nat → Int32) (tfz : Nat → Int32) (tfb : Nat → Int32) (tfg : Nat → Int32) (n : Int32) (V : VW_) (t0 : 0 ≤ tas.toInt) (t1 : tas.toInt ≤ 8000) (I : sh_I c.toInt tfz tfg) (R : rC_ c.toInt tfn tfz tfb tfg V) (hsV : srt_ V) (F_taf : sb_Fit taf) (F_tfn : sb_Fit tfn) (F_tfb : sb_Fit tfb) : Cx l G i_Book_add [.ref h, .int n] [(h, .inr (9, [.ref ta, .ref ca, .ref ps, .ref xe, .ref mk, .ref rd, .ref mu, .ref fi, .ref go, .ref sp, .ref ss])), (ta, .inr (0, [.ref tab, .int tas])), (tab, .inl (G.2.1, 8000, .inl taf)), (sp, .inr (3, [.ref tn, .ref tz, .ref tb, .ref tg, .int c])), (tn, .inl (G.2.1, 384, .inl tfn)), (tz, .inl (G.2.2.1, 16, .inl tfz)), (tb, .inl (G.2.1, 12000, .inl tfb)), (tg, .inl (G.2.2.1, 17, .inl tfg))] (S := Int32 × Int32 × (Nat → Int32) × (Nat → Int32) × (Nat → Int32) × (Nat → Int32)) (SX := Unit) (fun rv_ u => rv_ = some (.int u.1) ∧ (sh_I u.2.1.toInt u.2.2.2.1 u.2.2.2.2.2) ∧ (0 ≤ n.toInt ∧ n.toInt ≤ tas.toInt ∧ iA_ (gx taf) 0 n.toInt) ∧ (RM_ V (gx taf) n.toInt (tas.toInt - n.toInt) ∧ hid_ (∃ W : VW_, AD_ V (gx taf) n.toInt (tas.toInt - n.toInt) (fun k => gr taf (n.toInt + k)) W ∧ rC_ u.2.1.toInt u.2.2.1 u.2.2.2.1 u.2.2.2.2.1 u.2.2.2.2.2 W ∧ u.1.toInt = vC W)) ∧ (sb_Fit u.2.2.1) ∧ (sb_Fit u.2.2.2.2.1)) (fun u => [(h, .inr (9, [.ref ta, .ref ca, .ref ps, .ref xe, .ref mk, .ref rd, .ref mu, .ref fi, .ref go, .ref sp, .ref ss])), (ta, .inr (0, [.ref tab, .int 0])), (tab, .inl (G.2.1, 8000, .inl taf)), (sp, .inr (3, [.ref tn, .ref tz, .ref tb, .ref tg, .int u.2.1])), (tn, .inl (G.2.1, 384, .inl u.2.2.1)), (tz, .inl (G.2.2.1, 16, .inl u.2.2.2.1)), (tb, .inl (G.2.1, 12000, .inl u.2.2.2.2.1)), (tg, .inl (G.2.2.1, 17, .inl u.2.2.2.2.2))]) (fun E u => (E = "java/lang/IllegalArgumentException" ∧ (¬ (0 ≤ n.toInt ∧ n.toInt ≤ tas.toInt ∧ iA_ (gx taf) 0 n.toInt))) ∨ (E = "java/lang/UnsupportedOperationException" ∧ (0 ≤ n.toInt ∧ n.toInt ≤ tas.toInt ∧ iA_ (gx taf) 0 n.toInt) ∧ (¬ RM_ V (gx taf) n.toInt (tas.toInt - n.toInt)))) (fun u => [(h, .inr (9, [.ref ta, .ref ca, .ref ps, .ref xe, .ref mk, .ref rd, .ref mu, .ref fi, .ref go, .ref sp, .ref ss])), (ta, .inr (0, [.ref tab, .int 0])), (tab, .inl (G.2.1, 8000, .inl taf)), (sp, .inr (3, [.ref tn, .ref tz, .ref tb, .ref tg, .int c])), (tn, .inl (G.2.1, 384, .inl tfn)), (tz, .inl (G.2.2.1, 16, .inl tfz)), (tb, .inl (G.2.1, 12000, .inl tfb)), (tg, .inl (G.2.2.1, 17, .inl tfg))]) := by
  refine Cx.of hl (by decide +kernel) rfl (Nat.le_of_ble_eq_true rfl) (fun M hQ => ?_)
  refine pb_eq (pc' := 0) (lo' := [(0, .ref h), (1, .int n)]) (rest' := []) (ws' := [(h, .inr (9, [.ref ta, .ref ca, .ref ps, .ref xe, .ref mk, .ref rd, .ref mu, .ref fi, .ref go, .ref sp, .ref ss])), (ta, .inr (0, [.ref tab, .int tas])), (tab, .inl (G.2.1, 8000, .inl taf)), (sp, .inr (3, [.ref tn, .ref tz, .ref tb, .ref tg, .int c])), (tn, .inl (G.2.1, 384, .inl tfn)), (tz, .inl (G.2.2.1, 16, .inl tfz)), (tb, .inl (G.2.1, 12000, .inl tfb)), (tg, .inl (G.2.2.1, 17, .inl tfg))]) ?_
  have zl0 : (0 : Int32).toInt = 0 := by decide
  have zl1 : (1 : Int32).toInt = 1 := by decide
  have p1 := I.1
  have p2_ := I.2.1
  refine pb_aload_n (pc := 0) d_Book_add_0 0 rfl rfl ?_
  refine pb_callV (pc := 1) (I := i_Book_add) (qb := 0) (ci := 9) (nA := 0) (rest := []) (wr := [(tab, .inl (G.2.1, 8000, .inl taf)), (sp, .inr (3, [.ref tn, .ref tz, .ref tb, .ref tg, .int c])), (tn, .inl (G.2.1, 384, .inl tfn)), (tz, .inl (G.2.2.1, 16, .inl tfz)), (tb, .inl (G.2.1, 12000, .inl tfb)), (tg, .inl (G.2.2.1, 17, .inl tfg))]) d_Book_add_1 (g_Book_takeTape hl G h ta ca ps xe mk rd mu fi go sp ss tab tas) rfl rfl [0, 1] [2, 3, 4, 5, 6, 7] (by decide) rfl rfl rfl (by decide) (by decide) k_458 rfl k_118 k_455 k_457 k_0 ⟨rfl, hy_Book_takeTape⟩ (by decide) rfl rfl (Nat.le_of_ble_eq_true rfl) (by decide) (fun v9 ux2 ch1 => ?_)
  have ech1 := ch1
  have ech1 : v9 = some (.int tas) := ech1
  subst ech1
  refine pb_eq (pc' := 4) (lo' := [(0, .ref h), (1, .int n)]) (rest' := [.int tas]) (ws' := [(tab, .inl (G.2.1, 8000, .inl taf)), (sp, .inr (3, [.ref tn, .ref tz, .ref tb, .ref tg, .int c])), (tn, .inl (G.2.1, 384, .inl tfn)), (tz, .inl (G.2.2.1, 16, .inl tfz)), (tb, .inl (G.2.1, 12000, .inl tfb)), (tg, .inl (G.2.2.1, 17, .inl tfg)), (h, .inr (9, [.ref ta, .ref ca, .ref ps, .ref xe, .ref mk, .ref rd, .ref mu, .ref fi, .ref go, .ref sp, .ref ss])), (ta, .inr (0, [.ref tab, .int 0]))]) ?_
  refine pb_istore_n (pc := 4) (lo' := [(2, .int tas), (0, .ref h), (1, .int n)]) d_Book_add_4 rfl (by decide) rfl ?_
  refine pb_iload_n (pc := 5) d_Book_add_5 2 rfl rfl ?_
  refine pb_if_lt (pc := 6) (tgt := 29) d_Book_add_6 (by decide) (fun wx3 => ?_) (fun wx3 => ?_)
  · have twx3 : n.toInt < 0 := (ti_lt rfl (by decide)).mp wx3
    exact pb_throwS (pc := 29) (cls := "java/lang/IllegalArgumentException") (text := "the tape does not begin with such a name") (names := ["java/lang/RuntimeException", "java/lang/Exception"]) hQ d_Book_add_29 d_Book_add_32 d_Book_add_33 d_Book_add_35 d_Book_add_38 (by decide +kernel) (by decide +kernel) tx_Book_77_81 (by decide +kernel) (by decide) (Nat.le_of_ble_eq_true rfl) (by decide) (by decide) () (Or.inl ⟨rfl, (show ¬ (0 ≤ n.toInt ∧ n.toInt ≤ tas.toInt ∧ iA_ (gx taf) 0 n.toInt) from (by first | exact fun q9 => hid_o nF0 (by omega) q9.2.2 | exact fun q9 => (by have q8 := q9.1; have q7 := q9.2.1; omega)))⟩) [6, 7, 0, 1, 2, 3, 4, 5] (by decide) rfl rfl
  · have twx3 : ¬ n.toInt < 0 := fun z9 => wx3 ((ti_lt rfl (by decide)).mpr z9)
    refine pb_iload_n (pc := 9) d_Book_add_9 2 rfl rfl ?_
    refine pb_iload_n (pc := 10) d_Book_add_10 0 rfl rfl ?_
    refine pb_icmp_gt (pc := 11) (tgt := 29) d_Book_add_11 (by decide) (fun wx4 => ?_) (fun wx4 => ?_)
    · have twx4 : tas.toInt < n.toInt := (ti_lt rfl rfl).mp wx4
      exact pb_throwS (pc := 29) (cls := "java/lang/IllegalArgumentException") (text := "the tape does not begin with such a name") (names := ["java/lang/RuntimeException", "java/lang/Exception"]) hQ d_Book_add_29 d_Book_add_32 d_Book_add_33 d_Book_add_35 d_Book_add_38 (by decide +kernel) (by decide +kernel) tx_Book_77_81 (by decide +kernel) (by decide) (Nat.le_of_ble_eq_true rfl) (by decide) (by decide) () (Or.inl ⟨rfl, (show ¬ (0 ≤ n.toInt ∧ n.toInt ≤ tas.toInt ∧ iA_ (gx taf) 0 n.toInt) from (by first | exact fun q9 => hid_o nF0 (by omega) q9.2.2 | exact fun q9 => (by have q8 := q9.1; have q7 := q9.2.1; omega)))⟩) [6, 7, 0, 1, 2, 3, 4, 5] (by decide) rfl rfl
    · have twx4 : ¬ tas.toInt < n.toInt := fun z9 => wx4 ((ti_lt rfl rfl).mpr z9)
      refine pb_aload_n (pc := 14) d_Book_add_14 1 rfl rfl ?_
      refine pb_get (pc := 15) d_Book_add_15 6 0 rfl rfl (by decide) in_Book k_417 rfl ?_
      refine pb_getN (pc := 18) d_Book_add_18 7 0 rfl rfl (by decide) in_Row k_157 rfl ?_
      refine pb_iconst (pc := 21) (v := 0) d_Book_add_21 (by decide) ?_
      refine pb_iload_n (pc := 22) d_Book_add_22 2 rfl rfl ?_
      refine pb_callS (pc := 23) (I := i_Book_add) (nA := 3) (rest := []) (wr := [(sp, .inr (3, [.ref tn, .ref tz, .ref tb, .ref tg, .int c])), (tn, .inl (G.2.1, 384, .inl tfn)), (tz, .inl (G.2.2.1, 16, .inl tfz)), (tb, .inl (G.2.1, 12000, .inl tfb)), (tg, .inl (G.2.2.1, 17, .inl tfg)), (h, .inr (9, [.ref ta, .ref ca, .ref ps, .ref xe, .ref mk, .ref rd, .ref mu, .ref fi, .ref go, .ref sp, .ref ss])), (ta, .inr (0, [.ref tab, .int 0]))]) d_Book_add_23 (g_isName hl G tab 8000 taf 0 n (by first | (with_reducible assumption) | omega (splitDisjunctions := false) | assumption | omega | decide) (by first | (with_reducible assumption) | omega (splitDisjunctions := false) | assumption | omega | decide) (by first | (with_reducible assumption) | omega (splitDisjunctions := false) | assumption | omega | decide) (by first | (with_reducible assumption) | omega (splitDisjunctions := false) | assumption | omega | decide) F_taf) [0] [1, 2, 3, 4, 5, 6, 7] (by decide) rfl rfl rfl (by decide) (by decide) k_622 rfl k_118 k_1040 k_621 hy_Book_isName (by decide) rfl rfl (Nat.le_of_ble_eq_true rfl) (by decide) (fun v9 ux6 ch5 => ?_)
      obtain ⟨r_7, rfl⟩ : ∃ z9, z9 = ux6 := ⟨_, rfl⟩
      obtain ⟨ech5, ch5⟩ := ch5
      have ech5 : v9 = some (.int r_7) := ech5
      subst ech5
      obtain ⟨fh8, fh9, fh10, fh11⟩ : (r_7.toInt = 0 ∨ r_7.toInt = 1) ∧ (r_7.toInt = 1 → 1 ≤ n.toInt ∧ n.toInt ≤ 24) ∧ (r_7.toInt = 1 → iA_ (gx taf) (0 : Int32).toInt n.toInt) ∧ (r_7.toInt = 0 → ¬ iA_ (gx taf) (0 : Int32).toInt n.toInt) := ch5
      have nF1 := hid_i fh10
      have nF0 := hid_i fh11
      have nFn := hid_i fh9
      have nFb := fh8
      clear fh8 fh9 fh10 fh11
      rw [zl0] at nF1 nF0
      refine pb_eq (pc' := 26) (lo' := [(2, .int tas), (0, .ref h), (1, .int n)]) (rest' := [.int r_7]) (ws' := [(sp, .inr (3, [.ref tn, .ref tz, .ref tb, .ref tg, .int c])), (tn, .inl (G.2.1, 384, .inl tfn)), (tz, .inl (G.2.2.1, 16, .inl tfz)), (tb, .inl (G.2.1, 12000, .inl tfb)), (tg, .inl (G.2.2.1, 17, .inl tfg)), (h, .inr (9, [.ref ta, .ref ca, .ref ps, .ref xe, .ref mk, .ref rd, .ref mu, .ref fi, .ref go, .ref sp, .ref ss])), (ta, .inr (0, [.ref tab, .int 0])), (tab, .inl (G.2.1, 8000, .inl taf))]) ?_
      refine pb_if_ne (pc := 26) (tgt := 39) d_Book_add_26 (by decide) (fun wx12 => ?_) (fun wx12 => ?_)
      · have twx12 : ¬ r_7.toInt = 0 := fun z9 => wx12 ((ti_eq rfl (by decide)).mpr z9)
        rename ¬ (_ : Int) = 0 => zq
        have nFm := hid_o nFn (by omega)
        have nmA := hid_o nF1 (by omega)
        clear zq nFb nF1 nF0 nFn
        refine pb_aload_n (pc := 39) d_Book_add_39 1 rfl rfl ?_
        refine pb_get (pc := 40) d_Book_add_40 5 9 rfl rfl (by decide) in_Book k_426 rfl ?_
        refine pb_aload_n (pc := 43) d_Book_add_43 1 rfl rfl ?_
        refine pb_get (pc := 44) d_Book_add_44 5 0 rfl rfl (by decide) in_Book k_417 rfl ?_
        refine pb_getN (pc := 47) d_Book_add_47 6 0 rfl rfl (by decide) in_Row k_157 rfl ?_
        refine pb_iconst (pc := 50) (v := 0) d_Book_add_50 (by decide) ?_
        refine pb_iload_n (pc := 51) d_Book_add_51 2 rfl rfl ?_
        refine pb_callV (pc := 52) (I := i_Book_add) (qb := 0) (ci := 3) (nA := 3) (rest := []) (wr := [(tb, .inl (G.2.1, 12000, .inl tfb)), (tg, .inl (G.2.2.1, 17, .inl tfg)), (h, .inr (9, [.ref ta, .ref ca, .ref ps, .ref xe, .ref mk, .ref rd, .ref mu, .ref fi, .ref go, .ref sp, .ref ss])), (ta, .inr (0, [.ref tab, .int 0]))]) d_Book_add_52 (g_Shelf_find hl G sp tn tz tb tg c tfn tfz tab 8000 taf tfg 0 n V (rC_N R) (by first | assumption | decide | omega) (by first | (with_reducible assumption) | omega (splitDisjunctions := false) | assumption | omega | decide) (by first | (with_reducible assumption) | omega (splitDisjunctions := false) | assumption | omega | decide) (by first | (with_reducible assumption) | omega (splitDisjunctions := false) | assumption | omega | decide) F_tfn F_taf) rfl rfl [0, 1, 2, 7] [3, 4, 5, 6] (by decide) rfl rfl rfl (by decide) (by decide) k_462 rfl k_127 k_459 k_460 k_461 ⟨rfl, hy_Shelf_find⟩ (by decide) rfl rfl (Nat.le_of_ble_eq_true rfl) (by decide) (fun v9 ux14 ch13 => ?_)
        obtain ⟨r_15, rfl⟩ : ∃ z9, z9 = ux14 := ⟨_, rfl⟩
        obtain ⟨ech13, ch13⟩ := ch13
        have ech13 : v9 = some (.int r_15) := ech13
        subst ech13
        obtain ⟨fh16, fh17, fh18⟩ : (-1 ≤ r_15.toInt) ∧ (r_15.toInt < c.toInt) ∧ (isF_ V n.toInt (fun k => gx taf ((0 : Int32).toInt + k)) r_15.toInt) := ch13
        have fdF := isF_cg fh18 (fun k k0 k1 => by show gx taf ((0 : Int32).toInt + k) = gx taf k; rw [zl0, Int.zero_add])
        refine pb_eq (pc' := 55) (lo' := [(2, .int tas), (0, .ref h), (1, .int n)]) (rest' := [.int r_15]) (ws' := [(tb, .inl (G.2.1, 12000, .inl tfb)), (tg, .inl (G.2.2.1, 17, .inl tfg)), (h, .inr (9, [.ref ta, .ref ca, .ref ps, .ref xe, .ref mk, .ref rd, .ref mu, .ref fi, .ref go, .ref sp, .ref ss])), (ta, .inr (0, [.ref tab, .int 0])), (sp, .inr (3, [.ref tn, .ref tz, .ref tb, .ref tg, .int c])), (tn, .inl (G.2.1, 384, .inl tfn)), (tz, .inl (G.2.2.1, 16, .inl tfz)), (tab, .inl (G.2.1, 8000, .inl taf))]) ?_
        refine pb_istore_n (pc := 55) (lo' := [(3, .int r_15), (2, .int tas), (0, .ref h), (1, .int n)]) d_Book_add_55 rfl (by decide) rfl ?_
        refine pb_aload_n (pc := 56) d_Book_add_56 2 rfl rfl ?_
        refine pb_get (pc := 57) d_Book_add_57 2 9 rfl rfl (by decide) in_Book k_426 rfl ?_
        refine pb_iload_n (pc := 60) d_Book_add_60 0 rfl rfl ?_
        refine pb_iload_n (pc := 61) d_Book_add_61 1 rfl rfl ?_
        refine pb_iload_n (pc := 62) d_Book_add_62 3 rfl rfl ?_
        refine pb_isub (pc := 63) d_Book_add_63 ?_
        refine pb_topi (fun ix19 eix19 => ?_)
        try have tix19 : ix19.toInt = tas.toInt - n.toInt := t2_sub eix19 rfl rfl (by omega)
        refine pb_callV (pc := 64) (I := i_Book_add) (qb := 4) (ci := 3) (nA := 2) (rest := []) (wr := [(tb, .inl (G.2.1, 12000, .inl tfb)), (h, .inr (9, [.ref ta, .ref ca, .ref ps, .ref xe, .ref mk, .ref rd, .ref mu, .ref fi, .ref go, .ref sp, .ref ss])), (ta, .inr (0, [.ref tab, .int 0])), (tn, .inl (G.2.1, 384, .inl tfn)), (tz, .inl (G.2.2.1, 16, .inl tfz)), (tab, .inl (G.2.1, 8000, .inl taf))]) d_Book_add_64 (g_Shelf_hasRoom hl G sp tn tz tb tg c tfz tfg r_15 ix19 (by first | assumption | decide | omega) (by first | (with_reducible assumption) | omega (splitDisjunctions := false) | assumption | omega | decide)) rfl rfl [4, 1] [0, 2, 3, 5, 6, 7] (by decide) rfl rfl rfl (by decide) (by decide) k_696 rfl k_127 k_1042 k_694 k_695 ⟨rfl, hy_Shelf_hasRoom⟩ (by decide) rfl rfl (Nat.le_of_ble_eq_true rfl) (by decide) (fun v9 ux21 ch20 => ?_)
        obtain ⟨r_22, rfl⟩ : ∃ z9, z9 = ux21 := ⟨_, rfl⟩
        obtain ⟨ech20, ch20⟩ := ch20
        have ech20 : v9 = some (.int r_22) := ech20
        subst ech20
        obtain ⟨fh23, fh24, fh25⟩ : (r_22.toInt = 0 ∨ r_22.toInt = 1) ∧ (r_22.toInt = 1 → ix19.toInt ≤ 4000 ∧ ((0 ≤ r_15.toInt ∧ r_15.toInt < c.toInt ∧ gx tfg c.toInt - (gx tfg (r_15.toInt + 1) - gx tfg r_15.toInt) + ix19.toInt ≤ 12000) ∨ (¬ (0 ≤ r_15.toInt ∧ r_15.toInt < c.toInt) ∧ c.toInt < 16 ∧ gx tfg c.toInt + ix19.toInt ≤ 12000))) ∧ (r_22.toInt = 0 → ¬ (ix19.toInt ≤ 4000 ∧ ((0 ≤ r_15.toInt ∧ r_15.toInt < c.toInt ∧ gx tfg c.toInt - (gx tfg (r_15.toInt + 1) - gx tfg r_15.toInt) + ix19.toInt ≤ 12000) ∨ (¬ (0 ≤ r_15.toInt ∧ r_15.toInt < c.toInt) ∧ c.toInt < 16 ∧ gx tfg c.toInt + ix19.toInt ≤ 12000)))) := ch20
        have rm1 := hid_i fh24
        have rn1 := hid_i fh25
        have rmb := fh23
        clear fh23 fh24 fh25
        rw [show ix19.toInt = tas.toInt - n.toInt by omega] at rm1 rn1
        have rmE := hid_i (RM_C (m := tas.toInt - n.toInt) R I hsV fdF)
        refine pb_eq (pc' := 67) (lo' := [(3, .int r_15), (2, .int tas), (0, .ref h), (1, .int n)]) (rest' := [.int r_22]) (ws' := [(tb, .inl (G.2.1, 12000, .inl tfb)), (h, .inr (9, [.ref ta, .ref ca, .ref ps, .ref xe, .ref mk, .ref rd, .ref mu, .ref fi, .ref go, .ref sp, .ref ss])), (ta, .inr (0, [.ref tab, .int 0])), (tn, .inl (G.2.1, 384, .inl tfn)), (tz, .inl (G.2.2.1, 16, .inl tfz)), (tab, .inl (G.2.1, 8000, .inl taf)), (sp, .inr (3, [.ref tn, .ref tz, .ref tb, .ref tg, .int c])), (tg, .inl (G.2.2.1, 17, .inl tfg))]) ?_
        refine pb_if_ne (pc := 67) (tgt := 80) d_Book_add_67 (by decide) (fun wx26 => ?_) (fun wx26 => ?_)
        · have twx26 : ¬ r_22.toInt = 0 := fun z9 => wx26 ((ti_eq rfl (by decide)).mpr z9)
          rename ¬ (_ : Int) = 0 => zq
          have rm2 := hid_o rm1 (by omega)
          clear zq rmb rm1 rn1
          refine pb_aload_n (pc := 80) d_Book_add_80 2 rfl rfl ?_
          refine pb_get (pc := 81) d_Book_add_81 1 9 rfl rfl (by decide) in_Book k_426 rfl ?_
          refine pb_iload_n (pc := 84) d_Book_add_84 0 rfl rfl ?_
          refine pb_callV (pc := 85) (I := i_Book_add) (qb := 6) (ci := 3) (nA := 1) (rest := []) (wr := [(h, .inr (9, [.ref ta, .ref ca, .ref ps, .ref xe, .ref mk, .ref rd, .ref mu, .ref fi, .ref go, .ref sp, .ref ss])), (ta, .inr (0, [.ref tab, .int 0])), (tab, .inl (G.2.1, 8000, .inl taf))]) d_Book_add_85 (g_Shelf_takeOut hl G sp tn tz tb tg c tfn tfz tfb tfg r_15 V (by first | assumption | decide | omega) (by first | (with_reducible assumption) | omega (splitDisjunctions := false) | assumption | omega | decide) F_tfn F_tfb) rfl rfl [6, 3, 4, 0, 7] [1, 2, 5] (by decide) rfl rfl rfl (by decide) (by decide) k_469 rfl k_127 k_466 k_467 k_468 ⟨rfl, hy_Shelf_takeOut⟩ (by decide) rfl rfl (Nat.le_of_ble_eq_true rfl) (by decide) (fun v9 ux28 ch27 => ?_)
          obtain ⟨c_29, fn_30, fz_31, fb_32, fg_33⟩ := ux28
          obtain ⟨ech27, ch27⟩ := ch27
          have ech27 : v9 = none := ech27
          subst ech27
          obtain ⟨fh34, fh35, fh36, fh37, fh38⟩ : (sh_I c_29.toInt fz_31 fg_33) ∧ ((0 ≤ r_15.toInt ∧ r_15.toInt < c.toInt ∧ c_29.toInt = c.toInt - 1 ∧ gx fg_33 c_29.toInt = gx tfg c.toInt - (gx tfg (r_15.toInt + 1) - gx tfg r_15.toInt)) ∨ (¬ (0 ≤ r_15.toInt ∧ r_15.toInt < c.toInt) ∧ c_29.toInt = c.toInt ∧ gx fg_33 c_29.toInt = gx tfg c.toInt)) ∧ ((0 ≤ r_15.toInt ∧ r_15.toInt < c.toInt → rC_ c_29.toInt fn_30 fz_31 fb_32 fg_33 (vou_ V r_15.toInt)) ∧ (¬ (0 ≤ r_15.toInt ∧ r_15.toInt < c.toInt) → rC_ c_29.toInt fn_30 fz_31 fb_32 fg_33 V)) ∧ (sb_Fit fn_30) ∧ (sb_Fit fb_32) := ch27
          have I2 := fh34
          have toF := hid_i fh36
          clear fh36
          have rm3 := hid_i rm2
          have tk9 : c_29.toInt < 16 ∧ gx fg_33 c_29.toInt + (tas.toInt - n.toInt) ≤ 12000 ∧ tas.toInt - n.toInt ≤ 4000 := by omega
          clear rm2 fh35
          obtain ⟨W1, hW1, rW1⟩ : ∃ W1 : VW_, hid_ (0 ≤ r_15.toInt ∧ W1 = vou_ V r_15.toInt ∨ r_15.toInt = -1 ∧ W1 = V) ∧ rC_ c_29.toInt fn_30 fz_31 fb_32 fg_33 W1 := by
            have q5 := R.1
            rcases fdF with ⟨q0, q1, q2⟩ | ⟨q0, q1⟩
            · exact ⟨_, hid_i (Or.inl ⟨q0, rfl⟩), (hid_o toF).1 ⟨q0, by omega⟩⟩
            · exact ⟨V, hid_i (Or.inr ⟨q0, rfl⟩), (hid_o toF).2 (by omega)⟩
          refine pb_eq (pc' := 88) (lo' := [(3, .int r_15), (2, .int tas), (0, .ref h), (1, .int n)]) (rest' := []) (ws' := [(h, .inr (9, [.ref ta, .ref ca, .ref ps, .ref xe, .ref mk, .ref rd, .ref mu, .ref fi, .ref go, .ref sp, .ref ss])), (ta, .inr (0, [.ref tab, .int 0])), (tab, .inl (G.2.1, 8000, .inl taf)), (sp, .inr (3, [.ref tn, .ref tz, .ref tb, .ref tg, .int c_29])), (tn, .inl (G.2.1, 384, .inl fn_30)), (tz, .inl (G.2.2.1, 16, .inl fz_31)), (tb, .inl (G.2.1, 12000, .inl fb_32)), (tg, .inl (G.2.2.1, 17, .inl fg_33))]) ?_
          refine pb_aload_n (pc := 88) d_Book_add_88 2 rfl rfl ?_
          refine pb_get (pc := 89) d_Book_add_89 0 9 rfl rfl (by decide) in_Book k_426 rfl ?_
          refine pb_aload_n (pc := 92) d_Book_add_92 2 rfl rfl ?_
          refine pb_get (pc := 93) d_Book_add_93 0 0 rfl rfl (by decide) in_Book k_417 rfl ?_
          refine pb_getN (pc := 96) d_Book_add_96 1 0 rfl rfl (by decide) in_Row k_157 rfl ?_
          refine pb_iconst (pc := 99) (v := 0) d_Book_add_99 (by decide) ?_
          refine pb_iload_n (pc := 100) d_Book_add_100 3 rfl rfl ?_
          refine pb_aload_n (pc := 101) d_Book_add_101 2 rfl rfl ?_
          refine pb_get (pc := 102) d_Book_add_102 0 0 rfl rfl (by decide) in_Book k_417 rfl ?_
          refine pb_getN (pc := 105) d_Book_add_105 1 0 rfl rfl (by decide) in_Row k_157 rfl ?_
          refine pb_iload_n (pc := 108) d_Book_add_108 3 rfl rfl ?_
          refine pb_iload_n (pc := 109) d_Book_add_109 1 rfl rfl ?_
          refine pb_iload_n (pc := 110) d_Book_add_110 3 rfl rfl ?_
          refine pb_isub (pc := 111) d_Book_add_111 ?_
          refine pb_topi (fun ix39 eix39 => ?_)
          try have tix39 : ix39.toInt = tas.toInt - n.toInt := t2_sub eix39 rfl rfl (by omega)
          refine pb_callV (pc := 112) (I := i_Book_add) (qb := 3) (ci := 3) (nA := 6) (rest := []) (wr := [(h, .inr (9, [.ref ta, .ref ca, .ref ps, .ref xe, .ref mk, .ref rd, .ref mu, .ref fi, .ref go, .ref sp, .ref ss])), (ta, .inr (0, [.ref tab, .int 0]))]) d_Book_add_112 (g_Shelf_bringIn1 hl G sp tn tz tb tg c_29 fn_30 fz_31 fb_32 fg_33 tab 8000 taf 0 n n ix39 W1 rW1 (by first | assumption | decide | omega) (by first | (with_reducible assumption) | omega (splitDisjunctions := false) | assumption | omega | decide) (by first | (with_reducible assumption) | omega (splitDisjunctions := false) | assumption | omega | decide) (by first | (with_reducible assumption) | omega (splitDisjunctions := false) | assumption | omega | decide) (by first | (with_reducible assumption) | omega (splitDisjunctions := false) | assumption | omega | decide) (by first | (with_reducible assumption) | omega (splitDisjunctions := false) | assumption | omega | decide) (by first | (with_reducible assumption) | omega (splitDisjunctions := false) | assumption | omega | decide) (by first | (with_reducible assumption) | omega (splitDisjunctions := false) | assumption | omega | decide) (by first | (with_reducible assumption) | omega (splitDisjunctions := false) | assumption | omega | decide) (by first | (with_reducible assumption) | omega (splitDisjunctions := false) | assumption | omega | decide) (by first | (with_reducible assumption) | omega (splitDisjunctions := false) | assumption | omega | decide) (by first | (with_reducible assumption) | omega (splitDisjunctions := false) | assumption | omega | decide) (by first | (with_reducible assumption) | omega (splitDisjunctions := false) | assumption | omega | decide) fh37 fh38 F_taf) rfl rfl [3, 4, 5, 6, 7, 2] [0, 1] (by decide) rfl rfl rfl (by decide) (by decide) k_700 rfl k_127 k_1044 k_698 k_699 ⟨rfl, hy_Shelf_bringIn⟩ (by decide) rfl rfl (Nat.le_of_ble_eq_true rfl) (by decide) (fun v9 ux41 ch40 => ?_)
          obtain ⟨c_42, fn_43, fz_44, fb_45, fg_46⟩ := ux41
          obtain ⟨ech40, ch40⟩ := ch40
          have ech40 : v9 = none := ech40
          subst ech40
          obtain ⟨fh47, fh48, fh49, fh50, fh51, fh52⟩ : (sh_I c_42.toInt fz_44 fg_46) ∧ (c_42.toInt = c_29.toInt + 1) ∧ (gx fg_46 c_42.toInt = gx fg_33 c_29.toInt + ix39.toInt) ∧ (hid_ (∃ r : Int, 0 ≤ r ∧ r ≤ c_29.toInt ∧ (∀ j : Int, 0 ≤ j → j < r → lx_ (vN W1 j) (vZ W1 j) (fun k => gx taf ((0 : Int32).toInt + k)) n.toInt) ∧ (r < c_29.toInt → ¬ lx_ (vN W1 r) (vZ W1 r) (fun k => gx taf ((0 : Int32).toInt + k)) n.toInt) ∧ rC_ c_42.toInt fn_43 fz_44 fb_45 fg_46 (vin_ W1 r n.toInt (fun k => gx taf ((0 : Int32).toInt + k)) ix39.toInt (fun k => gr taf (n.toInt + k))))) ∧ (sb_Fit fn_43) ∧ (sb_Fit fb_45) := ch40
          have brF := fh50
          rw [show ix39.toInt = tas.toInt - n.toInt by omega] at brF
          refine pb_eq (pc' := 115) (lo' := [(3, .int r_15), (2, .int tas), (0, .ref h), (1, .int n)]) (rest' := []) (ws' := [(h, .inr (9, [.ref ta, .ref ca, .ref ps, .ref xe, .ref mk, .ref rd, .ref mu, .ref fi, .ref go, .ref sp, .ref ss])), (ta, .inr (0, [.ref tab, .int 0])), (sp, .inr (3, [.ref tn, .ref tz, .ref tb, .ref tg, .int c_42])), (tn, .inl (G.2.1, 384, .inl fn_43)), (tz, .inl (G.2.2.1, 16, .inl fz_44)), (tb, .inl (G.2.1, 12000, .inl fb_45)), (tg, .inl (G.2.2.1, 17, .inl fg_46)), (tab, .inl (G.2.1, 8000, .inl taf))]) ?_
          refine pb_aload_n (pc := 115) d_Book_add_115 2 rfl rfl ?_
          refine pb_get (pc := 116) d_Book_add_116 0 9 rfl rfl (by decide) in_Book k_426 rfl ?_
          refine pb_getN (pc := 119) d_Book_add_119 2 4 rfl rfl (by decide) in_Shelf k_405 rfl ?_
          exact pb_iretx (pc := 122) hQ d_Book_add_122 rfl rfl (c_42, c_42, fn_43, fz_44, fb_45, fg_46) ⟨rfl, (by (try dsimp only); first | done | assumption | decide | omega), (show 0 ≤ n.toInt ∧ n.toInt ≤ tas.toInt ∧ iA_ (gx taf) 0 n.toInt from (⟨by omega, by omega, nmA⟩)), (show RM_ V (gx taf) n.toInt (tas.toInt - n.toInt) ∧ hid_ (∃ W : VW_, AD_ V (gx taf) n.toInt (tas.toInt - n.toInt) (fun k => gr taf (n.toInt + k)) W ∧ rC_ c_42.toInt fn_43 fz_44 fb_45 fg_46 W ∧ c_42.toInt = vC W) from (⟨(hid_o rmE).mpr (hid_o rm3), hid_i (by obtain ⟨r9, z0, z1, z2, z3, z4⟩ := hid_o brF; have q5 := rW1.1; exact ⟨_, AD_C hsV (rC_hz R I) (by omega) fdF W1 (hid_o hW1) z0 (by omega) (fun i9 y0 y1 => lx_r (z2 i9 y0 y1) rfl (fun k k0 k1 => by show gx taf ((0 : Int32).toInt + k) = gx taf k; rw [zl0, Int.zero_add])) (fun y0 y1 => z3 (by omega) (lx_r y1 rfl (fun k k0 k1 => by show gx taf k = gx taf ((0 : Int32).toInt + k); rw [zl0, Int.zero_add]))), vin_cC z4 (fun k k0 k1 => by show gx taf ((0 : Int32).toInt + k) = gx taf k; rw [zl0, Int.zero_add]), (vin_cC z4 (fun k k0 k1 => by show gx taf ((0 : Int32).toInt + k) = gx taf k; rw [zl0, Int.zero_add])).1⟩)⟩)), fh51, fh52⟩ [0, 1, 7, 2, 3, 4, 5, 6] (by decide) rfl rfl (by decide) (by decide)
        · have twx26 : r_22.toInt = 0 := (ti_eq rfl (by decide)).mp wx26
          exact pb_throwS (pc := 70) (cls := "java/lang/UnsupportedOperationException") (text := "too many parts or bytes") (names := ["java/lang/RuntimeException", "java/lang/Exception"]) hQ d_Book_add_70 d_Book_add_73 d_Book_add_74 d_Book_add_76 d_Book_add_79 (by decide +kernel) (by decide +kernel) tx_Book_88_92 (by decide +kernel) (by decide) (Nat.le_of_ble_eq_true rfl) (by decide) (by decide) () (Or.inr (⟨rfl, (show 0 ≤ n.toInt ∧ n.toInt ≤ tas.toInt ∧ iA_ (gx taf) 0 n.toInt from (⟨by omega, by omega, nmA⟩)), (show ¬ RM_ V (gx taf) n.toInt (tas.toInt - n.toInt) from (fun q9 => hid_o rn1 (by omega) ((hid_o rmE).mp q9)))⟩)) [1, 2, 5, 6, 3, 4, 0, 7] (by decide) rfl rfl
      · have twx12 : r_7.toInt = 0 := (ti_eq rfl (by decide)).mp wx12
        exact pb_throwS (pc := 29) (cls := "java/lang/IllegalArgumentException") (text := "the tape does not begin with such a name") (names := ["java/lang/RuntimeException", "java/lang/Exception"]) hQ d_Book_add_29 d_Book_add_32 d_Book_add_33 d_Book_add_35 d_Book_add_38 (by decide +kernel) (by decide +kernel) tx_Book_77_81 (by decide +kernel) (by decide) (Nat.le_of_ble_eq_true rfl) (by decide) (by decide) () (Or.inl ⟨rfl, (show ¬ (0 ≤ n.toInt ∧ n.toInt ≤ tas.toInt ∧ iA_ (gx taf) 0 n.toInt) from (by first | exact fun q9 => hid_o nF0 (by omega) q9.2.2 | exact fun q9 => (by have q8 := q9.1; have q7 := q9.2.1; omega)))⟩) [5, 6, 7, 0, 1, 2, 3, 4] (by decide) rfl rfl

theorem d_Book_remove_0 : decode prog_1_method_5_code 0 = .ok (.aload_n 0, 1) := by decide +kernel
theorem d_Book_remove_1 : decode prog_1_method_5_code 1 = .ok (.invokevirtual 106, 3) := by decide +kernel
theorem d_Book_remove_4 : decode prog_1_method_5_code 4 = .ok (.istore_n 1, 1) := by decide +kernel
theorem d_Book_remove_5 : decode prog_1_method_5_code 5 = .ok (.aload_n 0, 1) := by decide +kernel
theorem d_Book_remove_6 : decode prog_1_method_5_code 6 = .ok (.getfield 70, 3) := by decide +kernel
theorem d_Book_remove_9 : decode prog_1_method_5_code 9 = .ok (.aload_n 0, 1) := by decide +kernel
theorem d_Book_remove_10 : decode prog_1_method_5_code 10 = .ok (.getfield 14, 3) := by decide +kernel
theorem d_Book_remove_13 : decode prog_1_method_5_code 13 = .ok (.getfield 98, 3) := by decide +kernel
theorem d_Book_remove_16 : decode prog_1_method_5_code 16 = .ok (.iconst 0, 1) := by decide +kernel
theorem d_Book_remove_17 : decode prog_1_method_5_code 17 = .ok (.iload_n 1, 1) := by decide +kernel
theorem d_Book_remove_18 : decode prog_1_method_5_code 18 = .ok (.invokevirtual 116, 3) := by decide +kernel
theorem d_Book_remove_21 : decode prog_1_method_5_code 21 = .ok (.istore_n 2, 1) := by decide +kernel
theorem d_Book_remove_22 : decode prog_1_method_5_code 22 = .ok (.aload_n 0, 1) := by decide +kernel
theorem d_Book_remove_23 : decode prog_1_method_5_code 23 = .ok (.getfield 70, 3) := by decide +kernel
theorem d_Book_remove_26 : decode prog_1_method_5_code 26 = .ok (.iload_n 2, 1) := by decide +kernel
theorem d_Book_remove_27 : decode prog_1_method_5_code 27 = .ok (.invokevirtual 126, 3) := by decide +kernel
theorem d_Book_remove_30 : decode prog_1_method_5_code 30 = .ok (.iload_n 2, 1) := by decide +kernel
theorem d_Book_remove_31 : decode prog_1_method_5_code 31 = .ok (.ifCond .lt 7, 3) := by decide +kernel
theorem d_Book_remove_38 : decode prog_1_method_5_code 38 = .ok (.iconst 0, 1) := by decide +kernel
theorem d_Book_remove_39 : decode prog_1_method_5_code 39 = .ok (.ireturn, 1) := by decide +kernel
theorem d_Book_remove_34 : decode prog_1_method_5_code 34 = .ok (.iconst 1, 1) := by decide +kernel
theorem d_Book_remove_35 : decode prog_1_method_5_code 35 = .ok (.goto 4, 3) := by decide +kernel
abbrev y_Book_remove : MethodName := ⟨"PackageBook", "remove", "()Z"⟩
abbrev i_Book_remove : pb_I := (y_Book_remove, prog_1_method_5_code, 3, (some Jvm.ClassFile.FieldType.boolean), [], { frames := 2, cells := 0, slots := 0, locals := 84 })
set_option maxRecDepth 100000 in
set_option maxHeartbeats 4000000 in
theorem g_Book_remove {l : Launch} (hl : l.stackTraces = false) (G : pb_G) (h : Nat) (ta : Nat) (ca : Nat) (ps : Nat) (xe : Nat) (mk : Nat) (rd : Nat) (mu : Nat) (fi : Nat) (go : Nat) (sp : Nat) (ss : Nat) (tab : Nat) (taf : Nat → Int32) (tas : Int32) (tn : Nat) (tz : Nat) (tb : Nat) (tg : Nat) (c : Int32) (tfn : Nat → Int32) (tfz : Nat → Int32) (tfb : Nat → Int32) (tfg : Nat → Int32) (V : VW_) (t0 : 0 ≤ tas.toInt) (t1 : tas.toInt ≤ 8000) (I : sh_I c.toInt tfz tfg) (R : rC_ c.toInt tfn tfz tfb tfg V) (hsV : srt_ V) (F_taf : sb_Fit taf) (F_tfn : sb_Fit tfn) (F_tfb : sb_Fit tfb) : Cn l G i_Book_remove [.ref h] [(h, .inr (9, [.ref ta, .ref ca, .ref ps, .ref xe, .ref mk, .ref rd, .ref mu, .ref fi, .ref go, .ref sp, .ref ss])), (ta, .inr (0, [.ref tab, .int tas])), (tab, .inl (G.2.1, 8000, .inl taf)), (sp, .inr (3, [.ref tn, .ref tz, .ref tb, .ref tg, .int c])), (tn, .inl (G.2.1, 384, .inl tfn)), (tz, .inl (G.2.2.1, 16, .inl tfz)), (tb, .inl (G.2.1, 12000, .inl tfb)), (tg, .inl (G.2.2.1, 17, .inl tfg))] (S := Int32 × Int32 × (Nat → Int32) × (Nat → Int32) × (Nat → Int32) × (Nat → Int32)) (fun rv_ u => rv_ = some (.int u.1) ∧ (sh_I u.2.1.toInt u.2.2.2.1 u.2.2.2.2.2) ∧ (hid_ (∃ q : Int, isF_ V tas.toInt (gx taf) q ∧ (0 ≤ q ∧ u.1.toInt = 1 ∧ rC_ u.2.1.toInt u.2.2.1 u.2.2.2.1 u.2.2.2.2.1 u.2.2.2.2.2 (vou_ V q) ∨ q = -1 ∧ u.1.toInt = 0 ∧ rC_ u.2.1.toInt u.2.2.1 u.2.2.2.1 u.2.2.2.2.1 u.2.2.2.2.2 V))) ∧ (sb_Fit u.2.2.1) ∧ (sb_Fit u.2.2.2.2.1)) (fun u => [(h, .inr (9, [.ref ta, .ref ca, .ref ps, .ref xe, .ref mk, .ref rd, .ref mu, .ref fi, .ref go, .ref sp, .ref ss])), (ta, .inr (0, [.ref tab, .int 0])), (tab, .inl (G.2.1, 8000, .inl taf)), (sp, .inr (3, [.ref tn, .ref tz, .ref tb, .ref tg, .int u.2.1])), (tn, .inl (G.2.1, 384, .inl u.2.2.1)), (tz, .inl (G.2.2.1, 16, .inl u.2.2.2.1)), (tb, .inl (G.2.1, 12000, .inl u.2.2.2.2.1)), (tg, .inl (G.2.2.1, 17, .inl u.2.2.2.2.2))]) := by
  refine Cn.of hl (by decide +kernel) rfl (Nat.le_of_ble_eq_true rfl) (fun M hQ => ?_)
  refine pb_eq (pc' := 0) (lo' := [(0, .ref h)]) (rest' := []) (ws' := [(h, .inr (9, [.ref ta, .ref ca, .ref ps, .ref xe, .ref mk, .ref rd, .ref mu, .ref fi, .ref go, .ref sp, .ref ss])), (ta, .inr (0, [.ref tab, .int tas])), (tab, .inl (G.2.1, 8000, .inl taf)), (sp, .inr (3, [.ref tn, .ref tz, .ref tb, .ref tg, .int c])), (tn, .inl (G.2.1, 384, .inl tfn)), (tz, .inl (G.2.2.1, 16, .inl tfz)), (tb, .inl (G.2.1, 12000, .inl tfb)), (tg, .inl (G.2.2.1, 17, .inl tfg))]) ?_
  have zl0 : (0 : Int32).toInt = 0 := by decide
  have zl1 : (1 : Int32).toInt = 1 := by decide
  refine pb_aload_n (pc := 0) d_Book_remove_0 0 rfl rfl ?_
  refine pb_callV (pc := 1) (I := i_Book_remove) (qb := 0) (ci := 9) (nA := 0) (rest := []) (wr := [(tab, .inl (G.2.1, 8000, .inl taf)), (sp, .inr (3, [.ref tn, .ref tz, .ref tb, .ref tg, .int c])), (tn, .inl (G.2.1, 384, .inl tfn)), (tz, .inl (G.2.2.1, 16, .inl tfz)), (tb, .inl (G.2.1, 12000, .inl tfb)), (tg, .inl (G.2.2.1, 17, .inl tfg))]) d_Book_remove_1 (g_Book_takeTape hl G h ta ca ps xe mk rd mu fi go sp ss tab tas) rfl rfl [0, 1] [2, 3, 4, 5, 6, 7] (by decide) rfl rfl rfl (by decide) (by decide) k_458 rfl k_118 k_455 k_457 k_0 ⟨rfl, hy_Book_takeTape⟩ (by decide) rfl rfl (Nat.le_of_ble_eq_true rfl) (by decide) (fun v9 ux2 ch1 => ?_)
  have ech1 := ch1
  have ech1 : v9 = some (.int tas) := ech1
  subst ech1
  refine pb_eq (pc' := 4) (lo' := [(0, .ref h)]) (rest' := [.int tas]) (ws' := [(tab, .inl (G.2.1, 8000, .inl taf)), (sp, .inr (3, [.ref tn, .ref tz, .ref tb, .ref tg, .int c])), (tn, .inl (G.2.1, 384, .inl tfn)), (tz, .inl (G.2.2.1, 16, .inl tfz)), (tb, .inl (G.2.1, 12000, .inl tfb)), (tg, .inl (G.2.2.1, 17, .inl tfg)), (h, .inr (9, [.ref ta, .ref ca, .ref ps, .ref xe, .ref mk, .ref rd, .ref mu, .ref fi, .ref go, .ref sp, .ref ss])), (ta, .inr (0, [.ref tab, .int 0]))]) ?_
  refine pb_istore_n (pc := 4) (lo' := [(1, .int tas), (0, .ref h)]) d_Book_remove_4 rfl (by decide) rfl ?_
  refine pb_aload_n (pc := 5) d_Book_remove_5 1 rfl rfl ?_
  refine pb_get (pc := 6) d_Book_remove_6 6 9 rfl rfl (by decide) in_Book k_426 rfl ?_
  refine pb_aload_n (pc := 9) d_Book_remove_9 1 rfl rfl ?_
  refine pb_get (pc := 10) d_Book_remove_10 6 0 rfl rfl (by decide) in_Book k_417 rfl ?_
  refine pb_getN (pc := 13) d_Book_remove_13 7 0 rfl rfl (by decide) in_Row k_157 rfl ?_
  refine pb_iconst (pc := 16) (v := 0) d_Book_remove_16 (by decide) ?_
  refine pb_iload_n (pc := 17) d_Book_remove_17 0 rfl rfl ?_
  refine pb_callV (pc := 18) (I := i_Book_remove) (qb := 1) (ci := 3) (nA := 3) (rest := []) (wr := [(tb, .inl (G.2.1, 12000, .inl tfb)), (tg, .inl (G.2.2.1, 17, .inl tfg)), (h, .inr (9, [.ref ta, .ref ca, .ref ps, .ref xe, .ref mk, .ref rd, .ref mu, .ref fi, .ref go, .ref sp, .ref ss])), (ta, .inr (0, [.ref tab, .int 0]))]) d_Book_remove_18 (g_Shelf_find hl G sp tn tz tb tg c tfn tfz tab 8000 taf tfg 0 tas V (rC_N R) (by first | assumption | decide | omega) (by first | (with_reducible assumption) | omega (splitDisjunctions := false) | assumption | omega | decide) (by first | (with_reducible assumption) | omega (splitDisjunctions := false) | assumption | omega | decide) (by first | (with_reducible assumption) | omega (splitDisjunctions := false) | assumption | omega | decide) F_tfn F_taf) rfl rfl [1, 2, 3, 0] [4, 5, 6, 7] (by decide) rfl rfl rfl (by decide) (by decide) k_462 rfl k_127 k_459 k_460 k_461 ⟨rfl, hy_Shelf_find⟩ (by decide) rfl rfl (Nat.le_of_ble_eq_true rfl) (by decide) (fun v9 ux4 ch3 => ?_)
  obtain ⟨r_5, rfl⟩ : ∃ z9, z9 = ux4 := ⟨_, rfl⟩
  obtain ⟨ech3, ch3⟩ := ch3
  have ech3 : v9 = some (.int r_5) := ech3
  subst ech3
  obtain ⟨fh6, fh7, fh8⟩ : (-1 ≤ r_5.toInt) ∧ (r_5.toInt < c.toInt) ∧ (isF_ V tas.toInt (fun k => gx taf ((0 : Int32).toInt + k)) r_5.toInt) := ch3
  have fdF := isF_cg fh8 (fun k k0 k1 => by show gx taf ((0 : Int32).toInt + k) = gx taf k; rw [zl0, Int.zero_add])
  refine pb_eq (pc' := 21) (lo' := [(1, .int tas), (0, .ref h)]) (rest' := [.int r_5]) (ws' := [(tb, .inl (G.2.1, 12000, .inl tfb)), (tg, .inl (G.2.2.1, 17, .inl tfg)), (h, .inr (9, [.ref ta, .ref ca, .ref ps, .ref xe, .ref mk, .ref rd, .ref mu, .ref fi, .ref go, .ref sp, .ref ss])), (ta, .inr (0, [.ref tab, .int 0])), (sp, .inr (3, [.ref tn, .ref tz, .ref tb, .ref tg, .int c])), (tn, .inl (G.2.1, 384, .inl tfn)), (tz, .inl (G.2.2.1, 16, .inl tfz)), (tab, .inl (G.2.1, 8000, .inl taf))]) ?_
  refine pb_istore_n (pc := 21) (lo' := [(2, .int r_5), (1, .int tas), (0, .ref h)]) d_Book_remove_21 rfl (by decide) rfl ?_
  refine pb_aload_n (pc := 22) d_Book_remove_22 2 rfl rfl ?_
  refine pb_get (pc := 23) d_Book_remove_23 2 9 rfl rfl (by decide) in_Book k_426 rfl ?_
  refine pb_iload_n (pc := 26) d_Book_remove_26 0 rfl rfl ?_
  refine pb_callV (pc := 27) (I := i_Book_remove) (qb := 4) (ci := 3) (nA := 1) (rest := []) (wr := [(h, .inr (9, [.ref ta, .ref ca, .ref ps, .ref xe, .ref mk, .ref rd, .ref mu, .ref fi, .ref go, .ref sp, .ref ss])), (ta, .inr (0, [.ref tab, .int 0])), (tab, .inl (G.2.1, 8000, .inl taf))]) d_Book_remove_27 (g_Shelf_takeOut hl G sp tn tz tb tg c tfn tfz tfb tfg r_5 V (by first | assumption | decide | omega) (by first | (with_reducible assumption) | omega (splitDisjunctions := false) | assumption | omega | decide) F_tfn F_tfb) rfl rfl [4, 5, 6, 0, 1] [2, 3, 7] (by decide) rfl rfl rfl (by decide) (by decide) k_469 rfl k_127 k_466 k_467 k_468 ⟨rfl, hy_Shelf_takeOut⟩ (by decide) rfl rfl (Nat.le_of_ble_eq_true rfl) (by decide) (fun v9 ux10 ch9 => ?_)
  obtain ⟨c_11, fn_12, fz_13, fb_14, fg_15⟩ := ux10
  obtain ⟨ech9, ch9⟩ := ch9
  have ech9 : v9 = none := ech9
  subst ech9
  obtain ⟨fh16, fh17, fh18, fh19, fh20⟩ : (sh_I c_11.toInt fz_13 fg_15) ∧ ((0 ≤ r_5.toInt ∧ r_5.toInt < c.toInt ∧ c_11.toInt = c.toInt - 1 ∧ gx fg_15 c_11.toInt = gx tfg c.toInt - (gx tfg (r_5.toInt + 1) - gx tfg r_5.toInt)) ∨ (¬ (0 ≤ r_5.toInt ∧ r_5.toInt < c.toInt) ∧ c_11.toInt = c.toInt ∧ gx fg_15 c_11.toInt = gx tfg c.toInt)) ∧ ((0 ≤ r_5.toInt ∧ r_5.toInt < c.toInt → rC_ c_11.toInt fn_12 fz_13 fb_14 fg_15 (vou_ V r_5.toInt)) ∧ (¬ (0 ≤ r_5.toInt ∧ r_5.toInt < c.toInt) → rC_ c_11.toInt fn_12 fz_13 fb_14 fg_15 V)) ∧ (sb_Fit fn_12) ∧ (sb_Fit fb_14) := ch9
  have toF := fh18
  refine pb_eq (pc' := 30) (lo' := [(2, .int r_5), (1, .int tas), (0, .ref h)]) (rest' := []) (ws' := [(h, .inr (9, [.ref ta, .ref ca, .ref ps, .ref xe, .ref mk, .ref rd, .ref mu, .ref fi, .ref go, .ref sp, .ref ss])), (ta, .inr (0, [.ref tab, .int 0])), (tab, .inl (G.2.1, 8000, .inl taf)), (sp, .inr (3, [.ref tn, .ref tz, .ref tb, .ref tg, .int c_11])), (tn, .inl (G.2.1, 384, .inl fn_12)), (tz, .inl (G.2.2.1, 16, .inl fz_13)), (tb, .inl (G.2.1, 12000, .inl fb_14)), (tg, .inl (G.2.2.1, 17, .inl fg_15))]) ?_
  refine pb_iload_n (pc := 30) d_Book_remove_30 0 rfl rfl ?_
  refine pb_if_lt (pc := 31) (tgt := 38) d_Book_remove_31 (by decide) (fun wx21 => ?_) (fun wx21 => ?_)
  · have twx21 : r_5.toInt < 0 := (ti_lt rfl (by decide)).mp wx21
    refine pb_iconst (pc := 38) (v := 0) d_Book_remove_38 (by decide) ?_
    exact pb_iret (pc := 39) hQ d_Book_remove_39 rfl rfl (0, c_11, fn_12, fz_13, fb_14, fg_15) ⟨rfl, (by (try dsimp only); first | done | assumption | decide | omega), (show hid_ (∃ q : Int, isF_ V tas.toInt (gx taf) q ∧ (0 ≤ q ∧ (0 : Int32).toInt = 1 ∧ rC_ c_11.toInt fn_12 fz_13 fb_14 fg_15 (vou_ V q) ∨ q = -1 ∧ (0 : Int32).toInt = 0 ∧ rC_ c_11.toInt fn_12 fz_13 fb_14 fg_15 V)) from (hid_i ⟨_, fdF, by have q5 := R.1; rcases fdF with ⟨q0, q1, q2⟩ | ⟨q0, q1⟩; exact Or.inl ⟨q0, by omega, toF.1 ⟨q0, by omega⟩⟩; exact Or.inr ⟨q0, by omega, toF.2 (by omega)⟩⟩)), fh19, fh20⟩ [0, 1, 2, 3, 4, 5, 6, 7] (by decide) rfl rfl (by decide) (by decide)
  · have twx21 : ¬ r_5.toInt < 0 := fun z9 => wx21 ((ti_lt rfl (by decide)).mpr z9)
    refine pb_iconst (pc := 34) (v := 1) d_Book_remove_34 (by decide) ?_
    refine pb_goto (pc := 35) (tgt := 39) d_Book_remove_35 (by decide) ?_
    exact pb_iret (pc := 39) hQ d_Book_remove_39 rfl rfl (1, c_11, fn_12, fz_13, fb_14, fg_15) ⟨rfl, (by (try dsimp only); first | done | assumption | decide | omega), (show hid_ (∃ q : Int, isF_ V tas.toInt (gx taf) q ∧ (0 ≤ q ∧ (1 : Int32).toInt = 1 ∧ rC_ c_11.toInt fn_12 fz_13 fb_14 fg_15 (vou_ V q) ∨ q = -1 ∧ (1 : Int32).toInt = 0 ∧ rC_ c_11.toInt fn_12 fz_13 fb_14 fg_15 V)) from (hid_i ⟨_, fdF, by have q5 := R.1; rcases fdF with ⟨q0, q1, q2⟩ | ⟨q0, q1⟩; exact Or.inl ⟨q0, by omega, toF.1 ⟨q0, by omega⟩⟩; exact Or.inr ⟨q0, by omega, toF.2 (by omega)⟩⟩)), fh19, fh20⟩ [0, 1, 2, 3, 4, 5, 6, 7] (by decide) rfl rfl (by decide) (by decide)

theorem d_Book_about_0 : decode prog_1_method_6_code 0 = .ok (.iload_n 1, 1) := by decide +kernel
theorem d_Book_about_1 : decode prog_1_method_6_code 1 = .ok (.ifCond .ne 11, 3) := by decide +kernel
theorem d_Book_about_12 : decode prog_1_method_6_code 12 = .ok (.iload_n 1, 1) := by decide +kernel
theorem d_Book_about_13 : decode prog_1_method_6_code 13 = .ok (.iconst 3, 1) := by decide +kernel
theorem d_Book_about_14 : decode prog_1_method_6_code 14 = .ok (.if_icmp .ne 11, 3) := by decide +kernel
theorem d_Book_about_25 : decode prog_1_method_6_code 25 = .ok (.iload_n 1, 1) := by decide +kernel
theorem d_Book_about_26 : decode prog_1_method_6_code 26 = .ok (.iconst 1, 1) := by decide +kernel
theorem d_Book_about_27 : decode prog_1_method_6_code 27 = .ok (.if_icmp .eq 8, 3) := by decide +kernel
theorem d_Book_about_35 : decode prog_1_method_6_code 35 = .ok (.aload_n 0, 1) := by decide +kernel
theorem d_Book_about_36 : decode prog_1_method_6_code 36 = .ok (.getfield 70, 3) := by decide +kernel
theorem d_Book_about_39 : decode prog_1_method_6_code 39 = .ok (.iload_n 2, 1) := by decide +kernel
theorem d_Book_about_40 : decode prog_1_method_6_code 40 = .ok (.invokevirtual 139, 3) := by decide +kernel
theorem k_1054 : (Jvm.Cond.methodLink "PackageBook" (139 : Nat) ({ cls := "PackageBook$Shelf", name := "has", desc := "(I)Z" } : Jvm.MethodName)) ∈ uW := uW_c3 217 rfl (by decide +kernel)
theorem d_Book_about_43 : decode prog_1_method_6_code 43 = .ok (.ifCond .ne 13, 3) := by decide +kernel
theorem d_Book_about_56 : decode prog_1_method_6_code 56 = .ok (.iload_n 1, 1) := by decide +kernel
theorem d_Book_about_57 : decode prog_1_method_6_code 57 = .ok (.iconst 1, 1) := by decide +kernel
theorem d_Book_about_58 : decode prog_1_method_6_code 58 = .ok (.if_icmp .ne 15, 3) := by decide +kernel
theorem d_Book_about_73 : decode prog_1_method_6_code 73 = .ok (.aload_n 0, 1) := by decide +kernel
theorem d_Book_about_74 : decode prog_1_method_6_code 74 = .ok (.getfield 70, 3) := by decide +kernel
theorem d_Book_about_77 : decode prog_1_method_6_code 77 = .ok (.iload_n 2, 1) := by decide +kernel
theorem d_Book_about_78 : decode prog_1_method_6_code 78 = .ok (.invokevirtual 151, 3) := by decide +kernel
theorem k_1071 : (Jvm.Cond.methodLink "PackageBook" (151 : Nat) ({ cls := "PackageBook$Shelf", name := "sizeOf", desc := "(I)I" } : Jvm.MethodName)) ∈ uW := uW_c3 234 rfl (by decide +kernel)
theorem d_Book_about_81 : decode prog_1_method_6_code 81 = .ok (.ireturn, 1) := by decide +kernel
theorem d_Book_about_61 : decode prog_1_method_6_code 61 = .ok (.aload_n 0, 1) := by decide +kernel
theorem d_Book_about_62 : decode prog_1_method_6_code 62 = .ok (.getfield 70, 3) := by decide +kernel
theorem d_Book_about_65 : decode prog_1_method_6_code 65 = .ok (.getfield 148, 3) := by decide +kernel
theorem k_394 : (Jvm.Cond.fieldLinkNest "PackageBook" (148 : Nat) "PackageBook$Shelf" "nameSizes" "[I" "PackageBook") ∈ uN := uN_c1 37 rfl (by decide +kernel)
theorem d_Book_about_68 : decode prog_1_method_6_code 68 = .ok (.iload_n 2, 1) := by decide +kernel
theorem d_Book_about_69 : decode prog_1_method_6_code 69 = .ok (.iaload, 1) := by decide +kernel
theorem d_Book_about_70 : decode prog_1_method_6_code 70 = .ok (.goto 11, 3) := by decide +kernel
theorem d_Book_about_46 : decode prog_1_method_6_code 46 = .ok (.new 143, 3) := by decide +kernel
theorem tx_Book_143_147 : px_in (.classLink "PackageBook" 143 "java/lang/IndexOutOfBoundsException" :: .initialized "java/lang/IndexOutOfBoundsException" :: Bundle.ownAtoms "PackageBook" 147 "java/lang/IndexOutOfBoundsException" ["java/lang/RuntimeException", "java/lang/Exception"]) = true := px_own px_base0 (by decide +kernel)
theorem d_Book_about_49 : decode prog_1_method_6_code 49 = .ok (.dup, 1) := by decide +kernel
theorem d_Book_about_50 : decode prog_1_method_6_code 50 = .ok (.ldc 145, 2) := by decide +kernel
theorem d_Book_about_52 : decode prog_1_method_6_code 52 = .ok (.invokespecial 147, 3) := by decide +kernel
theorem d_Book_about_55 : decode prog_1_method_6_code 55 = .ok (.athrow, 1) := by decide +kernel
theorem d_Book_about_30 : decode prog_1_method_6_code 30 = .ok (.iload_n 1, 1) := by decide +kernel
theorem d_Book_about_31 : decode prog_1_method_6_code 31 = .ok (.iconst 2, 1) := by decide +kernel
theorem d_Book_about_32 : decode prog_1_method_6_code 32 = .ok (.if_icmp .ne 14, 3) := by decide +kernel
theorem d_Book_about_17 : decode prog_1_method_6_code 17 = .ok (.aload_n 0, 1) := by decide +kernel
theorem d_Book_about_18 : decode prog_1_method_6_code 18 = .ok (.getfield 70, 3) := by decide +kernel
theorem d_Book_about_21 : decode prog_1_method_6_code 21 = .ok (.invokevirtual 136, 3) := by decide +kernel
theorem k_1053 : (Jvm.Cond.methodLink "PackageBook" (136 : Nat) ({ cls := "PackageBook$Shelf", name := "inAll", desc := "()I" } : Jvm.MethodName)) ∈ uW := uW_c3 216 rfl (by decide +kernel)
theorem d_Book_about_24 : decode prog_1_method_6_code 24 = .ok (.ireturn, 1) := by decide +kernel
theorem d_Book_about_4 : decode prog_1_method_6_code 4 = .ok (.aload_n 0, 1) := by decide +kernel
theorem d_Book_about_5 : decode prog_1_method_6_code 5 = .ok (.getfield 70, 3) := by decide +kernel
theorem d_Book_about_8 : decode prog_1_method_6_code 8 = .ok (.getfield 133, 3) := by decide +kernel
theorem d_Book_about_11 : decode prog_1_method_6_code 11 = .ok (.ireturn, 1) := by decide +kernel
abbrev y_Book_about : MethodName := ⟨"PackageBook", "about", "(II)I"⟩
abbrev i_Book_about : pb_I := (y_Book_about, prog_1_method_6_code, 3, (some Jvm.ClassFile.FieldType.int), [], { frames := 6, cells := 1, slots := 6, locals := 90 })
set_option maxRecDepth 100000 in
set_option maxHeartbeats 4000000 in
theorem g_Book_about {l : Launch} (hl : l.stackTraces = false) (G : pb_G) (h : Nat) (ta : Nat) (ca : Nat) (ps : Nat) (xe : Nat) (mk : Nat) (rd : Nat) (mu : Nat) (fi : Nat) (go : Nat) (sp : Nat) (ss : Nat) (tn : Nat) (tz : Nat) (tb : Nat) (tg : Nat) (c : Int32) (tfn : Nat → Int32) (tfz : Nat → Int32) (tfb : Nat → Int32) (tfg : Nat → Int32) (w : Int32) (i : Int32) (V : VW_) (I : sh_I c.toInt tfz tfg) (R : rC_ c.toInt tfn tfz tfb tfg V) (F_tfn : sb_Fit tfn) (F_tfb : sb_Fit tfb) : Cx l G i_Book_about [.ref h, .int w, .int i] [(h, .inr (9, [.ref ta, .ref ca, .ref ps, .ref xe, .ref mk, .ref rd, .ref mu, .ref fi, .ref go, .ref sp, .ref ss])), (sp, .inr (3, [.ref tn, .ref tz, .ref tb, .ref tg, .int c])), (tn, .inl (G.2.1, 384, .inl tfn)), (tz, .inl (G.2.2.1, 16, .inl tfz)), (tb, .inl (G.2.1, 12000, .inl tfb)), (tg, .inl (G.2.2.1, 17, .inl tfg))] (S := Int32) (SX := Unit) (fun rv_ u => rv_ = some (.int u) ∧ ((w.toInt = 0 ∨ w.toInt = 3 ∨ (w.toInt = 1 ∨ w.toInt = 2) ∧ 0 ≤ i.toInt ∧ i.toInt < vC V)) ∧ ((w.toInt = 0 → u.toInt = vC V) ∧ (w.toInt = 1 → u.toInt = vZ V i.toInt) ∧ (w.toInt = 2 → u.toInt = vS V i.toInt) ∧ (w.toInt = 3 → u.toInt = vT V))) (fun u => [(h, .inr (9, [.ref ta, .ref ca, .ref ps, .ref xe, .ref mk, .ref rd, .ref mu, .ref fi, .ref go, .ref sp, .ref ss])), (sp, .inr (3, [.ref tn, .ref tz, .ref tb, .ref tg, .int c])), (tn, .inl (G.2.1, 384, .inl tfn)), (tz, .inl (G.2.2.1, 16, .inl tfz)), (tb, .inl (G.2.1, 12000, .inl tfb)), (tg, .inl (G.2.2.1, 17, .inl tfg))]) (fun E u => (E = "java/lang/IndexOutOfBoundsException" ∧ (¬ (w.toInt = 0 ∨ w.toInt = 3 ∨ (w.toInt = 1 ∨ w.toInt = 2) ∧ 0 ≤ i.toInt ∧ i.toInt < vC V)))) (fun u => [(h, .inr (9, [.ref ta, .ref ca, .ref ps, .ref xe, .ref mk, .ref rd, .ref mu, .ref fi, .ref go, .ref sp, .ref ss])), (sp, .inr (3, [.ref tn, .ref tz, .ref tb, .ref tg, .int c])), (tn, .inl (G.2.1, 384, .inl tfn)), (tz, .inl (G.2.2.1, 16, .inl tfz)), (tb, .inl (G.2.1, 12000, .inl tfb)), (tg, .inl (G.2.2.1, 17, .inl tfg))]) := by
  refine Cx.of hl (by decide +kernel) rfl (Nat.le_of_ble_eq_true rfl) (fun M hQ => ?_)
  refine pb_eq (pc' := 0) (lo' := [(0, .ref h), (1, .int w), (2, .int i)]) (rest' := []) (ws' := [(h, .inr (9, [.ref ta, .ref ca, .ref ps, .ref xe, .ref mk, .ref rd, .ref mu, .ref fi, .ref go, .ref sp, .ref ss])), (sp, .inr (3, [.ref tn, .ref tz, .ref tb, .ref tg, .int c])), (tn, .inl (G.2.1, 384, .inl tfn)), (tz, .inl (G.2.2.1, 16, .inl tfz)), (tb, .inl (G.2.1, 12000, .inl tfb)), (tg, .inl (G.2.2.1, 17, .inl tfg))]) ?_
  have zl0 : (0 : Int32).toInt = 0 := by decide
  have zl1 : (1 : Int32).toInt = 1 := by decide
  have q2 := I.2.1
  have RC := R.1
  have rT := rC_all R I
  refine pb_iload_n (pc := 0) d_Book_about_0 1 rfl rfl ?_
  refine pb_if_ne (pc := 1) (tgt := 12) d_Book_about_1 (by decide) (fun wx1 => ?_) (fun wx1 => ?_)
  · have twx1 : ¬ w.toInt = 0 := fun z9 => wx1 ((ti_eq rfl (by decide)).mpr z9)
    refine pb_iload_n (pc := 12) d_Book_about_12 1 rfl rfl ?_
    refine pb_iconst (pc := 13) (v := 3) d_Book_about_13 (by decide) ?_
    refine pb_icmp_ne (pc := 14) (tgt := 25) d_Book_about_14 (by decide) (fun wx2 => ?_) (fun wx2 => ?_)
    · have twx2 : ¬ w.toInt = 3 := fun z9 => wx2 ((ti_eq rfl (by decide)).mpr z9)
      refine pb_iload_n (pc := 25) d_Book_about_25 1 rfl rfl ?_
      refine pb_iconst (pc := 26) (v := 1) d_Book_about_26 (by decide) ?_
      refine pb_icmp_eq (pc := 27) (tgt := 35) d_Book_about_27 (by decide) (fun wx3 => ?_) (fun wx3 => ?_)
      · have twx3 : w.toInt = 1 := (ti_eq rfl (by decide)).mp wx3
        refine pb_aload_n (pc := 35) d_Book_about_35 0 rfl rfl ?_
        refine pb_get (pc := 36) d_Book_about_36 0 9 rfl rfl (by decide) in_Book k_426 rfl ?_
        refine pb_iload_n (pc := 39) d_Book_about_39 2 rfl rfl ?_
        refine pb_callV (pc := 40) (I := i_Book_about) (qb := 1) (ci := 3) (nA := 1) (rest := []) (wr := [(h, .inr (9, [.ref ta, .ref ca, .ref ps, .ref xe, .ref mk, .ref rd, .ref mu, .ref fi, .ref go, .ref sp, .ref ss])), (tn, .inl (G.2.1, 384, .inl tfn)), (tz, .inl (G.2.2.1, 16, .inl tfz)), (tb, .inl (G.2.1, 12000, .inl tfb)), (tg, .inl (G.2.2.1, 17, .inl tfg))]) d_Book_about_40 (g_Shelf_has hl G sp tn tz tb tg c i) rfl rfl [1] [0, 2, 3, 4, 5] (by decide) rfl rfl rfl (by decide) (by decide) k_473 rfl k_127 k_1054 k_471 k_472 ⟨rfl, hy_Shelf_has⟩ (by decide) rfl rfl (Nat.le_of_ble_eq_true rfl) (by decide) (fun v9 ux5 ch4 => ?_)
        obtain ⟨r_6, rfl⟩ : ∃ z9, z9 = ux5 := ⟨_, rfl⟩
        obtain ⟨ech4, ch4⟩ := ch4
        have ech4 : v9 = some (.int r_6) := ech4
        subst ech4
        obtain ⟨fh7, fh8⟩ : (r_6.toInt = 0 ∨ r_6.toInt = 1) ∧ (r_6.toInt = 1 ↔ 0 ≤ i.toInt ∧ i.toInt < c.toInt) := ch4
        refine pb_eq (pc' := 43) (lo' := [(0, .ref h), (1, .int w), (2, .int i)]) (rest' := [.int r_6]) (ws' := [(h, .inr (9, [.ref ta, .ref ca, .ref ps, .ref xe, .ref mk, .ref rd, .ref mu, .ref fi, .ref go, .ref sp, .ref ss])), (tn, .inl (G.2.1, 384, .inl tfn)), (tz, .inl (G.2.2.1, 16, .inl tfz)), (tb, .inl (G.2.1, 12000, .inl tfb)), (tg, .inl (G.2.2.1, 17, .inl tfg)), (sp, .inr (3, [.ref tn, .ref tz, .ref tb, .ref tg, .int c]))]) ?_
        refine pb_if_ne (pc := 43) (tgt := 56) d_Book_about_43 (by decide) (fun wx9 => ?_) (fun wx9 => ?_)
        · have twx9 : ¬ r_6.toInt = 0 := fun z9 => wx9 ((ti_eq rfl (by decide)).mpr z9)
          refine pb_iload_n (pc := 56) d_Book_about_56 1 rfl rfl ?_
          refine pb_iconst (pc := 57) (v := 1) d_Book_about_57 (by decide) ?_
          refine pb_icmp_ne (pc := 58) (tgt := 73) d_Book_about_58 (by decide) (fun wx10 => ?_) (fun wx10 => ?_)
          · have twx10 : ¬ w.toInt = 1 := fun z9 => wx10 ((ti_eq rfl (by decide)).mpr z9)
            refine pb_aload_n (pc := 73) d_Book_about_73 0 rfl rfl ?_
            refine pb_get (pc := 74) d_Book_about_74 0 9 rfl rfl (by decide) in_Book k_426 rfl ?_
            refine pb_iload_n (pc := 77) d_Book_about_77 2 rfl rfl ?_
            refine pb_callV (pc := 78) (I := i_Book_about) (qb := 5) (ci := 3) (nA := 1) (rest := []) (wr := [(h, .inr (9, [.ref ta, .ref ca, .ref ps, .ref xe, .ref mk, .ref rd, .ref mu, .ref fi, .ref go, .ref sp, .ref ss])), (tn, .inl (G.2.1, 384, .inl tfn)), (tz, .inl (G.2.2.1, 16, .inl tfz)), (tb, .inl (G.2.1, 12000, .inl tfb))]) d_Book_about_78 (g_Shelf_sizeOf hl G sp tn tz tb tg c tfz tfg i (by first | assumption | decide | omega) (by first | (with_reducible assumption) | omega (splitDisjunctions := false) | assumption | omega | decide) (by first | (with_reducible assumption) | omega (splitDisjunctions := false) | assumption | omega | decide)) rfl rfl [5, 4] [0, 1, 2, 3] (by decide) rfl rfl rfl (by decide) (by decide) k_477 rfl k_127 k_1071 k_475 k_476 ⟨rfl, hy_Shelf_sizeOf⟩ (by decide) rfl rfl (Nat.le_of_ble_eq_true rfl) (by decide) (fun v9 ux12 ch11 => ?_)
            obtain ⟨r_13, rfl⟩ : ∃ z9, z9 = ux12 := ⟨_, rfl⟩
            obtain ⟨ech11, ch11⟩ := ch11
            have ech11 : v9 = some (.int r_13) := ech11
            subst ech11
            obtain ⟨fh14, fh15, fh16⟩ : (r_13.toInt = gx tfg (i.toInt + 1) - gx tfg i.toInt) ∧ (0 ≤ r_13.toInt) ∧ (r_13.toInt ≤ 4000) := ch11
            refine pb_eq (pc' := 81) (lo' := [(0, .ref h), (1, .int w), (2, .int i)]) (rest' := [.int r_13]) (ws' := [(h, .inr (9, [.ref ta, .ref ca, .ref ps, .ref xe, .ref mk, .ref rd, .ref mu, .ref fi, .ref go, .ref sp, .ref ss])), (tn, .inl (G.2.1, 384, .inl tfn)), (tz, .inl (G.2.2.1, 16, .inl tfz)), (tb, .inl (G.2.1, 12000, .inl tfb)), (sp, .inr (3, [.ref tn, .ref tz, .ref tb, .ref tg, .int c])), (tg, .inl (G.2.2.1, 17, .inl tfg))]) ?_
            exact pb_iretx (pc := 81) hQ d_Book_about_81 rfl rfl (r_13) ⟨rfl, (by (try dsimp only); first | done | (with_reducible assumption) | omega (splitDisjunctions := false) | assumption | omega | decide), (show (w.toInt = 0 → r_13.toInt = vC V) ∧ (w.toInt = 1 → r_13.toInt = vZ V i.toInt) ∧ (w.toInt = 2 → r_13.toInt = vS V i.toInt) ∧ (w.toInt = 3 → r_13.toInt = vT V) from (by have q9 : 0 ≤ i.toInt ∧ i.toInt < c.toInt → gx tfz i.toInt = vZ V i.toInt ∧ gx tfg (i.toInt + 1) - gx tfg i.toInt = vS V i.toInt := fun q8 => ⟨(R.2 i.toInt q8.1 q8.2).1, (R.2 i.toInt q8.1 q8.2).2.1⟩; refine ⟨fun _ => ?_, fun _ => ?_, fun _ => ?_, fun _ => ?_⟩ <;> omega))⟩ [0, 4, 1, 2, 3, 5] (by decide) rfl rfl (by decide) (by decide)
          · have twx10 : w.toInt = 1 := (ti_eq rfl (by decide)).mp wx10
            refine pb_aload_n (pc := 61) d_Book_about_61 0 rfl rfl ?_
            refine pb_get (pc := 62) d_Book_about_62 0 9 rfl rfl (by decide) in_Book k_426 rfl ?_
            refine pb_getN (pc := 65) d_Book_about_65 5 1 rfl rfl (by decide) in_Shelf k_394 rfl ?_
            refine pb_iload_n (pc := 68) d_Book_about_68 2 rfl rfl ?_
            refine pb_iald (pc := 69) d_Book_about_69 2 rfl (vp_in_iff.mpr (by omega)) ?_
            refine pb_topi (fun ix17 eix17 => ?_)
            have tix17 : ix17.toInt = gx tfz (i.toInt) := gx_ld eix17 rfl
            refine pb_goto (pc := 70) (tgt := 81) d_Book_about_70 (by decide) ?_
            exact pb_iretx (pc := 81) hQ d_Book_about_81 rfl rfl (ix17) ⟨rfl, (by (try dsimp only); first | done | (with_reducible assumption) | omega (splitDisjunctions := false) | assumption | omega | decide), (show (w.toInt = 0 → ix17.toInt = vC V) ∧ (w.toInt = 1 → ix17.toInt = vZ V i.toInt) ∧ (w.toInt = 2 → ix17.toInt = vS V i.toInt) ∧ (w.toInt = 3 → ix17.toInt = vT V) from (by have q9 : 0 ≤ i.toInt ∧ i.toInt < c.toInt → gx tfz i.toInt = vZ V i.toInt ∧ gx tfg (i.toInt + 1) - gx tfg i.toInt = vS V i.toInt := fun q8 => ⟨(R.2 i.toInt q8.1 q8.2).1, (R.2 i.toInt q8.1 q8.2).2.1⟩; refine ⟨fun _ => ?_, fun _ => ?_, fun _ => ?_, fun _ => ?_⟩ <;> omega))⟩ [0, 5, 1, 2, 3, 4] (by decide) rfl rfl (by decide) (by decide)
        · have twx9 : r_6.toInt = 0 := (ti_eq rfl (by decide)).mp wx9
          exact pb_throwS (pc := 46) (cls := "java/lang/IndexOutOfBoundsException") (text := "no such part or question") (names := ["java/lang/RuntimeException", "java/lang/Exception"]) hQ d_Book_about_46 d_Book_about_49 d_Book_about_50 d_Book_about_52 d_Book_about_55 (by decide +kernel) (by decide +kernel) tx_Book_143_147 (by decide +kernel) (by decide) (Nat.le_of_ble_eq_true rfl) (by decide) (by decide) () ⟨rfl, (by (try dsimp only); first | done | (with_reducible assumption) | omega (splitDisjunctions := false) | assumption | omega | decide)⟩ [0, 5, 1, 2, 3, 4] (by decide) rfl rfl
      · have twx3 : ¬ w.toInt = 1 := fun z9 => wx3 ((ti_eq rfl (by decide)).mpr z9)
        refine pb_iload_n (pc := 30) d_Book_about_30 1 rfl rfl ?_
        refine pb_iconst (pc := 31) (v := 2) d_Book_about_31 (by decide) ?_
        refine pb_icmp_ne (pc := 32) (tgt := 46) d_Book_about_32 (by decide) (fun wx18 => ?_) (fun wx18 => ?_)
        · have twx18 : ¬ w.toInt = 2 := fun z9 => wx18 ((ti_eq rfl (by decide)).mpr z9)
          exact pb_throwS (pc := 46) (cls := "java/lang/IndexOutOfBoundsException") (text := "no such part or question") (names := ["java/lang/RuntimeException", "java/lang/Exception"]) hQ d_Book_about_46 d_Book_about_49 d_Book_about_50 d_Book_about_52 d_Book_about_55 (by decide +kernel) (by decide +kernel) tx_Book_143_147 (by decide +kernel) (by decide) (Nat.le_of_ble_eq_true rfl) (by decide) (by decide) () ⟨rfl, (by (try dsimp only); first | done | (with_reducible assumption) | omega (splitDisjunctions := false) | assumption | omega | decide)⟩ [0, 1, 2, 3, 4, 5] (by decide) rfl rfl
        · have twx18 : w.toInt = 2 := (ti_eq rfl (by decide)).mp wx18
          refine pb_aload_n (pc := 35) d_Book_about_35 0 rfl rfl ?_
          refine pb_get (pc := 36) d_Book_about_36 0 9 rfl rfl (by decide) in_Book k_426 rfl ?_
          refine pb_iload_n (pc := 39) d_Book_about_39 2 rfl rfl ?_
          refine pb_callV (pc := 40) (I := i_Book_about) (qb := 1) (ci := 3) (nA := 1) (rest := []) (wr := [(h, .inr (9, [.ref ta, .ref ca, .ref ps, .ref xe, .ref mk, .ref rd, .ref mu, .ref fi, .ref go, .ref sp, .ref ss])), (tn, .inl (G.2.1, 384, .inl tfn)), (tz, .inl (G.2.2.1, 16, .inl tfz)), (tb, .inl (G.2.1, 12000, .inl tfb)), (tg, .inl (G.2.2.1, 17, .inl tfg))]) d_Book_about_40 (g_Shelf_has hl G sp tn tz tb tg c i) rfl rfl [1] [0, 2, 3, 4, 5] (by decide) rfl rfl rfl (by decide) (by decide) k_473 rfl k_127 k_1054 k_471 k_472 ⟨rfl, hy_Shelf_has⟩ (by decide) rfl rfl (Nat.le_of_ble_eq_true rfl) (by decide) (fun v9 ux20 ch19 => ?_)
          obtain ⟨r_21, rfl⟩ : ∃ z9, z9 = ux20 := ⟨_, rfl⟩
          obtain ⟨ech19, ch19⟩ := ch19
          have ech19 : v9 = some (.int r_21) := ech19
          subst ech19
          obtain ⟨fh22, fh23⟩ : (r_21.toInt = 0 ∨ r_21.toInt = 1) ∧ (r_21.toInt = 1 ↔ 0 ≤ i.toInt ∧ i.toInt < c.toInt) := ch19
          refine pb_eq (pc' := 43) (lo' := [(0, .ref h), (1, .int w), (2, .int i)]) (rest' := [.int r_21]) (ws' := [(h, .inr (9, [.ref ta, .ref ca, .ref ps, .ref xe, .ref mk, .ref rd, .ref mu, .ref fi, .ref go, .ref sp, .ref ss])), (tn, .inl (G.2.1, 384, .inl tfn)), (tz, .inl (G.2.2.1, 16, .inl tfz)), (tb, .inl (G.2.1, 12000, .inl tfb)), (tg, .inl (G.2.2.1, 17, .inl tfg)), (sp, .inr (3, [.ref tn, .ref tz, .ref tb, .ref tg, .int c]))]) ?_
          refine pb_if_ne (pc := 43) (tgt := 56) d_Book_about_43 (by decide) (fun wx24 => ?_) (fun wx24 => ?_)
          · have twx24 : ¬ r_21.toInt = 0 := fun z9 => wx24 ((ti_eq rfl (by decide)).mpr z9)
            refine pb_iload_n (pc := 56) d_Book_about_56 1 rfl rfl ?_
            refine pb_iconst (pc := 57) (v := 1) d_Book_about_57 (by decide) ?_
            refine pb_icmp_ne (pc := 58) (tgt := 73) d_Book_about_58 (by decide) (fun wx25 => ?_) (fun wx25 => ?_)
            · have twx25 : ¬ w.toInt = 1 := fun z9 => wx25 ((ti_eq rfl (by decide)).mpr z9)
              refine pb_aload_n (pc := 73) d_Book_about_73 0 rfl rfl ?_
              refine pb_get (pc := 74) d_Book_about_74 0 9 rfl rfl (by decide) in_Book k_426 rfl ?_
              refine pb_iload_n (pc := 77) d_Book_about_77 2 rfl rfl ?_
              refine pb_callV (pc := 78) (I := i_Book_about) (qb := 5) (ci := 3) (nA := 1) (rest := []) (wr := [(h, .inr (9, [.ref ta, .ref ca, .ref ps, .ref xe, .ref mk, .ref rd, .ref mu, .ref fi, .ref go, .ref sp, .ref ss])), (tn, .inl (G.2.1, 384, .inl tfn)), (tz, .inl (G.2.2.1, 16, .inl tfz)), (tb, .inl (G.2.1, 12000, .inl tfb))]) d_Book_about_78 (g_Shelf_sizeOf hl G sp tn tz tb tg c tfz tfg i (by first | assumption | decide | omega) (by first | (with_reducible assumption) | omega (splitDisjunctions := false) | assumption | omega | decide) (by first | (with_reducible assumption) | omega (splitDisjunctions := false) | assumption | omega | decide)) rfl rfl [5, 4] [0, 1, 2, 3] (by decide) rfl rfl rfl (by decide) (by decide) k_477 rfl k_127 k_1071 k_475 k_476 ⟨rfl, hy_Shelf_sizeOf⟩ (by decide) rfl rfl (Nat.le_of_ble_eq_true rfl) (by decide) (fun v9 ux27 ch26 => ?_)
              obtain ⟨r_28, rfl⟩ : ∃ z9, z9 = ux27 := ⟨_, rfl⟩
              obtain ⟨ech26, ch26⟩ := ch26
              have ech26 : v9 = some (.int r_28) := ech26
              subst ech26
              obtain ⟨fh29, fh30, fh31⟩ : (r_28.toInt = gx tfg (i.toInt + 1) - gx tfg i.toInt) ∧ (0 ≤ r_28.toInt) ∧ (r_28.toInt ≤ 4000) := ch26
              refine pb_eq (pc' := 81) (lo' := [(0, .ref h), (1, .int w), (2, .int i)]) (rest' := [.int r_28]) (ws' := [(h, .inr (9, [.ref ta, .ref ca, .ref ps, .ref xe, .ref mk, .ref rd, .ref mu, .ref fi, .ref go, .ref sp, .ref ss])), (tn, .inl (G.2.1, 384, .inl tfn)), (tz, .inl (G.2.2.1, 16, .inl tfz)), (tb, .inl (G.2.1, 12000, .inl tfb)), (sp, .inr (3, [.ref tn, .ref tz, .ref tb, .ref tg, .int c])), (tg, .inl (G.2.2.1, 17, .inl tfg))]) ?_
              exact pb_iretx (pc := 81) hQ d_Book_about_81 rfl rfl (r_28) ⟨rfl, (by (try dsimp only); first | done | (with_reducible assumption) | omega (splitDisjunctions := false) | assumption | omega | decide), (show (w.toInt = 0 → r_28.toInt = vC V) ∧ (w.toInt = 1 → r_28.toInt = vZ V i.toInt) ∧ (w.toInt = 2 → r_28.toInt = vS V i.toInt) ∧ (w.toInt = 3 → r_28.toInt = vT V) from (by have q9 : 0 ≤ i.toInt ∧ i.toInt < c.toInt → gx tfz i.toInt = vZ V i.toInt ∧ gx tfg (i.toInt + 1) - gx tfg i.toInt = vS V i.toInt := fun q8 => ⟨(R.2 i.toInt q8.1 q8.2).1, (R.2 i.toInt q8.1 q8.2).2.1⟩; refine ⟨fun _ => ?_, fun _ => ?_, fun _ => ?_, fun _ => ?_⟩ <;> omega))⟩ [0, 4, 1, 2, 3, 5] (by decide) rfl rfl (by decide) (by decide)
            · have twx25 : w.toInt = 1 := (ti_eq rfl (by decide)).mp wx25
              refine pb_aload_n (pc := 61) d_Book_about_61 0 rfl rfl ?_
              refine pb_get (pc := 62) d_Book_about_62 0 9 rfl rfl (by decide) in_Book k_426 rfl ?_
              refine pb_getN (pc := 65) d_Book_about_65 5 1 rfl rfl (by decide) in_Shelf k_394 rfl ?_
              refine pb_iload_n (pc := 68) d_Book_about_68 2 rfl rfl ?_
              refine pb_iald (pc := 69) d_Book_about_69 2 rfl (vp_in_iff.mpr (by omega)) ?_
              refine pb_topi (fun ix32 eix32 => ?_)
              have tix32 : ix32.toInt = gx tfz (i.toInt) := gx_ld eix32 rfl
              refine pb_goto (pc := 70) (tgt := 81) d_Book_about_70 (by decide) ?_
              exact pb_iretx (pc := 81) hQ d_Book_about_81 rfl rfl (ix32) ⟨rfl, (by (try dsimp only); first | done | (with_reducible assumption) | omega (splitDisjunctions := false) | assumption | omega | decide), (show (w.toInt = 0 → ix32.toInt = vC V) ∧ (w.toInt = 1 → ix32.toInt = vZ V i.toInt) ∧ (w.toInt = 2 → ix32.toInt = vS V i.toInt) ∧ (w.toInt = 3 → ix32.toInt = vT V) from (by have q9 : 0 ≤ i.toInt ∧ i.toInt < c.toInt → gx tfz i.toInt = vZ V i.toInt ∧ gx tfg (i.toInt + 1) - gx tfg i.toInt = vS V i.toInt := fun q8 => ⟨(R.2 i.toInt q8.1 q8.2).1, (R.2 i.toInt q8.1 q8.2).2.1⟩; refine ⟨fun _ => ?_, fun _ => ?_, fun _ => ?_, fun _ => ?_⟩ <;> omega))⟩ [0, 5, 1, 2, 3, 4] (by decide) rfl rfl (by decide) (by decide)
          · have twx24 : r_21.toInt = 0 := (ti_eq rfl (by decide)).mp wx24
            exact pb_throwS (pc := 46) (cls := "java/lang/IndexOutOfBoundsException") (text := "no such part or question") (names := ["java/lang/RuntimeException", "java/lang/Exception"]) hQ d_Book_about_46 d_Book_about_49 d_Book_about_50 d_Book_about_52 d_Book_about_55 (by decide +kernel) (by decide +kernel) tx_Book_143_147 (by decide +kernel) (by decide) (Nat.le_of_ble_eq_true rfl) (by decide) (by decide) () ⟨rfl, (by (try dsimp only); first | done | (with_reducible assumption) | omega (splitDisjunctions := false) | assumption | omega | decide)⟩ [0, 5, 1, 2, 3, 4] (by decide) rfl rfl
    · have twx2 : w.toInt = 3 := (ti_eq rfl (by decide)).mp wx2
      refine pb_aload_n (pc := 17) d_Book_about_17 0 rfl rfl ?_
      refine pb_get (pc := 18) d_Book_about_18 0 9 rfl rfl (by decide) in_Book k_426 rfl ?_
      refine pb_callV (pc := 21) (I := i_Book_about) (qb := 1) (ci := 3) (nA := 0) (rest := []) (wr := [(h, .inr (9, [.ref ta, .ref ca, .ref ps, .ref xe, .ref mk, .ref rd, .ref mu, .ref fi, .ref go, .ref sp, .ref ss])), (tn, .inl (G.2.1, 384, .inl tfn)), (tz, .inl (G.2.2.1, 16, .inl tfz)), (tb, .inl (G.2.1, 12000, .inl tfb))]) d_Book_about_21 (g_Shelf_inAll hl G sp tn tz tb tg c tfz tfg (by first | assumption | decide | omega)) rfl rfl [1, 5] [0, 2, 3, 4] (by decide) rfl rfl rfl (by decide) (by decide) k_481 rfl k_127 k_1053 k_479 k_480 ⟨rfl, hy_Shelf_inAll⟩ (by decide) rfl rfl (Nat.le_of_ble_eq_true rfl) (by decide) (fun v9 ux34 ch33 => ?_)
      obtain ⟨r_35, rfl⟩ : ∃ z9, z9 = ux34 := ⟨_, rfl⟩
      obtain ⟨ech33, ch33⟩ := ch33
      have ech33 : v9 = some (.int r_35) := ech33
      subst ech33
      obtain ⟨fh36, fh37, fh38⟩ : (r_35.toInt = gx tfg c.toInt) ∧ (0 ≤ r_35.toInt) ∧ (r_35.toInt ≤ 12000) := ch33
      refine pb_eq (pc' := 24) (lo' := [(0, .ref h), (1, .int w), (2, .int i)]) (rest' := [.int r_35]) (ws' := [(h, .inr (9, [.ref ta, .ref ca, .ref ps, .ref xe, .ref mk, .ref rd, .ref mu, .ref fi, .ref go, .ref sp, .ref ss])), (tn, .inl (G.2.1, 384, .inl tfn)), (tz, .inl (G.2.2.1, 16, .inl tfz)), (tb, .inl (G.2.1, 12000, .inl tfb)), (sp, .inr (3, [.ref tn, .ref tz, .ref tb, .ref tg, .int c])), (tg, .inl (G.2.2.1, 17, .inl tfg))]) ?_
      exact pb_iretx (pc := 24) hQ d_Book_about_24 rfl rfl (r_35) ⟨rfl, (by (try dsimp only); first | done | (with_reducible assumption) | omega (splitDisjunctions := false) | assumption | omega | decide), (show (w.toInt = 0 → r_35.toInt = vC V) ∧ (w.toInt = 1 → r_35.toInt = vZ V i.toInt) ∧ (w.toInt = 2 → r_35.toInt = vS V i.toInt) ∧ (w.toInt = 3 → r_35.toInt = vT V) from (by have q9 : 0 ≤ i.toInt ∧ i.toInt < c.toInt → gx tfz i.toInt = vZ V i.toInt ∧ gx tfg (i.toInt + 1) - gx tfg i.toInt = vS V i.toInt := fun q8 => ⟨(R.2 i.toInt q8.1 q8.2).1, (R.2 i.toInt q8.1 q8.2).2.1⟩; refine ⟨fun _ => ?_, fun _ => ?_, fun _ => ?_, fun _ => ?_⟩ <;> omega))⟩ [0, 4, 1, 2, 3, 5] (by decide) rfl rfl (by decide) (by decide)
  · have twx1 : w.toInt = 0 := (ti_eq rfl (by decide)).mp wx1
    refine pb_aload_n (pc := 4) d_Book_about_4 0 rfl rfl ?_
    refine pb_get (pc := 5) d_Book_about_5 0 9 rfl rfl (by decide) in_Book k_426 rfl ?_
    refine pb_getN (pc := 8) d_Book_about_8 1 4 rfl rfl (by decide) in_Shelf k_405 rfl ?_
    exact pb_iretx (pc := 11) hQ d_Book_about_11 rfl rfl (c) ⟨rfl, (by (try dsimp only); first | done | (with_reducible assumption) | omega (splitDisjunctions := false) | assumption | omega | decide), (show (w.toInt = 0 → c.toInt = vC V) ∧ (w.toInt = 1 → c.toInt = vZ V i.toInt) ∧ (w.toInt = 2 → c.toInt = vS V i.toInt) ∧ (w.toInt = 3 → c.toInt = vT V) from (by have q9 : 0 ≤ i.toInt ∧ i.toInt < c.toInt → gx tfz i.toInt = vZ V i.toInt ∧ gx tfg (i.toInt + 1) - gx tfg i.toInt = vS V i.toInt := fun q8 => ⟨(R.2 i.toInt q8.1 q8.2).1, (R.2 i.toInt q8.1 q8.2).2.1⟩; refine ⟨fun _ => ?_, fun _ => ?_, fun _ => ?_, fun _ => ?_⟩ <;> omega))⟩ [0, 1, 2, 3, 4, 5] (by decide) rfl rfl (by decide) (by decide)
