theorem d_Mod_isIdHere_0 : decode prog_12_method_74_code 0 = .ok (.iload_n 1, 1) := by decide +kernel
theorem d_Mod_isIdHere_1 : decode prog_12_method_74_code 1 = .ok (.iconst 2, 1) := by decide +kernel
theorem d_Mod_isIdHere_2 : decode prog_12_method_74_code 2 = .ok (.if_icmp .ne 37, 3) := by decide +kernel
theorem d_Mod_isIdHere_39 : decode prog_12_method_74_code 39 = .ok (.iconst 0, 1) := by decide +kernel
theorem d_Mod_isIdHere_40 : decode prog_12_method_74_code 40 = .ok (.ireturn, 1) := by decide +kernel
theorem d_Mod_isIdHere_5 : decode prog_12_method_74_code 5 = .ok (.aload_n 0, 1) := by decide +kernel
theorem d_Mod_isIdHere_6 : decode prog_12_method_74_code 6 = .ok (.getfield 78, 3) := by decide +kernel
theorem d_Mod_isIdHere_9 : decode prog_12_method_74_code 9 = .ok (.aload_n 0, 1) := by decide +kernel
theorem d_Mod_isIdHere_10 : decode prog_12_method_74_code 10 = .ok (.getfield 322, 3) := by decide +kernel
theorem d_Mod_isIdHere_13 : decode prog_12_method_74_code 13 = .ok (.baload, 1) := by decide +kernel
theorem d_Mod_isIdHere_14 : decode prog_12_method_74_code 14 = .ok (.bipush 105, 2) := by decide +kernel
theorem d_Mod_isIdHere_16 : decode prog_12_method_74_code 16 = .ok (.if_icmp .ne 23, 3) := by decide +kernel
theorem d_Mod_isIdHere_19 : decode prog_12_method_74_code 19 = .ok (.aload_n 0, 1) := by decide +kernel
theorem d_Mod_isIdHere_20 : decode prog_12_method_74_code 20 = .ok (.getfield 78, 3) := by decide +kernel
theorem d_Mod_isIdHere_23 : decode prog_12_method_74_code 23 = .ok (.aload_n 0, 1) := by decide +kernel
theorem d_Mod_isIdHere_24 : decode prog_12_method_74_code 24 = .ok (.getfield 322, 3) := by decide +kernel
theorem d_Mod_isIdHere_27 : decode prog_12_method_74_code 27 = .ok (.iconst 1, 1) := by decide +kernel
theorem d_Mod_isIdHere_28 : decode prog_12_method_74_code 28 = .ok (.iadd, 1) := by decide +kernel
theorem d_Mod_isIdHere_29 : decode prog_12_method_74_code 29 = .ok (.baload, 1) := by decide +kernel
theorem d_Mod_isIdHere_30 : decode prog_12_method_74_code 30 = .ok (.bipush 100, 2) := by decide +kernel
theorem d_Mod_isIdHere_32 : decode prog_12_method_74_code 32 = .ok (.if_icmp .ne 7, 3) := by decide +kernel
theorem d_Mod_isIdHere_35 : decode prog_12_method_74_code 35 = .ok (.iconst 1, 1) := by decide +kernel
theorem d_Mod_isIdHere_36 : decode prog_12_method_74_code 36 = .ok (.goto 4, 3) := by decide +kernel
abbrev y_Mod_isIdHere : MethodName := ⟨"PackageBookModel", "isIdHere", "(I)Z"⟩
abbrev i_Mod_isIdHere : pb_I := (y_Mod_isIdHere, prog_12_method_74_code, 2, (some Jvm.ClassFile.FieldType.boolean), [], { frames := 0, cells := 0, slots := 0, locals := 0 })
set_option maxRecDepth 100000 in
set_option maxHeartbeats 4000000 in
theorem g_Mod_isIdHere {l : Launch} (hl : l.stackTraces = false) (G : pb_G) (h : Nat) (m_rels : Nat) (m_openRels : Nat) (m_closeRels : Nat) (m_openRel : Nat) (m_closeRel : Nat) (m_comment : Nat) (m_ends : Nat) (m_order : Nat) (m_tape : Nat) (m_count : Nat) (m_nameSize : Nat) (m_names : Nat) (m_size : Nat) (m_data : Nat) (m_looked : Nat) (m_file : Nat) (m_directory : Nat) (m_out : Nat) (m_row : Nat) (m_made : Nat) (m_length : Nat) (m_pressed : Nat) (m_mark : Nat) (m_idSize : Nat) (m_ids : Nat) (m_goalSize : Nat) (m_goals : Nat) (m_value : Nat) (m_faults : Nat) (m_reached : Nat) (v_thrown : Int32) (v_taped : Int32) (v_lookedSize : Int32) (v_fileSize : Int32) (v_directorySize : Int32) (v_outSize : Int32) (v_rowSize : Int32) (v_bitAt : Int32) (v_bitEnd : Int32) (v_why : Int32) (v_madeSize : Int32) (v_firstCount : Int32) (v_secondCount : Int32) (v_heldBits : Int32) (v_heldCount : Int32) (v_pressedSize : Int32) (v_at : Int32) (v_bad : Int32) (v_markSize : Int32) (v_relationCount : Int32) (v_valueSize : Int32) (v_faultCount : Int32) (a_mark : Nat → Int32) (n : Int32) (a0 : 0 ≤ v_at.toInt) (a1 : v_at.toInt ≤ v_markSize.toInt) (a2 : v_markSize.toInt ≤ 4000) (a3 : v_bad.toInt = 0 ∨ v_bad.toInt = 1) (n0 : 0 ≤ n.toInt) (n1 : v_at.toInt + n.toInt ≤ v_markSize.toInt) (F_a_mark : sb_Fit a_mark) : Cn l G i_Mod_isIdHere [.ref h, .int n] [(h, .inr (10, [.ref m_rels, .ref m_openRels, .ref m_closeRels, .ref m_openRel, .ref m_closeRel, .ref m_comment, .ref m_ends, .ref m_order, .int v_thrown, .int v_taped, .ref m_tape, .ref m_count, .ref m_nameSize, .ref m_names, .ref m_size, .ref m_data, .int v_lookedSize, .ref m_looked, .int v_fileSize, .ref m_file, .int v_directorySize, .ref m_directory, .int v_outSize, .ref m_out, .int v_rowSize, .ref m_row, .int v_bitAt, .int v_bitEnd, .int v_why, .int v_madeSize, .ref m_made, .ref m_length, .int v_firstCount, .int v_secondCount, .int v_heldBits, .int v_heldCount, .int v_pressedSize, .ref m_pressed, .int v_at, .int v_bad, .int v_markSize, .ref m_mark, .int v_relationCount, .ref m_idSize, .ref m_ids, .ref m_goalSize, .ref m_goals, .int v_valueSize, .ref m_value, .int v_faultCount, .ref m_faults, .ref m_reached])), (m_mark, .inl (G.2.1, 4000, .inl a_mark))] (S := Int32) (fun rv_ u => rv_ = some (.int u) ∧ (u.toInt = 0 ∨ u.toInt = 1) ∧ (u.toInt = 1 → n.toInt = 2) ∧ (hid_ (u.toInt = 1 ↔ (n.toInt = 2 ∧ cm_ (gr a_mark) v_markSize.toInt v_at.toInt = 105 ∧ cm_ (gr a_mark) v_markSize.toInt (v_at.toInt + 1) = 100)))) (fun u => [(h, .inr (10, [.ref m_rels, .ref m_openRels, .ref m_closeRels, .ref m_openRel, .ref m_closeRel, .ref m_comment, .ref m_ends, .ref m_order, .int v_thrown, .int v_taped, .ref m_tape, .ref m_count, .ref m_nameSize, .ref m_names, .ref m_size, .ref m_data, .int v_lookedSize, .ref m_looked, .int v_fileSize, .ref m_file, .int v_directorySize, .ref m_directory, .int v_outSize, .ref m_out, .int v_rowSize, .ref m_row, .int v_bitAt, .int v_bitEnd, .int v_why, .int v_madeSize, .ref m_made, .ref m_length, .int v_firstCount, .int v_secondCount, .int v_heldBits, .int v_heldCount, .int v_pressedSize, .ref m_pressed, .int v_at, .int v_bad, .int v_markSize, .ref m_mark, .int v_relationCount, .ref m_idSize, .ref m_ids, .ref m_goalSize, .ref m_goals, .int v_valueSize, .ref m_value, .int v_faultCount, .ref m_faults, .ref m_reached])), (m_mark, .inl (G.2.1, 4000, .inl a_mark))]) := by
  refine Cn.of hl (by decide +kernel) rfl (Nat.le_of_ble_eq_true rfl) (fun M hQ => ?_)
  refine pb_eq (pc' := 0) (lo' := [(0, .ref h), (1, .int n)]) (rest' := []) (ws' := [(h, .inr (10, [.ref m_rels, .ref m_openRels, .ref m_closeRels, .ref m_openRel, .ref m_closeRel, .ref m_comment, .ref m_ends, .ref m_order, .int v_thrown, .int v_taped, .ref m_tape, .ref m_count, .ref m_nameSize, .ref m_names, .ref m_size, .ref m_data, .int v_lookedSize, .ref m_looked, .int v_fileSize, .ref m_file, .int v_directorySize, .ref m_directory, .int v_outSize, .ref m_out, .int v_rowSize, .ref m_row, .int v_bitAt, .int v_bitEnd, .int v_why, .int v_madeSize, .ref m_made, .ref m_length, .int v_firstCount, .int v_secondCount, .int v_heldBits, .int v_heldCount, .int v_pressedSize, .ref m_pressed, .int v_at, .int v_bad, .int v_markSize, .ref m_mark, .int v_relationCount, .ref m_idSize, .ref m_ids, .ref m_goalSize, .ref m_goals, .int v_valueSize, .ref m_value, .int v_faultCount, .ref m_faults, .ref m_reached])), (m_mark, .inl (G.2.1, 4000, .inl a_mark))]) ?_
  have zl0 : (0 : Int32).toInt = 0 := by decide
  have zl1 : (1 : Int32).toInt = 1 := by decide
  refine pb_iload_n (pc := 0) d_Mod_isIdHere_0 1 rfl rfl ?_
  refine pb_iconst (pc := 1) (v := 2) d_Mod_isIdHere_1 (by decide) ?_
  refine pb_icmp_ne (pc := 2) (tgt := 39) d_Mod_isIdHere_2 (by decide) (fun wx1 => ?_) (fun wx1 => ?_)
  · have twx1 : ¬ n.toInt = 2 := fun z9 => wx1 ((ti_eq rfl (by decide)).mpr z9)
    refine pb_iconst (pc := 39) (v := 0) d_Mod_isIdHere_39 (by decide) ?_
    exact pb_iret (pc := 40) hQ d_Mod_isIdHere_40 rfl rfl (0) ⟨rfl, (by (try dsimp only); first | done | (with_reducible assumption) | omega (splitDisjunctions := false) | assumption | omega | decide), (by (try dsimp only); first | done | (with_reducible assumption) | omega (splitDisjunctions := false) | assumption | omega | decide), (show hid_ ((0 : Int32).toInt = 1 ↔ (n.toInt = 2 ∧ cm_ (gr a_mark) v_markSize.toInt v_at.toInt = 105 ∧ cm_ (gr a_mark) v_markSize.toInt (v_at.toInt + 1) = 100)) from (hid_i (by constructor <;> (intro q9; omega))))⟩ [0, 1] (by decide) rfl rfl (by decide) (by decide)
  · have twx1 : n.toInt = 2 := (ti_eq rfl (by decide)).mp wx1
    refine pb_aload_n (pc := 5) d_Mod_isIdHere_5 0 rfl rfl ?_
    refine pb_get (pc := 6) d_Mod_isIdHere_6 0 41 rfl rfl (by decide) in_Mod k_1187 rfl ?_
    refine pb_aload_n (pc := 9) d_Mod_isIdHere_9 0 rfl rfl ?_
    refine pb_get (pc := 10) d_Mod_isIdHere_10 0 38 rfl rfl (by decide) in_Mod k_1184 rfl ?_
    refine pb_bald (pc := 13) d_Mod_isIdHere_13 1 rfl (vp_in_iff.mpr (by omega)) ?_
    refine pb_topi (fun ix2 eix2 => ?_)
    have xix2 : ix2 = gr a_mark (v_at.toInt) := gr_ld eix2 (by omega)
    have yix2 : ix2.toInt = gx a_mark (v_at.toInt) := congrArg Int32.toInt xix2
    have tix2 : -128 ≤ ix2.toInt ∧ ix2.toInt ≤ 127 := ti_fit (F_a_mark _) eix2
    have sg1 := cm_sg (n := v_markSize.toInt) xix2 tix2 (by omega) (by omega)
    refine pb_bipush (pc := 14) (v := 105) d_Mod_isIdHere_14 (by decide) ?_
    refine pb_icmp_ne (pc := 16) (tgt := 39) d_Mod_isIdHere_16 (by decide) (fun wx3 => ?_) (fun wx3 => ?_)
    · have twx3 : ¬ ix2.toInt = 105 := fun z9 => wx3 ((ti_eq rfl (by decide)).mpr z9)
      refine pb_iconst (pc := 39) (v := 0) d_Mod_isIdHere_39 (by decide) ?_
      exact pb_iret (pc := 40) hQ d_Mod_isIdHere_40 rfl rfl (0) ⟨rfl, (by (try dsimp only); first | done | (with_reducible assumption) | omega (splitDisjunctions := false) | assumption | omega | decide), (by (try dsimp only); first | done | (with_reducible assumption) | omega (splitDisjunctions := false) | assumption | omega | decide), (show hid_ ((0 : Int32).toInt = 1 ↔ (n.toInt = 2 ∧ cm_ (gr a_mark) v_markSize.toInt v_at.toInt = 105 ∧ cm_ (gr a_mark) v_markSize.toInt (v_at.toInt + 1) = 100)) from (hid_i (by constructor <;> (intro q9; omega))))⟩ [0, 1] (by decide) rfl rfl (by decide) (by decide)
    · have twx3 : ix2.toInt = 105 := (ti_eq rfl (by decide)).mp wx3
      refine pb_aload_n (pc := 19) d_Mod_isIdHere_19 0 rfl rfl ?_
      refine pb_get (pc := 20) d_Mod_isIdHere_20 0 41 rfl rfl (by decide) in_Mod k_1187 rfl ?_
      refine pb_aload_n (pc := 23) d_Mod_isIdHere_23 0 rfl rfl ?_
      refine pb_get (pc := 24) d_Mod_isIdHere_24 0 38 rfl rfl (by decide) in_Mod k_1184 rfl ?_
      refine pb_iconst (pc := 27) (v := 1) d_Mod_isIdHere_27 (by decide) ?_
      refine pb_iadd (pc := 28) d_Mod_isIdHere_28 ?_
      refine pb_topi (fun ix4 eix4 => ?_)
      try have tix4 : ix4.toInt = v_at.toInt + 1 := t2_add eix4 rfl (by decide) (by omega)
      refine pb_bald (pc := 29) d_Mod_isIdHere_29 1 rfl (vp_in_iff.mpr (by omega)) ?_
      refine pb_topi (fun ix5 eix5 => ?_)
      have xix5 : ix5 = gr a_mark (v_at.toInt + 1) := gr_ld eix5 (by omega)
      have yix5 : ix5.toInt = gx a_mark (v_at.toInt + 1) := congrArg Int32.toInt xix5
      have tix5 : -128 ≤ ix5.toInt ∧ ix5.toInt ≤ 127 := ti_fit (F_a_mark _) eix5
      have sg2 := cm_sg (n := v_markSize.toInt) xix5 tix5 (by omega) (by omega)
      refine pb_bipush (pc := 30) (v := 100) d_Mod_isIdHere_30 (by decide) ?_
      refine pb_icmp_ne (pc := 32) (tgt := 39) d_Mod_isIdHere_32 (by decide) (fun wx6 => ?_) (fun wx6 => ?_)
      · have twx6 : ¬ ix5.toInt = 100 := fun z9 => wx6 ((ti_eq rfl (by decide)).mpr z9)
        refine pb_iconst (pc := 39) (v := 0) d_Mod_isIdHere_39 (by decide) ?_
        exact pb_iret (pc := 40) hQ d_Mod_isIdHere_40 rfl rfl (0) ⟨rfl, (by (try dsimp only); first | done | (with_reducible assumption) | omega (splitDisjunctions := false) | assumption | omega | decide), (by (try dsimp only); first | done | (with_reducible assumption) | omega (splitDisjunctions := false) | assumption | omega | decide), (show hid_ ((0 : Int32).toInt = 1 ↔ (n.toInt = 2 ∧ cm_ (gr a_mark) v_markSize.toInt v_at.toInt = 105 ∧ cm_ (gr a_mark) v_markSize.toInt (v_at.toInt + 1) = 100)) from (hid_i (by constructor <;> (intro q9; omega))))⟩ [0, 1] (by decide) rfl rfl (by decide) (by decide)
      · have twx6 : ix5.toInt = 100 := (ti_eq rfl (by decide)).mp wx6
        refine pb_iconst (pc := 35) (v := 1) d_Mod_isIdHere_35 (by decide) ?_
        refine pb_goto (pc := 36) (tgt := 40) d_Mod_isIdHere_36 (by decide) ?_
        exact pb_iret (pc := 40) hQ d_Mod_isIdHere_40 rfl rfl (1) ⟨rfl, (by (try dsimp only); first | done | (with_reducible assumption) | omega (splitDisjunctions := false) | assumption | omega | decide), (by (try dsimp only); first | done | (with_reducible assumption) | omega (splitDisjunctions := false) | assumption | omega | decide), (show hid_ ((1 : Int32).toInt = 1 ↔ (n.toInt = 2 ∧ cm_ (gr a_mark) v_markSize.toInt v_at.toInt = 105 ∧ cm_ (gr a_mark) v_markSize.toInt (v_at.toInt + 1) = 100)) from (hid_i (by constructor <;> (intro q9; omega))))⟩ [0, 1] (by decide) rfl rfl (by decide) (by decide)

theorem d_Mod_isToHere_0 : decode prog_12_method_75_code 0 = .ok (.iload_n 1, 1) := by decide +kernel
theorem d_Mod_isToHere_1 : decode prog_12_method_75_code 1 = .ok (.iconst 2, 1) := by decide +kernel
theorem d_Mod_isToHere_2 : decode prog_12_method_75_code 2 = .ok (.if_icmp .ne 37, 3) := by decide +kernel
theorem d_Mod_isToHere_39 : decode prog_12_method_75_code 39 = .ok (.iconst 0, 1) := by decide +kernel
theorem d_Mod_isToHere_40 : decode prog_12_method_75_code 40 = .ok (.ireturn, 1) := by decide +kernel
theorem d_Mod_isToHere_5 : decode prog_12_method_75_code 5 = .ok (.aload_n 0, 1) := by decide +kernel
theorem d_Mod_isToHere_6 : decode prog_12_method_75_code 6 = .ok (.getfield 78, 3) := by decide +kernel
theorem d_Mod_isToHere_9 : decode prog_12_method_75_code 9 = .ok (.aload_n 0, 1) := by decide +kernel
theorem d_Mod_isToHere_10 : decode prog_12_method_75_code 10 = .ok (.getfield 322, 3) := by decide +kernel
theorem d_Mod_isToHere_13 : decode prog_12_method_75_code 13 = .ok (.baload, 1) := by decide +kernel
theorem d_Mod_isToHere_14 : decode prog_12_method_75_code 14 = .ok (.bipush 116, 2) := by decide +kernel
theorem d_Mod_isToHere_16 : decode prog_12_method_75_code 16 = .ok (.if_icmp .ne 23, 3) := by decide +kernel
theorem d_Mod_isToHere_19 : decode prog_12_method_75_code 19 = .ok (.aload_n 0, 1) := by decide +kernel
theorem d_Mod_isToHere_20 : decode prog_12_method_75_code 20 = .ok (.getfield 78, 3) := by decide +kernel
theorem d_Mod_isToHere_23 : decode prog_12_method_75_code 23 = .ok (.aload_n 0, 1) := by decide +kernel
theorem d_Mod_isToHere_24 : decode prog_12_method_75_code 24 = .ok (.getfield 322, 3) := by decide +kernel
theorem d_Mod_isToHere_27 : decode prog_12_method_75_code 27 = .ok (.iconst 1, 1) := by decide +kernel
theorem d_Mod_isToHere_28 : decode prog_12_method_75_code 28 = .ok (.iadd, 1) := by decide +kernel
theorem d_Mod_isToHere_29 : decode prog_12_method_75_code 29 = .ok (.baload, 1) := by decide +kernel
theorem d_Mod_isToHere_30 : decode prog_12_method_75_code 30 = .ok (.bipush 111, 2) := by decide +kernel
theorem d_Mod_isToHere_32 : decode prog_12_method_75_code 32 = .ok (.if_icmp .ne 7, 3) := by decide +kernel
theorem d_Mod_isToHere_35 : decode prog_12_method_75_code 35 = .ok (.iconst 1, 1) := by decide +kernel
theorem d_Mod_isToHere_36 : decode prog_12_method_75_code 36 = .ok (.goto 4, 3) := by decide +kernel
abbrev y_Mod_isToHere : MethodName := ⟨"PackageBookModel", "isToHere", "(I)Z"⟩
abbrev i_Mod_isToHere : pb_I := (y_Mod_isToHere, prog_12_method_75_code, 2, (some Jvm.ClassFile.FieldType.boolean), [], { frames := 0, cells := 0, slots := 0, locals := 0 })
set_option maxRecDepth 100000 in
set_option maxHeartbeats 4000000 in
theorem g_Mod_isToHere {l : Launch} (hl : l.stackTraces = false) (G : pb_G) (h : Nat) (m_rels : Nat) (m_openRels : Nat) (m_closeRels : Nat) (m_openRel : Nat) (m_closeRel : Nat) (m_comment : Nat) (m_ends : Nat) (m_order : Nat) (m_tape : Nat) (m_count : Nat) (m_nameSize : Nat) (m_names : Nat) (m_size : Nat) (m_data : Nat) (m_looked : Nat) (m_file : Nat) (m_directory : Nat) (m_out : Nat) (m_row : Nat) (m_made : Nat) (m_length : Nat) (m_pressed : Nat) (m_mark : Nat) (m_idSize : Nat) (m_ids : Nat) (m_goalSize : Nat) (m_goals : Nat) (m_value : Nat) (m_faults : Nat) (m_reached : Nat) (v_thrown : Int32) (v_taped : Int32) (v_lookedSize : Int32) (v_fileSize : Int32) (v_directorySize : Int32) (v_outSize : Int32) (v_rowSize : Int32) (v_bitAt : Int32) (v_bitEnd : Int32) (v_why : Int32) (v_madeSize : Int32) (v_firstCount : Int32) (v_secondCount : Int32) (v_heldBits : Int32) (v_heldCount : Int32) (v_pressedSize : Int32) (v_at : Int32) (v_bad : Int32) (v_markSize : Int32) (v_relationCount : Int32) (v_valueSize : Int32) (v_faultCount : Int32) (a_mark : Nat → Int32) (n : Int32) (a0 : 0 ≤ v_at.toInt) (a1 : v_at.toInt ≤ v_markSize.toInt) (a2 : v_markSize.toInt ≤ 4000) (a3 : v_bad.toInt = 0 ∨ v_bad.toInt = 1) (n0 : 0 ≤ n.toInt) (n1 : v_at.toInt + n.toInt ≤ v_markSize.toInt) (F_a_mark : sb_Fit a_mark) : Cn l G i_Mod_isToHere [.ref h, .int n] [(h, .inr (10, [.ref m_rels, .ref m_openRels, .ref m_closeRels, .ref m_openRel, .ref m_closeRel, .ref m_comment, .ref m_ends, .ref m_order, .int v_thrown, .int v_taped, .ref m_tape, .ref m_count, .ref m_nameSize, .ref m_names, .ref m_size, .ref m_data, .int v_lookedSize, .ref m_looked, .int v_fileSize, .ref m_file, .int v_directorySize, .ref m_directory, .int v_outSize, .ref m_out, .int v_rowSize, .ref m_row, .int v_bitAt, .int v_bitEnd, .int v_why, .int v_madeSize, .ref m_made, .ref m_length, .int v_firstCount, .int v_secondCount, .int v_heldBits, .int v_heldCount, .int v_pressedSize, .ref m_pressed, .int v_at, .int v_bad, .int v_markSize, .ref m_mark, .int v_relationCount, .ref m_idSize, .ref m_ids, .ref m_goalSize, .ref m_goals, .int v_valueSize, .ref m_value, .int v_faultCount, .ref m_faults, .ref m_reached])), (m_mark, .inl (G.2.1, 4000, .inl a_mark))] (S := Int32) (fun rv_ u => rv_ = some (.int u) ∧ (u.toInt = 0 ∨ u.toInt = 1) ∧ (u.toInt = 1 → n.toInt = 2) ∧ (hid_ (u.toInt = 1 ↔ (n.toInt = 2 ∧ cm_ (gr a_mark) v_markSize.toInt v_at.toInt = 116 ∧ cm_ (gr a_mark) v_markSize.toInt (v_at.toInt + 1) = 111)))) (fun u => [(h, .inr (10, [.ref m_rels, .ref m_openRels, .ref m_closeRels, .ref m_openRel, .ref m_closeRel, .ref m_comment, .ref m_ends, .ref m_order, .int v_thrown, .int v_taped, .ref m_tape, .ref m_count, .ref m_nameSize, .ref m_names, .ref m_size, .ref m_data, .int v_lookedSize, .ref m_looked, .int v_fileSize, .ref m_file, .int v_directorySize, .ref m_directory, .int v_outSize, .ref m_out, .int v_rowSize, .ref m_row, .int v_bitAt, .int v_bitEnd, .int v_why, .int v_madeSize, .ref m_made, .ref m_length, .int v_firstCount, .int v_secondCount, .int v_heldBits, .int v_heldCount, .int v_pressedSize, .ref m_pressed, .int v_at, .int v_bad, .int v_markSize, .ref m_mark, .int v_relationCount, .ref m_idSize, .ref m_ids, .ref m_goalSize, .ref m_goals, .int v_valueSize, .ref m_value, .int v_faultCount, .ref m_faults, .ref m_reached])), (m_mark, .inl (G.2.1, 4000, .inl a_mark))]) := by
  refine Cn.of hl (by decide +kernel) rfl (Nat.le_of_ble_eq_true rfl) (fun M hQ => ?_)
  refine pb_eq (pc' := 0) (lo' := [(0, .ref h), (1, .int n)]) (rest' := []) (ws' := [(h, .inr (10, [.ref m_rels, .ref m_openRels, .ref m_closeRels, .ref m_openRel, .ref m_closeRel, .ref m_comment, .ref m_ends, .ref m_order, .int v_thrown, .int v_taped, .ref m_tape, .ref m_count, .ref m_nameSize, .ref m_names, .ref m_size, .ref m_data, .int v_lookedSize, .ref m_looked, .int v_fileSize, .ref m_file, .int v_directorySize, .ref m_directory, .int v_outSize, .ref m_out, .int v_rowSize, .ref m_row, .int v_bitAt, .int v_bitEnd, .int v_why, .int v_madeSize, .ref m_made, .ref m_length, .int v_firstCount, .int v_secondCount, .int v_heldBits, .int v_heldCount, .int v_pressedSize, .ref m_pressed, .int v_at, .int v_bad, .int v_markSize, .ref m_mark, .int v_relationCount, .ref m_idSize, .ref m_ids, .ref m_goalSize, .ref m_goals, .int v_valueSize, .ref m_value, .int v_faultCount, .ref m_faults, .ref m_reached])), (m_mark, .inl (G.2.1, 4000, .inl a_mark))]) ?_
  have zl0 : (0 : Int32).toInt = 0 := by decide
  have zl1 : (1 : Int32).toInt = 1 := by decide
  refine pb_iload_n (pc := 0) d_Mod_isToHere_0 1 rfl rfl ?_
  refine pb_iconst (pc := 1) (v := 2) d_Mod_isToHere_1 (by decide) ?_
  refine pb_icmp_ne (pc := 2) (tgt := 39) d_Mod_isToHere_2 (by decide) (fun wx1 => ?_) (fun wx1 => ?_)
  · have twx1 : ¬ n.toInt = 2 := fun z9 => wx1 ((ti_eq rfl (by decide)).mpr z9)
    refine pb_iconst (pc := 39) (v := 0) d_Mod_isToHere_39 (by decide) ?_
    exact pb_iret (pc := 40) hQ d_Mod_isToHere_40 rfl rfl (0) ⟨rfl, (by (try dsimp only); first | done | (with_reducible assumption) | omega (splitDisjunctions := false) | assumption | omega | decide), (by (try dsimp only); first | done | (with_reducible assumption) | omega (splitDisjunctions := false) | assumption | omega | decide), (show hid_ ((0 : Int32).toInt = 1 ↔ (n.toInt = 2 ∧ cm_ (gr a_mark) v_markSize.toInt v_at.toInt = 116 ∧ cm_ (gr a_mark) v_markSize.toInt (v_at.toInt + 1) = 111)) from (hid_i (by constructor <;> (intro q9; omega))))⟩ [0, 1] (by decide) rfl rfl (by decide) (by decide)
  · have twx1 : n.toInt = 2 := (ti_eq rfl (by decide)).mp wx1
    refine pb_aload_n (pc := 5) d_Mod_isToHere_5 0 rfl rfl ?_
    refine pb_get (pc := 6) d_Mod_isToHere_6 0 41 rfl rfl (by decide) in_Mod k_1187 rfl ?_
    refine pb_aload_n (pc := 9) d_Mod_isToHere_9 0 rfl rfl ?_
    refine pb_get (pc := 10) d_Mod_isToHere_10 0 38 rfl rfl (by decide) in_Mod k_1184 rfl ?_
    refine pb_bald (pc := 13) d_Mod_isToHere_13 1 rfl (vp_in_iff.mpr (by omega)) ?_
    refine pb_topi (fun ix2 eix2 => ?_)
    have xix2 : ix2 = gr a_mark (v_at.toInt) := gr_ld eix2 (by omega)
    have yix2 : ix2.toInt = gx a_mark (v_at.toInt) := congrArg Int32.toInt xix2
    have tix2 : -128 ≤ ix2.toInt ∧ ix2.toInt ≤ 127 := ti_fit (F_a_mark _) eix2
    have sg1 := cm_sg (n := v_markSize.toInt) xix2 tix2 (by omega) (by omega)
    refine pb_bipush (pc := 14) (v := 116) d_Mod_isToHere_14 (by decide) ?_
    refine pb_icmp_ne (pc := 16) (tgt := 39) d_Mod_isToHere_16 (by decide) (fun wx3 => ?_) (fun wx3 => ?_)
    · have twx3 : ¬ ix2.toInt = 116 := fun z9 => wx3 ((ti_eq rfl (by decide)).mpr z9)
      refine pb_iconst (pc := 39) (v := 0) d_Mod_isToHere_39 (by decide) ?_
      exact pb_iret (pc := 40) hQ d_Mod_isToHere_40 rfl rfl (0) ⟨rfl, (by (try dsimp only); first | done | (with_reducible assumption) | omega (splitDisjunctions := false) | assumption | omega | decide), (by (try dsimp only); first | done | (with_reducible assumption) | omega (splitDisjunctions := false) | assumption | omega | decide), (show hid_ ((0 : Int32).toInt = 1 ↔ (n.toInt = 2 ∧ cm_ (gr a_mark) v_markSize.toInt v_at.toInt = 116 ∧ cm_ (gr a_mark) v_markSize.toInt (v_at.toInt + 1) = 111)) from (hid_i (by constructor <;> (intro q9; omega))))⟩ [0, 1] (by decide) rfl rfl (by decide) (by decide)
    · have twx3 : ix2.toInt = 116 := (ti_eq rfl (by decide)).mp wx3
      refine pb_aload_n (pc := 19) d_Mod_isToHere_19 0 rfl rfl ?_
      refine pb_get (pc := 20) d_Mod_isToHere_20 0 41 rfl rfl (by decide) in_Mod k_1187 rfl ?_
      refine pb_aload_n (pc := 23) d_Mod_isToHere_23 0 rfl rfl ?_
      refine pb_get (pc := 24) d_Mod_isToHere_24 0 38 rfl rfl (by decide) in_Mod k_1184 rfl ?_
      refine pb_iconst (pc := 27) (v := 1) d_Mod_isToHere_27 (by decide) ?_
      refine pb_iadd (pc := 28) d_Mod_isToHere_28 ?_
      refine pb_topi (fun ix4 eix4 => ?_)
      try have tix4 : ix4.toInt = v_at.toInt + 1 := t2_add eix4 rfl (by decide) (by omega)
      refine pb_bald (pc := 29) d_Mod_isToHere_29 1 rfl (vp_in_iff.mpr (by omega)) ?_
      refine pb_topi (fun ix5 eix5 => ?_)
      have xix5 : ix5 = gr a_mark (v_at.toInt + 1) := gr_ld eix5 (by omega)
      have yix5 : ix5.toInt = gx a_mark (v_at.toInt + 1) := congrArg Int32.toInt xix5
      have tix5 : -128 ≤ ix5.toInt ∧ ix5.toInt ≤ 127 := ti_fit (F_a_mark _) eix5
      have sg2 := cm_sg (n := v_markSize.toInt) xix5 tix5 (by omega) (by omega)
      refine pb_bipush (pc := 30) (v := 111) d_Mod_isToHere_30 (by decide) ?_
      refine pb_icmp_ne (pc := 32) (tgt := 39) d_Mod_isToHere_32 (by decide) (fun wx6 => ?_) (fun wx6 => ?_)
      · have twx6 : ¬ ix5.toInt = 111 := fun z9 => wx6 ((ti_eq rfl (by decide)).mpr z9)
        refine pb_iconst (pc := 39) (v := 0) d_Mod_isToHere_39 (by decide) ?_
        exact pb_iret (pc := 40) hQ d_Mod_isToHere_40 rfl rfl (0) ⟨rfl, (by (try dsimp only); first | done | (with_reducible assumption) | omega (splitDisjunctions := false) | assumption | omega | decide), (by (try dsimp only); first | done | (with_reducible assumption) | omega (splitDisjunctions := false) | assumption | omega | decide), (show hid_ ((0 : Int32).toInt = 1 ↔ (n.toInt = 2 ∧ cm_ (gr a_mark) v_markSize.toInt v_at.toInt = 116 ∧ cm_ (gr a_mark) v_markSize.toInt (v_at.toInt + 1) = 111)) from (hid_i (by constructor <;> (intro q9; omega))))⟩ [0, 1] (by decide) rfl rfl (by decide) (by decide)
      · have twx6 : ix5.toInt = 111 := (ti_eq rfl (by decide)).mp wx6
        refine pb_iconst (pc := 35) (v := 1) d_Mod_isToHere_35 (by decide) ?_
        refine pb_goto (pc := 36) (tgt := 40) d_Mod_isToHere_36 (by decide) ?_
        exact pb_iret (pc := 40) hQ d_Mod_isToHere_40 rfl rfl (1) ⟨rfl, (by (try dsimp only); first | done | (with_reducible assumption) | omega (splitDisjunctions := false) | assumption | omega | decide), (by (try dsimp only); first | done | (with_reducible assumption) | omega (splitDisjunctions := false) | assumption | omega | decide), (show hid_ ((1 : Int32).toInt = 1 ↔ (n.toInt = 2 ∧ cm_ (gr a_mark) v_markSize.toInt v_at.toInt = 116 ∧ cm_ (gr a_mark) v_markSize.toInt (v_at.toInt + 1) = 111)) from (hid_i (by constructor <;> (intro q9; omega))))⟩ [0, 1] (by decide) rfl rfl (by decide) (by decide)
