theorem d_Mod_letterCount_0 : decode prog_12_method_70_code 0 = .ok (.iconst 0, 1) := by decide +kernel
theorem d_Mod_letterCount_1 : decode prog_12_method_70_code 1 = .ok (.istore_n 1, 1) := by decide +kernel
theorem d_Mod_letterCount_2 : decode prog_12_method_70_code 2 = .ok (.aload_n 0, 1) := by decide +kernel
theorem d_Mod_letterCount_3 : decode prog_12_method_70_code 3 = .ok (.getfield 322, 3) := by decide +kernel
theorem d_Mod_letterCount_6 : decode prog_12_method_70_code 6 = .ok (.iload_n 1, 1) := by decide +kernel
theorem d_Mod_letterCount_7 : decode prog_12_method_70_code 7 = .ok (.iadd, 1) := by decide +kernel
theorem d_Mod_letterCount_8 : decode prog_12_method_70_code 8 = .ok (.aload_n 0, 1) := by decide +kernel
theorem d_Mod_letterCount_9 : decode prog_12_method_70_code 9 = .ok (.getfield 324, 3) := by decide +kernel
theorem d_Mod_letterCount_12 : decode prog_12_method_70_code 12 = .ok (.if_icmp .ge 41, 3) := by decide +kernel
theorem d_Mod_letterCount_53 : decode prog_12_method_70_code 53 = .ok (.iload_n 1, 1) := by decide +kernel
theorem d_Mod_letterCount_54 : decode prog_12_method_70_code 54 = .ok (.ireturn, 1) := by decide +kernel
theorem d_Mod_letterCount_15 : decode prog_12_method_70_code 15 = .ok (.aload_n 0, 1) := by decide +kernel
theorem d_Mod_letterCount_16 : decode prog_12_method_70_code 16 = .ok (.getfield 78, 3) := by decide +kernel
theorem d_Mod_letterCount_19 : decode prog_12_method_70_code 19 = .ok (.aload_n 0, 1) := by decide +kernel
theorem d_Mod_letterCount_20 : decode prog_12_method_70_code 20 = .ok (.getfield 322, 3) := by decide +kernel
theorem d_Mod_letterCount_23 : decode prog_12_method_70_code 23 = .ok (.iload_n 1, 1) := by decide +kernel
theorem d_Mod_letterCount_24 : decode prog_12_method_70_code 24 = .ok (.iadd, 1) := by decide +kernel
theorem d_Mod_letterCount_25 : decode prog_12_method_70_code 25 = .ok (.baload, 1) := by decide +kernel
theorem d_Mod_letterCount_26 : decode prog_12_method_70_code 26 = .ok (.bipush 97, 2) := by decide +kernel
theorem d_Mod_letterCount_28 : decode prog_12_method_70_code 28 = .ok (.if_icmp .lt 25, 3) := by decide +kernel
theorem d_Mod_letterCount_31 : decode prog_12_method_70_code 31 = .ok (.aload_n 0, 1) := by decide +kernel
theorem d_Mod_letterCount_32 : decode prog_12_method_70_code 32 = .ok (.getfield 78, 3) := by decide +kernel
theorem d_Mod_letterCount_35 : decode prog_12_method_70_code 35 = .ok (.aload_n 0, 1) := by decide +kernel
theorem d_Mod_letterCount_36 : decode prog_12_method_70_code 36 = .ok (.getfield 322, 3) := by decide +kernel
theorem d_Mod_letterCount_39 : decode prog_12_method_70_code 39 = .ok (.iload_n 1, 1) := by decide +kernel
theorem d_Mod_letterCount_40 : decode prog_12_method_70_code 40 = .ok (.iadd, 1) := by decide +kernel
theorem d_Mod_letterCount_41 : decode prog_12_method_70_code 41 = .ok (.baload, 1) := by decide +kernel
theorem d_Mod_letterCount_42 : decode prog_12_method_70_code 42 = .ok (.bipush 122, 2) := by decide +kernel
theorem d_Mod_letterCount_44 : decode prog_12_method_70_code 44 = .ok (.if_icmp .gt 9, 3) := by decide +kernel
theorem d_Mod_letterCount_47 : decode prog_12_method_70_code 47 = .ok (.iinc 1 1, 3) := by decide +kernel
theorem d_Mod_letterCount_50 : decode prog_12_method_70_code 50 = .ok (.goto (-48), 3) := by decide +kernel
abbrev y_Mod_letterCount : MethodName := ⟨"PackageBookModel", "letterCount", "()I"⟩
abbrev i_Mod_letterCount : pb_I := (y_Mod_letterCount, prog_12_method_70_code, 2, (some Jvm.ClassFile.FieldType.int), [], { frames := 0, cells := 0, slots := 0, locals := 0 })
set_option maxRecDepth 100000 in
set_option maxHeartbeats 4000000 in
theorem g_Mod_letterCount {l : Launch} (hl : l.stackTraces = false) (G : pb_G) (h : Nat) (m_rels : Nat) (m_openRels : Nat) (m_closeRels : Nat) (m_openRel : Nat) (m_closeRel : Nat) (m_comment : Nat) (m_ends : Nat) (m_order : Nat) (m_tape : Nat) (m_count : Nat) (m_nameSize : Nat) (m_names : Nat) (m_size : Nat) (m_data : Nat) (m_looked : Nat) (m_file : Nat) (m_directory : Nat) (m_out : Nat) (m_row : Nat) (m_made : Nat) (m_length : Nat) (m_pressed : Nat) (m_mark : Nat) (m_idSize : Nat) (m_ids : Nat) (m_goalSize : Nat) (m_goals : Nat) (m_value : Nat) (m_faults : Nat) (m_reached : Nat) (v_thrown : Int32) (v_taped : Int32) (v_lookedSize : Int32) (v_fileSize : Int32) (v_directorySize : Int32) (v_outSize : Int32) (v_rowSize : Int32) (v_bitAt : Int32) (v_bitEnd : Int32) (v_why : Int32) (v_madeSize : Int32) (v_firstCount : Int32) (v_secondCount : Int32) (v_heldBits : Int32) (v_heldCount : Int32) (v_pressedSize : Int32) (v_at : Int32) (v_bad : Int32) (v_markSize : Int32) (v_relationCount : Int32) (v_valueSize : Int32) (v_faultCount : Int32) (a_mark : Nat → Int32) (a0 : 0 ≤ v_at.toInt) (a1 : v_at.toInt ≤ v_markSize.toInt) (a2 : v_markSize.toInt ≤ 4000) (a3 : v_bad.toInt = 0 ∨ v_bad.toInt = 1) (F_a_mark : sb_Fit a_mark) : Cn l G i_Mod_letterCount [.ref h] [(h, .inr (10, [.ref m_rels, .ref m_openRels, .ref m_closeRels, .ref m_openRel, .ref m_closeRel, .ref m_comment, .ref m_ends, .ref m_order, .int v_thrown, .int v_taped, .ref m_tape, .ref m_count, .ref m_nameSize, .ref m_names, .ref m_size, .ref m_data, .int v_lookedSize, .ref m_looked, .int v_fileSize, .ref m_file, .int v_directorySize, .ref m_directory, .int v_outSize, .ref m_out, .int v_rowSize, .ref m_row, .int v_bitAt, .int v_bitEnd, .int v_why, .int v_madeSize, .ref m_made, .ref m_length, .int v_firstCount, .int v_secondCount, .int v_heldBits, .int v_heldCount, .int v_pressedSize, .ref m_pressed, .int v_at, .int v_bad, .int v_markSize, .ref m_mark, .int v_relationCount, .ref m_idSize, .ref m_ids, .ref m_goalSize, .ref m_goals, .int v_valueSize, .ref m_value, .int v_faultCount, .ref m_faults, .ref m_reached])), (m_mark, .inl (G.2.1, 4000, .inl a_mark))] (S := Int32) (fun rv_ u => rv_ = some (.int u) ∧ (0 ≤ u.toInt) ∧ (v_at.toInt + u.toInt ≤ v_markSize.toInt)) (fun u => [(h, .inr (10, [.ref m_rels, .ref m_openRels, .ref m_closeRels, .ref m_openRel, .ref m_closeRel, .ref m_comment, .ref m_ends, .ref m_order, .int v_thrown, .int v_taped, .ref m_tape, .ref m_count, .ref m_nameSize, .ref m_names, .ref m_size, .ref m_data, .int v_lookedSize, .ref m_looked, .int v_fileSize, .ref m_file, .int v_directorySize, .ref m_directory, .int v_outSize, .ref m_out, .int v_rowSize, .ref m_row, .int v_bitAt, .int v_bitEnd, .int v_why, .int v_madeSize, .ref m_made, .ref m_length, .int v_firstCount, .int v_secondCount, .int v_heldBits, .int v_heldCount, .int v_pressedSize, .ref m_pressed, .int v_at, .int v_bad, .int v_markSize, .ref m_mark, .int v_relationCount, .ref m_idSize, .ref m_ids, .ref m_goalSize, .ref m_goals, .int v_valueSize, .ref m_value, .int v_faultCount, .ref m_faults, .ref m_reached])), (m_mark, .inl (G.2.1, 4000, .inl a_mark))]) := by
  refine Cn.of hl (by decide +kernel) rfl (Nat.le_of_ble_eq_true rfl) (fun M hQ => ?_)
  refine pb_eq (pc' := 0) (lo' := [(0, .ref h)]) (rest' := []) (ws' := [(h, .inr (10, [.ref m_rels, .ref m_openRels, .ref m_closeRels, .ref m_openRel, .ref m_closeRel, .ref m_comment, .ref m_ends, .ref m_order, .int v_thrown, .int v_taped, .ref m_tape, .ref m_count, .ref m_nameSize, .ref m_names, .ref m_size, .ref m_data, .int v_lookedSize, .ref m_looked, .int v_fileSize, .ref m_file, .int v_directorySize, .ref m_directory, .int v_outSize, .ref m_out, .int v_rowSize, .ref m_row, .int v_bitAt, .int v_bitEnd, .int v_why, .int v_madeSize, .ref m_made, .ref m_length, .int v_firstCount, .int v_secondCount, .int v_heldBits, .int v_heldCount, .int v_pressedSize, .ref m_pressed, .int v_at, .int v_bad, .int v_markSize, .ref m_mark, .int v_relationCount, .ref m_idSize, .ref m_ids, .ref m_goalSize, .ref m_goals, .int v_valueSize, .ref m_value, .int v_faultCount, .ref m_faults, .ref m_reached])), (m_mark, .inl (G.2.1, 4000, .inl a_mark))]) ?_
  have zl0 : (0 : Int32).toInt = 0 := by decide
  have zl1 : (1 : Int32).toInt = 1 := by decide
  refine pb_iconst (pc := 0) (v := 0) d_Mod_letterCount_0 (by decide) ?_
  refine pb_istore_n (pc := 1) (lo' := [(1, .int 0), (0, .ref h)]) d_Mod_letterCount_1 rfl (by decide) rfl ?_
  have hL2_1 : ∀ (N9 : Nat) (n : Int32), (0 ≤ n.toInt) → (v_at.toInt + n.toInt ≤ v_markSize.toInt) → ((v_markSize.toInt - n.toInt).toNat) < N9 → pb_P l G M i_Mod_letterCount 2 [(1, .int n), (0, .ref h)] [] [(h, .inr (10, [.ref m_rels, .ref m_openRels, .ref m_closeRels, .ref m_openRel, .ref m_closeRel, .ref m_comment, .ref m_ends, .ref m_order, .int v_thrown, .int v_taped, .ref m_tape, .ref m_count, .ref m_nameSize, .ref m_names, .ref m_size, .ref m_data, .int v_lookedSize, .ref m_looked, .int v_fileSize, .ref m_file, .int v_directorySize, .ref m_directory, .int v_outSize, .ref m_out, .int v_rowSize, .ref m_row, .int v_bitAt, .int v_bitEnd, .int v_why, .int v_madeSize, .ref m_made, .ref m_length, .int v_firstCount, .int v_secondCount, .int v_heldBits, .int v_heldCount, .int v_pressedSize, .ref m_pressed, .int v_at, .int v_bad, .int v_markSize, .ref m_mark, .int v_relationCount, .ref m_idSize, .ref m_ids, .ref m_goalSize, .ref m_goals, .int v_valueSize, .ref m_value, .int v_faultCount, .ref m_faults, .ref m_reached])), (m_mark, .inl (G.2.1, 4000, .inl a_mark))] 0 0 := by
    intro N9
    induction N9 with
    | zero => intro n k0 k1 hm9; exact absurd hm9 (Nat.not_lt_zero _)
    | succ N9 ih2 =>
      intro n k0 k1 hm9
      refine pb_aload_n (pc := 2) d_Mod_letterCount_2 1 rfl rfl ?_
      refine pb_get (pc := 3) d_Mod_letterCount_3 0 38 rfl rfl (by decide) in_Mod k_1184 rfl ?_
      refine pb_iload_n (pc := 6) d_Mod_letterCount_6 0 rfl rfl ?_
      refine pb_iadd (pc := 7) d_Mod_letterCount_7 ?_
      refine pb_topi (fun ix2 eix2 => ?_)
      try have tix2 : ix2.toInt = v_at.toInt + n.toInt := t2_add eix2 rfl rfl (by omega)
      refine pb_aload_n (pc := 8) d_Mod_letterCount_8 1 rfl rfl ?_
      refine pb_get (pc := 9) d_Mod_letterCount_9 0 40 rfl rfl (by decide) in_Mod k_1186 rfl ?_
      refine pb_icmp_ge (pc := 12) (tgt := 53) d_Mod_letterCount_12 (by decide) (fun wx3 => ?_) (fun wx3 => ?_)
      · have twx3 : v_markSize.toInt ≤ ix2.toInt := (ti_le rfl rfl).mp wx3
        refine pb_iload_n (pc := 53) d_Mod_letterCount_53 0 rfl rfl ?_
        exact pb_iret (pc := 54) hQ d_Mod_letterCount_54 rfl rfl (n) ⟨rfl, (by (try dsimp only); first | done | assumption | omega (splitDisjunctions := false) | omega | decide), (by (try dsimp only); first | done | assumption | omega (splitDisjunctions := false) | omega | decide)⟩ [0, 1] (by decide) rfl rfl (by decide) (by decide)
      · have twx3 : ¬ v_markSize.toInt ≤ ix2.toInt := fun z9 => wx3 ((ti_le rfl rfl).mpr z9)
        refine pb_aload_n (pc := 15) d_Mod_letterCount_15 1 rfl rfl ?_
        refine pb_get (pc := 16) d_Mod_letterCount_16 0 41 rfl rfl (by decide) in_Mod k_1187 rfl ?_
        refine pb_aload_n (pc := 19) d_Mod_letterCount_19 1 rfl rfl ?_
        refine pb_get (pc := 20) d_Mod_letterCount_20 0 38 rfl rfl (by decide) in_Mod k_1184 rfl ?_
        refine pb_iload_n (pc := 23) d_Mod_letterCount_23 0 rfl rfl ?_
        refine pb_iadd (pc := 24) d_Mod_letterCount_24 ?_
        refine pb_topi (fun ix4 eix4 => ?_)
        try have tix4 : ix4.toInt = v_at.toInt + n.toInt := t2_add eix4 rfl rfl (by omega)
        refine pb_bald (pc := 25) d_Mod_letterCount_25 1 rfl (vp_in_iff.mpr (by omega)) ?_
        refine pb_topi (fun ix5 eix5 => ?_)
        have tix5 : -128 ≤ ix5.toInt ∧ ix5.toInt ≤ 127 := ti_fit (F_a_mark _) eix5
        refine pb_bipush (pc := 26) (v := 97) d_Mod_letterCount_26 (by decide) ?_
        refine pb_icmp_lt (pc := 28) (tgt := 53) d_Mod_letterCount_28 (by decide) (fun wx6 => ?_) (fun wx6 => ?_)
        · have twx6 : ix5.toInt < 97 := (ti_lt rfl (by decide)).mp wx6
          refine pb_iload_n (pc := 53) d_Mod_letterCount_53 0 rfl rfl ?_
          exact pb_iret (pc := 54) hQ d_Mod_letterCount_54 rfl rfl (n) ⟨rfl, (by (try dsimp only); first | done | assumption | omega (splitDisjunctions := false) | omega | decide), (by (try dsimp only); first | done | assumption | omega (splitDisjunctions := false) | omega | decide)⟩ [0, 1] (by decide) rfl rfl (by decide) (by decide)
        · have twx6 : ¬ ix5.toInt < 97 := fun z9 => wx6 ((ti_lt rfl (by decide)).mpr z9)
          refine pb_aload_n (pc := 31) d_Mod_letterCount_31 1 rfl rfl ?_
          refine pb_get (pc := 32) d_Mod_letterCount_32 0 41 rfl rfl (by decide) in_Mod k_1187 rfl ?_
          refine pb_aload_n (pc := 35) d_Mod_letterCount_35 1 rfl rfl ?_
          refine pb_get (pc := 36) d_Mod_letterCount_36 0 38 rfl rfl (by decide) in_Mod k_1184 rfl ?_
          refine pb_iload_n (pc := 39) d_Mod_letterCount_39 0 rfl rfl ?_
          refine pb_iadd (pc := 40) d_Mod_letterCount_40 ?_
          refine pb_topi (fun ix7 eix7 => ?_)
          try have tix7 : ix7.toInt = v_at.toInt + n.toInt := t2_add eix7 rfl rfl (by omega)
          refine pb_bald (pc := 41) d_Mod_letterCount_41 1 rfl (vp_in_iff.mpr (by omega)) ?_
          refine pb_topi (fun ix8 eix8 => ?_)
          have tix8 : -128 ≤ ix8.toInt ∧ ix8.toInt ≤ 127 := ti_fit (F_a_mark _) eix8
          refine pb_bipush (pc := 42) (v := 122) d_Mod_letterCount_42 (by decide) ?_
          refine pb_icmp_gt (pc := 44) (tgt := 53) d_Mod_letterCount_44 (by decide) (fun wx9 => ?_) (fun wx9 => ?_)
          · have twx9 : 122 < ix8.toInt := (ti_lt (by decide) rfl).mp wx9
            refine pb_iload_n (pc := 53) d_Mod_letterCount_53 0 rfl rfl ?_
            exact pb_iret (pc := 54) hQ d_Mod_letterCount_54 rfl rfl (n) ⟨rfl, (by (try dsimp only); first | done | assumption | omega (splitDisjunctions := false) | omega | decide), (by (try dsimp only); first | done | assumption | omega (splitDisjunctions := false) | omega | decide)⟩ [0, 1] (by decide) rfl rfl (by decide) (by decide)
          · have twx9 : ¬ 122 < ix8.toInt := fun z9 => wx9 ((ti_lt (by decide) rfl).mpr z9)
            refine pb_iincN (pc := 47) (c := 1) d_Mod_letterCount_47 0 rfl (by decide) (by decide) (fun ix10 eix10 => ?_)
            have tix10 : ix10.toInt = n.toInt + 1 := t2_add eix10 rfl (by decide) (by first | omega | (have r90 := ti_rng n; have r91 := ti_rng ix10; omega))
            refine pb_eq (pc' := 50) (lo' := [(1, .int ix10), (0, .ref h)]) (rest' := []) (ws' := [(h, .inr (10, [.ref m_rels, .ref m_openRels, .ref m_closeRels, .ref m_openRel, .ref m_closeRel, .ref m_comment, .ref m_ends, .ref m_order, .int v_thrown, .int v_taped, .ref m_tape, .ref m_count, .ref m_nameSize, .ref m_names, .ref m_size, .ref m_data, .int v_lookedSize, .ref m_looked, .int v_fileSize, .ref m_file, .int v_directorySize, .ref m_directory, .int v_outSize, .ref m_out, .int v_rowSize, .ref m_row, .int v_bitAt, .int v_bitEnd, .int v_why, .int v_madeSize, .ref m_made, .ref m_length, .int v_firstCount, .int v_secondCount, .int v_heldBits, .int v_heldCount, .int v_pressedSize, .ref m_pressed, .int v_at, .int v_bad, .int v_markSize, .ref m_mark, .int v_relationCount, .ref m_idSize, .ref m_ids, .ref m_goalSize, .ref m_goals, .int v_valueSize, .ref m_value, .int v_faultCount, .ref m_faults, .ref m_reached])), (m_mark, .inl (G.2.1, 4000, .inl a_mark))]) ?_
            refine pb_goto (pc := 50) (tgt := 2) d_Mod_letterCount_50 (by decide) ?_
            exact ih2 ix10 (by first | assumption | omega (splitDisjunctions := false) | omega | decide) (by first | assumption | omega (splitDisjunctions := false) | omega | decide) (by omega)
  exact hL2_1 _ 0 (by first | assumption | omega (splitDisjunctions := false) | omega | decide) (by first | assumption | omega (splitDisjunctions := false) | omega | decide) (Nat.lt_succ_self _)

theorem d_Mod_named_0 : decode prog_12_method_71_code 0 = .ok (.lconst 0, 1) := by decide +kernel
theorem d_Mod_named_1 : decode prog_12_method_71_code 1 = .ok (.lstore_n 2, 1) := by decide +kernel
theorem d_Mod_named_2 : decode prog_12_method_71_code 2 = .ok (.iconst 0, 1) := by decide +kernel
theorem d_Mod_named_3 : decode prog_12_method_71_code 3 = .ok (.istore 4, 2) := by decide +kernel
theorem d_Mod_named_5 : decode prog_12_method_71_code 5 = .ok (.iload 4, 2) := by decide +kernel
theorem d_Mod_named_7 : decode prog_12_method_71_code 7 = .ok (.iload_n 1, 1) := by decide +kernel
theorem d_Mod_named_8 : decode prog_12_method_71_code 8 = .ok (.if_icmp .ge 40, 3) := by decide +kernel
theorem d_Mod_named_48 : decode prog_12_method_71_code 48 = .ok (.lload_n 2, 1) := by decide +kernel
theorem d_Mod_named_49 : decode prog_12_method_71_code 49 = .ok (.ldc2_w 358, 3) := by decide +kernel
theorem k_1639 : (Jvm.Cond.constantLong "PackageBookModel" (358 : Nat) (1096 : Int64)) ∈ uW := uW_of 1639 (by decide +kernel) (by decide +kernel)
theorem d_Mod_named_52 : decode prog_12_method_71_code 52 = .ok (.lcmp, 1) := by decide +kernel
theorem d_Mod_named_53 : decode prog_12_method_71_code 53 = .ok (.ifCond .ne 6, 3) := by decide +kernel
theorem d_Mod_named_59 : decode prog_12_method_71_code 59 = .ok (.lload_n 2, 1) := by decide +kernel
theorem d_Mod_named_60 : decode prog_12_method_71_code 60 = .ok (.ldc2_w 360, 3) := by decide +kernel
theorem k_1640 : (Jvm.Cond.constantLong "PackageBookModel" (360 : Nat) (344 : Int64)) ∈ uW := uW_of 1640 (by decide +kernel) (by decide +kernel)
theorem d_Mod_named_63 : decode prog_12_method_71_code 63 = .ok (.lcmp, 1) := by decide +kernel
theorem d_Mod_named_64 : decode prog_12_method_71_code 64 = .ok (.ifCond .ne 6, 3) := by decide +kernel
theorem d_Mod_named_70 : decode prog_12_method_71_code 70 = .ok (.lload_n 2, 1) := by decide +kernel
theorem d_Mod_named_71 : decode prog_12_method_71_code 71 = .ok (.ldc2_w 362, 3) := by decide +kernel
theorem k_1641 : (Jvm.Cond.constantLong "PackageBookModel" (362 : Nat) (209 : Int64)) ∈ uW := uW_of 1641 (by decide +kernel) (by decide +kernel)
theorem d_Mod_named_74 : decode prog_12_method_71_code 74 = .ok (.lcmp, 1) := by decide +kernel
theorem d_Mod_named_75 : decode prog_12_method_71_code 75 = .ok (.ifCond .ne 6, 3) := by decide +kernel
theorem d_Mod_named_81 : decode prog_12_method_71_code 81 = .ok (.lload_n 2, 1) := by decide +kernel
theorem d_Mod_named_82 : decode prog_12_method_71_code 82 = .ok (.ldc2_w 364, 3) := by decide +kernel
theorem k_1642 : (Jvm.Cond.constantLong "PackageBookModel" (364 : Nat) (350345 : Int64)) ∈ uW := uW_of 1642 (by decide +kernel) (by decide +kernel)
theorem d_Mod_named_85 : decode prog_12_method_71_code 85 = .ok (.lcmp, 1) := by decide +kernel
theorem d_Mod_named_86 : decode prog_12_method_71_code 86 = .ok (.ifCond .ne 6, 3) := by decide +kernel
theorem d_Mod_named_92 : decode prog_12_method_71_code 92 = .ok (.lload_n 2, 1) := by decide +kernel
theorem d_Mod_named_93 : decode prog_12_method_71_code 93 = .ok (.ldc2_w 366, 3) := by decide +kernel
theorem k_1643 : (Jvm.Cond.constantLong "PackageBookModel" (366 : Nat) (31771 : Int64)) ∈ uW := uW_of 1643 (by decide +kernel) (by decide +kernel)
theorem d_Mod_named_96 : decode prog_12_method_71_code 96 = .ok (.lcmp, 1) := by decide +kernel
theorem d_Mod_named_97 : decode prog_12_method_71_code 97 = .ok (.ifCond .ne 8, 3) := by decide +kernel
theorem d_Mod_named_105 : decode prog_12_method_71_code 105 = .ok (.iconst 0, 1) := by decide +kernel
theorem d_Mod_named_106 : decode prog_12_method_71_code 106 = .ok (.ireturn, 1) := by decide +kernel
theorem d_Mod_named_100 : decode prog_12_method_71_code 100 = .ok (.bipush 39, 2) := by decide +kernel
theorem d_Mod_named_102 : decode prog_12_method_71_code 102 = .ok (.goto 4, 3) := by decide +kernel
theorem d_Mod_named_89 : decode prog_12_method_71_code 89 = .ok (.bipush 34, 2) := by decide +kernel
theorem d_Mod_named_91 : decode prog_12_method_71_code 91 = .ok (.ireturn, 1) := by decide +kernel
theorem d_Mod_named_78 : decode prog_12_method_71_code 78 = .ok (.bipush 62, 2) := by decide +kernel
theorem d_Mod_named_80 : decode prog_12_method_71_code 80 = .ok (.ireturn, 1) := by decide +kernel
theorem d_Mod_named_67 : decode prog_12_method_71_code 67 = .ok (.bipush 60, 2) := by decide +kernel
theorem d_Mod_named_69 : decode prog_12_method_71_code 69 = .ok (.ireturn, 1) := by decide +kernel
theorem d_Mod_named_56 : decode prog_12_method_71_code 56 = .ok (.bipush 38, 2) := by decide +kernel
theorem d_Mod_named_58 : decode prog_12_method_71_code 58 = .ok (.ireturn, 1) := by decide +kernel
theorem d_Mod_named_11 : decode prog_12_method_71_code 11 = .ok (.iload 4, 2) := by decide +kernel
theorem d_Mod_named_13 : decode prog_12_method_71_code 13 = .ok (.bipush 6, 2) := by decide +kernel
theorem d_Mod_named_15 : decode prog_12_method_71_code 15 = .ok (.if_icmp .ge 33, 3) := by decide +kernel
theorem d_Mod_named_18 : decode prog_12_method_71_code 18 = .ok (.ldc2_w 354, 3) := by decide +kernel
theorem k_1637 : (Jvm.Cond.constantLong "PackageBookModel" (354 : Nat) (27 : Int64)) ∈ uW := uW_of 1637 (by decide +kernel) (by decide +kernel)
theorem d_Mod_named_21 : decode prog_12_method_71_code 21 = .ok (.lload_n 2, 1) := by decide +kernel
theorem d_Mod_named_22 : decode prog_12_method_71_code 22 = .ok (.lmul, 1) := by decide +kernel
theorem d_Mod_named_23 : decode prog_12_method_71_code 23 = .ok (.aload_n 0, 1) := by decide +kernel
theorem d_Mod_named_24 : decode prog_12_method_71_code 24 = .ok (.getfield 78, 3) := by decide +kernel
theorem d_Mod_named_27 : decode prog_12_method_71_code 27 = .ok (.aload_n 0, 1) := by decide +kernel
theorem d_Mod_named_28 : decode prog_12_method_71_code 28 = .ok (.getfield 322, 3) := by decide +kernel
theorem d_Mod_named_31 : decode prog_12_method_71_code 31 = .ok (.iload 4, 2) := by decide +kernel
theorem d_Mod_named_33 : decode prog_12_method_71_code 33 = .ok (.iadd, 1) := by decide +kernel
theorem d_Mod_named_34 : decode prog_12_method_71_code 34 = .ok (.baload, 1) := by decide +kernel
theorem d_Mod_named_35 : decode prog_12_method_71_code 35 = .ok (.i2l, 1) := by decide +kernel
theorem d_Mod_named_36 : decode prog_12_method_71_code 36 = .ok (.ladd, 1) := by decide +kernel
theorem d_Mod_named_37 : decode prog_12_method_71_code 37 = .ok (.ldc2_w 356, 3) := by decide +kernel
theorem k_1638 : (Jvm.Cond.constantLong "PackageBookModel" (356 : Nat) (96 : Int64)) ∈ uW := uW_of 1638 (by decide +kernel) (by decide +kernel)
theorem d_Mod_named_40 : decode prog_12_method_71_code 40 = .ok (.lsub, 1) := by decide +kernel
theorem d_Mod_named_41 : decode prog_12_method_71_code 41 = .ok (.lstore_n 2, 1) := by decide +kernel
theorem d_Mod_named_42 : decode prog_12_method_71_code 42 = .ok (.iinc 4 1, 3) := by decide +kernel
theorem d_Mod_named_45 : decode prog_12_method_71_code 45 = .ok (.goto (-40), 3) := by decide +kernel
abbrev y_Mod_named : MethodName := ⟨"PackageBookModel", "named", "(I)I"⟩
abbrev i_Mod_named : pb_I := (y_Mod_named, prog_12_method_71_code, 5, (some Jvm.ClassFile.FieldType.int), [], { frames := 0, cells := 0, slots := 0, locals := 0 })
set_option maxRecDepth 100000 in
set_option maxHeartbeats 4000000 in
theorem g_Mod_named {l : Launch} (hl : l.stackTraces = false) (G : pb_G) (h : Nat) (m_rels : Nat) (m_openRels : Nat) (m_closeRels : Nat) (m_openRel : Nat) (m_closeRel : Nat) (m_comment : Nat) (m_ends : Nat) (m_order : Nat) (m_tape : Nat) (m_count : Nat) (m_nameSize : Nat) (m_names : Nat) (m_size : Nat) (m_data : Nat) (m_looked : Nat) (m_file : Nat) (m_directory : Nat) (m_out : Nat) (m_row : Nat) (m_made : Nat) (m_length : Nat) (m_pressed : Nat) (m_mark : Nat) (m_idSize : Nat) (m_ids : Nat) (m_goalSize : Nat) (m_goals : Nat) (m_value : Nat) (m_faults : Nat) (m_reached : Nat) (v_thrown : Int32) (v_taped : Int32) (v_lookedSize : Int32) (v_fileSize : Int32) (v_directorySize : Int32) (v_outSize : Int32) (v_rowSize : Int32) (v_bitAt : Int32) (v_bitEnd : Int32) (v_why : Int32) (v_madeSize : Int32) (v_firstCount : Int32) (v_secondCount : Int32) (v_heldBits : Int32) (v_heldCount : Int32) (v_pressedSize : Int32) (v_at : Int32) (v_bad : Int32) (v_markSize : Int32) (v_relationCount : Int32) (v_valueSize : Int32) (v_faultCount : Int32) (a_mark : Nat → Int32) (n : Int32) (a0 : 0 ≤ v_at.toInt) (a1 : v_at.toInt ≤ v_markSize.toInt) (a2 : v_markSize.toInt ≤ 4000) (a3 : v_bad.toInt = 0 ∨ v_bad.toInt = 1) (n0 : 0 ≤ n.toInt) (n1 : v_at.toInt + n.toInt ≤ v_markSize.toInt) (F_a_mark : sb_Fit a_mark) : Cn l G i_Mod_named [.ref h, .int n] [(h, .inr (10, [.ref m_rels, .ref m_openRels, .ref m_closeRels, .ref m_openRel, .ref m_closeRel, .ref m_comment, .ref m_ends, .ref m_order, .int v_thrown, .int v_taped, .ref m_tape, .ref m_count, .ref m_nameSize, .ref m_names, .ref m_size, .ref m_data, .int v_lookedSize, .ref m_looked, .int v_fileSize, .ref m_file, .int v_directorySize, .ref m_directory, .int v_outSize, .ref m_out, .int v_rowSize, .ref m_row, .int v_bitAt, .int v_bitEnd, .int v_why, .int v_madeSize, .ref m_made, .ref m_length, .int v_firstCount, .int v_secondCount, .int v_heldBits, .int v_heldCount, .int v_pressedSize, .ref m_pressed, .int v_at, .int v_bad, .int v_markSize, .ref m_mark, .int v_relationCount, .ref m_idSize, .ref m_ids, .ref m_goalSize, .ref m_goals, .int v_valueSize, .ref m_value, .int v_faultCount, .ref m_faults, .ref m_reached])), (m_mark, .inl (G.2.1, 4000, .inl a_mark))] (S := Int32) (fun rv_ u => rv_ = some (.int u) ∧ (0 ≤ u.toInt) ∧ (u.toInt ≤ 62)) (fun u => [(h, .inr (10, [.ref m_rels, .ref m_openRels, .ref m_closeRels, .ref m_openRel, .ref m_closeRel, .ref m_comment, .ref m_ends, .ref m_order, .int v_thrown, .int v_taped, .ref m_tape, .ref m_count, .ref m_nameSize, .ref m_names, .ref m_size, .ref m_data, .int v_lookedSize, .ref m_looked, .int v_fileSize, .ref m_file, .int v_directorySize, .ref m_directory, .int v_outSize, .ref m_out, .int v_rowSize, .ref m_row, .int v_bitAt, .int v_bitEnd, .int v_why, .int v_madeSize, .ref m_made, .ref m_length, .int v_firstCount, .int v_secondCount, .int v_heldBits, .int v_heldCount, .int v_pressedSize, .ref m_pressed, .int v_at, .int v_bad, .int v_markSize, .ref m_mark, .int v_relationCount, .ref m_idSize, .ref m_ids, .ref m_goalSize, .ref m_goals, .int v_valueSize, .ref m_value, .int v_faultCount, .ref m_faults, .ref m_reached])), (m_mark, .inl (G.2.1, 4000, .inl a_mark))]) := by
  refine Cn.of hl (by decide +kernel) rfl (Nat.le_of_ble_eq_true rfl) (fun M hQ => ?_)
  refine pb_eq (pc' := 0) (lo' := [(0, .ref h), (1, .int n)]) (rest' := []) (ws' := [(h, .inr (10, [.ref m_rels, .ref m_openRels, .ref m_closeRels, .ref m_openRel, .ref m_closeRel, .ref m_comment, .ref m_ends, .ref m_order, .int v_thrown, .int v_taped, .ref m_tape, .ref m_count, .ref m_nameSize, .ref m_names, .ref m_size, .ref m_data, .int v_lookedSize, .ref m_looked, .int v_fileSize, .ref m_file, .int v_directorySize, .ref m_directory, .int v_outSize, .ref m_out, .int v_rowSize, .ref m_row, .int v_bitAt, .int v_bitEnd, .int v_why, .int v_madeSize, .ref m_made, .ref m_length, .int v_firstCount, .int v_secondCount, .int v_heldBits, .int v_heldCount, .int v_pressedSize, .ref m_pressed, .int v_at, .int v_bad, .int v_markSize, .ref m_mark, .int v_relationCount, .ref m_idSize, .ref m_ids, .ref m_goalSize, .ref m_goals, .int v_valueSize, .ref m_value, .int v_faultCount, .ref m_faults, .ref m_reached])), (m_mark, .inl (G.2.1, 4000, .inl a_mark))]) ?_
  have zl0 : (0 : Int32).toInt = 0 := by decide
  have zl1 : (1 : Int32).toInt = 1 := by decide
  have zl34 : (34 : Int32).toInt = 34 := by decide
  have zl38 : (38 : Int32).toInt = 38 := by decide
  have zl39 : (39 : Int32).toInt = 39 := by decide
  have zl60 : (60 : Int32).toInt = 60 := by decide
  have zl62 : (62 : Int32).toInt = 62 := by decide
  refine pb_lconst (pc := 0) (v := 0) d_Mod_named_0 (by decide) ?_
  refine pb_lstore_n (pc := 1) (lo' := [(2, .long 0), (0, .ref h), (1, .int n)]) d_Mod_named_1 rfl (by decide) rfl ?_
  refine pb_iconst (pc := 2) (v := 0) d_Mod_named_2 (by decide) ?_
  refine pb_istore (pc := 3) (lo' := [(4, .int 0), (2, .long 0), (0, .ref h), (1, .int n)]) d_Mod_named_3 (by decide) rfl ?_
  have hL5_1 : ∀ (N9 : Nat) (k : Int32) (v : Int64), (0 ≤ k.toInt) → ((n.toInt - k.toInt).toNat) < N9 → pb_P l G M i_Mod_named 5 [(4, .int k), (2, .long v), (0, .ref h), (1, .int n)] [] [(h, .inr (10, [.ref m_rels, .ref m_openRels, .ref m_closeRels, .ref m_openRel, .ref m_closeRel, .ref m_comment, .ref m_ends, .ref m_order, .int v_thrown, .int v_taped, .ref m_tape, .ref m_count, .ref m_nameSize, .ref m_names, .ref m_size, .ref m_data, .int v_lookedSize, .ref m_looked, .int v_fileSize, .ref m_file, .int v_directorySize, .ref m_directory, .int v_outSize, .ref m_out, .int v_rowSize, .ref m_row, .int v_bitAt, .int v_bitEnd, .int v_why, .int v_madeSize, .ref m_made, .ref m_length, .int v_firstCount, .int v_secondCount, .int v_heldBits, .int v_heldCount, .int v_pressedSize, .ref m_pressed, .int v_at, .int v_bad, .int v_markSize, .ref m_mark, .int v_relationCount, .ref m_idSize, .ref m_ids, .ref m_goalSize, .ref m_goals, .int v_valueSize, .ref m_value, .int v_faultCount, .ref m_faults, .ref m_reached])), (m_mark, .inl (G.2.1, 4000, .inl a_mark))] 0 0 := by
    intro N9
    induction N9 with
    | zero => intro k v k0 hm9; exact absurd hm9 (Nat.not_lt_zero _)
    | succ N9 ih5 =>
      intro k v k0 hm9
      refine pb_iload (pc := 5) d_Mod_named_5 0 rfl ?_
      refine pb_iload_n (pc := 7) d_Mod_named_7 3 rfl rfl ?_
      refine pb_icmp_ge (pc := 8) (tgt := 48) d_Mod_named_8 (by decide) (fun wx2 => ?_) (fun wx2 => ?_)
      · have twx2 : n.toInt ≤ k.toInt := (ti_le rfl rfl).mp wx2
        refine pb_lload_n (pc := 48) d_Mod_named_48 1 rfl rfl ?_
        refine pb_ldc2 (pc := 49) (v := 1096) d_Mod_named_49 k_1639 ?_
        refine pb_lcmp (pc := 52) d_Mod_named_52 ?_
        refine pb_topi (fun ix3 eix3 => ?_)
        have tix3 : (ix3.toInt < 0 ↔ v.toInt < 1096) ∧ (ix3.toInt = 0 ↔ v.toInt = 1096) ∧ (0 < ix3.toInt ↔ 1096 < v.toInt) := tl_cmp eix3 rfl (by decide)
        refine pb_if_ne (pc := 53) (tgt := 59) d_Mod_named_53 (by decide) (fun wx4 => ?_) (fun wx4 => ?_)
        · have twx4 : ¬ ix3.toInt = 0 := fun z9 => wx4 ((ti_eq rfl (by decide)).mpr z9)
          refine pb_lload_n (pc := 59) d_Mod_named_59 1 rfl rfl ?_
          refine pb_ldc2 (pc := 60) (v := 344) d_Mod_named_60 k_1640 ?_
          refine pb_lcmp (pc := 63) d_Mod_named_63 ?_
          refine pb_topi (fun ix5 eix5 => ?_)
          have tix5 : (ix5.toInt < 0 ↔ v.toInt < 344) ∧ (ix5.toInt = 0 ↔ v.toInt = 344) ∧ (0 < ix5.toInt ↔ 344 < v.toInt) := tl_cmp eix5 rfl (by decide)
          refine pb_if_ne (pc := 64) (tgt := 70) d_Mod_named_64 (by decide) (fun wx6 => ?_) (fun wx6 => ?_)
          · have twx6 : ¬ ix5.toInt = 0 := fun z9 => wx6 ((ti_eq rfl (by decide)).mpr z9)
            refine pb_lload_n (pc := 70) d_Mod_named_70 1 rfl rfl ?_
            refine pb_ldc2 (pc := 71) (v := 209) d_Mod_named_71 k_1641 ?_
            refine pb_lcmp (pc := 74) d_Mod_named_74 ?_
            refine pb_topi (fun ix7 eix7 => ?_)
            have tix7 : (ix7.toInt < 0 ↔ v.toInt < 209) ∧ (ix7.toInt = 0 ↔ v.toInt = 209) ∧ (0 < ix7.toInt ↔ 209 < v.toInt) := tl_cmp eix7 rfl (by decide)
            refine pb_if_ne (pc := 75) (tgt := 81) d_Mod_named_75 (by decide) (fun wx8 => ?_) (fun wx8 => ?_)
            · have twx8 : ¬ ix7.toInt = 0 := fun z9 => wx8 ((ti_eq rfl (by decide)).mpr z9)
              refine pb_lload_n (pc := 81) d_Mod_named_81 1 rfl rfl ?_
              refine pb_ldc2 (pc := 82) (v := 350345) d_Mod_named_82 k_1642 ?_
              refine pb_lcmp (pc := 85) d_Mod_named_85 ?_
              refine pb_topi (fun ix9 eix9 => ?_)
              have tix9 : (ix9.toInt < 0 ↔ v.toInt < 350345) ∧ (ix9.toInt = 0 ↔ v.toInt = 350345) ∧ (0 < ix9.toInt ↔ 350345 < v.toInt) := tl_cmp eix9 rfl (by decide)
              refine pb_if_ne (pc := 86) (tgt := 92) d_Mod_named_86 (by decide) (fun wx10 => ?_) (fun wx10 => ?_)
              · have twx10 : ¬ ix9.toInt = 0 := fun z9 => wx10 ((ti_eq rfl (by decide)).mpr z9)
                refine pb_lload_n (pc := 92) d_Mod_named_92 1 rfl rfl ?_
                refine pb_ldc2 (pc := 93) (v := 31771) d_Mod_named_93 k_1643 ?_
                refine pb_lcmp (pc := 96) d_Mod_named_96 ?_
                refine pb_topi (fun ix11 eix11 => ?_)
                have tix11 : (ix11.toInt < 0 ↔ v.toInt < 31771) ∧ (ix11.toInt = 0 ↔ v.toInt = 31771) ∧ (0 < ix11.toInt ↔ 31771 < v.toInt) := tl_cmp eix11 rfl (by decide)
                refine pb_if_ne (pc := 97) (tgt := 105) d_Mod_named_97 (by decide) (fun wx12 => ?_) (fun wx12 => ?_)
                · have twx12 : ¬ ix11.toInt = 0 := fun z9 => wx12 ((ti_eq rfl (by decide)).mpr z9)
                  refine pb_iconst (pc := 105) (v := 0) d_Mod_named_105 (by decide) ?_
                  exact pb_iret (pc := 106) hQ d_Mod_named_106 rfl rfl (0) ⟨rfl, (by (try dsimp only); first | done | assumption | omega (splitDisjunctions := false) | omega | decide), (by (try dsimp only); first | done | assumption | omega (splitDisjunctions := false) | omega | decide)⟩ [0, 1] (by decide) rfl rfl (by decide) (by decide)
                · have twx12 : ix11.toInt = 0 := (ti_eq rfl (by decide)).mp wx12
                  refine pb_bipush (pc := 100) (v := 39) d_Mod_named_100 (by decide) ?_
                  refine pb_goto (pc := 102) (tgt := 106) d_Mod_named_102 (by decide) ?_
                  exact pb_iret (pc := 106) hQ d_Mod_named_106 rfl rfl (39) ⟨rfl, (by (try dsimp only); first | done | assumption | omega (splitDisjunctions := false) | omega | decide), (by (try dsimp only); first | done | assumption | omega (splitDisjunctions := false) | omega | decide)⟩ [0, 1] (by decide) rfl rfl (by decide) (by decide)
              · have twx10 : ix9.toInt = 0 := (ti_eq rfl (by decide)).mp wx10
                refine pb_bipush (pc := 89) (v := 34) d_Mod_named_89 (by decide) ?_
                exact pb_iret (pc := 91) hQ d_Mod_named_91 rfl rfl (34) ⟨rfl, (by (try dsimp only); first | done | assumption | omega (splitDisjunctions := false) | omega | decide), (by (try dsimp only); first | done | assumption | omega (splitDisjunctions := false) | omega | decide)⟩ [0, 1] (by decide) rfl rfl (by decide) (by decide)
            · have twx8 : ix7.toInt = 0 := (ti_eq rfl (by decide)).mp wx8
              refine pb_bipush (pc := 78) (v := 62) d_Mod_named_78 (by decide) ?_
              exact pb_iret (pc := 80) hQ d_Mod_named_80 rfl rfl (62) ⟨rfl, (by (try dsimp only); first | done | assumption | omega (splitDisjunctions := false) | omega | decide), (by (try dsimp only); first | done | assumption | omega (splitDisjunctions := false) | omega | decide)⟩ [0, 1] (by decide) rfl rfl (by decide) (by decide)
          · have twx6 : ix5.toInt = 0 := (ti_eq rfl (by decide)).mp wx6
            refine pb_bipush (pc := 67) (v := 60) d_Mod_named_67 (by decide) ?_
            exact pb_iret (pc := 69) hQ d_Mod_named_69 rfl rfl (60) ⟨rfl, (by (try dsimp only); first | done | assumption | omega (splitDisjunctions := false) | omega | decide), (by (try dsimp only); first | done | assumption | omega (splitDisjunctions := false) | omega | decide)⟩ [0, 1] (by decide) rfl rfl (by decide) (by decide)
        · have twx4 : ix3.toInt = 0 := (ti_eq rfl (by decide)).mp wx4
          refine pb_bipush (pc := 56) (v := 38) d_Mod_named_56 (by decide) ?_
          exact pb_iret (pc := 58) hQ d_Mod_named_58 rfl rfl (38) ⟨rfl, (by (try dsimp only); first | done | assumption | omega (splitDisjunctions := false) | omega | decide), (by (try dsimp only); first | done | assumption | omega (splitDisjunctions := false) | omega | decide)⟩ [0, 1] (by decide) rfl rfl (by decide) (by decide)
      · have twx2 : ¬ n.toInt ≤ k.toInt := fun z9 => wx2 ((ti_le rfl rfl).mpr z9)
        refine pb_iload (pc := 11) d_Mod_named_11 0 rfl ?_
        refine pb_bipush (pc := 13) (v := 6) d_Mod_named_13 (by decide) ?_
        refine pb_icmp_ge (pc := 15) (tgt := 48) d_Mod_named_15 (by decide) (fun wx13 => ?_) (fun wx13 => ?_)
        · have twx13 : 6 ≤ k.toInt := (ti_le (by decide) rfl).mp wx13
          refine pb_lload_n (pc := 48) d_Mod_named_48 1 rfl rfl ?_
          refine pb_ldc2 (pc := 49) (v := 1096) d_Mod_named_49 k_1639 ?_
          refine pb_lcmp (pc := 52) d_Mod_named_52 ?_
          refine pb_topi (fun ix14 eix14 => ?_)
          have tix14 : (ix14.toInt < 0 ↔ v.toInt < 1096) ∧ (ix14.toInt = 0 ↔ v.toInt = 1096) ∧ (0 < ix14.toInt ↔ 1096 < v.toInt) := tl_cmp eix14 rfl (by decide)
          refine pb_if_ne (pc := 53) (tgt := 59) d_Mod_named_53 (by decide) (fun wx15 => ?_) (fun wx15 => ?_)
          · have twx15 : ¬ ix14.toInt = 0 := fun z9 => wx15 ((ti_eq rfl (by decide)).mpr z9)
            refine pb_lload_n (pc := 59) d_Mod_named_59 1 rfl rfl ?_
            refine pb_ldc2 (pc := 60) (v := 344) d_Mod_named_60 k_1640 ?_
            refine pb_lcmp (pc := 63) d_Mod_named_63 ?_
            refine pb_topi (fun ix16 eix16 => ?_)
            have tix16 : (ix16.toInt < 0 ↔ v.toInt < 344) ∧ (ix16.toInt = 0 ↔ v.toInt = 344) ∧ (0 < ix16.toInt ↔ 344 < v.toInt) := tl_cmp eix16 rfl (by decide)
            refine pb_if_ne (pc := 64) (tgt := 70) d_Mod_named_64 (by decide) (fun wx17 => ?_) (fun wx17 => ?_)
            · have twx17 : ¬ ix16.toInt = 0 := fun z9 => wx17 ((ti_eq rfl (by decide)).mpr z9)
              refine pb_lload_n (pc := 70) d_Mod_named_70 1 rfl rfl ?_
              refine pb_ldc2 (pc := 71) (v := 209) d_Mod_named_71 k_1641 ?_
              refine pb_lcmp (pc := 74) d_Mod_named_74 ?_
              refine pb_topi (fun ix18 eix18 => ?_)
              have tix18 : (ix18.toInt < 0 ↔ v.toInt < 209) ∧ (ix18.toInt = 0 ↔ v.toInt = 209) ∧ (0 < ix18.toInt ↔ 209 < v.toInt) := tl_cmp eix18 rfl (by decide)
              refine pb_if_ne (pc := 75) (tgt := 81) d_Mod_named_75 (by decide) (fun wx19 => ?_) (fun wx19 => ?_)
              · have twx19 : ¬ ix18.toInt = 0 := fun z9 => wx19 ((ti_eq rfl (by decide)).mpr z9)
                refine pb_lload_n (pc := 81) d_Mod_named_81 1 rfl rfl ?_
                refine pb_ldc2 (pc := 82) (v := 350345) d_Mod_named_82 k_1642 ?_
                refine pb_lcmp (pc := 85) d_Mod_named_85 ?_
                refine pb_topi (fun ix20 eix20 => ?_)
                have tix20 : (ix20.toInt < 0 ↔ v.toInt < 350345) ∧ (ix20.toInt = 0 ↔ v.toInt = 350345) ∧ (0 < ix20.toInt ↔ 350345 < v.toInt) := tl_cmp eix20 rfl (by decide)
                refine pb_if_ne (pc := 86) (tgt := 92) d_Mod_named_86 (by decide) (fun wx21 => ?_) (fun wx21 => ?_)
                · have twx21 : ¬ ix20.toInt = 0 := fun z9 => wx21 ((ti_eq rfl (by decide)).mpr z9)
                  refine pb_lload_n (pc := 92) d_Mod_named_92 1 rfl rfl ?_
                  refine pb_ldc2 (pc := 93) (v := 31771) d_Mod_named_93 k_1643 ?_
                  refine pb_lcmp (pc := 96) d_Mod_named_96 ?_
                  refine pb_topi (fun ix22 eix22 => ?_)
                  have tix22 : (ix22.toInt < 0 ↔ v.toInt < 31771) ∧ (ix22.toInt = 0 ↔ v.toInt = 31771) ∧ (0 < ix22.toInt ↔ 31771 < v.toInt) := tl_cmp eix22 rfl (by decide)
                  refine pb_if_ne (pc := 97) (tgt := 105) d_Mod_named_97 (by decide) (fun wx23 => ?_) (fun wx23 => ?_)
                  · have twx23 : ¬ ix22.toInt = 0 := fun z9 => wx23 ((ti_eq rfl (by decide)).mpr z9)
                    refine pb_iconst (pc := 105) (v := 0) d_Mod_named_105 (by decide) ?_
                    exact pb_iret (pc := 106) hQ d_Mod_named_106 rfl rfl (0) ⟨rfl, (by (try dsimp only); first | done | assumption | omega (splitDisjunctions := false) | omega | decide), (by (try dsimp only); first | done | assumption | omega (splitDisjunctions := false) | omega | decide)⟩ [0, 1] (by decide) rfl rfl (by decide) (by decide)
                  · have twx23 : ix22.toInt = 0 := (ti_eq rfl (by decide)).mp wx23
                    refine pb_bipush (pc := 100) (v := 39) d_Mod_named_100 (by decide) ?_
                    refine pb_goto (pc := 102) (tgt := 106) d_Mod_named_102 (by decide) ?_
                    exact pb_iret (pc := 106) hQ d_Mod_named_106 rfl rfl (39) ⟨rfl, (by (try dsimp only); first | done | assumption | omega (splitDisjunctions := false) | omega | decide), (by (try dsimp only); first | done | assumption | omega (splitDisjunctions := false) | omega | decide)⟩ [0, 1] (by decide) rfl rfl (by decide) (by decide)
                · have twx21 : ix20.toInt = 0 := (ti_eq rfl (by decide)).mp wx21
                  refine pb_bipush (pc := 89) (v := 34) d_Mod_named_89 (by decide) ?_
                  exact pb_iret (pc := 91) hQ d_Mod_named_91 rfl rfl (34) ⟨rfl, (by (try dsimp only); first | done | assumption | omega (splitDisjunctions := false) | omega | decide), (by (try dsimp only); first | done | assumption | omega (splitDisjunctions := false) | omega | decide)⟩ [0, 1] (by decide) rfl rfl (by decide) (by decide)
              · have twx19 : ix18.toInt = 0 := (ti_eq rfl (by decide)).mp wx19
                refine pb_bipush (pc := 78) (v := 62) d_Mod_named_78 (by decide) ?_
                exact pb_iret (pc := 80) hQ d_Mod_named_80 rfl rfl (62) ⟨rfl, (by (try dsimp only); first | done | assumption | omega (splitDisjunctions := false) | omega | decide), (by (try dsimp only); first | done | assumption | omega (splitDisjunctions := false) | omega | decide)⟩ [0, 1] (by decide) rfl rfl (by decide) (by decide)
            · have twx17 : ix16.toInt = 0 := (ti_eq rfl (by decide)).mp wx17
              refine pb_bipush (pc := 67) (v := 60) d_Mod_named_67 (by decide) ?_
              exact pb_iret (pc := 69) hQ d_Mod_named_69 rfl rfl (60) ⟨rfl, (by (try dsimp only); first | done | assumption | omega (splitDisjunctions := false) | omega | decide), (by (try dsimp only); first | done | assumption | omega (splitDisjunctions := false) | omega | decide)⟩ [0, 1] (by decide) rfl rfl (by decide) (by decide)
          · have twx15 : ix14.toInt = 0 := (ti_eq rfl (by decide)).mp wx15
            refine pb_bipush (pc := 56) (v := 38) d_Mod_named_56 (by decide) ?_
            exact pb_iret (pc := 58) hQ d_Mod_named_58 rfl rfl (38) ⟨rfl, (by (try dsimp only); first | done | assumption | omega (splitDisjunctions := false) | omega | decide), (by (try dsimp only); first | done | assumption | omega (splitDisjunctions := false) | omega | decide)⟩ [0, 1] (by decide) rfl rfl (by decide) (by decide)
        · have twx13 : ¬ 6 ≤ k.toInt := fun z9 => wx13 ((ti_le (by decide) rfl).mpr z9)
          refine pb_ldc2 (pc := 18) (v := 27) d_Mod_named_18 k_1637 ?_
          refine pb_lload_n (pc := 21) d_Mod_named_21 1 rfl rfl ?_
          refine pb_lmul (pc := 22) d_Mod_named_22 ?_
          refine pb_topl (fun jx24 ejx24 => ?_)
          try have tjx24 : jx24.toInt = 27 * v.toInt := tl_mul ejx24 (by decide) rfl (by omega) (by omega)
          refine pb_aload_n (pc := 23) d_Mod_named_23 2 rfl rfl ?_
          refine pb_get (pc := 24) d_Mod_named_24 0 41 rfl rfl (by decide) in_Mod k_1187 rfl ?_
          refine pb_aload_n (pc := 27) d_Mod_named_27 2 rfl rfl ?_
          refine pb_get (pc := 28) d_Mod_named_28 0 38 rfl rfl (by decide) in_Mod k_1184 rfl ?_
          refine pb_iload (pc := 31) d_Mod_named_31 0 rfl ?_
          refine pb_iadd (pc := 33) d_Mod_named_33 ?_
          refine pb_topi (fun ix25 eix25 => ?_)
          try have tix25 : ix25.toInt = v_at.toInt + k.toInt := t2_add eix25 rfl rfl (by omega)
          refine pb_bald (pc := 34) d_Mod_named_34 1 rfl (vp_in_iff.mpr (by omega)) ?_
          refine pb_topi (fun ix26 eix26 => ?_)
          have tix26 : -128 ≤ ix26.toInt ∧ ix26.toInt ≤ 127 := ti_fit (F_a_mark _) eix26
          refine pb_i2l (pc := 35) d_Mod_named_35 rfl ?_
          refine pb_topl (fun jx27 ejx27 => ?_)
          have tjx27 : jx27.toInt = ix26.toInt := tl_i2l ejx27 rfl
          refine pb_ladd (pc := 36) d_Mod_named_36 ?_
          refine pb_topl (fun jx28 ejx28 => ?_)
          try have tjx28 : jx28.toInt = jx24.toInt + jx27.toInt := tl_add ejx28 rfl rfl (by omega) (by omega)
          refine pb_ldc2 (pc := 37) (v := 96) d_Mod_named_37 k_1638 ?_
          refine pb_lsub (pc := 40) d_Mod_named_40 ?_
          refine pb_topl (fun jx29 ejx29 => ?_)
          try have tjx29 : jx29.toInt = jx28.toInt - 96 := tl_sub ejx29 rfl (by decide) (by omega) (by omega)
          refine pb_lstore_n (pc := 41) (lo' := [(2, .long jx29), (4, .int k), (0, .ref h), (1, .int n)]) d_Mod_named_41 rfl (by decide) rfl ?_
          refine pb_iincN (pc := 42) (c := 1) d_Mod_named_42 1 rfl (by decide) (by decide) (fun ix30 eix30 => ?_)
          have tix30 : ix30.toInt = k.toInt + 1 := t2_add eix30 rfl (by decide) (by first | omega | (have r90 := ti_rng k; have r91 := ti_rng ix30; have r92 := ti_rng n; omega))
          refine pb_eq (pc' := 45) (lo' := [(4, .int ix30), (2, .long jx29), (0, .ref h), (1, .int n)]) (rest' := []) (ws' := [(h, .inr (10, [.ref m_rels, .ref m_openRels, .ref m_closeRels, .ref m_openRel, .ref m_closeRel, .ref m_comment, .ref m_ends, .ref m_order, .int v_thrown, .int v_taped, .ref m_tape, .ref m_count, .ref m_nameSize, .ref m_names, .ref m_size, .ref m_data, .int v_lookedSize, .ref m_looked, .int v_fileSize, .ref m_file, .int v_directorySize, .ref m_directory, .int v_outSize, .ref m_out, .int v_rowSize, .ref m_row, .int v_bitAt, .int v_bitEnd, .int v_why, .int v_madeSize, .ref m_made, .ref m_length, .int v_firstCount, .int v_secondCount, .int v_heldBits, .int v_heldCount, .int v_pressedSize, .ref m_pressed, .int v_at, .int v_bad, .int v_markSize, .ref m_mark, .int v_relationCount, .ref m_idSize, .ref m_ids, .ref m_goalSize, .ref m_goals, .int v_valueSize, .ref m_value, .int v_faultCount, .ref m_faults, .ref m_reached])), (m_mark, .inl (G.2.1, 4000, .inl a_mark))]) ?_
          refine pb_goto (pc := 45) (tgt := 5) d_Mod_named_45 (by decide) ?_
          exact ih5 ix30 jx29 (by first | assumption | omega (splitDisjunctions := false) | omega | decide) (by omega)
  exact hL5_1 _ 0 0 (by first | assumption | omega (splitDisjunctions := false) | omega | decide) (Nat.lt_succ_self _)

theorem d_Mod_reference_0 : decode prog_12_method_72_code 0 = .ok (.aload_n 0, 1) := by decide +kernel
theorem d_Mod_reference_1 : decode prog_12_method_72_code 1 = .ok (.invokevirtual 331, 3) := by decide +kernel
theorem d_Mod_reference_4 : decode prog_12_method_72_code 4 = .ok (.bipush 35, 2) := by decide +kernel
theorem d_Mod_reference_6 : decode prog_12_method_72_code 6 = .ok (.if_icmp .eq 58, 3) := by decide +kernel
theorem d_Mod_reference_64 : decode prog_12_method_72_code 64 = .ok (.aload_n 0, 1) := by decide +kernel
theorem d_Mod_reference_65 : decode prog_12_method_72_code 65 = .ok (.dup, 1) := by decide +kernel
theorem d_Mod_reference_66 : decode prog_12_method_72_code 66 = .ok (.getfield 322, 3) := by decide +kernel
theorem d_Mod_reference_69 : decode prog_12_method_72_code 69 = .ok (.iconst 1, 1) := by decide +kernel
theorem d_Mod_reference_70 : decode prog_12_method_72_code 70 = .ok (.iadd, 1) := by decide +kernel
theorem d_Mod_reference_71 : decode prog_12_method_72_code 71 = .ok (.putfield 322, 3) := by decide +kernel
theorem d_Mod_reference_74 : decode prog_12_method_72_code 74 = .ok (.aload_n 0, 1) := by decide +kernel
theorem d_Mod_reference_75 : decode prog_12_method_72_code 75 = .ok (.getfield 322, 3) := by decide +kernel
theorem d_Mod_reference_78 : decode prog_12_method_72_code 78 = .ok (.istore_n 1, 1) := by decide +kernel
theorem d_Mod_reference_79 : decode prog_12_method_72_code 79 = .ok (.iconst 0, 1) := by decide +kernel
theorem d_Mod_reference_80 : decode prog_12_method_72_code 80 = .ok (.istore_n 2, 1) := by decide +kernel
theorem d_Mod_reference_81 : decode prog_12_method_72_code 81 = .ok (.aload_n 0, 1) := by decide +kernel
theorem d_Mod_reference_82 : decode prog_12_method_72_code 82 = .ok (.getfield 322, 3) := by decide +kernel
theorem d_Mod_reference_85 : decode prog_12_method_72_code 85 = .ok (.iload_n 1, 1) := by decide +kernel
theorem d_Mod_reference_86 : decode prog_12_method_72_code 86 = .ok (.iconst 3, 1) := by decide +kernel
theorem d_Mod_reference_87 : decode prog_12_method_72_code 87 = .ok (.iadd, 1) := by decide +kernel
theorem d_Mod_reference_88 : decode prog_12_method_72_code 88 = .ok (.if_icmp .ge 47, 3) := by decide +kernel
theorem d_Mod_reference_181 : decode prog_12_method_72_code 181 = .ok (.aload_n 0, 1) := by decide +kernel
theorem d_Mod_reference_182 : decode prog_12_method_72_code 182 = .ok (.bipush 59, 2) := by decide +kernel
theorem d_Mod_reference_184 : decode prog_12_method_72_code 184 = .ok (.invokevirtual 337, 3) := by decide +kernel
theorem d_Mod_reference_187 : decode prog_12_method_72_code 187 = .ok (.iload_n 2, 1) := by decide +kernel
theorem d_Mod_reference_188 : decode prog_12_method_72_code 188 = .ok (.ireturn, 1) := by decide +kernel
theorem d_Mod_reference_160 : decode prog_12_method_72_code 160 = .ok (.iload_n 3, 1) := by decide +kernel
theorem d_Mod_reference_161 : decode prog_12_method_72_code 161 = .ok (.ifCond .ne 15, 3) := by decide +kernel
theorem d_Mod_reference_176 : decode prog_12_method_72_code 176 = .ok (.aload_n 0, 1) := by decide +kernel
theorem d_Mod_reference_177 : decode prog_12_method_72_code 177 = .ok (.iload_n 1, 1) := by decide +kernel
theorem d_Mod_reference_178 : decode prog_12_method_72_code 178 = .ok (.invokevirtual 334, 3) := by decide +kernel
theorem d_Mod_reference_164 : decode prog_12_method_72_code 164 = .ok (.iload_n 2, 1) := by decide +kernel
theorem d_Mod_reference_165 : decode prog_12_method_72_code 165 = .ok (.bipush 32, 2) := by decide +kernel
theorem d_Mod_reference_167 : decode prog_12_method_72_code 167 = .ok (.if_icmp .lt 9, 3) := by decide +kernel
theorem d_Mod_reference_170 : decode prog_12_method_72_code 170 = .ok (.iload_n 2, 1) := by decide +kernel
theorem d_Mod_reference_171 : decode prog_12_method_72_code 171 = .ok (.bipush 126, 2) := by decide +kernel
theorem d_Mod_reference_173 : decode prog_12_method_72_code 173 = .ok (.if_icmp .le 8, 3) := by decide +kernel
theorem d_Mod_reference_135 : decode prog_12_method_72_code 135 = .ok (.aload_n 0, 1) := by decide +kernel
theorem d_Mod_reference_136 : decode prog_12_method_72_code 136 = .ok (.getfield 322, 3) := by decide +kernel
theorem d_Mod_reference_139 : decode prog_12_method_72_code 139 = .ok (.iload_n 1, 1) := by decide +kernel
theorem d_Mod_reference_140 : decode prog_12_method_72_code 140 = .ok (.if_icmp .le 18, 3) := by decide +kernel
theorem d_Mod_reference_158 : decode prog_12_method_72_code 158 = .ok (.iconst 0, 1) := by decide +kernel
theorem d_Mod_reference_159 : decode prog_12_method_72_code 159 = .ok (.istore_n 3, 1) := by decide +kernel
theorem d_Mod_reference_143 : decode prog_12_method_72_code 143 = .ok (.aload_n 0, 1) := by decide +kernel
theorem d_Mod_reference_144 : decode prog_12_method_72_code 144 = .ok (.getfield 78, 3) := by decide +kernel
theorem d_Mod_reference_147 : decode prog_12_method_72_code 147 = .ok (.iload_n 1, 1) := by decide +kernel
theorem d_Mod_reference_148 : decode prog_12_method_72_code 148 = .ok (.baload, 1) := by decide +kernel
theorem d_Mod_reference_149 : decode prog_12_method_72_code 149 = .ok (.bipush 48, 2) := by decide +kernel
theorem d_Mod_reference_151 : decode prog_12_method_72_code 151 = .ok (.if_icmp .ne 7, 3) := by decide +kernel
theorem d_Mod_reference_154 : decode prog_12_method_72_code 154 = .ok (.iconst 1, 1) := by decide +kernel
theorem d_Mod_reference_155 : decode prog_12_method_72_code 155 = .ok (.goto 4, 3) := by decide +kernel
theorem d_Mod_reference_91 : decode prog_12_method_72_code 91 = .ok (.aload_n 0, 1) := by decide +kernel
theorem d_Mod_reference_92 : decode prog_12_method_72_code 92 = .ok (.invokevirtual 331, 3) := by decide +kernel
theorem d_Mod_reference_95 : decode prog_12_method_72_code 95 = .ok (.bipush 48, 2) := by decide +kernel
theorem d_Mod_reference_97 : decode prog_12_method_72_code 97 = .ok (.if_icmp .lt 38, 3) := by decide +kernel
theorem d_Mod_reference_100 : decode prog_12_method_72_code 100 = .ok (.aload_n 0, 1) := by decide +kernel
theorem d_Mod_reference_101 : decode prog_12_method_72_code 101 = .ok (.invokevirtual 331, 3) := by decide +kernel
theorem d_Mod_reference_104 : decode prog_12_method_72_code 104 = .ok (.bipush 57, 2) := by decide +kernel
theorem d_Mod_reference_106 : decode prog_12_method_72_code 106 = .ok (.if_icmp .gt 29, 3) := by decide +kernel
theorem d_Mod_reference_109 : decode prog_12_method_72_code 109 = .ok (.bipush 10, 2) := by decide +kernel
theorem d_Mod_reference_111 : decode prog_12_method_72_code 111 = .ok (.iload_n 2, 1) := by decide +kernel
theorem d_Mod_reference_112 : decode prog_12_method_72_code 112 = .ok (.imul, 1) := by decide +kernel
theorem d_Mod_reference_113 : decode prog_12_method_72_code 113 = .ok (.aload_n 0, 1) := by decide +kernel
theorem d_Mod_reference_114 : decode prog_12_method_72_code 114 = .ok (.invokevirtual 331, 3) := by decide +kernel
theorem d_Mod_reference_117 : decode prog_12_method_72_code 117 = .ok (.iadd, 1) := by decide +kernel
theorem d_Mod_reference_118 : decode prog_12_method_72_code 118 = .ok (.bipush 48, 2) := by decide +kernel
theorem d_Mod_reference_120 : decode prog_12_method_72_code 120 = .ok (.isub, 1) := by decide +kernel
theorem d_Mod_reference_121 : decode prog_12_method_72_code 121 = .ok (.istore_n 2, 1) := by decide +kernel
theorem d_Mod_reference_122 : decode prog_12_method_72_code 122 = .ok (.aload_n 0, 1) := by decide +kernel
theorem d_Mod_reference_123 : decode prog_12_method_72_code 123 = .ok (.dup, 1) := by decide +kernel
theorem d_Mod_reference_124 : decode prog_12_method_72_code 124 = .ok (.getfield 322, 3) := by decide +kernel
theorem d_Mod_reference_127 : decode prog_12_method_72_code 127 = .ok (.iconst 1, 1) := by decide +kernel
theorem d_Mod_reference_128 : decode prog_12_method_72_code 128 = .ok (.iadd, 1) := by decide +kernel
theorem d_Mod_reference_129 : decode prog_12_method_72_code 129 = .ok (.putfield 322, 3) := by decide +kernel
theorem d_Mod_reference_132 : decode prog_12_method_72_code 132 = .ok (.goto (-51), 3) := by decide +kernel
theorem d_Mod_reference_9 : decode prog_12_method_72_code 9 = .ok (.aload_n 0, 1) := by decide +kernel
theorem d_Mod_reference_10 : decode prog_12_method_72_code 10 = .ok (.invokevirtual 368, 3) := by decide +kernel
theorem k_1613 : (Jvm.Cond.methodLink "PackageBookModel" (368 : Nat) ({ cls := "PackageBookModel", name := "letterCount", desc := "()I" } : Jvm.MethodName)) ∈ uW := uW_of 1613 (by decide +kernel) (by decide +kernel)
theorem k_1616 : (Jvm.Cond.code ({ cls := "PackageBookModel", name := "letterCount", desc := "()I" } : Jvm.MethodName) prog_12_method_70_code (2 : Nat) (Option.some Jvm.ClassFile.FieldType.int)) ∈ uW := uW_of 1616 (by decide +kernel) (by decide +kernel)
theorem k_1615 : (Jvm.Cond.instanceMethod ({ cls := "PackageBookModel", name := "letterCount", desc := "()I" } : Jvm.MethodName)) ∈ uW := uW_of 1615 (by decide +kernel) (by decide +kernel)
theorem k_106 : Cond.selects "PackageBookModel" ⟨"PackageBookModel", "letterCount", "()I"⟩ ⟨"PackageBookModel", "letterCount", "()I"⟩ ∈ uW := uW_of 106 (by decide +kernel) (by decide +kernel)
theorem hy_Mod_letterCount : (y_Mod_letterCount).cls ≠ "java/lang/invoke/MethodHandle" ∧ (y_Mod_letterCount).cls ≠ "java/lang/invoke/VarHandle" ∧ (parseMethodDescriptor (y_Mod_letterCount).desc).map (fun d => d.parameters.length) = some 0 := by decide +kernel
theorem d_Mod_reference_13 : decode prog_12_method_72_code 13 = .ok (.istore_n 1, 1) := by decide +kernel
theorem d_Mod_reference_14 : decode prog_12_method_72_code 14 = .ok (.aload_n 0, 1) := by decide +kernel
theorem d_Mod_reference_15 : decode prog_12_method_72_code 15 = .ok (.iload_n 1, 1) := by decide +kernel
theorem d_Mod_reference_16 : decode prog_12_method_72_code 16 = .ok (.invokevirtual 371, 3) := by decide +kernel
theorem k_1633 : (Jvm.Cond.methodLink "PackageBookModel" (371 : Nat) ({ cls := "PackageBookModel", name := "named", desc := "(I)I" } : Jvm.MethodName)) ∈ uW := uW_of 1633 (by decide +kernel) (by decide +kernel)
theorem k_1636 : (Jvm.Cond.code ({ cls := "PackageBookModel", name := "named", desc := "(I)I" } : Jvm.MethodName) prog_12_method_71_code (5 : Nat) (Option.some Jvm.ClassFile.FieldType.int)) ∈ uW := uW_of 1636 (by decide +kernel) (by decide +kernel)
theorem k_1635 : (Jvm.Cond.instanceMethod ({ cls := "PackageBookModel", name := "named", desc := "(I)I" } : Jvm.MethodName)) ∈ uW := uW_of 1635 (by decide +kernel) (by decide +kernel)
theorem k_111 : Cond.selects "PackageBookModel" ⟨"PackageBookModel", "named", "(I)I"⟩ ⟨"PackageBookModel", "named", "(I)I"⟩ ∈ uW := uW_of 111 (by decide +kernel) (by decide +kernel)
theorem hy_Mod_named : (y_Mod_named).cls ≠ "java/lang/invoke/MethodHandle" ∧ (y_Mod_named).cls ≠ "java/lang/invoke/VarHandle" ∧ (parseMethodDescriptor (y_Mod_named).desc).map (fun d => d.parameters.length) = some 1 := by decide +kernel
theorem d_Mod_reference_19 : decode prog_12_method_72_code 19 = .ok (.istore_n 2, 1) := by decide +kernel
theorem d_Mod_reference_32 : decode prog_12_method_72_code 32 = .ok (.aload_n 0, 1) := by decide +kernel
theorem d_Mod_reference_33 : decode prog_12_method_72_code 33 = .ok (.aload_n 0, 1) := by decide +kernel
theorem d_Mod_reference_34 : decode prog_12_method_72_code 34 = .ok (.getfield 327, 3) := by decide +kernel
theorem d_Mod_reference_37 : decode prog_12_method_72_code 37 = .ok (.ifCond .eq 10, 3) := by decide +kernel
theorem d_Mod_reference_47 : decode prog_12_method_72_code 47 = .ok (.aload_n 0, 1) := by decide +kernel
theorem d_Mod_reference_48 : decode prog_12_method_72_code 48 = .ok (.getfield 322, 3) := by decide +kernel
theorem d_Mod_reference_51 : decode prog_12_method_72_code 51 = .ok (.iload_n 1, 1) := by decide +kernel
theorem d_Mod_reference_52 : decode prog_12_method_72_code 52 = .ok (.iadd, 1) := by decide +kernel
theorem d_Mod_reference_53 : decode prog_12_method_72_code 53 = .ok (.putfield 322, 3) := by decide +kernel
theorem d_Mod_reference_56 : decode prog_12_method_72_code 56 = .ok (.aload_n 0, 1) := by decide +kernel
theorem d_Mod_reference_57 : decode prog_12_method_72_code 57 = .ok (.bipush 59, 2) := by decide +kernel
theorem d_Mod_reference_59 : decode prog_12_method_72_code 59 = .ok (.invokevirtual 337, 3) := by decide +kernel
theorem d_Mod_reference_62 : decode prog_12_method_72_code 62 = .ok (.iload_n 2, 1) := by decide +kernel
theorem d_Mod_reference_63 : decode prog_12_method_72_code 63 = .ok (.ireturn, 1) := by decide +kernel
theorem d_Mod_reference_40 : decode prog_12_method_72_code 40 = .ok (.aload_n 0, 1) := by decide +kernel
theorem d_Mod_reference_41 : decode prog_12_method_72_code 41 = .ok (.getfield 322, 3) := by decide +kernel
theorem d_Mod_reference_44 : decode prog_12_method_72_code 44 = .ok (.goto 9, 3) := by decide +kernel
theorem d_Mod_reference_20 : decode prog_12_method_72_code 20 = .ok (.iload_n 2, 1) := by decide +kernel
theorem d_Mod_reference_21 : decode prog_12_method_72_code 21 = .ok (.ifCond .ne 11, 3) := by decide +kernel
theorem d_Mod_reference_24 : decode prog_12_method_72_code 24 = .ok (.aload_n 0, 1) := by decide +kernel
theorem d_Mod_reference_25 : decode prog_12_method_72_code 25 = .ok (.aload_n 0, 1) := by decide +kernel
theorem d_Mod_reference_26 : decode prog_12_method_72_code 26 = .ok (.getfield 322, 3) := by decide +kernel
theorem d_Mod_reference_29 : decode prog_12_method_72_code 29 = .ok (.invokevirtual 334, 3) := by decide +kernel
abbrev y_Mod_reference : MethodName := ⟨"PackageBookModel", "reference", "()I"⟩
abbrev i_Mod_reference : pb_I := (y_Mod_reference, prog_12_method_72_code, 4, (some Jvm.ClassFile.FieldType.int), [], { frames := 2, cells := 0, slots := 0, locals := 42 })
set_option maxRecDepth 100000 in
set_option maxHeartbeats 4000000 in
theorem g_Mod_reference {l : Launch} (hl : l.stackTraces = false) (G : pb_G) (h : Nat) (m_rels : Nat) (m_openRels : Nat) (m_closeRels : Nat) (m_openRel : Nat) (m_closeRel : Nat) (m_comment : Nat) (m_ends : Nat) (m_order : Nat) (m_tape : Nat) (m_count : Nat) (m_nameSize : Nat) (m_names : Nat) (m_size : Nat) (m_data : Nat) (m_looked : Nat) (m_file : Nat) (m_directory : Nat) (m_out : Nat) (m_row : Nat) (m_made : Nat) (m_length : Nat) (m_pressed : Nat) (m_mark : Nat) (m_idSize : Nat) (m_ids : Nat) (m_goalSize : Nat) (m_goals : Nat) (m_value : Nat) (m_faults : Nat) (m_reached : Nat) (v_thrown : Int32) (v_taped : Int32) (v_lookedSize : Int32) (v_fileSize : Int32) (v_directorySize : Int32) (v_outSize : Int32) (v_rowSize : Int32) (v_bitAt : Int32) (v_bitEnd : Int32) (v_why : Int32) (v_madeSize : Int32) (v_firstCount : Int32) (v_secondCount : Int32) (v_heldBits : Int32) (v_heldCount : Int32) (v_pressedSize : Int32) (v_at : Int32) (v_bad : Int32) (v_markSize : Int32) (v_relationCount : Int32) (v_valueSize : Int32) (v_faultCount : Int32) (a_mark : Nat → Int32) (a0 : 0 ≤ v_at.toInt) (a1 : v_at.toInt ≤ v_markSize.toInt) (a2 : v_markSize.toInt ≤ 4000) (a3 : v_bad.toInt = 0 ∨ v_bad.toInt = 1) (hB : v_bad.toInt = 0) (F_a_mark : sb_Fit a_mark) : Cn l G i_Mod_reference [.ref h] [(h, .inr (10, [.ref m_rels, .ref m_openRels, .ref m_closeRels, .ref m_openRel, .ref m_closeRel, .ref m_comment, .ref m_ends, .ref m_order, .int v_thrown, .int v_taped, .ref m_tape, .ref m_count, .ref m_nameSize, .ref m_names, .ref m_size, .ref m_data, .int v_lookedSize, .ref m_looked, .int v_fileSize, .ref m_file, .int v_directorySize, .ref m_directory, .int v_outSize, .ref m_out, .int v_rowSize, .ref m_row, .int v_bitAt, .int v_bitEnd, .int v_why, .int v_madeSize, .ref m_made, .ref m_length, .int v_firstCount, .int v_secondCount, .int v_heldBits, .int v_heldCount, .int v_pressedSize, .ref m_pressed, .int v_at, .int v_bad, .int v_markSize, .ref m_mark, .int v_relationCount, .ref m_idSize, .ref m_ids, .ref m_goalSize, .ref m_goals, .int v_valueSize, .ref m_value, .int v_faultCount, .ref m_faults, .ref m_reached])), (m_mark, .inl (G.2.1, 4000, .inl a_mark))] (S := Int32 × Int32 × Int32) (fun rv_ u => rv_ = some (.int u.1) ∧ (v_at.toInt ≤ u.2.1.toInt) ∧ (u.2.1.toInt ≤ v_markSize.toInt) ∧ (u.2.2.toInt = 0 ∨ u.2.2.toInt = 1) ∧ (u.2.2.toInt = 0 → v_bad.toInt = 0)) (fun u => [(h, .inr (10, [.ref m_rels, .ref m_openRels, .ref m_closeRels, .ref m_openRel, .ref m_closeRel, .ref m_comment, .ref m_ends, .ref m_order, .int v_thrown, .int v_taped, .ref m_tape, .ref m_count, .ref m_nameSize, .ref m_names, .ref m_size, .ref m_data, .int v_lookedSize, .ref m_looked, .int v_fileSize, .ref m_file, .int v_directorySize, .ref m_directory, .int v_outSize, .ref m_out, .int v_rowSize, .ref m_row, .int v_bitAt, .int v_bitEnd, .int v_why, .int v_madeSize, .ref m_made, .ref m_length, .int v_firstCount, .int v_secondCount, .int v_heldBits, .int v_heldCount, .int v_pressedSize, .ref m_pressed, .int u.2.1, .int u.2.2, .int v_markSize, .ref m_mark, .int v_relationCount, .ref m_idSize, .ref m_ids, .ref m_goalSize, .ref m_goals, .int v_valueSize, .ref m_value, .int v_faultCount, .ref m_faults, .ref m_reached])), (m_mark, .inl (G.2.1, 4000, .inl a_mark))]) := by
  refine Cn.of hl (by decide +kernel) rfl (Nat.le_of_ble_eq_true rfl) (fun M hQ => ?_)
  refine pb_eq (pc' := 0) (lo' := [(0, .ref h)]) (rest' := []) (ws' := [(h, .inr (10, [.ref m_rels, .ref m_openRels, .ref m_closeRels, .ref m_openRel, .ref m_closeRel, .ref m_comment, .ref m_ends, .ref m_order, .int v_thrown, .int v_taped, .ref m_tape, .ref m_count, .ref m_nameSize, .ref m_names, .ref m_size, .ref m_data, .int v_lookedSize, .ref m_looked, .int v_fileSize, .ref m_file, .int v_directorySize, .ref m_directory, .int v_outSize, .ref m_out, .int v_rowSize, .ref m_row, .int v_bitAt, .int v_bitEnd, .int v_why, .int v_madeSize, .ref m_made, .ref m_length, .int v_firstCount, .int v_secondCount, .int v_heldBits, .int v_heldCount, .int v_pressedSize, .ref m_pressed, .int v_at, .int v_bad, .int v_markSize, .ref m_mark, .int v_relationCount, .ref m_idSize, .ref m_ids, .ref m_goalSize, .ref m_goals, .int v_valueSize, .ref m_value, .int v_faultCount, .ref m_faults, .ref m_reached])), (m_mark, .inl (G.2.1, 4000, .inl a_mark))]) ?_
  have zl0 : (0 : Int32).toInt = 0 := by decide
  have zl1 : (1 : Int32).toInt = 1 := by decide
  have zl10 : (10 : Int32).toInt = 10 := by decide
  have zl59 : (59 : Int32).toInt = 59 := by decide
  refine pb_aload_n (pc := 0) d_Mod_reference_0 0 rfl rfl ?_
  refine pb_callV (pc := 1) (I := i_Mod_reference) (qb := 0) (ci := 10) (nA := 0) (rest := []) (wr := []) d_Mod_reference_1 (g_Mod_here hl G h m_rels m_openRels m_closeRels m_openRel m_closeRel m_comment m_ends m_order m_tape m_count m_nameSize m_names m_size m_data m_looked m_file m_directory m_out m_row m_made m_length m_pressed m_mark m_idSize m_ids m_goalSize m_goals m_value m_faults m_reached v_thrown v_taped v_lookedSize v_fileSize v_directorySize v_outSize v_rowSize v_bitAt v_bitEnd v_why v_madeSize v_firstCount v_secondCount v_heldBits v_heldCount v_pressedSize v_at v_bad v_markSize v_relationCount v_valueSize v_faultCount a_mark (by first | assumption | omega (splitDisjunctions := false) | omega | decide) (by first | assumption | omega (splitDisjunctions := false) | omega | decide) (by first | assumption | omega (splitDisjunctions := false) | omega | decide) (by first | assumption | omega (splitDisjunctions := false) | omega | decide) F_a_mark) rfl rfl [0, 1] [] (by decide) rfl rfl rfl (by decide) (by decide) k_1585 rfl k_128 k_1582 k_1584 k_99 ⟨rfl, hy_Mod_here⟩ (by decide) rfl rfl (Nat.le_of_ble_eq_true rfl) (by decide) (fun v9 ux2 ch1 => ?_)
  obtain ⟨r_3, rfl⟩ : ∃ z9, z9 = ux2 := ⟨_, rfl⟩
  obtain ⟨ech1, ch1⟩ := ch1
  have ech1 : v9 = some (.int r_3) := ech1
  subst ech1
  obtain ⟨fh4, fh5, fh6, fh7⟩ : (-1 ≤ r_3.toInt) ∧ (r_3.toInt ≤ 255) ∧ (0 ≤ r_3.toInt → v_at.toInt < v_markSize.toInt) ∧ (r_3.toInt < 0 → v_at.toInt = v_markSize.toInt) := ch1
  refine pb_eq (pc' := 4) (lo' := [(0, .ref h)]) (rest' := [.int r_3]) (ws' := [(h, .inr (10, [.ref m_rels, .ref m_openRels, .ref m_closeRels, .ref m_openRel, .ref m_closeRel, .ref m_comment, .ref m_ends, .ref m_order, .int v_thrown, .int v_taped, .ref m_tape, .ref m_count, .ref m_nameSize, .ref m_names, .ref m_size, .ref m_data, .int v_lookedSize, .ref m_looked, .int v_fileSize, .ref m_file, .int v_directorySize, .ref m_directory, .int v_outSize, .ref m_out, .int v_rowSize, .ref m_row, .int v_bitAt, .int v_bitEnd, .int v_why, .int v_madeSize, .ref m_made, .ref m_length, .int v_firstCount, .int v_secondCount, .int v_heldBits, .int v_heldCount, .int v_pressedSize, .ref m_pressed, .int v_at, .int v_bad, .int v_markSize, .ref m_mark, .int v_relationCount, .ref m_idSize, .ref m_ids, .ref m_goalSize, .ref m_goals, .int v_valueSize, .ref m_value, .int v_faultCount, .ref m_faults, .ref m_reached])), (m_mark, .inl (G.2.1, 4000, .inl a_mark))]) ?_
  refine pb_bipush (pc := 4) (v := 35) d_Mod_reference_4 (by decide) ?_
  refine pb_icmp_eq (pc := 6) (tgt := 64) d_Mod_reference_6 (by decide) (fun wx8 => ?_) (fun wx8 => ?_)
  · have twx8 : r_3.toInt = 35 := (ti_eq rfl (by decide)).mp wx8
    refine pb_aload_n (pc := 64) d_Mod_reference_64 0 rfl rfl ?_
    refine pb_dup (pc := 65) d_Mod_reference_65 rfl ?_
    refine pb_get (pc := 66) d_Mod_reference_66 0 38 rfl rfl (by decide) in_Mod k_1184 rfl ?_
    refine pb_iconst (pc := 69) (v := 1) d_Mod_reference_69 (by decide) ?_
    refine pb_iadd (pc := 70) d_Mod_reference_70 ?_
    refine pb_topi (fun ix9 eix9 => ?_)
    try have tix9 : ix9.toInt = v_at.toInt + 1 := t2_add eix9 rfl (by decide) (by omega)
    refine pb_put (pc := 71) (ty := .int) (ws' := [(h, .inr (10, [.ref m_rels, .ref m_openRels, .ref m_closeRels, .ref m_openRel, .ref m_closeRel, .ref m_comment, .ref m_ends, .ref m_order, .int v_thrown, .int v_taped, .ref m_tape, .ref m_count, .ref m_nameSize, .ref m_names, .ref m_size, .ref m_data, .int v_lookedSize, .ref m_looked, .int v_fileSize, .ref m_file, .int v_directorySize, .ref m_directory, .int v_outSize, .ref m_out, .int v_rowSize, .ref m_row, .int v_bitAt, .int v_bitEnd, .int v_why, .int v_madeSize, .ref m_made, .ref m_length, .int v_firstCount, .int v_secondCount, .int v_heldBits, .int v_heldCount, .int v_pressedSize, .ref m_pressed, .int ix9, .int v_bad, .int v_markSize, .ref m_mark, .int v_relationCount, .ref m_idSize, .ref m_ids, .ref m_goalSize, .ref m_goals, .int v_valueSize, .ref m_value, .int v_faultCount, .ref m_faults, .ref m_reached])), (m_mark, .inl (G.2.1, 4000, .inl a_mark))]) d_Mod_reference_71 0 38 t_Mod t_Mod_ok n_Mod rfl rfl (by decide) in_Mod k_1184 rfl (by decide +kernel) rfl rfl (Nat.le_of_ble_eq_true rfl) rfl ?_
    refine pb_aload_n (pc := 74) d_Mod_reference_74 0 rfl rfl ?_
    refine pb_get (pc := 75) d_Mod_reference_75 0 38 rfl rfl (by decide) in_Mod k_1184 rfl ?_
    refine pb_istore_n (pc := 78) (lo' := [(1, .int ix9), (0, .ref h)]) d_Mod_reference_78 rfl (by decide) rfl ?_
    refine pb_iconst (pc := 79) (v := 0) d_Mod_reference_79 (by decide) ?_
    refine pb_istore_n (pc := 80) (lo' := [(2, .int 0), (1, .int ix9), (0, .ref h)]) d_Mod_reference_80 rfl (by decide) rfl ?_
    have hL81_10 : ∀ (N9 : Nat) (fr : Int32) (v : Int32) (a5_ : Int32), (fr.toInt = v_at.toInt + 1) → (fr.toInt ≤ a5_.toInt) → (a5_.toInt ≤ v_markSize.toInt) → ((fr.toInt + 3 - a5_.toInt).toNat) < N9 → pb_P l G M i_Mod_reference 81 [(1, .int fr), (2, .int v), (0, .ref h)] [] [(h, .inr (10, [.ref m_rels, .ref m_openRels, .ref m_closeRels, .ref m_openRel, .ref m_closeRel, .ref m_comment, .ref m_ends, .ref m_order, .int v_thrown, .int v_taped, .ref m_tape, .ref m_count, .ref m_nameSize, .ref m_names, .ref m_size, .ref m_data, .int v_lookedSize, .ref m_looked, .int v_fileSize, .ref m_file, .int v_directorySize, .ref m_directory, .int v_outSize, .ref m_out, .int v_rowSize, .ref m_row, .int v_bitAt, .int v_bitEnd, .int v_why, .int v_madeSize, .ref m_made, .ref m_length, .int v_firstCount, .int v_secondCount, .int v_heldBits, .int v_heldCount, .int v_pressedSize, .ref m_pressed, .int a5_, .int v_bad, .int v_markSize, .ref m_mark, .int v_relationCount, .ref m_idSize, .ref m_ids, .ref m_goalSize, .ref m_goals, .int v_valueSize, .ref m_value, .int v_faultCount, .ref m_faults, .ref m_reached])), (m_mark, .inl (G.2.1, 4000, .inl a_mark))] 0 0 := by
      intro N9
      induction N9 with
      | zero => intro fr v a5_ k0 k1 k2 hm9; exact absurd hm9 (Nat.not_lt_zero _)
      | succ N9 ih81 =>
        intro fr v a5_ k0 k1 k2 hm9
        refine pb_aload_n (pc := 81) d_Mod_reference_81 2 rfl rfl ?_
        refine pb_get (pc := 82) d_Mod_reference_82 0 38 rfl rfl (by decide) in_Mod k_1184 rfl ?_
        refine pb_iload_n (pc := 85) d_Mod_reference_85 0 rfl rfl ?_
        refine pb_iconst (pc := 86) (v := 3) d_Mod_reference_86 (by decide) ?_
        refine pb_iadd (pc := 87) d_Mod_reference_87 ?_
        refine pb_topi (fun ix11 eix11 => ?_)
        try have tix11 : ix11.toInt = fr.toInt + 3 := t2_add eix11 rfl (by decide) (by omega)
        refine pb_icmp_ge (pc := 88) (tgt := 135) d_Mod_reference_88 (by decide) (fun wx12 => ?_) (fun wx12 => ?_)
        · have twx12 : ix11.toInt ≤ a5_.toInt := (ti_le rfl rfl).mp wx12
          have hJ160_13 : ∀ (z : Int32), pb_P l G M i_Mod_reference 160 [(3, .int z), (1, .int fr), (2, .int v), (0, .ref h)] [] [(h, .inr (10, [.ref m_rels, .ref m_openRels, .ref m_closeRels, .ref m_openRel, .ref m_closeRel, .ref m_comment, .ref m_ends, .ref m_order, .int v_thrown, .int v_taped, .ref m_tape, .ref m_count, .ref m_nameSize, .ref m_names, .ref m_size, .ref m_data, .int v_lookedSize, .ref m_looked, .int v_fileSize, .ref m_file, .int v_directorySize, .ref m_directory, .int v_outSize, .ref m_out, .int v_rowSize, .ref m_row, .int v_bitAt, .int v_bitEnd, .int v_why, .int v_madeSize, .ref m_made, .ref m_length, .int v_firstCount, .int v_secondCount, .int v_heldBits, .int v_heldCount, .int v_pressedSize, .ref m_pressed, .int a5_, .int v_bad, .int v_markSize, .ref m_mark, .int v_relationCount, .ref m_idSize, .ref m_ids, .ref m_goalSize, .ref m_goals, .int v_valueSize, .ref m_value, .int v_faultCount, .ref m_faults, .ref m_reached])), (m_mark, .inl (G.2.1, 4000, .inl a_mark))] 0 0 := by
            intro z
            have hJ181_14 : ∀ (a6_ : Int32) (b6 : Int32), (v_at.toInt ≤ a6_.toInt) → (a6_.toInt ≤ v_markSize.toInt) → (b6.toInt = 0 ∨ b6.toInt = 1) → pb_P l G M i_Mod_reference 181 [(1, .int fr), (2, .int v), (0, .ref h)] [] [(h, .inr (10, [.ref m_rels, .ref m_openRels, .ref m_closeRels, .ref m_openRel, .ref m_closeRel, .ref m_comment, .ref m_ends, .ref m_order, .int v_thrown, .int v_taped, .ref m_tape, .ref m_count, .ref m_nameSize, .ref m_names, .ref m_size, .ref m_data, .int v_lookedSize, .ref m_looked, .int v_fileSize, .ref m_file, .int v_directorySize, .ref m_directory, .int v_outSize, .ref m_out, .int v_rowSize, .ref m_row, .int v_bitAt, .int v_bitEnd, .int v_why, .int v_madeSize, .ref m_made, .ref m_length, .int v_firstCount, .int v_secondCount, .int v_heldBits, .int v_heldCount, .int v_pressedSize, .ref m_pressed, .int a6_, .int b6, .int v_markSize, .ref m_mark, .int v_relationCount, .ref m_idSize, .ref m_ids, .ref m_goalSize, .ref m_goals, .int v_valueSize, .ref m_value, .int v_faultCount, .ref m_faults, .ref m_reached])), (m_mark, .inl (G.2.1, 4000, .inl a_mark))] 0 0 := by
              intro a6_ b6 m0 m1 m2
              refine pb_aload_n (pc := 181) d_Mod_reference_181 2 rfl rfl ?_
              refine pb_bipush (pc := 182) (v := 59) d_Mod_reference_182 (by decide) ?_
              refine pb_callV (pc := 184) (I := i_Mod_reference) (qb := 0) (ci := 10) (nA := 1) (rest := []) (wr := []) d_Mod_reference_184 (g_Mod_need hl G h m_rels m_openRels m_closeRels m_openRel m_closeRel m_comment m_ends m_order m_tape m_count m_nameSize m_names m_size m_data m_looked m_file m_directory m_out m_row m_made m_length m_pressed m_mark m_idSize m_ids m_goalSize m_goals m_value m_faults m_reached v_thrown v_taped v_lookedSize v_fileSize v_directorySize v_outSize v_rowSize v_bitAt v_bitEnd v_why v_madeSize v_firstCount v_secondCount v_heldBits v_heldCount v_pressedSize a6_ b6 v_markSize v_relationCount v_valueSize v_faultCount a_mark 59 (by first | assumption | omega (splitDisjunctions := false) | omega | decide) (by first | assumption | omega (splitDisjunctions := false) | omega | decide) (by first | assumption | omega (splitDisjunctions := false) | omega | decide) (by first | assumption | omega (splitDisjunctions := false) | omega | decide) (by first | assumption | omega (splitDisjunctions := false) | omega | decide) (by first | assumption | decide | omega)) rfl rfl [0, 1] [] (by decide) rfl rfl rfl (by decide) (by decide) k_1600 rfl k_128 k_1597 k_1599 k_102 ⟨rfl, hy_Mod_need⟩ (by decide) rfl rfl (Nat.le_of_ble_eq_true rfl) (by decide) (fun v9 ux16 ch15 => ?_)
              obtain ⟨at_17, b_18⟩ := ux16
              obtain ⟨ech15, ch15⟩ := ch15
              have ech15 : v9 = none := ech15
              subst ech15
              obtain ⟨fh19, fh20, fh21, fh22, fh23⟩ : (a6_.toInt ≤ at_17.toInt) ∧ (at_17.toInt ≤ v_markSize.toInt) ∧ (b_18.toInt = 0 ∨ b_18.toInt = 1) ∧ (b_18.toInt = 0 → b6.toInt = 0) ∧ (b_18.toInt = 0 → at_17.toInt = a6_.toInt + 1) := ch15
              refine pb_eq (pc' := 187) (lo' := [(1, .int fr), (2, .int v), (0, .ref h)]) (rest' := []) (ws' := [(h, .inr (10, [.ref m_rels, .ref m_openRels, .ref m_closeRels, .ref m_openRel, .ref m_closeRel, .ref m_comment, .ref m_ends, .ref m_order, .int v_thrown, .int v_taped, .ref m_tape, .ref m_count, .ref m_nameSize, .ref m_names, .ref m_size, .ref m_data, .int v_lookedSize, .ref m_looked, .int v_fileSize, .ref m_file, .int v_directorySize, .ref m_directory, .int v_outSize, .ref m_out, .int v_rowSize, .ref m_row, .int v_bitAt, .int v_bitEnd, .int v_why, .int v_madeSize, .ref m_made, .ref m_length, .int v_firstCount, .int v_secondCount, .int v_heldBits, .int v_heldCount, .int v_pressedSize, .ref m_pressed, .int at_17, .int b_18, .int v_markSize, .ref m_mark, .int v_relationCount, .ref m_idSize, .ref m_ids, .ref m_goalSize, .ref m_goals, .int v_valueSize, .ref m_value, .int v_faultCount, .ref m_faults, .ref m_reached])), (m_mark, .inl (G.2.1, 4000, .inl a_mark))]) ?_
              refine pb_iload_n (pc := 187) d_Mod_reference_187 1 rfl rfl ?_
              exact pb_iret (pc := 188) hQ d_Mod_reference_188 rfl rfl (v, at_17, b_18) ⟨rfl, (by (try dsimp only); first | done | assumption | omega (splitDisjunctions := false) | omega | decide), (by (try dsimp only); first | done | assumption | omega (splitDisjunctions := false) | omega | decide), (by (try dsimp only); first | done | assumption | omega (splitDisjunctions := false) | omega | decide), (by (try dsimp only); first | done | assumption | omega (splitDisjunctions := false) | omega | decide)⟩ [0, 1] (by decide) rfl rfl (by decide) (by decide)
            refine pb_iload_n (pc := 160) d_Mod_reference_160 0 rfl rfl ?_
            refine pb_if_ne (pc := 161) (tgt := 176) d_Mod_reference_161 (by decide) (fun wx24 => ?_) (fun wx24 => ?_)
            · have twx24 : ¬ z.toInt = 0 := fun z9 => wx24 ((ti_eq rfl (by decide)).mpr z9)
              refine pb_aload_n (pc := 176) d_Mod_reference_176 3 rfl rfl ?_
              refine pb_iload_n (pc := 177) d_Mod_reference_177 1 rfl rfl ?_
              refine pb_callV (pc := 178) (I := i_Mod_reference) (qb := 0) (ci := 10) (nA := 1) (rest := []) (wr := [(m_mark, .inl (G.2.1, 4000, .inl a_mark))]) d_Mod_reference_178 (g_Mod_stop hl G h m_rels m_openRels m_closeRels m_openRel m_closeRel m_comment m_ends m_order m_tape m_count m_nameSize m_names m_size m_data m_looked m_file m_directory m_out m_row m_made m_length m_pressed m_mark m_idSize m_ids m_goalSize m_goals m_value m_faults m_reached v_thrown v_taped v_lookedSize v_fileSize v_directorySize v_outSize v_rowSize v_bitAt v_bitEnd v_why v_madeSize v_firstCount v_secondCount v_heldBits v_heldCount v_pressedSize a5_ v_bad v_markSize v_relationCount v_valueSize v_faultCount fr (by first | assumption | omega (splitDisjunctions := false) | omega | decide)) rfl rfl [0] [1] (by decide) rfl rfl rfl (by decide) (by decide) k_1604 rfl k_128 k_1601 k_1603 k_103 ⟨rfl, hy_Mod_stop⟩ (by decide) rfl rfl (Nat.le_of_ble_eq_true rfl) (by decide) (fun v9 ux26 ch25 => ?_)
              obtain ⟨at_27, b_28⟩ := ux26
              obtain ⟨ech25, ch25⟩ := ch25
              have ech25 : v9 = none := ech25
              subst ech25
              obtain ⟨fh29, fh30, fh31⟩ : (b_28.toInt = 1) ∧ (v_bad.toInt = 0 → at_27.toInt = fr.toInt) ∧ (v_bad.toInt ≠ 0 → at_27.toInt = a5_.toInt) := ch25
              refine pb_eq (pc' := 181) (lo' := [(3, .int z), (1, .int fr), (2, .int v), (0, .ref h)]) (rest' := []) (ws' := [(m_mark, .inl (G.2.1, 4000, .inl a_mark)), (h, .inr (10, [.ref m_rels, .ref m_openRels, .ref m_closeRels, .ref m_openRel, .ref m_closeRel, .ref m_comment, .ref m_ends, .ref m_order, .int v_thrown, .int v_taped, .ref m_tape, .ref m_count, .ref m_nameSize, .ref m_names, .ref m_size, .ref m_data, .int v_lookedSize, .ref m_looked, .int v_fileSize, .ref m_file, .int v_directorySize, .ref m_directory, .int v_outSize, .ref m_out, .int v_rowSize, .ref m_row, .int v_bitAt, .int v_bitEnd, .int v_why, .int v_madeSize, .ref m_made, .ref m_length, .int v_firstCount, .int v_secondCount, .int v_heldBits, .int v_heldCount, .int v_pressedSize, .ref m_pressed, .int at_27, .int b_28, .int v_markSize, .ref m_mark, .int v_relationCount, .ref m_idSize, .ref m_ids, .ref m_goalSize, .ref m_goals, .int v_valueSize, .ref m_value, .int v_faultCount, .ref m_faults, .ref m_reached]))]) ?_
              refine pb_re (ws' := [(h, .inr (10, [.ref m_rels, .ref m_openRels, .ref m_closeRels, .ref m_openRel, .ref m_closeRel, .ref m_comment, .ref m_ends, .ref m_order, .int v_thrown, .int v_taped, .ref m_tape, .ref m_count, .ref m_nameSize, .ref m_names, .ref m_size, .ref m_data, .int v_lookedSize, .ref m_looked, .int v_fileSize, .ref m_file, .int v_directorySize, .ref m_directory, .int v_outSize, .ref m_out, .int v_rowSize, .ref m_row, .int v_bitAt, .int v_bitEnd, .int v_why, .int v_madeSize, .ref m_made, .ref m_length, .int v_firstCount, .int v_secondCount, .int v_heldBits, .int v_heldCount, .int v_pressedSize, .ref m_pressed, .int at_27, .int b_28, .int v_markSize, .ref m_mark, .int v_relationCount, .ref m_idSize, .ref m_ids, .ref m_goalSize, .ref m_goals, .int v_valueSize, .ref m_value, .int v_faultCount, .ref m_faults, .ref m_reached])), (m_mark, .inl (G.2.1, 4000, .inl a_mark))]) (lo' := [(1, .int fr), (2, .int v), (0, .ref h)]) [1, 0] [1, 2, 3] (by decide) rfl rfl rfl ?_
              exact hJ181_14 at_27 b_28 (by first | assumption | omega (splitDisjunctions := false) | omega | decide) (by first | assumption | omega (splitDisjunctions := false) | omega | decide) (by first | assumption | omega (splitDisjunctions := false) | omega | decide)
            · have twx24 : z.toInt = 0 := (ti_eq rfl (by decide)).mp wx24
              refine pb_iload_n (pc := 164) d_Mod_reference_164 2 rfl rfl ?_
              refine pb_bipush (pc := 165) (v := 32) d_Mod_reference_165 (by decide) ?_
              refine pb_icmp_lt (pc := 167) (tgt := 176) d_Mod_reference_167 (by decide) (fun wx32 => ?_) (fun wx32 => ?_)
              · have twx32 : v.toInt < 32 := (ti_lt rfl (by decide)).mp wx32
                refine pb_aload_n (pc := 176) d_Mod_reference_176 3 rfl rfl ?_
                refine pb_iload_n (pc := 177) d_Mod_reference_177 1 rfl rfl ?_
                refine pb_callV (pc := 178) (I := i_Mod_reference) (qb := 0) (ci := 10) (nA := 1) (rest := []) (wr := [(m_mark, .inl (G.2.1, 4000, .inl a_mark))]) d_Mod_reference_178 (g_Mod_stop hl G h m_rels m_openRels m_closeRels m_openRel m_closeRel m_comment m_ends m_order m_tape m_count m_nameSize m_names m_size m_data m_looked m_file m_directory m_out m_row m_made m_length m_pressed m_mark m_idSize m_ids m_goalSize m_goals m_value m_faults m_reached v_thrown v_taped v_lookedSize v_fileSize v_directorySize v_outSize v_rowSize v_bitAt v_bitEnd v_why v_madeSize v_firstCount v_secondCount v_heldBits v_heldCount v_pressedSize a5_ v_bad v_markSize v_relationCount v_valueSize v_faultCount fr (by first | assumption | omega (splitDisjunctions := false) | omega | decide)) rfl rfl [0] [1] (by decide) rfl rfl rfl (by decide) (by decide) k_1604 rfl k_128 k_1601 k_1603 k_103 ⟨rfl, hy_Mod_stop⟩ (by decide) rfl rfl (Nat.le_of_ble_eq_true rfl) (by decide) (fun v9 ux34 ch33 => ?_)
                obtain ⟨at_35, b_36⟩ := ux34
                obtain ⟨ech33, ch33⟩ := ch33
                have ech33 : v9 = none := ech33
                subst ech33
                obtain ⟨fh37, fh38, fh39⟩ : (b_36.toInt = 1) ∧ (v_bad.toInt = 0 → at_35.toInt = fr.toInt) ∧ (v_bad.toInt ≠ 0 → at_35.toInt = a5_.toInt) := ch33
                refine pb_eq (pc' := 181) (lo' := [(3, .int z), (1, .int fr), (2, .int v), (0, .ref h)]) (rest' := []) (ws' := [(m_mark, .inl (G.2.1, 4000, .inl a_mark)), (h, .inr (10, [.ref m_rels, .ref m_openRels, .ref m_closeRels, .ref m_openRel, .ref m_closeRel, .ref m_comment, .ref m_ends, .ref m_order, .int v_thrown, .int v_taped, .ref m_tape, .ref m_count, .ref m_nameSize, .ref m_names, .ref m_size, .ref m_data, .int v_lookedSize, .ref m_looked, .int v_fileSize, .ref m_file, .int v_directorySize, .ref m_directory, .int v_outSize, .ref m_out, .int v_rowSize, .ref m_row, .int v_bitAt, .int v_bitEnd, .int v_why, .int v_madeSize, .ref m_made, .ref m_length, .int v_firstCount, .int v_secondCount, .int v_heldBits, .int v_heldCount, .int v_pressedSize, .ref m_pressed, .int at_35, .int b_36, .int v_markSize, .ref m_mark, .int v_relationCount, .ref m_idSize, .ref m_ids, .ref m_goalSize, .ref m_goals, .int v_valueSize, .ref m_value, .int v_faultCount, .ref m_faults, .ref m_reached]))]) ?_
                refine pb_re (ws' := [(h, .inr (10, [.ref m_rels, .ref m_openRels, .ref m_closeRels, .ref m_openRel, .ref m_closeRel, .ref m_comment, .ref m_ends, .ref m_order, .int v_thrown, .int v_taped, .ref m_tape, .ref m_count, .ref m_nameSize, .ref m_names, .ref m_size, .ref m_data, .int v_lookedSize, .ref m_looked, .int v_fileSize, .ref m_file, .int v_directorySize, .ref m_directory, .int v_outSize, .ref m_out, .int v_rowSize, .ref m_row, .int v_bitAt, .int v_bitEnd, .int v_why, .int v_madeSize, .ref m_made, .ref m_length, .int v_firstCount, .int v_secondCount, .int v_heldBits, .int v_heldCount, .int v_pressedSize, .ref m_pressed, .int at_35, .int b_36, .int v_markSize, .ref m_mark, .int v_relationCount, .ref m_idSize, .ref m_ids, .ref m_goalSize, .ref m_goals, .int v_valueSize, .ref m_value, .int v_faultCount, .ref m_faults, .ref m_reached])), (m_mark, .inl (G.2.1, 4000, .inl a_mark))]) (lo' := [(1, .int fr), (2, .int v), (0, .ref h)]) [1, 0] [1, 2, 3] (by decide) rfl rfl rfl ?_
                exact hJ181_14 at_35 b_36 (by first | assumption | omega (splitDisjunctions := false) | omega | decide) (by first | assumption | omega (splitDisjunctions := false) | omega | decide) (by first | assumption | omega (splitDisjunctions := false) | omega | decide)
              · have twx32 : ¬ v.toInt < 32 := fun z9 => wx32 ((ti_lt rfl (by decide)).mpr z9)
                refine pb_iload_n (pc := 170) d_Mod_reference_170 2 rfl rfl ?_
                refine pb_bipush (pc := 171) (v := 126) d_Mod_reference_171 (by decide) ?_
                refine pb_icmp_le (pc := 173) (tgt := 181) d_Mod_reference_173 (by decide) (fun wx40 => ?_) (fun wx40 => ?_)
                · have twx40 : v.toInt ≤ 126 := (ti_le rfl (by decide)).mp wx40
                  refine pb_re (ws' := [(h, .inr (10, [.ref m_rels, .ref m_openRels, .ref m_closeRels, .ref m_openRel, .ref m_closeRel, .ref m_comment, .ref m_ends, .ref m_order, .int v_thrown, .int v_taped, .ref m_tape, .ref m_count, .ref m_nameSize, .ref m_names, .ref m_size, .ref m_data, .int v_lookedSize, .ref m_looked, .int v_fileSize, .ref m_file, .int v_directorySize, .ref m_directory, .int v_outSize, .ref m_out, .int v_rowSize, .ref m_row, .int v_bitAt, .int v_bitEnd, .int v_why, .int v_madeSize, .ref m_made, .ref m_length, .int v_firstCount, .int v_secondCount, .int v_heldBits, .int v_heldCount, .int v_pressedSize, .ref m_pressed, .int a5_, .int v_bad, .int v_markSize, .ref m_mark, .int v_relationCount, .ref m_idSize, .ref m_ids, .ref m_goalSize, .ref m_goals, .int v_valueSize, .ref m_value, .int v_faultCount, .ref m_faults, .ref m_reached])), (m_mark, .inl (G.2.1, 4000, .inl a_mark))]) (lo' := [(1, .int fr), (2, .int v), (0, .ref h)]) [0, 1] [1, 2, 3] (by decide) rfl rfl rfl ?_
                  exact hJ181_14 a5_ v_bad (by first | assumption | omega (splitDisjunctions := false) | omega | decide) (by first | assumption | omega (splitDisjunctions := false) | omega | decide) (by first | assumption | omega (splitDisjunctions := false) | omega | decide)
                · have twx40 : ¬ v.toInt ≤ 126 := fun z9 => wx40 ((ti_le rfl (by decide)).mpr z9)
                  refine pb_aload_n (pc := 176) d_Mod_reference_176 3 rfl rfl ?_
                  refine pb_iload_n (pc := 177) d_Mod_reference_177 1 rfl rfl ?_
                  refine pb_callV (pc := 178) (I := i_Mod_reference) (qb := 0) (ci := 10) (nA := 1) (rest := []) (wr := [(m_mark, .inl (G.2.1, 4000, .inl a_mark))]) d_Mod_reference_178 (g_Mod_stop hl G h m_rels m_openRels m_closeRels m_openRel m_closeRel m_comment m_ends m_order m_tape m_count m_nameSize m_names m_size m_data m_looked m_file m_directory m_out m_row m_made m_length m_pressed m_mark m_idSize m_ids m_goalSize m_goals m_value m_faults m_reached v_thrown v_taped v_lookedSize v_fileSize v_directorySize v_outSize v_rowSize v_bitAt v_bitEnd v_why v_madeSize v_firstCount v_secondCount v_heldBits v_heldCount v_pressedSize a5_ v_bad v_markSize v_relationCount v_valueSize v_faultCount fr (by first | assumption | omega (splitDisjunctions := false) | omega | decide)) rfl rfl [0] [1] (by decide) rfl rfl rfl (by decide) (by decide) k_1604 rfl k_128 k_1601 k_1603 k_103 ⟨rfl, hy_Mod_stop⟩ (by decide) rfl rfl (Nat.le_of_ble_eq_true rfl) (by decide) (fun v9 ux42 ch41 => ?_)
                  obtain ⟨at_43, b_44⟩ := ux42
                  obtain ⟨ech41, ch41⟩ := ch41
                  have ech41 : v9 = none := ech41
                  subst ech41
                  obtain ⟨fh45, fh46, fh47⟩ : (b_44.toInt = 1) ∧ (v_bad.toInt = 0 → at_43.toInt = fr.toInt) ∧ (v_bad.toInt ≠ 0 → at_43.toInt = a5_.toInt) := ch41
                  refine pb_eq (pc' := 181) (lo' := [(3, .int z), (1, .int fr), (2, .int v), (0, .ref h)]) (rest' := []) (ws' := [(m_mark, .inl (G.2.1, 4000, .inl a_mark)), (h, .inr (10, [.ref m_rels, .ref m_openRels, .ref m_closeRels, .ref m_openRel, .ref m_closeRel, .ref m_comment, .ref m_ends, .ref m_order, .int v_thrown, .int v_taped, .ref m_tape, .ref m_count, .ref m_nameSize, .ref m_names, .ref m_size, .ref m_data, .int v_lookedSize, .ref m_looked, .int v_fileSize, .ref m_file, .int v_directorySize, .ref m_directory, .int v_outSize, .ref m_out, .int v_rowSize, .ref m_row, .int v_bitAt, .int v_bitEnd, .int v_why, .int v_madeSize, .ref m_made, .ref m_length, .int v_firstCount, .int v_secondCount, .int v_heldBits, .int v_heldCount, .int v_pressedSize, .ref m_pressed, .int at_43, .int b_44, .int v_markSize, .ref m_mark, .int v_relationCount, .ref m_idSize, .ref m_ids, .ref m_goalSize, .ref m_goals, .int v_valueSize, .ref m_value, .int v_faultCount, .ref m_faults, .ref m_reached]))]) ?_
                  refine pb_re (ws' := [(h, .inr (10, [.ref m_rels, .ref m_openRels, .ref m_closeRels, .ref m_openRel, .ref m_closeRel, .ref m_comment, .ref m_ends, .ref m_order, .int v_thrown, .int v_taped, .ref m_tape, .ref m_count, .ref m_nameSize, .ref m_names, .ref m_size, .ref m_data, .int v_lookedSize, .ref m_looked, .int v_fileSize, .ref m_file, .int v_directorySize, .ref m_directory, .int v_outSize, .ref m_out, .int v_rowSize, .ref m_row, .int v_bitAt, .int v_bitEnd, .int v_why, .int v_madeSize, .ref m_made, .ref m_length, .int v_firstCount, .int v_secondCount, .int v_heldBits, .int v_heldCount, .int v_pressedSize, .ref m_pressed, .int at_43, .int b_44, .int v_markSize, .ref m_mark, .int v_relationCount, .ref m_idSize, .ref m_ids, .ref m_goalSize, .ref m_goals, .int v_valueSize, .ref m_value, .int v_faultCount, .ref m_faults, .ref m_reached])), (m_mark, .inl (G.2.1, 4000, .inl a_mark))]) (lo' := [(1, .int fr), (2, .int v), (0, .ref h)]) [1, 0] [1, 2, 3] (by decide) rfl rfl rfl ?_
                  exact hJ181_14 at_43 b_44 (by first | assumption | omega (splitDisjunctions := false) | omega | decide) (by first | assumption | omega (splitDisjunctions := false) | omega | decide) (by first | assumption | omega (splitDisjunctions := false) | omega | decide)
          refine pb_aload_n (pc := 135) d_Mod_reference_135 2 rfl rfl ?_
          refine pb_get (pc := 136) d_Mod_reference_136 0 38 rfl rfl (by decide) in_Mod k_1184 rfl ?_
          refine pb_iload_n (pc := 139) d_Mod_reference_139 0 rfl rfl ?_
          refine pb_icmp_le (pc := 140) (tgt := 158) d_Mod_reference_140 (by decide) (fun wx48 => ?_) (fun wx48 => ?_)
          · have twx48 : a5_.toInt ≤ fr.toInt := (ti_le rfl rfl).mp wx48
            refine pb_iconst (pc := 158) (v := 0) d_Mod_reference_158 (by decide) ?_
            refine pb_istore_n (pc := 159) (lo' := [(3, .int 0), (1, .int fr), (2, .int v), (0, .ref h)]) d_Mod_reference_159 rfl (by decide) rfl ?_
            exact hJ160_13 0
          · have twx48 : ¬ a5_.toInt ≤ fr.toInt := fun z9 => wx48 ((ti_le rfl rfl).mpr z9)
            refine pb_aload_n (pc := 143) d_Mod_reference_143 2 rfl rfl ?_
            refine pb_get (pc := 144) d_Mod_reference_144 0 41 rfl rfl (by decide) in_Mod k_1187 rfl ?_
            refine pb_iload_n (pc := 147) d_Mod_reference_147 0 rfl rfl ?_
            refine pb_bald (pc := 148) d_Mod_reference_148 1 rfl (vp_in_iff.mpr (by omega)) ?_
            refine pb_topi (fun ix49 eix49 => ?_)
            have tix49 : -128 ≤ ix49.toInt ∧ ix49.toInt ≤ 127 := ti_fit (F_a_mark _) eix49
            refine pb_bipush (pc := 149) (v := 48) d_Mod_reference_149 (by decide) ?_
            refine pb_icmp_ne (pc := 151) (tgt := 158) d_Mod_reference_151 (by decide) (fun wx50 => ?_) (fun wx50 => ?_)
            · have twx50 : ¬ ix49.toInt = 48 := fun z9 => wx50 ((ti_eq rfl (by decide)).mpr z9)
              refine pb_iconst (pc := 158) (v := 0) d_Mod_reference_158 (by decide) ?_
              refine pb_istore_n (pc := 159) (lo' := [(3, .int 0), (1, .int fr), (2, .int v), (0, .ref h)]) d_Mod_reference_159 rfl (by decide) rfl ?_
              exact hJ160_13 0
            · have twx50 : ix49.toInt = 48 := (ti_eq rfl (by decide)).mp wx50
              refine pb_iconst (pc := 154) (v := 1) d_Mod_reference_154 (by decide) ?_
              refine pb_goto (pc := 155) (tgt := 159) d_Mod_reference_155 (by decide) ?_
              refine pb_istore_n (pc := 159) (lo' := [(3, .int 1), (1, .int fr), (2, .int v), (0, .ref h)]) d_Mod_reference_159 rfl (by decide) rfl ?_
              exact hJ160_13 1
        · have twx12 : ¬ ix11.toInt ≤ a5_.toInt := fun z9 => wx12 ((ti_le rfl rfl).mpr z9)
          refine pb_aload_n (pc := 91) d_Mod_reference_91 2 rfl rfl ?_
          refine pb_callV (pc := 92) (I := i_Mod_reference) (qb := 0) (ci := 10) (nA := 0) (rest := []) (wr := []) d_Mod_reference_92 (g_Mod_here hl G h m_rels m_openRels m_closeRels m_openRel m_closeRel m_comment m_ends m_order m_tape m_count m_nameSize m_names m_size m_data m_looked m_file m_directory m_out m_row m_made m_length m_pressed m_mark m_idSize m_ids m_goalSize m_goals m_value m_faults m_reached v_thrown v_taped v_lookedSize v_fileSize v_directorySize v_outSize v_rowSize v_bitAt v_bitEnd v_why v_madeSize v_firstCount v_secondCount v_heldBits v_heldCount v_pressedSize a5_ v_bad v_markSize v_relationCount v_valueSize v_faultCount a_mark (by first | assumption | omega (splitDisjunctions := false) | omega | decide) (by first | assumption | omega (splitDisjunctions := false) | omega | decide) (by first | assumption | omega (splitDisjunctions := false) | omega | decide) (by first | assumption | omega (splitDisjunctions := false) | omega | decide) F_a_mark) rfl rfl [0, 1] [] (by decide) rfl rfl rfl (by decide) (by decide) k_1585 rfl k_128 k_1582 k_1584 k_99 ⟨rfl, hy_Mod_here⟩ (by decide) rfl rfl (Nat.le_of_ble_eq_true rfl) (by decide) (fun v9 ux52 ch51 => ?_)
          obtain ⟨r_53, rfl⟩ : ∃ z9, z9 = ux52 := ⟨_, rfl⟩
          obtain ⟨ech51, ch51⟩ := ch51
          have ech51 : v9 = some (.int r_53) := ech51
          subst ech51
          obtain ⟨fh54, fh55, fh56, fh57⟩ : (-1 ≤ r_53.toInt) ∧ (r_53.toInt ≤ 255) ∧ (0 ≤ r_53.toInt → a5_.toInt < v_markSize.toInt) ∧ (r_53.toInt < 0 → a5_.toInt = v_markSize.toInt) := ch51
          refine pb_eq (pc' := 95) (lo' := [(1, .int fr), (2, .int v), (0, .ref h)]) (rest' := [.int r_53]) (ws' := [(h, .inr (10, [.ref m_rels, .ref m_openRels, .ref m_closeRels, .ref m_openRel, .ref m_closeRel, .ref m_comment, .ref m_ends, .ref m_order, .int v_thrown, .int v_taped, .ref m_tape, .ref m_count, .ref m_nameSize, .ref m_names, .ref m_size, .ref m_data, .int v_lookedSize, .ref m_looked, .int v_fileSize, .ref m_file, .int v_directorySize, .ref m_directory, .int v_outSize, .ref m_out, .int v_rowSize, .ref m_row, .int v_bitAt, .int v_bitEnd, .int v_why, .int v_madeSize, .ref m_made, .ref m_length, .int v_firstCount, .int v_secondCount, .int v_heldBits, .int v_heldCount, .int v_pressedSize, .ref m_pressed, .int a5_, .int v_bad, .int v_markSize, .ref m_mark, .int v_relationCount, .ref m_idSize, .ref m_ids, .ref m_goalSize, .ref m_goals, .int v_valueSize, .ref m_value, .int v_faultCount, .ref m_faults, .ref m_reached])), (m_mark, .inl (G.2.1, 4000, .inl a_mark))]) ?_
          refine pb_bipush (pc := 95) (v := 48) d_Mod_reference_95 (by decide) ?_
          refine pb_icmp_lt (pc := 97) (tgt := 135) d_Mod_reference_97 (by decide) (fun wx58 => ?_) (fun wx58 => ?_)
          · have twx58 : r_53.toInt < 48 := (ti_lt rfl (by decide)).mp wx58
            have hJ160_59 : ∀ (z : Int32), pb_P l G M i_Mod_reference 160 [(3, .int z), (1, .int fr), (2, .int v), (0, .ref h)] [] [(h, .inr (10, [.ref m_rels, .ref m_openRels, .ref m_closeRels, .ref m_openRel, .ref m_closeRel, .ref m_comment, .ref m_ends, .ref m_order, .int v_thrown, .int v_taped, .ref m_tape, .ref m_count, .ref m_nameSize, .ref m_names, .ref m_size, .ref m_data, .int v_lookedSize, .ref m_looked, .int v_fileSize, .ref m_file, .int v_directorySize, .ref m_directory, .int v_outSize, .ref m_out, .int v_rowSize, .ref m_row, .int v_bitAt, .int v_bitEnd, .int v_why, .int v_madeSize, .ref m_made, .ref m_length, .int v_firstCount, .int v_secondCount, .int v_heldBits, .int v_heldCount, .int v_pressedSize, .ref m_pressed, .int a5_, .int v_bad, .int v_markSize, .ref m_mark, .int v_relationCount, .ref m_idSize, .ref m_ids, .ref m_goalSize, .ref m_goals, .int v_valueSize, .ref m_value, .int v_faultCount, .ref m_faults, .ref m_reached])), (m_mark, .inl (G.2.1, 4000, .inl a_mark))] 0 0 := by
              intro z
              have hJ181_60 : ∀ (a6_ : Int32) (b6 : Int32), (v_at.toInt ≤ a6_.toInt) → (a6_.toInt ≤ v_markSize.toInt) → (b6.toInt = 0 ∨ b6.toInt = 1) → pb_P l G M i_Mod_reference 181 [(1, .int fr), (2, .int v), (0, .ref h)] [] [(h, .inr (10, [.ref m_rels, .ref m_openRels, .ref m_closeRels, .ref m_openRel, .ref m_closeRel, .ref m_comment, .ref m_ends, .ref m_order, .int v_thrown, .int v_taped, .ref m_tape, .ref m_count, .ref m_nameSize, .ref m_names, .ref m_size, .ref m_data, .int v_lookedSize, .ref m_looked, .int v_fileSize, .ref m_file, .int v_directorySize, .ref m_directory, .int v_outSize, .ref m_out, .int v_rowSize, .ref m_row, .int v_bitAt, .int v_bitEnd, .int v_why, .int v_madeSize, .ref m_made, .ref m_length, .int v_firstCount, .int v_secondCount, .int v_heldBits, .int v_heldCount, .int v_pressedSize, .ref m_pressed, .int a6_, .int b6, .int v_markSize, .ref m_mark, .int v_relationCount, .ref m_idSize, .ref m_ids, .ref m_goalSize, .ref m_goals, .int v_valueSize, .ref m_value, .int v_faultCount, .ref m_faults, .ref m_reached])), (m_mark, .inl (G.2.1, 4000, .inl a_mark))] 0 0 := by
                intro a6_ b6 m0 m1 m2
                refine pb_aload_n (pc := 181) d_Mod_reference_181 2 rfl rfl ?_
                refine pb_bipush (pc := 182) (v := 59) d_Mod_reference_182 (by decide) ?_
                refine pb_callV (pc := 184) (I := i_Mod_reference) (qb := 0) (ci := 10) (nA := 1) (rest := []) (wr := []) d_Mod_reference_184 (g_Mod_need hl G h m_rels m_openRels m_closeRels m_openRel m_closeRel m_comment m_ends m_order m_tape m_count m_nameSize m_names m_size m_data m_looked m_file m_directory m_out m_row m_made m_length m_pressed m_mark m_idSize m_ids m_goalSize m_goals m_value m_faults m_reached v_thrown v_taped v_lookedSize v_fileSize v_directorySize v_outSize v_rowSize v_bitAt v_bitEnd v_why v_madeSize v_firstCount v_secondCount v_heldBits v_heldCount v_pressedSize a6_ b6 v_markSize v_relationCount v_valueSize v_faultCount a_mark 59 (by first | assumption | omega (splitDisjunctions := false) | omega | decide) (by first | assumption | omega (splitDisjunctions := false) | omega | decide) (by first | assumption | omega (splitDisjunctions := false) | omega | decide) (by first | assumption | omega (splitDisjunctions := false) | omega | decide) (by first | assumption | omega (splitDisjunctions := false) | omega | decide) (by first | assumption | decide | omega)) rfl rfl [0, 1] [] (by decide) rfl rfl rfl (by decide) (by decide) k_1600 rfl k_128 k_1597 k_1599 k_102 ⟨rfl, hy_Mod_need⟩ (by decide) rfl rfl (Nat.le_of_ble_eq_true rfl) (by decide) (fun v9 ux62 ch61 => ?_)
                obtain ⟨at_63, b_64⟩ := ux62
                obtain ⟨ech61, ch61⟩ := ch61
                have ech61 : v9 = none := ech61
                subst ech61
                obtain ⟨fh65, fh66, fh67, fh68, fh69⟩ : (a6_.toInt ≤ at_63.toInt) ∧ (at_63.toInt ≤ v_markSize.toInt) ∧ (b_64.toInt = 0 ∨ b_64.toInt = 1) ∧ (b_64.toInt = 0 → b6.toInt = 0) ∧ (b_64.toInt = 0 → at_63.toInt = a6_.toInt + 1) := ch61
                refine pb_eq (pc' := 187) (lo' := [(1, .int fr), (2, .int v), (0, .ref h)]) (rest' := []) (ws' := [(h, .inr (10, [.ref m_rels, .ref m_openRels, .ref m_closeRels, .ref m_openRel, .ref m_closeRel, .ref m_comment, .ref m_ends, .ref m_order, .int v_thrown, .int v_taped, .ref m_tape, .ref m_count, .ref m_nameSize, .ref m_names, .ref m_size, .ref m_data, .int v_lookedSize, .ref m_looked, .int v_fileSize, .ref m_file, .int v_directorySize, .ref m_directory, .int v_outSize, .ref m_out, .int v_rowSize, .ref m_row, .int v_bitAt, .int v_bitEnd, .int v_why, .int v_madeSize, .ref m_made, .ref m_length, .int v_firstCount, .int v_secondCount, .int v_heldBits, .int v_heldCount, .int v_pressedSize, .ref m_pressed, .int at_63, .int b_64, .int v_markSize, .ref m_mark, .int v_relationCount, .ref m_idSize, .ref m_ids, .ref m_goalSize, .ref m_goals, .int v_valueSize, .ref m_value, .int v_faultCount, .ref m_faults, .ref m_reached])), (m_mark, .inl (G.2.1, 4000, .inl a_mark))]) ?_
                refine pb_iload_n (pc := 187) d_Mod_reference_187 1 rfl rfl ?_
                exact pb_iret (pc := 188) hQ d_Mod_reference_188 rfl rfl (v, at_63, b_64) ⟨rfl, (by (try dsimp only); first | done | assumption | omega (splitDisjunctions := false) | omega | decide), (by (try dsimp only); first | done | assumption | omega (splitDisjunctions := false) | omega | decide), (by (try dsimp only); first | done | assumption | omega (splitDisjunctions := false) | omega | decide), (by (try dsimp only); first | done | assumption | omega (splitDisjunctions := false) | omega | decide)⟩ [0, 1] (by decide) rfl rfl (by decide) (by decide)
              refine pb_iload_n (pc := 160) d_Mod_reference_160 0 rfl rfl ?_
              refine pb_if_ne (pc := 161) (tgt := 176) d_Mod_reference_161 (by decide) (fun wx70 => ?_) (fun wx70 => ?_)
              · have twx70 : ¬ z.toInt = 0 := fun z9 => wx70 ((ti_eq rfl (by decide)).mpr z9)
                refine pb_aload_n (pc := 176) d_Mod_reference_176 3 rfl rfl ?_
                refine pb_iload_n (pc := 177) d_Mod_reference_177 1 rfl rfl ?_
                refine pb_callV (pc := 178) (I := i_Mod_reference) (qb := 0) (ci := 10) (nA := 1) (rest := []) (wr := [(m_mark, .inl (G.2.1, 4000, .inl a_mark))]) d_Mod_reference_178 (g_Mod_stop hl G h m_rels m_openRels m_closeRels m_openRel m_closeRel m_comment m_ends m_order m_tape m_count m_nameSize m_names m_size m_data m_looked m_file m_directory m_out m_row m_made m_length m_pressed m_mark m_idSize m_ids m_goalSize m_goals m_value m_faults m_reached v_thrown v_taped v_lookedSize v_fileSize v_directorySize v_outSize v_rowSize v_bitAt v_bitEnd v_why v_madeSize v_firstCount v_secondCount v_heldBits v_heldCount v_pressedSize a5_ v_bad v_markSize v_relationCount v_valueSize v_faultCount fr (by first | assumption | omega (splitDisjunctions := false) | omega | decide)) rfl rfl [0] [1] (by decide) rfl rfl rfl (by decide) (by decide) k_1604 rfl k_128 k_1601 k_1603 k_103 ⟨rfl, hy_Mod_stop⟩ (by decide) rfl rfl (Nat.le_of_ble_eq_true rfl) (by decide) (fun v9 ux72 ch71 => ?_)
                obtain ⟨at_73, b_74⟩ := ux72
                obtain ⟨ech71, ch71⟩ := ch71
                have ech71 : v9 = none := ech71
                subst ech71
                obtain ⟨fh75, fh76, fh77⟩ : (b_74.toInt = 1) ∧ (v_bad.toInt = 0 → at_73.toInt = fr.toInt) ∧ (v_bad.toInt ≠ 0 → at_73.toInt = a5_.toInt) := ch71
                refine pb_eq (pc' := 181) (lo' := [(3, .int z), (1, .int fr), (2, .int v), (0, .ref h)]) (rest' := []) (ws' := [(m_mark, .inl (G.2.1, 4000, .inl a_mark)), (h, .inr (10, [.ref m_rels, .ref m_openRels, .ref m_closeRels, .ref m_openRel, .ref m_closeRel, .ref m_comment, .ref m_ends, .ref m_order, .int v_thrown, .int v_taped, .ref m_tape, .ref m_count, .ref m_nameSize, .ref m_names, .ref m_size, .ref m_data, .int v_lookedSize, .ref m_looked, .int v_fileSize, .ref m_file, .int v_directorySize, .ref m_directory, .int v_outSize, .ref m_out, .int v_rowSize, .ref m_row, .int v_bitAt, .int v_bitEnd, .int v_why, .int v_madeSize, .ref m_made, .ref m_length, .int v_firstCount, .int v_secondCount, .int v_heldBits, .int v_heldCount, .int v_pressedSize, .ref m_pressed, .int at_73, .int b_74, .int v_markSize, .ref m_mark, .int v_relationCount, .ref m_idSize, .ref m_ids, .ref m_goalSize, .ref m_goals, .int v_valueSize, .ref m_value, .int v_faultCount, .ref m_faults, .ref m_reached]))]) ?_
                refine pb_re (ws' := [(h, .inr (10, [.ref m_rels, .ref m_openRels, .ref m_closeRels, .ref m_openRel, .ref m_closeRel, .ref m_comment, .ref m_ends, .ref m_order, .int v_thrown, .int v_taped, .ref m_tape, .ref m_count, .ref m_nameSize, .ref m_names, .ref m_size, .ref m_data, .int v_lookedSize, .ref m_looked, .int v_fileSize, .ref m_file, .int v_directorySize, .ref m_directory, .int v_outSize, .ref m_out, .int v_rowSize, .ref m_row, .int v_bitAt, .int v_bitEnd, .int v_why, .int v_madeSize, .ref m_made, .ref m_length, .int v_firstCount, .int v_secondCount, .int v_heldBits, .int v_heldCount, .int v_pressedSize, .ref m_pressed, .int at_73, .int b_74, .int v_markSize, .ref m_mark, .int v_relationCount, .ref m_idSize, .ref m_ids, .ref m_goalSize, .ref m_goals, .int v_valueSize, .ref m_value, .int v_faultCount, .ref m_faults, .ref m_reached])), (m_mark, .inl (G.2.1, 4000, .inl a_mark))]) (lo' := [(1, .int fr), (2, .int v), (0, .ref h)]) [1, 0] [1, 2, 3] (by decide) rfl rfl rfl ?_
                exact hJ181_60 at_73 b_74 (by first | assumption | omega (splitDisjunctions := false) | omega | decide) (by first | assumption | omega (splitDisjunctions := false) | omega | decide) (by first | assumption | omega (splitDisjunctions := false) | omega | decide)
              · have twx70 : z.toInt = 0 := (ti_eq rfl (by decide)).mp wx70
                refine pb_iload_n (pc := 164) d_Mod_reference_164 2 rfl rfl ?_
                refine pb_bipush (pc := 165) (v := 32) d_Mod_reference_165 (by decide) ?_
                refine pb_icmp_lt (pc := 167) (tgt := 176) d_Mod_reference_167 (by decide) (fun wx78 => ?_) (fun wx78 => ?_)
                · have twx78 : v.toInt < 32 := (ti_lt rfl (by decide)).mp wx78
                  refine pb_aload_n (pc := 176) d_Mod_reference_176 3 rfl rfl ?_
                  refine pb_iload_n (pc := 177) d_Mod_reference_177 1 rfl rfl ?_
                  refine pb_callV (pc := 178) (I := i_Mod_reference) (qb := 0) (ci := 10) (nA := 1) (rest := []) (wr := [(m_mark, .inl (G.2.1, 4000, .inl a_mark))]) d_Mod_reference_178 (g_Mod_stop hl G h m_rels m_openRels m_closeRels m_openRel m_closeRel m_comment m_ends m_order m_tape m_count m_nameSize m_names m_size m_data m_looked m_file m_directory m_out m_row m_made m_length m_pressed m_mark m_idSize m_ids m_goalSize m_goals m_value m_faults m_reached v_thrown v_taped v_lookedSize v_fileSize v_directorySize v_outSize v_rowSize v_bitAt v_bitEnd v_why v_madeSize v_firstCount v_secondCount v_heldBits v_heldCount v_pressedSize a5_ v_bad v_markSize v_relationCount v_valueSize v_faultCount fr (by first | assumption | omega (splitDisjunctions := false) | omega | decide)) rfl rfl [0] [1] (by decide) rfl rfl rfl (by decide) (by decide) k_1604 rfl k_128 k_1601 k_1603 k_103 ⟨rfl, hy_Mod_stop⟩ (by decide) rfl rfl (Nat.le_of_ble_eq_true rfl) (by decide) (fun v9 ux80 ch79 => ?_)
                  obtain ⟨at_81, b_82⟩ := ux80
                  obtain ⟨ech79, ch79⟩ := ch79
                  have ech79 : v9 = none := ech79
                  subst ech79
                  obtain ⟨fh83, fh84, fh85⟩ : (b_82.toInt = 1) ∧ (v_bad.toInt = 0 → at_81.toInt = fr.toInt) ∧ (v_bad.toInt ≠ 0 → at_81.toInt = a5_.toInt) := ch79
                  refine pb_eq (pc' := 181) (lo' := [(3, .int z), (1, .int fr), (2, .int v), (0, .ref h)]) (rest' := []) (ws' := [(m_mark, .inl (G.2.1, 4000, .inl a_mark)), (h, .inr (10, [.ref m_rels, .ref m_openRels, .ref m_closeRels, .ref m_openRel, .ref m_closeRel, .ref m_comment, .ref m_ends, .ref m_order, .int v_thrown, .int v_taped, .ref m_tape, .ref m_count, .ref m_nameSize, .ref m_names, .ref m_size, .ref m_data, .int v_lookedSize, .ref m_looked, .int v_fileSize, .ref m_file, .int v_directorySize, .ref m_directory, .int v_outSize, .ref m_out, .int v_rowSize, .ref m_row, .int v_bitAt, .int v_bitEnd, .int v_why, .int v_madeSize, .ref m_made, .ref m_length, .int v_firstCount, .int v_secondCount, .int v_heldBits, .int v_heldCount, .int v_pressedSize, .ref m_pressed, .int at_81, .int b_82, .int v_markSize, .ref m_mark, .int v_relationCount, .ref m_idSize, .ref m_ids, .ref m_goalSize, .ref m_goals, .int v_valueSize, .ref m_value, .int v_faultCount, .ref m_faults, .ref m_reached]))]) ?_
                  refine pb_re (ws' := [(h, .inr (10, [.ref m_rels, .ref m_openRels, .ref m_closeRels, .ref m_openRel, .ref m_closeRel, .ref m_comment, .ref m_ends, .ref m_order, .int v_thrown, .int v_taped, .ref m_tape, .ref m_count, .ref m_nameSize, .ref m_names, .ref m_size, .ref m_data, .int v_lookedSize, .ref m_looked, .int v_fileSize, .ref m_file, .int v_directorySize, .ref m_directory, .int v_outSize, .ref m_out, .int v_rowSize, .ref m_row, .int v_bitAt, .int v_bitEnd, .int v_why, .int v_madeSize, .ref m_made, .ref m_length, .int v_firstCount, .int v_secondCount, .int v_heldBits, .int v_heldCount, .int v_pressedSize, .ref m_pressed, .int at_81, .int b_82, .int v_markSize, .ref m_mark, .int v_relationCount, .ref m_idSize, .ref m_ids, .ref m_goalSize, .ref m_goals, .int v_valueSize, .ref m_value, .int v_faultCount, .ref m_faults, .ref m_reached])), (m_mark, .inl (G.2.1, 4000, .inl a_mark))]) (lo' := [(1, .int fr), (2, .int v), (0, .ref h)]) [1, 0] [1, 2, 3] (by decide) rfl rfl rfl ?_
                  exact hJ181_60 at_81 b_82 (by first | assumption | omega (splitDisjunctions := false) | omega | decide) (by first | assumption | omega (splitDisjunctions := false) | omega | decide) (by first | assumption | omega (splitDisjunctions := false) | omega | decide)
                · have twx78 : ¬ v.toInt < 32 := fun z9 => wx78 ((ti_lt rfl (by decide)).mpr z9)
                  refine pb_iload_n (pc := 170) d_Mod_reference_170 2 rfl rfl ?_
                  refine pb_bipush (pc := 171) (v := 126) d_Mod_reference_171 (by decide) ?_
                  refine pb_icmp_le (pc := 173) (tgt := 181) d_Mod_reference_173 (by decide) (fun wx86 => ?_) (fun wx86 => ?_)
                  · have twx86 : v.toInt ≤ 126 := (ti_le rfl (by decide)).mp wx86
                    refine pb_re (ws' := [(h, .inr (10, [.ref m_rels, .ref m_openRels, .ref m_closeRels, .ref m_openRel, .ref m_closeRel, .ref m_comment, .ref m_ends, .ref m_order, .int v_thrown, .int v_taped, .ref m_tape, .ref m_count, .ref m_nameSize, .ref m_names, .ref m_size, .ref m_data, .int v_lookedSize, .ref m_looked, .int v_fileSize, .ref m_file, .int v_directorySize, .ref m_directory, .int v_outSize, .ref m_out, .int v_rowSize, .ref m_row, .int v_bitAt, .int v_bitEnd, .int v_why, .int v_madeSize, .ref m_made, .ref m_length, .int v_firstCount, .int v_secondCount, .int v_heldBits, .int v_heldCount, .int v_pressedSize, .ref m_pressed, .int a5_, .int v_bad, .int v_markSize, .ref m_mark, .int v_relationCount, .ref m_idSize, .ref m_ids, .ref m_goalSize, .ref m_goals, .int v_valueSize, .ref m_value, .int v_faultCount, .ref m_faults, .ref m_reached])), (m_mark, .inl (G.2.1, 4000, .inl a_mark))]) (lo' := [(1, .int fr), (2, .int v), (0, .ref h)]) [0, 1] [1, 2, 3] (by decide) rfl rfl rfl ?_
                    exact hJ181_60 a5_ v_bad (by first | assumption | omega (splitDisjunctions := false) | omega | decide) (by first | assumption | omega (splitDisjunctions := false) | omega | decide) (by first | assumption | omega (splitDisjunctions := false) | omega | decide)
                  · have twx86 : ¬ v.toInt ≤ 126 := fun z9 => wx86 ((ti_le rfl (by decide)).mpr z9)
                    refine pb_aload_n (pc := 176) d_Mod_reference_176 3 rfl rfl ?_
                    refine pb_iload_n (pc := 177) d_Mod_reference_177 1 rfl rfl ?_
                    refine pb_callV (pc := 178) (I := i_Mod_reference) (qb := 0) (ci := 10) (nA := 1) (rest := []) (wr := [(m_mark, .inl (G.2.1, 4000, .inl a_mark))]) d_Mod_reference_178 (g_Mod_stop hl G h m_rels m_openRels m_closeRels m_openRel m_closeRel m_comment m_ends m_order m_tape m_count m_nameSize m_names m_size m_data m_looked m_file m_directory m_out m_row m_made m_length m_pressed m_mark m_idSize m_ids m_goalSize m_goals m_value m_faults m_reached v_thrown v_taped v_lookedSize v_fileSize v_directorySize v_outSize v_rowSize v_bitAt v_bitEnd v_why v_madeSize v_firstCount v_secondCount v_heldBits v_heldCount v_pressedSize a5_ v_bad v_markSize v_relationCount v_valueSize v_faultCount fr (by first | assumption | omega (splitDisjunctions := false) | omega | decide)) rfl rfl [0] [1] (by decide) rfl rfl rfl (by decide) (by decide) k_1604 rfl k_128 k_1601 k_1603 k_103 ⟨rfl, hy_Mod_stop⟩ (by decide) rfl rfl (Nat.le_of_ble_eq_true rfl) (by decide) (fun v9 ux88 ch87 => ?_)
                    obtain ⟨at_89, b_90⟩ := ux88
                    obtain ⟨ech87, ch87⟩ := ch87
                    have ech87 : v9 = none := ech87
                    subst ech87
                    obtain ⟨fh91, fh92, fh93⟩ : (b_90.toInt = 1) ∧ (v_bad.toInt = 0 → at_89.toInt = fr.toInt) ∧ (v_bad.toInt ≠ 0 → at_89.toInt = a5_.toInt) := ch87
                    refine pb_eq (pc' := 181) (lo' := [(3, .int z), (1, .int fr), (2, .int v), (0, .ref h)]) (rest' := []) (ws' := [(m_mark, .inl (G.2.1, 4000, .inl a_mark)), (h, .inr (10, [.ref m_rels, .ref m_openRels, .ref m_closeRels, .ref m_openRel, .ref m_closeRel, .ref m_comment, .ref m_ends, .ref m_order, .int v_thrown, .int v_taped, .ref m_tape, .ref m_count, .ref m_nameSize, .ref m_names, .ref m_size, .ref m_data, .int v_lookedSize, .ref m_looked, .int v_fileSize, .ref m_file, .int v_directorySize, .ref m_directory, .int v_outSize, .ref m_out, .int v_rowSize, .ref m_row, .int v_bitAt, .int v_bitEnd, .int v_why, .int v_madeSize, .ref m_made, .ref m_length, .int v_firstCount, .int v_secondCount, .int v_heldBits, .int v_heldCount, .int v_pressedSize, .ref m_pressed, .int at_89, .int b_90, .int v_markSize, .ref m_mark, .int v_relationCount, .ref m_idSize, .ref m_ids, .ref m_goalSize, .ref m_goals, .int v_valueSize, .ref m_value, .int v_faultCount, .ref m_faults, .ref m_reached]))]) ?_
                    refine pb_re (ws' := [(h, .inr (10, [.ref m_rels, .ref m_openRels, .ref m_closeRels, .ref m_openRel, .ref m_closeRel, .ref m_comment, .ref m_ends, .ref m_order, .int v_thrown, .int v_taped, .ref m_tape, .ref m_count, .ref m_nameSize, .ref m_names, .ref m_size, .ref m_data, .int v_lookedSize, .ref m_looked, .int v_fileSize, .ref m_file, .int v_directorySize, .ref m_directory, .int v_outSize, .ref m_out, .int v_rowSize, .ref m_row, .int v_bitAt, .int v_bitEnd, .int v_why, .int v_madeSize, .ref m_made, .ref m_length, .int v_firstCount, .int v_secondCount, .int v_heldBits, .int v_heldCount, .int v_pressedSize, .ref m_pressed, .int at_89, .int b_90, .int v_markSize, .ref m_mark, .int v_relationCount, .ref m_idSize, .ref m_ids, .ref m_goalSize, .ref m_goals, .int v_valueSize, .ref m_value, .int v_faultCount, .ref m_faults, .ref m_reached])), (m_mark, .inl (G.2.1, 4000, .inl a_mark))]) (lo' := [(1, .int fr), (2, .int v), (0, .ref h)]) [1, 0] [1, 2, 3] (by decide) rfl rfl rfl ?_
                    exact hJ181_60 at_89 b_90 (by first | assumption | omega (splitDisjunctions := false) | omega | decide) (by first | assumption | omega (splitDisjunctions := false) | omega | decide) (by first | assumption | omega (splitDisjunctions := false) | omega | decide)
            refine pb_aload_n (pc := 135) d_Mod_reference_135 2 rfl rfl ?_
            refine pb_get (pc := 136) d_Mod_reference_136 0 38 rfl rfl (by decide) in_Mod k_1184 rfl ?_
            refine pb_iload_n (pc := 139) d_Mod_reference_139 0 rfl rfl ?_
            refine pb_icmp_le (pc := 140) (tgt := 158) d_Mod_reference_140 (by decide) (fun wx94 => ?_) (fun wx94 => ?_)
            · have twx94 : a5_.toInt ≤ fr.toInt := (ti_le rfl rfl).mp wx94
              refine pb_iconst (pc := 158) (v := 0) d_Mod_reference_158 (by decide) ?_
              refine pb_istore_n (pc := 159) (lo' := [(3, .int 0), (1, .int fr), (2, .int v), (0, .ref h)]) d_Mod_reference_159 rfl (by decide) rfl ?_
              exact hJ160_59 0
            · have twx94 : ¬ a5_.toInt ≤ fr.toInt := fun z9 => wx94 ((ti_le rfl rfl).mpr z9)
              refine pb_aload_n (pc := 143) d_Mod_reference_143 2 rfl rfl ?_
              refine pb_get (pc := 144) d_Mod_reference_144 0 41 rfl rfl (by decide) in_Mod k_1187 rfl ?_
              refine pb_iload_n (pc := 147) d_Mod_reference_147 0 rfl rfl ?_
              refine pb_bald (pc := 148) d_Mod_reference_148 1 rfl (vp_in_iff.mpr (by omega)) ?_
              refine pb_topi (fun ix95 eix95 => ?_)
              have tix95 : -128 ≤ ix95.toInt ∧ ix95.toInt ≤ 127 := ti_fit (F_a_mark _) eix95
              refine pb_bipush (pc := 149) (v := 48) d_Mod_reference_149 (by decide) ?_
              refine pb_icmp_ne (pc := 151) (tgt := 158) d_Mod_reference_151 (by decide) (fun wx96 => ?_) (fun wx96 => ?_)
              · have twx96 : ¬ ix95.toInt = 48 := fun z9 => wx96 ((ti_eq rfl (by decide)).mpr z9)
                refine pb_iconst (pc := 158) (v := 0) d_Mod_reference_158 (by decide) ?_
                refine pb_istore_n (pc := 159) (lo' := [(3, .int 0), (1, .int fr), (2, .int v), (0, .ref h)]) d_Mod_reference_159 rfl (by decide) rfl ?_
                exact hJ160_59 0
              · have twx96 : ix95.toInt = 48 := (ti_eq rfl (by decide)).mp wx96
                refine pb_iconst (pc := 154) (v := 1) d_Mod_reference_154 (by decide) ?_
                refine pb_goto (pc := 155) (tgt := 159) d_Mod_reference_155 (by decide) ?_
                refine pb_istore_n (pc := 159) (lo' := [(3, .int 1), (1, .int fr), (2, .int v), (0, .ref h)]) d_Mod_reference_159 rfl (by decide) rfl ?_
                exact hJ160_59 1
          · have twx58 : ¬ r_53.toInt < 48 := fun z9 => wx58 ((ti_lt rfl (by decide)).mpr z9)
            refine pb_aload_n (pc := 100) d_Mod_reference_100 2 rfl rfl ?_
            refine pb_callV (pc := 101) (I := i_Mod_reference) (qb := 0) (ci := 10) (nA := 0) (rest := []) (wr := []) d_Mod_reference_101 (g_Mod_here hl G h m_rels m_openRels m_closeRels m_openRel m_closeRel m_comment m_ends m_order m_tape m_count m_nameSize m_names m_size m_data m_looked m_file m_directory m_out m_row m_made m_length m_pressed m_mark m_idSize m_ids m_goalSize m_goals m_value m_faults m_reached v_thrown v_taped v_lookedSize v_fileSize v_directorySize v_outSize v_rowSize v_bitAt v_bitEnd v_why v_madeSize v_firstCount v_secondCount v_heldBits v_heldCount v_pressedSize a5_ v_bad v_markSize v_relationCount v_valueSize v_faultCount a_mark (by first | assumption | omega (splitDisjunctions := false) | omega | decide) (by first | assumption | omega (splitDisjunctions := false) | omega | decide) (by first | assumption | omega (splitDisjunctions := false) | omega | decide) (by first | assumption | omega (splitDisjunctions := false) | omega | decide) F_a_mark) rfl rfl [0, 1] [] (by decide) rfl rfl rfl (by decide) (by decide) k_1585 rfl k_128 k_1582 k_1584 k_99 ⟨rfl, hy_Mod_here⟩ (by decide) rfl rfl (Nat.le_of_ble_eq_true rfl) (by decide) (fun v9 ux98 ch97 => ?_)
            obtain ⟨r_99, rfl⟩ : ∃ z9, z9 = ux98 := ⟨_, rfl⟩
            obtain ⟨ech97, ch97⟩ := ch97
            have ech97 : v9 = some (.int r_99) := ech97
            subst ech97
            obtain ⟨fh100, fh101, fh102, fh103⟩ : (-1 ≤ r_99.toInt) ∧ (r_99.toInt ≤ 255) ∧ (0 ≤ r_99.toInt → a5_.toInt < v_markSize.toInt) ∧ (r_99.toInt < 0 → a5_.toInt = v_markSize.toInt) := ch97
            refine pb_eq (pc' := 104) (lo' := [(1, .int fr), (2, .int v), (0, .ref h)]) (rest' := [.int r_99]) (ws' := [(h, .inr (10, [.ref m_rels, .ref m_openRels, .ref m_closeRels, .ref m_openRel, .ref m_closeRel, .ref m_comment, .ref m_ends, .ref m_order, .int v_thrown, .int v_taped, .ref m_tape, .ref m_count, .ref m_nameSize, .ref m_names, .ref m_size, .ref m_data, .int v_lookedSize, .ref m_looked, .int v_fileSize, .ref m_file, .int v_directorySize, .ref m_directory, .int v_outSize, .ref m_out, .int v_rowSize, .ref m_row, .int v_bitAt, .int v_bitEnd, .int v_why, .int v_madeSize, .ref m_made, .ref m_length, .int v_firstCount, .int v_secondCount, .int v_heldBits, .int v_heldCount, .int v_pressedSize, .ref m_pressed, .int a5_, .int v_bad, .int v_markSize, .ref m_mark, .int v_relationCount, .ref m_idSize, .ref m_ids, .ref m_goalSize, .ref m_goals, .int v_valueSize, .ref m_value, .int v_faultCount, .ref m_faults, .ref m_reached])), (m_mark, .inl (G.2.1, 4000, .inl a_mark))]) ?_
            refine pb_bipush (pc := 104) (v := 57) d_Mod_reference_104 (by decide) ?_
            refine pb_icmp_gt (pc := 106) (tgt := 135) d_Mod_reference_106 (by decide) (fun wx104 => ?_) (fun wx104 => ?_)
            · have twx104 : 57 < r_99.toInt := (ti_lt (by decide) rfl).mp wx104
              have hJ160_105 : ∀ (z : Int32), pb_P l G M i_Mod_reference 160 [(3, .int z), (1, .int fr), (2, .int v), (0, .ref h)] [] [(h, .inr (10, [.ref m_rels, .ref m_openRels, .ref m_closeRels, .ref m_openRel, .ref m_closeRel, .ref m_comment, .ref m_ends, .ref m_order, .int v_thrown, .int v_taped, .ref m_tape, .ref m_count, .ref m_nameSize, .ref m_names, .ref m_size, .ref m_data, .int v_lookedSize, .ref m_looked, .int v_fileSize, .ref m_file, .int v_directorySize, .ref m_directory, .int v_outSize, .ref m_out, .int v_rowSize, .ref m_row, .int v_bitAt, .int v_bitEnd, .int v_why, .int v_madeSize, .ref m_made, .ref m_length, .int v_firstCount, .int v_secondCount, .int v_heldBits, .int v_heldCount, .int v_pressedSize, .ref m_pressed, .int a5_, .int v_bad, .int v_markSize, .ref m_mark, .int v_relationCount, .ref m_idSize, .ref m_ids, .ref m_goalSize, .ref m_goals, .int v_valueSize, .ref m_value, .int v_faultCount, .ref m_faults, .ref m_reached])), (m_mark, .inl (G.2.1, 4000, .inl a_mark))] 0 0 := by
                intro z
                have hJ181_106 : ∀ (a6_ : Int32) (b6 : Int32), (v_at.toInt ≤ a6_.toInt) → (a6_.toInt ≤ v_markSize.toInt) → (b6.toInt = 0 ∨ b6.toInt = 1) → pb_P l G M i_Mod_reference 181 [(1, .int fr), (2, .int v), (0, .ref h)] [] [(h, .inr (10, [.ref m_rels, .ref m_openRels, .ref m_closeRels, .ref m_openRel, .ref m_closeRel, .ref m_comment, .ref m_ends, .ref m_order, .int v_thrown, .int v_taped, .ref m_tape, .ref m_count, .ref m_nameSize, .ref m_names, .ref m_size, .ref m_data, .int v_lookedSize, .ref m_looked, .int v_fileSize, .ref m_file, .int v_directorySize, .ref m_directory, .int v_outSize, .ref m_out, .int v_rowSize, .ref m_row, .int v_bitAt, .int v_bitEnd, .int v_why, .int v_madeSize, .ref m_made, .ref m_length, .int v_firstCount, .int v_secondCount, .int v_heldBits, .int v_heldCount, .int v_pressedSize, .ref m_pressed, .int a6_, .int b6, .int v_markSize, .ref m_mark, .int v_relationCount, .ref m_idSize, .ref m_ids, .ref m_goalSize, .ref m_goals, .int v_valueSize, .ref m_value, .int v_faultCount, .ref m_faults, .ref m_reached])), (m_mark, .inl (G.2.1, 4000, .inl a_mark))] 0 0 := by
                  intro a6_ b6 m0 m1 m2
                  refine pb_aload_n (pc := 181) d_Mod_reference_181 2 rfl rfl ?_
                  refine pb_bipush (pc := 182) (v := 59) d_Mod_reference_182 (by decide) ?_
                  refine pb_callV (pc := 184) (I := i_Mod_reference) (qb := 0) (ci := 10) (nA := 1) (rest := []) (wr := []) d_Mod_reference_184 (g_Mod_need hl G h m_rels m_openRels m_closeRels m_openRel m_closeRel m_comment m_ends m_order m_tape m_count m_nameSize m_names m_size m_data m_looked m_file m_directory m_out m_row m_made m_length m_pressed m_mark m_idSize m_ids m_goalSize m_goals m_value m_faults m_reached v_thrown v_taped v_lookedSize v_fileSize v_directorySize v_outSize v_rowSize v_bitAt v_bitEnd v_why v_madeSize v_firstCount v_secondCount v_heldBits v_heldCount v_pressedSize a6_ b6 v_markSize v_relationCount v_valueSize v_faultCount a_mark 59 (by first | assumption | omega (splitDisjunctions := false) | omega | decide) (by first | assumption | omega (splitDisjunctions := false) | omega | decide) (by first | assumption | omega (splitDisjunctions := false) | omega | decide) (by first | assumption | omega (splitDisjunctions := false) | omega | decide) (by first | assumption | omega (splitDisjunctions := false) | omega | decide) (by first | assumption | decide | omega)) rfl rfl [0, 1] [] (by decide) rfl rfl rfl (by decide) (by decide) k_1600 rfl k_128 k_1597 k_1599 k_102 ⟨rfl, hy_Mod_need⟩ (by decide) rfl rfl (Nat.le_of_ble_eq_true rfl) (by decide) (fun v9 ux108 ch107 => ?_)
                  obtain ⟨at_109, b_110⟩ := ux108
                  obtain ⟨ech107, ch107⟩ := ch107
                  have ech107 : v9 = none := ech107
                  subst ech107
                  obtain ⟨fh111, fh112, fh113, fh114, fh115⟩ : (a6_.toInt ≤ at_109.toInt) ∧ (at_109.toInt ≤ v_markSize.toInt) ∧ (b_110.toInt = 0 ∨ b_110.toInt = 1) ∧ (b_110.toInt = 0 → b6.toInt = 0) ∧ (b_110.toInt = 0 → at_109.toInt = a6_.toInt + 1) := ch107
                  refine pb_eq (pc' := 187) (lo' := [(1, .int fr), (2, .int v), (0, .ref h)]) (rest' := []) (ws' := [(h, .inr (10, [.ref m_rels, .ref m_openRels, .ref m_closeRels, .ref m_openRel, .ref m_closeRel, .ref m_comment, .ref m_ends, .ref m_order, .int v_thrown, .int v_taped, .ref m_tape, .ref m_count, .ref m_nameSize, .ref m_names, .ref m_size, .ref m_data, .int v_lookedSize, .ref m_looked, .int v_fileSize, .ref m_file, .int v_directorySize, .ref m_directory, .int v_outSize, .ref m_out, .int v_rowSize, .ref m_row, .int v_bitAt, .int v_bitEnd, .int v_why, .int v_madeSize, .ref m_made, .ref m_length, .int v_firstCount, .int v_secondCount, .int v_heldBits, .int v_heldCount, .int v_pressedSize, .ref m_pressed, .int at_109, .int b_110, .int v_markSize, .ref m_mark, .int v_relationCount, .ref m_idSize, .ref m_ids, .ref m_goalSize, .ref m_goals, .int v_valueSize, .ref m_value, .int v_faultCount, .ref m_faults, .ref m_reached])), (m_mark, .inl (G.2.1, 4000, .inl a_mark))]) ?_
                  refine pb_iload_n (pc := 187) d_Mod_reference_187 1 rfl rfl ?_
                  exact pb_iret (pc := 188) hQ d_Mod_reference_188 rfl rfl (v, at_109, b_110) ⟨rfl, (by (try dsimp only); first | done | assumption | omega (splitDisjunctions := false) | omega | decide), (by (try dsimp only); first | done | assumption | omega (splitDisjunctions := false) | omega | decide), (by (try dsimp only); first | done | assumption | omega (splitDisjunctions := false) | omega | decide), (by (try dsimp only); first | done | assumption | omega (splitDisjunctions := false) | omega | decide)⟩ [0, 1] (by decide) rfl rfl (by decide) (by decide)
                refine pb_iload_n (pc := 160) d_Mod_reference_160 0 rfl rfl ?_
                refine pb_if_ne (pc := 161) (tgt := 176) d_Mod_reference_161 (by decide) (fun wx116 => ?_) (fun wx116 => ?_)
                · have twx116 : ¬ z.toInt = 0 := fun z9 => wx116 ((ti_eq rfl (by decide)).mpr z9)
                  refine pb_aload_n (pc := 176) d_Mod_reference_176 3 rfl rfl ?_
                  refine pb_iload_n (pc := 177) d_Mod_reference_177 1 rfl rfl ?_
                  refine pb_callV (pc := 178) (I := i_Mod_reference) (qb := 0) (ci := 10) (nA := 1) (rest := []) (wr := [(m_mark, .inl (G.2.1, 4000, .inl a_mark))]) d_Mod_reference_178 (g_Mod_stop hl G h m_rels m_openRels m_closeRels m_openRel m_closeRel m_comment m_ends m_order m_tape m_count m_nameSize m_names m_size m_data m_looked m_file m_directory m_out m_row m_made m_length m_pressed m_mark m_idSize m_ids m_goalSize m_goals m_value m_faults m_reached v_thrown v_taped v_lookedSize v_fileSize v_directorySize v_outSize v_rowSize v_bitAt v_bitEnd v_why v_madeSize v_firstCount v_secondCount v_heldBits v_heldCount v_pressedSize a5_ v_bad v_markSize v_relationCount v_valueSize v_faultCount fr (by first | assumption | omega (splitDisjunctions := false) | omega | decide)) rfl rfl [0] [1] (by decide) rfl rfl rfl (by decide) (by decide) k_1604 rfl k_128 k_1601 k_1603 k_103 ⟨rfl, hy_Mod_stop⟩ (by decide) rfl rfl (Nat.le_of_ble_eq_true rfl) (by decide) (fun v9 ux118 ch117 => ?_)
                  obtain ⟨at_119, b_120⟩ := ux118
                  obtain ⟨ech117, ch117⟩ := ch117
                  have ech117 : v9 = none := ech117
                  subst ech117
                  obtain ⟨fh121, fh122, fh123⟩ : (b_120.toInt = 1) ∧ (v_bad.toInt = 0 → at_119.toInt = fr.toInt) ∧ (v_bad.toInt ≠ 0 → at_119.toInt = a5_.toInt) := ch117
                  refine pb_eq (pc' := 181) (lo' := [(3, .int z), (1, .int fr), (2, .int v), (0, .ref h)]) (rest' := []) (ws' := [(m_mark, .inl (G.2.1, 4000, .inl a_mark)), (h, .inr (10, [.ref m_rels, .ref m_openRels, .ref m_closeRels, .ref m_openRel, .ref m_closeRel, .ref m_comment, .ref m_ends, .ref m_order, .int v_thrown, .int v_taped, .ref m_tape, .ref m_count, .ref m_nameSize, .ref m_names, .ref m_size, .ref m_data, .int v_lookedSize, .ref m_looked, .int v_fileSize, .ref m_file, .int v_directorySize, .ref m_directory, .int v_outSize, .ref m_out, .int v_rowSize, .ref m_row, .int v_bitAt, .int v_bitEnd, .int v_why, .int v_madeSize, .ref m_made, .ref m_length, .int v_firstCount, .int v_secondCount, .int v_heldBits, .int v_heldCount, .int v_pressedSize, .ref m_pressed, .int at_119, .int b_120, .int v_markSize, .ref m_mark, .int v_relationCount, .ref m_idSize, .ref m_ids, .ref m_goalSize, .ref m_goals, .int v_valueSize, .ref m_value, .int v_faultCount, .ref m_faults, .ref m_reached]))]) ?_
                  refine pb_re (ws' := [(h, .inr (10, [.ref m_rels, .ref m_openRels, .ref m_closeRels, .ref m_openRel, .ref m_closeRel, .ref m_comment, .ref m_ends, .ref m_order, .int v_thrown, .int v_taped, .ref m_tape, .ref m_count, .ref m_nameSize, .ref m_names, .ref m_size, .ref m_data, .int v_lookedSize, .ref m_looked, .int v_fileSize, .ref m_file, .int v_directorySize, .ref m_directory, .int v_outSize, .ref m_out, .int v_rowSize, .ref m_row, .int v_bitAt, .int v_bitEnd, .int v_why, .int v_madeSize, .ref m_made, .ref m_length, .int v_firstCount, .int v_secondCount, .int v_heldBits, .int v_heldCount, .int v_pressedSize, .ref m_pressed, .int at_119, .int b_120, .int v_markSize, .ref m_mark, .int v_relationCount, .ref m_idSize, .ref m_ids, .ref m_goalSize, .ref m_goals, .int v_valueSize, .ref m_value, .int v_faultCount, .ref m_faults, .ref m_reached])), (m_mark, .inl (G.2.1, 4000, .inl a_mark))]) (lo' := [(1, .int fr), (2, .int v), (0, .ref h)]) [1, 0] [1, 2, 3] (by decide) rfl rfl rfl ?_
                  exact hJ181_106 at_119 b_120 (by first | assumption | omega (splitDisjunctions := false) | omega | decide) (by first | assumption | omega (splitDisjunctions := false) | omega | decide) (by first | assumption | omega (splitDisjunctions := false) | omega | decide)
                · have twx116 : z.toInt = 0 := (ti_eq rfl (by decide)).mp wx116
                  refine pb_iload_n (pc := 164) d_Mod_reference_164 2 rfl rfl ?_
                  refine pb_bipush (pc := 165) (v := 32) d_Mod_reference_165 (by decide) ?_
                  refine pb_icmp_lt (pc := 167) (tgt := 176) d_Mod_reference_167 (by decide) (fun wx124 => ?_) (fun wx124 => ?_)
                  · have twx124 : v.toInt < 32 := (ti_lt rfl (by decide)).mp wx124
                    refine pb_aload_n (pc := 176) d_Mod_reference_176 3 rfl rfl ?_
                    refine pb_iload_n (pc := 177) d_Mod_reference_177 1 rfl rfl ?_
                    refine pb_callV (pc := 178) (I := i_Mod_reference) (qb := 0) (ci := 10) (nA := 1) (rest := []) (wr := [(m_mark, .inl (G.2.1, 4000, .inl a_mark))]) d_Mod_reference_178 (g_Mod_stop hl G h m_rels m_openRels m_closeRels m_openRel m_closeRel m_comment m_ends m_order m_tape m_count m_nameSize m_names m_size m_data m_looked m_file m_directory m_out m_row m_made m_length m_pressed m_mark m_idSize m_ids m_goalSize m_goals m_value m_faults m_reached v_thrown v_taped v_lookedSize v_fileSize v_directorySize v_outSize v_rowSize v_bitAt v_bitEnd v_why v_madeSize v_firstCount v_secondCount v_heldBits v_heldCount v_pressedSize a5_ v_bad v_markSize v_relationCount v_valueSize v_faultCount fr (by first | assumption | omega (splitDisjunctions := false) | omega | decide)) rfl rfl [0] [1] (by decide) rfl rfl rfl (by decide) (by decide) k_1604 rfl k_128 k_1601 k_1603 k_103 ⟨rfl, hy_Mod_stop⟩ (by decide) rfl rfl (Nat.le_of_ble_eq_true rfl) (by decide) (fun v9 ux126 ch125 => ?_)
                    obtain ⟨at_127, b_128⟩ := ux126
                    obtain ⟨ech125, ch125⟩ := ch125
                    have ech125 : v9 = none := ech125
                    subst ech125
                    obtain ⟨fh129, fh130, fh131⟩ : (b_128.toInt = 1) ∧ (v_bad.toInt = 0 → at_127.toInt = fr.toInt) ∧ (v_bad.toInt ≠ 0 → at_127.toInt = a5_.toInt) := ch125
                    refine pb_eq (pc' := 181) (lo' := [(3, .int z), (1, .int fr), (2, .int v), (0, .ref h)]) (rest' := []) (ws' := [(m_mark, .inl (G.2.1, 4000, .inl a_mark)), (h, .inr (10, [.ref m_rels, .ref m_openRels, .ref m_closeRels, .ref m_openRel, .ref m_closeRel, .ref m_comment, .ref m_ends, .ref m_order, .int v_thrown, .int v_taped, .ref m_tape, .ref m_count, .ref m_nameSize, .ref m_names, .ref m_size, .ref m_data, .int v_lookedSize, .ref m_looked, .int v_fileSize, .ref m_file, .int v_directorySize, .ref m_directory, .int v_outSize, .ref m_out, .int v_rowSize, .ref m_row, .int v_bitAt, .int v_bitEnd, .int v_why, .int v_madeSize, .ref m_made, .ref m_length, .int v_firstCount, .int v_secondCount, .int v_heldBits, .int v_heldCount, .int v_pressedSize, .ref m_pressed, .int at_127, .int b_128, .int v_markSize, .ref m_mark, .int v_relationCount, .ref m_idSize, .ref m_ids, .ref m_goalSize, .ref m_goals, .int v_valueSize, .ref m_value, .int v_faultCount, .ref m_faults, .ref m_reached]))]) ?_
                    refine pb_re (ws' := [(h, .inr (10, [.ref m_rels, .ref m_openRels, .ref m_closeRels, .ref m_openRel, .ref m_closeRel, .ref m_comment, .ref m_ends, .ref m_order, .int v_thrown, .int v_taped, .ref m_tape, .ref m_count, .ref m_nameSize, .ref m_names, .ref m_size, .ref m_data, .int v_lookedSize, .ref m_looked, .int v_fileSize, .ref m_file, .int v_directorySize, .ref m_directory, .int v_outSize, .ref m_out, .int v_rowSize, .ref m_row, .int v_bitAt, .int v_bitEnd, .int v_why, .int v_madeSize, .ref m_made, .ref m_length, .int v_firstCount, .int v_secondCount, .int v_heldBits, .int v_heldCount, .int v_pressedSize, .ref m_pressed, .int at_127, .int b_128, .int v_markSize, .ref m_mark, .int v_relationCount, .ref m_idSize, .ref m_ids, .ref m_goalSize, .ref m_goals, .int v_valueSize, .ref m_value, .int v_faultCount, .ref m_faults, .ref m_reached])), (m_mark, .inl (G.2.1, 4000, .inl a_mark))]) (lo' := [(1, .int fr), (2, .int v), (0, .ref h)]) [1, 0] [1, 2, 3] (by decide) rfl rfl rfl ?_
                    exact hJ181_106 at_127 b_128 (by first | assumption | omega (splitDisjunctions := false) | omega | decide) (by first | assumption | omega (splitDisjunctions := false) | omega | decide) (by first | assumption | omega (splitDisjunctions := false) | omega | decide)
                  · have twx124 : ¬ v.toInt < 32 := fun z9 => wx124 ((ti_lt rfl (by decide)).mpr z9)
                    refine pb_iload_n (pc := 170) d_Mod_reference_170 2 rfl rfl ?_
                    refine pb_bipush (pc := 171) (v := 126) d_Mod_reference_171 (by decide) ?_
                    refine pb_icmp_le (pc := 173) (tgt := 181) d_Mod_reference_173 (by decide) (fun wx132 => ?_) (fun wx132 => ?_)
                    · have twx132 : v.toInt ≤ 126 := (ti_le rfl (by decide)).mp wx132
                      refine pb_re (ws' := [(h, .inr (10, [.ref m_rels, .ref m_openRels, .ref m_closeRels, .ref m_openRel, .ref m_closeRel, .ref m_comment, .ref m_ends, .ref m_order, .int v_thrown, .int v_taped, .ref m_tape, .ref m_count, .ref m_nameSize, .ref m_names, .ref m_size, .ref m_data, .int v_lookedSize, .ref m_looked, .int v_fileSize, .ref m_file, .int v_directorySize, .ref m_directory, .int v_outSize, .ref m_out, .int v_rowSize, .ref m_row, .int v_bitAt, .int v_bitEnd, .int v_why, .int v_madeSize, .ref m_made, .ref m_length, .int v_firstCount, .int v_secondCount, .int v_heldBits, .int v_heldCount, .int v_pressedSize, .ref m_pressed, .int a5_, .int v_bad, .int v_markSize, .ref m_mark, .int v_relationCount, .ref m_idSize, .ref m_ids, .ref m_goalSize, .ref m_goals, .int v_valueSize, .ref m_value, .int v_faultCount, .ref m_faults, .ref m_reached])), (m_mark, .inl (G.2.1, 4000, .inl a_mark))]) (lo' := [(1, .int fr), (2, .int v), (0, .ref h)]) [0, 1] [1, 2, 3] (by decide) rfl rfl rfl ?_
                      exact hJ181_106 a5_ v_bad (by first | assumption | omega (splitDisjunctions := false) | omega | decide) (by first | assumption | omega (splitDisjunctions := false) | omega | decide) (by first | assumption | omega (splitDisjunctions := false) | omega | decide)
                    · have twx132 : ¬ v.toInt ≤ 126 := fun z9 => wx132 ((ti_le rfl (by decide)).mpr z9)
                      refine pb_aload_n (pc := 176) d_Mod_reference_176 3 rfl rfl ?_
                      refine pb_iload_n (pc := 177) d_Mod_reference_177 1 rfl rfl ?_
                      refine pb_callV (pc := 178) (I := i_Mod_reference) (qb := 0) (ci := 10) (nA := 1) (rest := []) (wr := [(m_mark, .inl (G.2.1, 4000, .inl a_mark))]) d_Mod_reference_178 (g_Mod_stop hl G h m_rels m_openRels m_closeRels m_openRel m_closeRel m_comment m_ends m_order m_tape m_count m_nameSize m_names m_size m_data m_looked m_file m_directory m_out m_row m_made m_length m_pressed m_mark m_idSize m_ids m_goalSize m_goals m_value m_faults m_reached v_thrown v_taped v_lookedSize v_fileSize v_directorySize v_outSize v_rowSize v_bitAt v_bitEnd v_why v_madeSize v_firstCount v_secondCount v_heldBits v_heldCount v_pressedSize a5_ v_bad v_markSize v_relationCount v_valueSize v_faultCount fr (by first | assumption | omega (splitDisjunctions := false) | omega | decide)) rfl rfl [0] [1] (by decide) rfl rfl rfl (by decide) (by decide) k_1604 rfl k_128 k_1601 k_1603 k_103 ⟨rfl, hy_Mod_stop⟩ (by decide) rfl rfl (Nat.le_of_ble_eq_true rfl) (by decide) (fun v9 ux134 ch133 => ?_)
                      obtain ⟨at_135, b_136⟩ := ux134
                      obtain ⟨ech133, ch133⟩ := ch133
                      have ech133 : v9 = none := ech133
                      subst ech133
                      obtain ⟨fh137, fh138, fh139⟩ : (b_136.toInt = 1) ∧ (v_bad.toInt = 0 → at_135.toInt = fr.toInt) ∧ (v_bad.toInt ≠ 0 → at_135.toInt = a5_.toInt) := ch133
                      refine pb_eq (pc' := 181) (lo' := [(3, .int z), (1, .int fr), (2, .int v), (0, .ref h)]) (rest' := []) (ws' := [(m_mark, .inl (G.2.1, 4000, .inl a_mark)), (h, .inr (10, [.ref m_rels, .ref m_openRels, .ref m_closeRels, .ref m_openRel, .ref m_closeRel, .ref m_comment, .ref m_ends, .ref m_order, .int v_thrown, .int v_taped, .ref m_tape, .ref m_count, .ref m_nameSize, .ref m_names, .ref m_size, .ref m_data, .int v_lookedSize, .ref m_looked, .int v_fileSize, .ref m_file, .int v_directorySize, .ref m_directory, .int v_outSize, .ref m_out, .int v_rowSize, .ref m_row, .int v_bitAt, .int v_bitEnd, .int v_why, .int v_madeSize, .ref m_made, .ref m_length, .int v_firstCount, .int v_secondCount, .int v_heldBits, .int v_heldCount, .int v_pressedSize, .ref m_pressed, .int at_135, .int b_136, .int v_markSize, .ref m_mark, .int v_relationCount, .ref m_idSize, .ref m_ids, .ref m_goalSize, .ref m_goals, .int v_valueSize, .ref m_value, .int v_faultCount, .ref m_faults, .ref m_reached]))]) ?_
                      refine pb_re (ws' := [(h, .inr (10, [.ref m_rels, .ref m_openRels, .ref m_closeRels, .ref m_openRel, .ref m_closeRel, .ref m_comment, .ref m_ends, .ref m_order, .int v_thrown, .int v_taped, .ref m_tape, .ref m_count, .ref m_nameSize, .ref m_names, .ref m_size, .ref m_data, .int v_lookedSize, .ref m_looked, .int v_fileSize, .ref m_file, .int v_directorySize, .ref m_directory, .int v_outSize, .ref m_out, .int v_rowSize, .ref m_row, .int v_bitAt, .int v_bitEnd, .int v_why, .int v_madeSize, .ref m_made, .ref m_length, .int v_firstCount, .int v_secondCount, .int v_heldBits, .int v_heldCount, .int v_pressedSize, .ref m_pressed, .int at_135, .int b_136, .int v_markSize, .ref m_mark, .int v_relationCount, .ref m_idSize, .ref m_ids, .ref m_goalSize, .ref m_goals, .int v_valueSize, .ref m_value, .int v_faultCount, .ref m_faults, .ref m_reached])), (m_mark, .inl (G.2.1, 4000, .inl a_mark))]) (lo' := [(1, .int fr), (2, .int v), (0, .ref h)]) [1, 0] [1, 2, 3] (by decide) rfl rfl rfl ?_
                      exact hJ181_106 at_135 b_136 (by first | assumption | omega (splitDisjunctions := false) | omega | decide) (by first | assumption | omega (splitDisjunctions := false) | omega | decide) (by first | assumption | omega (splitDisjunctions := false) | omega | decide)
              refine pb_aload_n (pc := 135) d_Mod_reference_135 2 rfl rfl ?_
              refine pb_get (pc := 136) d_Mod_reference_136 0 38 rfl rfl (by decide) in_Mod k_1184 rfl ?_
              refine pb_iload_n (pc := 139) d_Mod_reference_139 0 rfl rfl ?_
              refine pb_icmp_le (pc := 140) (tgt := 158) d_Mod_reference_140 (by decide) (fun wx140 => ?_) (fun wx140 => ?_)
              · have twx140 : a5_.toInt ≤ fr.toInt := (ti_le rfl rfl).mp wx140
                refine pb_iconst (pc := 158) (v := 0) d_Mod_reference_158 (by decide) ?_
                refine pb_istore_n (pc := 159) (lo' := [(3, .int 0), (1, .int fr), (2, .int v), (0, .ref h)]) d_Mod_reference_159 rfl (by decide) rfl ?_
                exact hJ160_105 0
              · have twx140 : ¬ a5_.toInt ≤ fr.toInt := fun z9 => wx140 ((ti_le rfl rfl).mpr z9)
                refine pb_aload_n (pc := 143) d_Mod_reference_143 2 rfl rfl ?_
                refine pb_get (pc := 144) d_Mod_reference_144 0 41 rfl rfl (by decide) in_Mod k_1187 rfl ?_
                refine pb_iload_n (pc := 147) d_Mod_reference_147 0 rfl rfl ?_
                refine pb_bald (pc := 148) d_Mod_reference_148 1 rfl (vp_in_iff.mpr (by omega)) ?_
                refine pb_topi (fun ix141 eix141 => ?_)
                have tix141 : -128 ≤ ix141.toInt ∧ ix141.toInt ≤ 127 := ti_fit (F_a_mark _) eix141
                refine pb_bipush (pc := 149) (v := 48) d_Mod_reference_149 (by decide) ?_
                refine pb_icmp_ne (pc := 151) (tgt := 158) d_Mod_reference_151 (by decide) (fun wx142 => ?_) (fun wx142 => ?_)
                · have twx142 : ¬ ix141.toInt = 48 := fun z9 => wx142 ((ti_eq rfl (by decide)).mpr z9)
                  refine pb_iconst (pc := 158) (v := 0) d_Mod_reference_158 (by decide) ?_
                  refine pb_istore_n (pc := 159) (lo' := [(3, .int 0), (1, .int fr), (2, .int v), (0, .ref h)]) d_Mod_reference_159 rfl (by decide) rfl ?_
                  exact hJ160_105 0
                · have twx142 : ix141.toInt = 48 := (ti_eq rfl (by decide)).mp wx142
                  refine pb_iconst (pc := 154) (v := 1) d_Mod_reference_154 (by decide) ?_
                  refine pb_goto (pc := 155) (tgt := 159) d_Mod_reference_155 (by decide) ?_
                  refine pb_istore_n (pc := 159) (lo' := [(3, .int 1), (1, .int fr), (2, .int v), (0, .ref h)]) d_Mod_reference_159 rfl (by decide) rfl ?_
                  exact hJ160_105 1
            · have twx104 : ¬ 57 < r_99.toInt := fun z9 => wx104 ((ti_lt (by decide) rfl).mpr z9)
              refine pb_bipush (pc := 109) (v := 10) d_Mod_reference_109 (by decide) ?_
              refine pb_iload_n (pc := 111) d_Mod_reference_111 1 rfl rfl ?_
              refine pb_imul (pc := 112) d_Mod_reference_112 ?_
              refine pb_topi (fun ix143 eix143 => ?_)
              try have tix143 : ix143.toInt = 10 * v.toInt := ti_mul eix143 (by decide) rfl (by omega) (by omega)
              refine pb_aload_n (pc := 113) d_Mod_reference_113 2 rfl rfl ?_
              refine pb_callV (pc := 114) (I := i_Mod_reference) (qb := 0) (ci := 10) (nA := 0) (rest := [.int ix143]) (wr := []) d_Mod_reference_114 (g_Mod_here hl G h m_rels m_openRels m_closeRels m_openRel m_closeRel m_comment m_ends m_order m_tape m_count m_nameSize m_names m_size m_data m_looked m_file m_directory m_out m_row m_made m_length m_pressed m_mark m_idSize m_ids m_goalSize m_goals m_value m_faults m_reached v_thrown v_taped v_lookedSize v_fileSize v_directorySize v_outSize v_rowSize v_bitAt v_bitEnd v_why v_madeSize v_firstCount v_secondCount v_heldBits v_heldCount v_pressedSize a5_ v_bad v_markSize v_relationCount v_valueSize v_faultCount a_mark (by first | assumption | omega (splitDisjunctions := false) | omega | decide) (by first | assumption | omega (splitDisjunctions := false) | omega | decide) (by first | assumption | omega (splitDisjunctions := false) | omega | decide) (by first | assumption | omega (splitDisjunctions := false) | omega | decide) F_a_mark) rfl rfl [0, 1] [] (by decide) rfl rfl rfl (by decide) (by decide) k_1585 rfl k_128 k_1582 k_1584 k_99 ⟨rfl, hy_Mod_here⟩ (by decide) rfl rfl (Nat.le_of_ble_eq_true rfl) (by decide) (fun v9 ux145 ch144 => ?_)
              obtain ⟨r_146, rfl⟩ : ∃ z9, z9 = ux145 := ⟨_, rfl⟩
              obtain ⟨ech144, ch144⟩ := ch144
              have ech144 : v9 = some (.int r_146) := ech144
              subst ech144
              obtain ⟨fh147, fh148, fh149, fh150⟩ : (-1 ≤ r_146.toInt) ∧ (r_146.toInt ≤ 255) ∧ (0 ≤ r_146.toInt → a5_.toInt < v_markSize.toInt) ∧ (r_146.toInt < 0 → a5_.toInt = v_markSize.toInt) := ch144
              refine pb_eq (pc' := 117) (lo' := [(1, .int fr), (2, .int v), (0, .ref h)]) (rest' := [.int r_146, .int ix143]) (ws' := [(h, .inr (10, [.ref m_rels, .ref m_openRels, .ref m_closeRels, .ref m_openRel, .ref m_closeRel, .ref m_comment, .ref m_ends, .ref m_order, .int v_thrown, .int v_taped, .ref m_tape, .ref m_count, .ref m_nameSize, .ref m_names, .ref m_size, .ref m_data, .int v_lookedSize, .ref m_looked, .int v_fileSize, .ref m_file, .int v_directorySize, .ref m_directory, .int v_outSize, .ref m_out, .int v_rowSize, .ref m_row, .int v_bitAt, .int v_bitEnd, .int v_why, .int v_madeSize, .ref m_made, .ref m_length, .int v_firstCount, .int v_secondCount, .int v_heldBits, .int v_heldCount, .int v_pressedSize, .ref m_pressed, .int a5_, .int v_bad, .int v_markSize, .ref m_mark, .int v_relationCount, .ref m_idSize, .ref m_ids, .ref m_goalSize, .ref m_goals, .int v_valueSize, .ref m_value, .int v_faultCount, .ref m_faults, .ref m_reached])), (m_mark, .inl (G.2.1, 4000, .inl a_mark))]) ?_
              refine pb_iadd (pc := 117) d_Mod_reference_117 ?_
              refine pb_topi (fun ix151 eix151 => ?_)
              try have tix151 : ix151.toInt = ix143.toInt + r_146.toInt := t2_add eix151 rfl rfl (by omega)
              refine pb_bipush (pc := 118) (v := 48) d_Mod_reference_118 (by decide) ?_
              refine pb_isub (pc := 120) d_Mod_reference_120 ?_
              refine pb_topi (fun ix152 eix152 => ?_)
              try have tix152 : ix152.toInt = ix151.toInt - 48 := t2_sub eix152 rfl (by decide) (by omega)
              refine pb_istore_n (pc := 121) (lo' := [(2, .int ix152), (1, .int fr), (0, .ref h)]) d_Mod_reference_121 rfl (by decide) rfl ?_
              refine pb_aload_n (pc := 122) d_Mod_reference_122 2 rfl rfl ?_
              refine pb_dup (pc := 123) d_Mod_reference_123 rfl ?_
              refine pb_get (pc := 124) d_Mod_reference_124 0 38 rfl rfl (by decide) in_Mod k_1184 rfl ?_
              refine pb_iconst (pc := 127) (v := 1) d_Mod_reference_127 (by decide) ?_
              refine pb_iadd (pc := 128) d_Mod_reference_128 ?_
              refine pb_topi (fun ix153 eix153 => ?_)
              try have tix153 : ix153.toInt = a5_.toInt + 1 := t2_add eix153 rfl (by decide) (by omega)
              refine pb_put (pc := 129) (ty := .int) (ws' := [(h, .inr (10, [.ref m_rels, .ref m_openRels, .ref m_closeRels, .ref m_openRel, .ref m_closeRel, .ref m_comment, .ref m_ends, .ref m_order, .int v_thrown, .int v_taped, .ref m_tape, .ref m_count, .ref m_nameSize, .ref m_names, .ref m_size, .ref m_data, .int v_lookedSize, .ref m_looked, .int v_fileSize, .ref m_file, .int v_directorySize, .ref m_directory, .int v_outSize, .ref m_out, .int v_rowSize, .ref m_row, .int v_bitAt, .int v_bitEnd, .int v_why, .int v_madeSize, .ref m_made, .ref m_length, .int v_firstCount, .int v_secondCount, .int v_heldBits, .int v_heldCount, .int v_pressedSize, .ref m_pressed, .int ix153, .int v_bad, .int v_markSize, .ref m_mark, .int v_relationCount, .ref m_idSize, .ref m_ids, .ref m_goalSize, .ref m_goals, .int v_valueSize, .ref m_value, .int v_faultCount, .ref m_faults, .ref m_reached])), (m_mark, .inl (G.2.1, 4000, .inl a_mark))]) d_Mod_reference_129 0 38 t_Mod t_Mod_ok n_Mod rfl rfl (by decide) in_Mod k_1184 rfl (by decide +kernel) rfl rfl (Nat.le_of_ble_eq_true rfl) rfl ?_
              refine pb_goto (pc := 132) (tgt := 81) d_Mod_reference_132 (by decide) ?_
              refine pb_re (ws' := [(h, .inr (10, [.ref m_rels, .ref m_openRels, .ref m_closeRels, .ref m_openRel, .ref m_closeRel, .ref m_comment, .ref m_ends, .ref m_order, .int v_thrown, .int v_taped, .ref m_tape, .ref m_count, .ref m_nameSize, .ref m_names, .ref m_size, .ref m_data, .int v_lookedSize, .ref m_looked, .int v_fileSize, .ref m_file, .int v_directorySize, .ref m_directory, .int v_outSize, .ref m_out, .int v_rowSize, .ref m_row, .int v_bitAt, .int v_bitEnd, .int v_why, .int v_madeSize, .ref m_made, .ref m_length, .int v_firstCount, .int v_secondCount, .int v_heldBits, .int v_heldCount, .int v_pressedSize, .ref m_pressed, .int ix153, .int v_bad, .int v_markSize, .ref m_mark, .int v_relationCount, .ref m_idSize, .ref m_ids, .ref m_goalSize, .ref m_goals, .int v_valueSize, .ref m_value, .int v_faultCount, .ref m_faults, .ref m_reached])), (m_mark, .inl (G.2.1, 4000, .inl a_mark))]) (lo' := [(1, .int fr), (2, .int ix152), (0, .ref h)]) [0, 1] [1, 0, 2] (by decide) rfl rfl rfl ?_
              exact ih81 fr ix152 ix153 (by first | assumption | omega (splitDisjunctions := false) | omega | decide) (by first | assumption | omega (splitDisjunctions := false) | omega | decide) (by first | assumption | omega (splitDisjunctions := false) | omega | decide) (by omega)
    refine pb_re (ws' := [(h, .inr (10, [.ref m_rels, .ref m_openRels, .ref m_closeRels, .ref m_openRel, .ref m_closeRel, .ref m_comment, .ref m_ends, .ref m_order, .int v_thrown, .int v_taped, .ref m_tape, .ref m_count, .ref m_nameSize, .ref m_names, .ref m_size, .ref m_data, .int v_lookedSize, .ref m_looked, .int v_fileSize, .ref m_file, .int v_directorySize, .ref m_directory, .int v_outSize, .ref m_out, .int v_rowSize, .ref m_row, .int v_bitAt, .int v_bitEnd, .int v_why, .int v_madeSize, .ref m_made, .ref m_length, .int v_firstCount, .int v_secondCount, .int v_heldBits, .int v_heldCount, .int v_pressedSize, .ref m_pressed, .int ix9, .int v_bad, .int v_markSize, .ref m_mark, .int v_relationCount, .ref m_idSize, .ref m_ids, .ref m_goalSize, .ref m_goals, .int v_valueSize, .ref m_value, .int v_faultCount, .ref m_faults, .ref m_reached])), (m_mark, .inl (G.2.1, 4000, .inl a_mark))]) (lo' := [(1, .int ix9), (2, .int 0), (0, .ref h)]) [0, 1] [1, 0, 2] (by decide) rfl rfl rfl ?_
    exact hL81_10 _ ix9 0 ix9 (by first | assumption | omega (splitDisjunctions := false) | omega | decide) (by first | assumption | omega (splitDisjunctions := false) | omega | decide) (by first | assumption | omega (splitDisjunctions := false) | omega | decide) (Nat.lt_succ_self _)
  · have twx8 : ¬ r_3.toInt = 35 := fun z9 => wx8 ((ti_eq rfl (by decide)).mpr z9)
    refine pb_aload_n (pc := 9) d_Mod_reference_9 0 rfl rfl ?_
    refine pb_callV (pc := 10) (I := i_Mod_reference) (qb := 0) (ci := 10) (nA := 0) (rest := []) (wr := []) d_Mod_reference_10 (g_Mod_letterCount hl G h m_rels m_openRels m_closeRels m_openRel m_closeRel m_comment m_ends m_order m_tape m_count m_nameSize m_names m_size m_data m_looked m_file m_directory m_out m_row m_made m_length m_pressed m_mark m_idSize m_ids m_goalSize m_goals m_value m_faults m_reached v_thrown v_taped v_lookedSize v_fileSize v_directorySize v_outSize v_rowSize v_bitAt v_bitEnd v_why v_madeSize v_firstCount v_secondCount v_heldBits v_heldCount v_pressedSize v_at v_bad v_markSize v_relationCount v_valueSize v_faultCount a_mark (by first | assumption | omega (splitDisjunctions := false) | omega | decide) (by first | assumption | omega (splitDisjunctions := false) | omega | decide) (by first | assumption | omega (splitDisjunctions := false) | omega | decide) (by first | assumption | omega (splitDisjunctions := false) | omega | decide) F_a_mark) rfl rfl [0, 1] [] (by decide) rfl rfl rfl (by decide) (by decide) k_1616 rfl k_128 k_1613 k_1615 k_106 ⟨rfl, hy_Mod_letterCount⟩ (by decide) rfl rfl (Nat.le_of_ble_eq_true rfl) (by decide) (fun v9 ux155 ch154 => ?_)
    obtain ⟨r_156, rfl⟩ : ∃ z9, z9 = ux155 := ⟨_, rfl⟩
    obtain ⟨ech154, ch154⟩ := ch154
    have ech154 : v9 = some (.int r_156) := ech154
    subst ech154
    obtain ⟨fh157, fh158⟩ : (0 ≤ r_156.toInt) ∧ (v_at.toInt + r_156.toInt ≤ v_markSize.toInt) := ch154
    refine pb_eq (pc' := 13) (lo' := [(0, .ref h)]) (rest' := [.int r_156]) (ws' := [(h, .inr (10, [.ref m_rels, .ref m_openRels, .ref m_closeRels, .ref m_openRel, .ref m_closeRel, .ref m_comment, .ref m_ends, .ref m_order, .int v_thrown, .int v_taped, .ref m_tape, .ref m_count, .ref m_nameSize, .ref m_names, .ref m_size, .ref m_data, .int v_lookedSize, .ref m_looked, .int v_fileSize, .ref m_file, .int v_directorySize, .ref m_directory, .int v_outSize, .ref m_out, .int v_rowSize, .ref m_row, .int v_bitAt, .int v_bitEnd, .int v_why, .int v_madeSize, .ref m_made, .ref m_length, .int v_firstCount, .int v_secondCount, .int v_heldBits, .int v_heldCount, .int v_pressedSize, .ref m_pressed, .int v_at, .int v_bad, .int v_markSize, .ref m_mark, .int v_relationCount, .ref m_idSize, .ref m_ids, .ref m_goalSize, .ref m_goals, .int v_valueSize, .ref m_value, .int v_faultCount, .ref m_faults, .ref m_reached])), (m_mark, .inl (G.2.1, 4000, .inl a_mark))]) ?_
    refine pb_istore_n (pc := 13) (lo' := [(1, .int r_156), (0, .ref h)]) d_Mod_reference_13 rfl (by decide) rfl ?_
    refine pb_aload_n (pc := 14) d_Mod_reference_14 1 rfl rfl ?_
    refine pb_iload_n (pc := 15) d_Mod_reference_15 0 rfl rfl ?_
    refine pb_callV (pc := 16) (I := i_Mod_reference) (qb := 0) (ci := 10) (nA := 1) (rest := []) (wr := []) d_Mod_reference_16 (g_Mod_named hl G h m_rels m_openRels m_closeRels m_openRel m_closeRel m_comment m_ends m_order m_tape m_count m_nameSize m_names m_size m_data m_looked m_file m_directory m_out m_row m_made m_length m_pressed m_mark m_idSize m_ids m_goalSize m_goals m_value m_faults m_reached v_thrown v_taped v_lookedSize v_fileSize v_directorySize v_outSize v_rowSize v_bitAt v_bitEnd v_why v_madeSize v_firstCount v_secondCount v_heldBits v_heldCount v_pressedSize v_at v_bad v_markSize v_relationCount v_valueSize v_faultCount a_mark r_156 (by first | assumption | omega (splitDisjunctions := false) | omega | decide) (by first | assumption | omega (splitDisjunctions := false) | omega | decide) (by first | assumption | omega (splitDisjunctions := false) | omega | decide) (by first | assumption | omega (splitDisjunctions := false) | omega | decide) (by first | assumption | omega (splitDisjunctions := false) | omega | decide) (by first | assumption | omega (splitDisjunctions := false) | omega | decide) F_a_mark) rfl rfl [0, 1] [] (by decide) rfl rfl rfl (by decide) (by decide) k_1636 rfl k_128 k_1633 k_1635 k_111 ⟨rfl, hy_Mod_named⟩ (by decide) rfl rfl (Nat.le_of_ble_eq_true rfl) (by decide) (fun v9 ux160 ch159 => ?_)
    obtain ⟨r_161, rfl⟩ : ∃ z9, z9 = ux160 := ⟨_, rfl⟩
    obtain ⟨ech159, ch159⟩ := ch159
    have ech159 : v9 = some (.int r_161) := ech159
    subst ech159
    obtain ⟨fh162, fh163⟩ : (0 ≤ r_161.toInt) ∧ (r_161.toInt ≤ 62) := ch159
    refine pb_eq (pc' := 19) (lo' := [(1, .int r_156), (0, .ref h)]) (rest' := [.int r_161]) (ws' := [(h, .inr (10, [.ref m_rels, .ref m_openRels, .ref m_closeRels, .ref m_openRel, .ref m_closeRel, .ref m_comment, .ref m_ends, .ref m_order, .int v_thrown, .int v_taped, .ref m_tape, .ref m_count, .ref m_nameSize, .ref m_names, .ref m_size, .ref m_data, .int v_lookedSize, .ref m_looked, .int v_fileSize, .ref m_file, .int v_directorySize, .ref m_directory, .int v_outSize, .ref m_out, .int v_rowSize, .ref m_row, .int v_bitAt, .int v_bitEnd, .int v_why, .int v_madeSize, .ref m_made, .ref m_length, .int v_firstCount, .int v_secondCount, .int v_heldBits, .int v_heldCount, .int v_pressedSize, .ref m_pressed, .int v_at, .int v_bad, .int v_markSize, .ref m_mark, .int v_relationCount, .ref m_idSize, .ref m_ids, .ref m_goalSize, .ref m_goals, .int v_valueSize, .ref m_value, .int v_faultCount, .ref m_faults, .ref m_reached])), (m_mark, .inl (G.2.1, 4000, .inl a_mark))]) ?_
    refine pb_istore_n (pc := 19) (lo' := [(2, .int r_161), (1, .int r_156), (0, .ref h)]) d_Mod_reference_19 rfl (by decide) rfl ?_
    have hJ32_164 : ∀ (n1_ : Int32) (c1_ : Int32) (a3_ : Int32) (b3 : Int32), (a3_.toInt = v_at.toInt) → (b3.toInt = 0 ∨ b3.toInt = 1) → (0 ≤ n1_.toInt) → (v_at.toInt + n1_.toInt ≤ v_markSize.toInt) → pb_P l G M i_Mod_reference 32 [(1, .int n1_), (2, .int c1_), (0, .ref h)] [] [(h, .inr (10, [.ref m_rels, .ref m_openRels, .ref m_closeRels, .ref m_openRel, .ref m_closeRel, .ref m_comment, .ref m_ends, .ref m_order, .int v_thrown, .int v_taped, .ref m_tape, .ref m_count, .ref m_nameSize, .ref m_names, .ref m_size, .ref m_data, .int v_lookedSize, .ref m_looked, .int v_fileSize, .ref m_file, .int v_directorySize, .ref m_directory, .int v_outSize, .ref m_out, .int v_rowSize, .ref m_row, .int v_bitAt, .int v_bitEnd, .int v_why, .int v_madeSize, .ref m_made, .ref m_length, .int v_firstCount, .int v_secondCount, .int v_heldBits, .int v_heldCount, .int v_pressedSize, .ref m_pressed, .int a3_, .int b3, .int v_markSize, .ref m_mark, .int v_relationCount, .ref m_idSize, .ref m_ids, .ref m_goalSize, .ref m_goals, .int v_valueSize, .ref m_value, .int v_faultCount, .ref m_faults, .ref m_reached])), (m_mark, .inl (G.2.1, 4000, .inl a_mark))] 0 0 := by
      intro n1_ c1_ a3_ b3 j0 j1 j2 j3
      refine pb_aload_n (pc := 32) d_Mod_reference_32 2 rfl rfl ?_
      refine pb_aload_n (pc := 33) d_Mod_reference_33 2 rfl rfl ?_
      refine pb_get (pc := 34) d_Mod_reference_34 0 39 rfl rfl (by decide) in_Mod k_1185 rfl ?_
      refine pb_if_eq (pc := 37) (tgt := 47) d_Mod_reference_37 (by decide) (fun wx165 => ?_) (fun wx165 => ?_)
      · have twx165 : b3.toInt = 0 := (ti_eq rfl (by decide)).mp wx165
        refine pb_aload_n (pc := 47) d_Mod_reference_47 2 rfl rfl ?_
        refine pb_get (pc := 48) d_Mod_reference_48 0 38 rfl rfl (by decide) in_Mod k_1184 rfl ?_
        refine pb_iload_n (pc := 51) d_Mod_reference_51 0 rfl rfl ?_
        refine pb_iadd (pc := 52) d_Mod_reference_52 ?_
        refine pb_topi (fun ix166 eix166 => ?_)
        try have tix166 : ix166.toInt = a3_.toInt + n1_.toInt := t2_add eix166 rfl rfl (by omega)
        refine pb_put (pc := 53) (ty := .int) (ws' := [(h, .inr (10, [.ref m_rels, .ref m_openRels, .ref m_closeRels, .ref m_openRel, .ref m_closeRel, .ref m_comment, .ref m_ends, .ref m_order, .int v_thrown, .int v_taped, .ref m_tape, .ref m_count, .ref m_nameSize, .ref m_names, .ref m_size, .ref m_data, .int v_lookedSize, .ref m_looked, .int v_fileSize, .ref m_file, .int v_directorySize, .ref m_directory, .int v_outSize, .ref m_out, .int v_rowSize, .ref m_row, .int v_bitAt, .int v_bitEnd, .int v_why, .int v_madeSize, .ref m_made, .ref m_length, .int v_firstCount, .int v_secondCount, .int v_heldBits, .int v_heldCount, .int v_pressedSize, .ref m_pressed, .int ix166, .int b3, .int v_markSize, .ref m_mark, .int v_relationCount, .ref m_idSize, .ref m_ids, .ref m_goalSize, .ref m_goals, .int v_valueSize, .ref m_value, .int v_faultCount, .ref m_faults, .ref m_reached])), (m_mark, .inl (G.2.1, 4000, .inl a_mark))]) d_Mod_reference_53 0 38 t_Mod t_Mod_ok n_Mod rfl rfl (by decide) in_Mod k_1184 rfl (by decide +kernel) rfl rfl (Nat.le_of_ble_eq_true rfl) rfl ?_
        refine pb_aload_n (pc := 56) d_Mod_reference_56 2 rfl rfl ?_
        refine pb_bipush (pc := 57) (v := 59) d_Mod_reference_57 (by decide) ?_
        refine pb_callV (pc := 59) (I := i_Mod_reference) (qb := 0) (ci := 10) (nA := 1) (rest := []) (wr := []) d_Mod_reference_59 (g_Mod_need hl G h m_rels m_openRels m_closeRels m_openRel m_closeRel m_comment m_ends m_order m_tape m_count m_nameSize m_names m_size m_data m_looked m_file m_directory m_out m_row m_made m_length m_pressed m_mark m_idSize m_ids m_goalSize m_goals m_value m_faults m_reached v_thrown v_taped v_lookedSize v_fileSize v_directorySize v_outSize v_rowSize v_bitAt v_bitEnd v_why v_madeSize v_firstCount v_secondCount v_heldBits v_heldCount v_pressedSize ix166 b3 v_markSize v_relationCount v_valueSize v_faultCount a_mark 59 (by first | assumption | omega (splitDisjunctions := false) | omega | decide) (by first | assumption | omega (splitDisjunctions := false) | omega | decide) (by first | assumption | omega (splitDisjunctions := false) | omega | decide) (by first | assumption | omega (splitDisjunctions := false) | omega | decide) (by first | assumption | omega (splitDisjunctions := false) | omega | decide) (by first | assumption | decide | omega)) rfl rfl [0, 1] [] (by decide) rfl rfl rfl (by decide) (by decide) k_1600 rfl k_128 k_1597 k_1599 k_102 ⟨rfl, hy_Mod_need⟩ (by decide) rfl rfl (Nat.le_of_ble_eq_true rfl) (by decide) (fun v9 ux168 ch167 => ?_)
        obtain ⟨at_169, b_170⟩ := ux168
        obtain ⟨ech167, ch167⟩ := ch167
        have ech167 : v9 = none := ech167
        subst ech167
        obtain ⟨fh171, fh172, fh173, fh174, fh175⟩ : (ix166.toInt ≤ at_169.toInt) ∧ (at_169.toInt ≤ v_markSize.toInt) ∧ (b_170.toInt = 0 ∨ b_170.toInt = 1) ∧ (b_170.toInt = 0 → b3.toInt = 0) ∧ (b_170.toInt = 0 → at_169.toInt = ix166.toInt + 1) := ch167
        refine pb_eq (pc' := 62) (lo' := [(1, .int n1_), (2, .int c1_), (0, .ref h)]) (rest' := []) (ws' := [(h, .inr (10, [.ref m_rels, .ref m_openRels, .ref m_closeRels, .ref m_openRel, .ref m_closeRel, .ref m_comment, .ref m_ends, .ref m_order, .int v_thrown, .int v_taped, .ref m_tape, .ref m_count, .ref m_nameSize, .ref m_names, .ref m_size, .ref m_data, .int v_lookedSize, .ref m_looked, .int v_fileSize, .ref m_file, .int v_directorySize, .ref m_directory, .int v_outSize, .ref m_out, .int v_rowSize, .ref m_row, .int v_bitAt, .int v_bitEnd, .int v_why, .int v_madeSize, .ref m_made, .ref m_length, .int v_firstCount, .int v_secondCount, .int v_heldBits, .int v_heldCount, .int v_pressedSize, .ref m_pressed, .int at_169, .int b_170, .int v_markSize, .ref m_mark, .int v_relationCount, .ref m_idSize, .ref m_ids, .ref m_goalSize, .ref m_goals, .int v_valueSize, .ref m_value, .int v_faultCount, .ref m_faults, .ref m_reached])), (m_mark, .inl (G.2.1, 4000, .inl a_mark))]) ?_
        refine pb_iload_n (pc := 62) d_Mod_reference_62 1 rfl rfl ?_
        exact pb_iret (pc := 63) hQ d_Mod_reference_63 rfl rfl (c1_, at_169, b_170) ⟨rfl, (by (try dsimp only); first | done | assumption | omega (splitDisjunctions := false) | omega | decide), (by (try dsimp only); first | done | assumption | omega (splitDisjunctions := false) | omega | decide), (by (try dsimp only); first | done | assumption | omega (splitDisjunctions := false) | omega | decide), (by (try dsimp only); first | done | assumption | omega (splitDisjunctions := false) | omega | decide)⟩ [0, 1] (by decide) rfl rfl (by decide) (by decide)
      · have twx165 : ¬ b3.toInt = 0 := fun z9 => wx165 ((ti_eq rfl (by decide)).mpr z9)
        refine pb_aload_n (pc := 40) d_Mod_reference_40 2 rfl rfl ?_
        refine pb_get (pc := 41) d_Mod_reference_41 0 38 rfl rfl (by decide) in_Mod k_1184 rfl ?_
        refine pb_goto (pc := 44) (tgt := 53) d_Mod_reference_44 (by decide) ?_
        refine pb_put (pc := 53) (ty := .int) (ws' := [(h, .inr (10, [.ref m_rels, .ref m_openRels, .ref m_closeRels, .ref m_openRel, .ref m_closeRel, .ref m_comment, .ref m_ends, .ref m_order, .int v_thrown, .int v_taped, .ref m_tape, .ref m_count, .ref m_nameSize, .ref m_names, .ref m_size, .ref m_data, .int v_lookedSize, .ref m_looked, .int v_fileSize, .ref m_file, .int v_directorySize, .ref m_directory, .int v_outSize, .ref m_out, .int v_rowSize, .ref m_row, .int v_bitAt, .int v_bitEnd, .int v_why, .int v_madeSize, .ref m_made, .ref m_length, .int v_firstCount, .int v_secondCount, .int v_heldBits, .int v_heldCount, .int v_pressedSize, .ref m_pressed, .int a3_, .int b3, .int v_markSize, .ref m_mark, .int v_relationCount, .ref m_idSize, .ref m_ids, .ref m_goalSize, .ref m_goals, .int v_valueSize, .ref m_value, .int v_faultCount, .ref m_faults, .ref m_reached])), (m_mark, .inl (G.2.1, 4000, .inl a_mark))]) d_Mod_reference_53 0 38 t_Mod t_Mod_ok n_Mod rfl rfl (by decide) in_Mod k_1184 rfl (by decide +kernel) rfl rfl (Nat.le_of_ble_eq_true rfl) rfl ?_
        refine pb_aload_n (pc := 56) d_Mod_reference_56 2 rfl rfl ?_
        refine pb_bipush (pc := 57) (v := 59) d_Mod_reference_57 (by decide) ?_
        refine pb_callV (pc := 59) (I := i_Mod_reference) (qb := 0) (ci := 10) (nA := 1) (rest := []) (wr := []) d_Mod_reference_59 (g_Mod_need hl G h m_rels m_openRels m_closeRels m_openRel m_closeRel m_comment m_ends m_order m_tape m_count m_nameSize m_names m_size m_data m_looked m_file m_directory m_out m_row m_made m_length m_pressed m_mark m_idSize m_ids m_goalSize m_goals m_value m_faults m_reached v_thrown v_taped v_lookedSize v_fileSize v_directorySize v_outSize v_rowSize v_bitAt v_bitEnd v_why v_madeSize v_firstCount v_secondCount v_heldBits v_heldCount v_pressedSize a3_ b3 v_markSize v_relationCount v_valueSize v_faultCount a_mark 59 (by first | assumption | omega (splitDisjunctions := false) | omega | decide) (by first | assumption | omega (splitDisjunctions := false) | omega | decide) (by first | assumption | omega (splitDisjunctions := false) | omega | decide) (by first | assumption | omega (splitDisjunctions := false) | omega | decide) (by first | assumption | omega (splitDisjunctions := false) | omega | decide) (by first | assumption | decide | omega)) rfl rfl [0, 1] [] (by decide) rfl rfl rfl (by decide) (by decide) k_1600 rfl k_128 k_1597 k_1599 k_102 ⟨rfl, hy_Mod_need⟩ (by decide) rfl rfl (Nat.le_of_ble_eq_true rfl) (by decide) (fun v9 ux177 ch176 => ?_)
        obtain ⟨at_178, b_179⟩ := ux177
        obtain ⟨ech176, ch176⟩ := ch176
        have ech176 : v9 = none := ech176
        subst ech176
        obtain ⟨fh180, fh181, fh182, fh183, fh184⟩ : (a3_.toInt ≤ at_178.toInt) ∧ (at_178.toInt ≤ v_markSize.toInt) ∧ (b_179.toInt = 0 ∨ b_179.toInt = 1) ∧ (b_179.toInt = 0 → b3.toInt = 0) ∧ (b_179.toInt = 0 → at_178.toInt = a3_.toInt + 1) := ch176
        refine pb_eq (pc' := 62) (lo' := [(1, .int n1_), (2, .int c1_), (0, .ref h)]) (rest' := []) (ws' := [(h, .inr (10, [.ref m_rels, .ref m_openRels, .ref m_closeRels, .ref m_openRel, .ref m_closeRel, .ref m_comment, .ref m_ends, .ref m_order, .int v_thrown, .int v_taped, .ref m_tape, .ref m_count, .ref m_nameSize, .ref m_names, .ref m_size, .ref m_data, .int v_lookedSize, .ref m_looked, .int v_fileSize, .ref m_file, .int v_directorySize, .ref m_directory, .int v_outSize, .ref m_out, .int v_rowSize, .ref m_row, .int v_bitAt, .int v_bitEnd, .int v_why, .int v_madeSize, .ref m_made, .ref m_length, .int v_firstCount, .int v_secondCount, .int v_heldBits, .int v_heldCount, .int v_pressedSize, .ref m_pressed, .int at_178, .int b_179, .int v_markSize, .ref m_mark, .int v_relationCount, .ref m_idSize, .ref m_ids, .ref m_goalSize, .ref m_goals, .int v_valueSize, .ref m_value, .int v_faultCount, .ref m_faults, .ref m_reached])), (m_mark, .inl (G.2.1, 4000, .inl a_mark))]) ?_
        refine pb_iload_n (pc := 62) d_Mod_reference_62 1 rfl rfl ?_
        exact pb_iret (pc := 63) hQ d_Mod_reference_63 rfl rfl (c1_, at_178, b_179) ⟨rfl, (by (try dsimp only); first | done | assumption | omega (splitDisjunctions := false) | omega | decide), (by (try dsimp only); first | done | assumption | omega (splitDisjunctions := false) | omega | decide), (by (try dsimp only); first | done | assumption | omega (splitDisjunctions := false) | omega | decide), (by (try dsimp only); first | done | assumption | omega (splitDisjunctions := false) | omega | decide)⟩ [0, 1] (by decide) rfl rfl (by decide) (by decide)
    refine pb_iload_n (pc := 20) d_Mod_reference_20 0 rfl rfl ?_
    refine pb_if_ne (pc := 21) (tgt := 32) d_Mod_reference_21 (by decide) (fun wx185 => ?_) (fun wx185 => ?_)
    · have twx185 : ¬ r_161.toInt = 0 := fun z9 => wx185 ((ti_eq rfl (by decide)).mpr z9)
      refine pb_re (ws' := [(h, .inr (10, [.ref m_rels, .ref m_openRels, .ref m_closeRels, .ref m_openRel, .ref m_closeRel, .ref m_comment, .ref m_ends, .ref m_order, .int v_thrown, .int v_taped, .ref m_tape, .ref m_count, .ref m_nameSize, .ref m_names, .ref m_size, .ref m_data, .int v_lookedSize, .ref m_looked, .int v_fileSize, .ref m_file, .int v_directorySize, .ref m_directory, .int v_outSize, .ref m_out, .int v_rowSize, .ref m_row, .int v_bitAt, .int v_bitEnd, .int v_why, .int v_madeSize, .ref m_made, .ref m_length, .int v_firstCount, .int v_secondCount, .int v_heldBits, .int v_heldCount, .int v_pressedSize, .ref m_pressed, .int v_at, .int v_bad, .int v_markSize, .ref m_mark, .int v_relationCount, .ref m_idSize, .ref m_ids, .ref m_goalSize, .ref m_goals, .int v_valueSize, .ref m_value, .int v_faultCount, .ref m_faults, .ref m_reached])), (m_mark, .inl (G.2.1, 4000, .inl a_mark))]) (lo' := [(1, .int r_156), (2, .int r_161), (0, .ref h)]) [0, 1] [1, 0, 2] (by decide) rfl rfl rfl ?_
      exact hJ32_164 r_156 r_161 v_at v_bad (by first | assumption | omega (splitDisjunctions := false) | omega | decide) (by first | assumption | omega (splitDisjunctions := false) | omega | decide) (by first | assumption | omega (splitDisjunctions := false) | omega | decide) (by first | assumption | omega (splitDisjunctions := false) | omega | decide)
    · have twx185 : r_161.toInt = 0 := (ti_eq rfl (by decide)).mp wx185
      refine pb_aload_n (pc := 24) d_Mod_reference_24 2 rfl rfl ?_
      refine pb_aload_n (pc := 25) d_Mod_reference_25 2 rfl rfl ?_
      refine pb_get (pc := 26) d_Mod_reference_26 0 38 rfl rfl (by decide) in_Mod k_1184 rfl ?_
      refine pb_callV (pc := 29) (I := i_Mod_reference) (qb := 0) (ci := 10) (nA := 1) (rest := []) (wr := [(m_mark, .inl (G.2.1, 4000, .inl a_mark))]) d_Mod_reference_29 (g_Mod_stop hl G h m_rels m_openRels m_closeRels m_openRel m_closeRel m_comment m_ends m_order m_tape m_count m_nameSize m_names m_size m_data m_looked m_file m_directory m_out m_row m_made m_length m_pressed m_mark m_idSize m_ids m_goalSize m_goals m_value m_faults m_reached v_thrown v_taped v_lookedSize v_fileSize v_directorySize v_outSize v_rowSize v_bitAt v_bitEnd v_why v_madeSize v_firstCount v_secondCount v_heldBits v_heldCount v_pressedSize v_at v_bad v_markSize v_relationCount v_valueSize v_faultCount v_at (by first | assumption | omega (splitDisjunctions := false) | omega | decide)) rfl rfl [0] [1] (by decide) rfl rfl rfl (by decide) (by decide) k_1604 rfl k_128 k_1601 k_1603 k_103 ⟨rfl, hy_Mod_stop⟩ (by decide) rfl rfl (Nat.le_of_ble_eq_true rfl) (by decide) (fun v9 ux187 ch186 => ?_)
      obtain ⟨at_188, b_189⟩ := ux187
      obtain ⟨ech186, ch186⟩ := ch186
      have ech186 : v9 = none := ech186
      subst ech186
      obtain ⟨fh190, fh191, fh192⟩ : (b_189.toInt = 1) ∧ (v_bad.toInt = 0 → at_188.toInt = v_at.toInt) ∧ (v_bad.toInt ≠ 0 → at_188.toInt = v_at.toInt) := ch186
      refine pb_eq (pc' := 32) (lo' := [(2, .int r_161), (1, .int r_156), (0, .ref h)]) (rest' := []) (ws' := [(m_mark, .inl (G.2.1, 4000, .inl a_mark)), (h, .inr (10, [.ref m_rels, .ref m_openRels, .ref m_closeRels, .ref m_openRel, .ref m_closeRel, .ref m_comment, .ref m_ends, .ref m_order, .int v_thrown, .int v_taped, .ref m_tape, .ref m_count, .ref m_nameSize, .ref m_names, .ref m_size, .ref m_data, .int v_lookedSize, .ref m_looked, .int v_fileSize, .ref m_file, .int v_directorySize, .ref m_directory, .int v_outSize, .ref m_out, .int v_rowSize, .ref m_row, .int v_bitAt, .int v_bitEnd, .int v_why, .int v_madeSize, .ref m_made, .ref m_length, .int v_firstCount, .int v_secondCount, .int v_heldBits, .int v_heldCount, .int v_pressedSize, .ref m_pressed, .int at_188, .int b_189, .int v_markSize, .ref m_mark, .int v_relationCount, .ref m_idSize, .ref m_ids, .ref m_goalSize, .ref m_goals, .int v_valueSize, .ref m_value, .int v_faultCount, .ref m_faults, .ref m_reached]))]) ?_
      refine pb_re (ws' := [(h, .inr (10, [.ref m_rels, .ref m_openRels, .ref m_closeRels, .ref m_openRel, .ref m_closeRel, .ref m_comment, .ref m_ends, .ref m_order, .int v_thrown, .int v_taped, .ref m_tape, .ref m_count, .ref m_nameSize, .ref m_names, .ref m_size, .ref m_data, .int v_lookedSize, .ref m_looked, .int v_fileSize, .ref m_file, .int v_directorySize, .ref m_directory, .int v_outSize, .ref m_out, .int v_rowSize, .ref m_row, .int v_bitAt, .int v_bitEnd, .int v_why, .int v_madeSize, .ref m_made, .ref m_length, .int v_firstCount, .int v_secondCount, .int v_heldBits, .int v_heldCount, .int v_pressedSize, .ref m_pressed, .int at_188, .int b_189, .int v_markSize, .ref m_mark, .int v_relationCount, .ref m_idSize, .ref m_ids, .ref m_goalSize, .ref m_goals, .int v_valueSize, .ref m_value, .int v_faultCount, .ref m_faults, .ref m_reached])), (m_mark, .inl (G.2.1, 4000, .inl a_mark))]) (lo' := [(1, .int r_156), (2, .int r_161), (0, .ref h)]) [1, 0] [1, 0, 2] (by decide) rfl rfl rfl ?_
      exact hJ32_164 r_156 r_161 at_188 b_189 (by first | assumption | omega (splitDisjunctions := false) | omega | decide) (by first | assumption | omega (splitDisjunctions := false) | omega | decide) (by first | assumption | omega (splitDisjunctions := false) | omega | decide) (by first | assumption | omega (splitDisjunctions := false) | omega | decide)
