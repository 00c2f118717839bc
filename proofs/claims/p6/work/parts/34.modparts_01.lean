theorem d_Mod_remove_0 : decode prog_12_method_15_code 0 = .ok (.aload_n 0, 1) := by decide +kernel
theorem d_Mod_remove_1 : decode prog_12_method_15_code 1 = .ok (.iconst 0, 1) := by decide +kernel
theorem d_Mod_remove_2 : decode prog_12_method_15_code 2 = .ok (.putfield 103, 3) := by decide +kernel
theorem d_Mod_remove_5 : decode prog_12_method_15_code 5 = .ok (.aload_n 0, 1) := by decide +kernel
theorem d_Mod_remove_6 : decode prog_12_method_15_code 6 = .ok (.aload_n 0, 1) := by decide +kernel
theorem d_Mod_remove_7 : decode prog_12_method_15_code 7 = .ok (.getfield 34, 3) := by decide +kernel
theorem d_Mod_remove_10 : decode prog_12_method_15_code 10 = .ok (.iconst 0, 1) := by decide +kernel
theorem d_Mod_remove_11 : decode prog_12_method_15_code 11 = .ok (.aload_n 0, 1) := by decide +kernel
theorem d_Mod_remove_12 : decode prog_12_method_15_code 12 = .ok (.getfield 107, 3) := by decide +kernel
theorem d_Mod_remove_15 : decode prog_12_method_15_code 15 = .ok (.invokevirtual 136, 3) := by decide +kernel
theorem d_Mod_remove_18 : decode prog_12_method_15_code 18 = .ok (.aload_n 0, 1) := by decide +kernel
theorem d_Mod_remove_19 : decode prog_12_method_15_code 19 = .ok (.iconst 0, 1) := by decide +kernel
theorem d_Mod_remove_20 : decode prog_12_method_15_code 20 = .ok (.putfield 107, 3) := by decide +kernel
theorem d_Mod_remove_23 : decode prog_12_method_15_code 23 = .ok (.aload_n 0, 1) := by decide +kernel
theorem d_Mod_remove_24 : decode prog_12_method_15_code 24 = .ok (.iconst 0, 1) := by decide +kernel
theorem d_Mod_remove_25 : decode prog_12_method_15_code 25 = .ok (.invokevirtual 121, 3) := by decide +kernel
theorem d_Mod_remove_28 : decode prog_12_method_15_code 28 = .ok (.istore_n 1, 1) := by decide +kernel
theorem d_Mod_remove_29 : decode prog_12_method_15_code 29 = .ok (.iload_n 1, 1) := by decide +kernel
theorem d_Mod_remove_30 : decode prog_12_method_15_code 30 = .ok (.ifCond .ge 5, 3) := by decide +kernel
theorem d_Mod_remove_35 : decode prog_12_method_15_code 35 = .ok (.aload_n 0, 1) := by decide +kernel
theorem d_Mod_remove_36 : decode prog_12_method_15_code 36 = .ok (.getfield 37, 3) := by decide +kernel
theorem d_Mod_remove_39 : decode prog_12_method_15_code 39 = .ok (.iconst 0, 1) := by decide +kernel
theorem d_Mod_remove_40 : decode prog_12_method_15_code 40 = .ok (.dup2, 1) := by decide +kernel
theorem d_Mod_remove_41 : decode prog_12_method_15_code 41 = .ok (.iaload, 1) := by decide +kernel
theorem d_Mod_remove_42 : decode prog_12_method_15_code 42 = .ok (.iconst 1, 1) := by decide +kernel
theorem d_Mod_remove_43 : decode prog_12_method_15_code 43 = .ok (.isub, 1) := by decide +kernel
theorem d_Mod_remove_44 : decode prog_12_method_15_code 44 = .ok (.iastore, 1) := by decide +kernel
theorem d_Mod_remove_45 : decode prog_12_method_15_code 45 = .ok (.iload_n 1, 1) := by decide +kernel
theorem d_Mod_remove_46 : decode prog_12_method_15_code 46 = .ok (.istore_n 2, 1) := by decide +kernel
theorem d_Mod_remove_47 : decode prog_12_method_15_code 47 = .ok (.iload_n 2, 1) := by decide +kernel
theorem d_Mod_remove_48 : decode prog_12_method_15_code 48 = .ok (.aload_n 0, 1) := by decide +kernel
theorem d_Mod_remove_49 : decode prog_12_method_15_code 49 = .ok (.getfield 37, 3) := by decide +kernel
theorem d_Mod_remove_52 : decode prog_12_method_15_code 52 = .ok (.iconst 0, 1) := by decide +kernel
theorem d_Mod_remove_53 : decode prog_12_method_15_code 53 = .ok (.iaload, 1) := by decide +kernel
theorem d_Mod_remove_54 : decode prog_12_method_15_code 54 = .ok (.if_icmp .ge 17, 3) := by decide +kernel
theorem d_Mod_remove_71 : decode prog_12_method_15_code 71 = .ok (.iconst 1, 1) := by decide +kernel
theorem d_Mod_remove_72 : decode prog_12_method_15_code 72 = .ok (.ireturn, 1) := by decide +kernel
theorem d_Mod_remove_57 : decode prog_12_method_15_code 57 = .ok (.aload_n 0, 1) := by decide +kernel
theorem d_Mod_remove_58 : decode prog_12_method_15_code 58 = .ok (.iload_n 2, 1) := by decide +kernel
theorem d_Mod_remove_59 : decode prog_12_method_15_code 59 = .ok (.iconst 1, 1) := by decide +kernel
theorem d_Mod_remove_60 : decode prog_12_method_15_code 60 = .ok (.iadd, 1) := by decide +kernel
theorem d_Mod_remove_61 : decode prog_12_method_15_code 61 = .ok (.iload_n 2, 1) := by decide +kernel
theorem d_Mod_remove_62 : decode prog_12_method_15_code 62 = .ok (.invokevirtual 128, 3) := by decide +kernel
theorem d_Mod_remove_65 : decode prog_12_method_15_code 65 = .ok (.iinc 2 1, 3) := by decide +kernel
theorem d_Mod_remove_68 : decode prog_12_method_15_code 68 = .ok (.goto (-21), 3) := by decide +kernel
theorem d_Mod_remove_33 : decode prog_12_method_15_code 33 = .ok (.iconst 0, 1) := by decide +kernel
theorem d_Mod_remove_34 : decode prog_12_method_15_code 34 = .ok (.ireturn, 1) := by decide +kernel
abbrev y_Mod_remove : MethodName := ⟨"PackageBookModel", "remove", "()Z"⟩
abbrev i_Mod_remove : pb_I := (y_Mod_remove, prog_12_method_15_code, 3, (some Jvm.ClassFile.FieldType.boolean), [], { frames := 2, cells := 0, slots := 0, locals := 48 })
set_option maxRecDepth 100000 in
set_option maxHeartbeats 4000000 in
theorem g_Mod_remove {l : Launch} (hl : l.stackTraces = false) (G : pb_G) (h : Nat) (m_rels : Nat) (m_openRels : Nat) (m_closeRels : Nat) (m_openRel : Nat) (m_closeRel : Nat) (m_comment : Nat) (m_ends : Nat) (m_order : Nat) (m_tape : Nat) (m_count : Nat) (m_nameSize : Nat) (m_names : Nat) (m_size : Nat) (m_data : Nat) (m_looked : Nat) (m_file : Nat) (m_directory : Nat) (m_out : Nat) (m_row : Nat) (m_made : Nat) (m_length : Nat) (m_pressed : Nat) (m_mark : Nat) (m_idSize : Nat) (m_ids : Nat) (m_goalSize : Nat) (m_goals : Nat) (m_value : Nat) (m_faults : Nat) (m_reached : Nat) (v_thrown : Int32) (v_taped : Int32) (v_lookedSize : Int32) (v_fileSize : Int32) (v_directorySize : Int32) (v_outSize : Int32) (v_rowSize : Int32) (v_bitAt : Int32) (v_bitEnd : Int32) (v_why : Int32) (v_madeSize : Int32) (v_firstCount : Int32) (v_secondCount : Int32) (v_heldBits : Int32) (v_heldCount : Int32) (v_pressedSize : Int32) (v_at : Int32) (v_bad : Int32) (v_markSize : Int32) (v_relationCount : Int32) (v_valueSize : Int32) (v_faultCount : Int32) (a_tape : Nat → Int32) (a_count : Nat → Int32) (a_nameSize : Nat → Int32) (a_names : Nat → Int32) (a_looked : Nat → Int32) (a_size : Nat → Int32) (a_data : Nat → Int32) (V : VW_) (t0 : 0 ≤ v_taped.toInt) (t1 : v_taped.toInt ≤ 8000) (y0 : 0 ≤ v_lookedSize.toInt) (y1 : v_lookedSize.toInt ≤ 8000) (I : ms_I 0 (gx a_count 0) a_nameSize a_size a_names) (R : rM_ 0 (gx a_count 0) a_nameSize a_names a_size a_data V) (hsV : srt_ V) (F_a_tape : sb_Fit a_tape) (F_a_names : sb_Fit a_names) (F_a_looked : sb_Fit a_looked) (F_a_data : sb_Fit a_data) : Cn l G i_Mod_remove [.ref h] [(h, .inr (10, [.ref m_rels, .ref m_openRels, .ref m_closeRels, .ref m_openRel, .ref m_closeRel, .ref m_comment, .ref m_ends, .ref m_order, .int v_thrown, .int v_taped, .ref m_tape, .ref m_count, .ref m_nameSize, .ref m_names, .ref m_size, .ref m_data, .int v_lookedSize, .ref m_looked, .int v_fileSize, .ref m_file, .int v_directorySize, .ref m_directory, .int v_outSize, .ref m_out, .int v_rowSize, .ref m_row, .int v_bitAt, .int v_bitEnd, .int v_why, .int v_madeSize, .ref m_made, .ref m_length, .int v_firstCount, .int v_secondCount, .int v_heldBits, .int v_heldCount, .int v_pressedSize, .ref m_pressed, .int v_at, .int v_bad, .int v_markSize, .ref m_mark, .int v_relationCount, .ref m_idSize, .ref m_ids, .ref m_goalSize, .ref m_goals, .int v_valueSize, .ref m_value, .int v_faultCount, .ref m_faults, .ref m_reached])), (m_tape, .inl (G.2.1, 8000, .inl a_tape)), (m_count, .inl (G.2.2.1, 2, .inl a_count)), (m_nameSize, .inl (G.2.2.1, 34, .inl a_nameSize)), (m_names, .inl (G.2.1, 816, .inl a_names)), (m_looked, .inl (G.2.1, 40, .inl a_looked)), (m_size, .inl (G.2.2.1, 34, .inl a_size)), (m_data, .inl (G.2.1, 136000, .inl a_data))] (S := Int32 × Int32 × (Nat → Int32) × (Nat → Int32) × (Nat → Int32) × (Nat → Int32) × (Nat → Int32) × (Nat → Int32)) (fun rv_ u => rv_ = some (.int u.1) ∧ (u.1.toInt = 0 ∨ u.1.toInt = 1) ∧ (ms_I 0 (gx u.2.2.1 0) u.2.2.2.1 u.2.2.2.2.2.2.1 u.2.2.2.2.1) ∧ (0 ≤ u.2.1.toInt) ∧ (u.2.1.toInt ≤ 8000) ∧ (hid_ (∃ q : Int, isF_ V v_taped.toInt (gx a_tape) q ∧ (0 ≤ q ∧ u.1.toInt = 1 ∧ rM_ 0 (gx u.2.2.1 0) u.2.2.2.1 u.2.2.2.2.1 u.2.2.2.2.2.2.1 u.2.2.2.2.2.2.2 (vou_ V q) ∨ q = -1 ∧ u.1.toInt = 0 ∧ rM_ 0 (gx u.2.2.1 0) u.2.2.2.1 u.2.2.2.2.1 u.2.2.2.2.2.2.1 u.2.2.2.2.2.2.2 V))) ∧ (sb_Fit u.2.2.2.2.1) ∧ (sb_Fit u.2.2.2.2.2.1) ∧ (sb_Fit u.2.2.2.2.2.2.2)) (fun u => [(h, .inr (10, [.ref m_rels, .ref m_openRels, .ref m_closeRels, .ref m_openRel, .ref m_closeRel, .ref m_comment, .ref m_ends, .ref m_order, .int 0, .int 0, .ref m_tape, .ref m_count, .ref m_nameSize, .ref m_names, .ref m_size, .ref m_data, .int u.2.1, .ref m_looked, .int v_fileSize, .ref m_file, .int v_directorySize, .ref m_directory, .int v_outSize, .ref m_out, .int v_rowSize, .ref m_row, .int v_bitAt, .int v_bitEnd, .int v_why, .int v_madeSize, .ref m_made, .ref m_length, .int v_firstCount, .int v_secondCount, .int v_heldBits, .int v_heldCount, .int v_pressedSize, .ref m_pressed, .int v_at, .int v_bad, .int v_markSize, .ref m_mark, .int v_relationCount, .ref m_idSize, .ref m_ids, .ref m_goalSize, .ref m_goals, .int v_valueSize, .ref m_value, .int v_faultCount, .ref m_faults, .ref m_reached])), (m_tape, .inl (G.2.1, 8000, .inl a_tape)), (m_count, .inl (G.2.2.1, 2, .inl u.2.2.1)), (m_nameSize, .inl (G.2.2.1, 34, .inl u.2.2.2.1)), (m_names, .inl (G.2.1, 816, .inl u.2.2.2.2.1)), (m_looked, .inl (G.2.1, 40, .inl u.2.2.2.2.2.1)), (m_size, .inl (G.2.2.1, 34, .inl u.2.2.2.2.2.2.1)), (m_data, .inl (G.2.1, 136000, .inl u.2.2.2.2.2.2.2))]) := by
  refine Cn.of hl (by decide +kernel) rfl (Nat.le_of_ble_eq_true rfl) (fun M hQ => ?_)
  refine pb_eq (pc' := 0) (lo' := [(0, .ref h)]) (rest' := []) (ws' := [(h, .inr (10, [.ref m_rels, .ref m_openRels, .ref m_closeRels, .ref m_openRel, .ref m_closeRel, .ref m_comment, .ref m_ends, .ref m_order, .int v_thrown, .int v_taped, .ref m_tape, .ref m_count, .ref m_nameSize, .ref m_names, .ref m_size, .ref m_data, .int v_lookedSize, .ref m_looked, .int v_fileSize, .ref m_file, .int v_directorySize, .ref m_directory, .int v_outSize, .ref m_out, .int v_rowSize, .ref m_row, .int v_bitAt, .int v_bitEnd, .int v_why, .int v_madeSize, .ref m_made, .ref m_length, .int v_firstCount, .int v_secondCount, .int v_heldBits, .int v_heldCount, .int v_pressedSize, .ref m_pressed, .int v_at, .int v_bad, .int v_markSize, .ref m_mark, .int v_relationCount, .ref m_idSize, .ref m_ids, .ref m_goalSize, .ref m_goals, .int v_valueSize, .ref m_value, .int v_faultCount, .ref m_faults, .ref m_reached])), (m_tape, .inl (G.2.1, 8000, .inl a_tape)), (m_count, .inl (G.2.2.1, 2, .inl a_count)), (m_nameSize, .inl (G.2.2.1, 34, .inl a_nameSize)), (m_names, .inl (G.2.1, 816, .inl a_names)), (m_looked, .inl (G.2.1, 40, .inl a_looked)), (m_size, .inl (G.2.2.1, 34, .inl a_size)), (m_data, .inl (G.2.1, 136000, .inl a_data))]) ?_
  have zl0 : (0 : Int32).toInt = 0 := by decide
  have zl1 : (1 : Int32).toInt = 1 := by decide
  have w0 := I.1
  have w1 := I.2.1
  refine pb_aload_n (pc := 0) d_Mod_remove_0 0 rfl rfl ?_
  refine pb_iconst (pc := 1) (v := 0) d_Mod_remove_1 (by decide) ?_
  refine pb_put (pc := 2) (ty := .int) (ws' := [(h, .inr (10, [.ref m_rels, .ref m_openRels, .ref m_closeRels, .ref m_openRel, .ref m_closeRel, .ref m_comment, .ref m_ends, .ref m_order, .int 0, .int v_taped, .ref m_tape, .ref m_count, .ref m_nameSize, .ref m_names, .ref m_size, .ref m_data, .int v_lookedSize, .ref m_looked, .int v_fileSize, .ref m_file, .int v_directorySize, .ref m_directory, .int v_outSize, .ref m_out, .int v_rowSize, .ref m_row, .int v_bitAt, .int v_bitEnd, .int v_why, .int v_madeSize, .ref m_made, .ref m_length, .int v_firstCount, .int v_secondCount, .int v_heldBits, .int v_heldCount, .int v_pressedSize, .ref m_pressed, .int v_at, .int v_bad, .int v_markSize, .ref m_mark, .int v_relationCount, .ref m_idSize, .ref m_ids, .ref m_goalSize, .ref m_goals, .int v_valueSize, .ref m_value, .int v_faultCount, .ref m_faults, .ref m_reached])), (m_tape, .inl (G.2.1, 8000, .inl a_tape)), (m_count, .inl (G.2.2.1, 2, .inl a_count)), (m_nameSize, .inl (G.2.2.1, 34, .inl a_nameSize)), (m_names, .inl (G.2.1, 816, .inl a_names)), (m_looked, .inl (G.2.1, 40, .inl a_looked)), (m_size, .inl (G.2.2.1, 34, .inl a_size)), (m_data, .inl (G.2.1, 136000, .inl a_data))]) d_Mod_remove_2 0 8 t_Mod t_Mod_ok n_Mod rfl rfl (by decide) in_Mod k_1154 rfl (by decide +kernel) rfl rfl (Nat.le_of_ble_eq_true rfl) rfl ?_
  refine pb_aload_n (pc := 5) d_Mod_remove_5 0 rfl rfl ?_
  refine pb_aload_n (pc := 6) d_Mod_remove_6 0 rfl rfl ?_
  refine pb_get (pc := 7) d_Mod_remove_7 0 10 rfl rfl (by decide) in_Mod k_1156 rfl ?_
  refine pb_iconst (pc := 10) (v := 0) d_Mod_remove_10 (by decide) ?_
  refine pb_aload_n (pc := 11) d_Mod_remove_11 0 rfl rfl ?_
  refine pb_get (pc := 12) d_Mod_remove_12 0 9 rfl rfl (by decide) in_Mod k_1155 rfl ?_
  refine pb_callV (pc := 15) (I := i_Mod_remove) (qb := 0) (ci := 10) (nA := 3) (rest := []) (wr := [(m_count, .inl (G.2.2.1, 2, .inl a_count)), (m_nameSize, .inl (G.2.2.1, 34, .inl a_nameSize)), (m_names, .inl (G.2.1, 816, .inl a_names)), (m_size, .inl (G.2.2.1, 34, .inl a_size)), (m_data, .inl (G.2.1, 136000, .inl a_data))]) d_Mod_remove_15 (g_Mod_look hl G h m_rels m_openRels m_closeRels m_openRel m_closeRel m_comment m_ends m_order m_tape m_count m_nameSize m_names m_size m_data m_looked m_file m_directory m_out m_row m_made m_length m_pressed m_mark m_idSize m_ids m_goalSize m_goals m_value m_faults m_reached 0 v_taped v_lookedSize v_fileSize v_directorySize v_outSize v_rowSize v_bitAt v_bitEnd v_why v_madeSize v_firstCount v_secondCount v_heldBits v_heldCount v_pressedSize v_at v_bad v_markSize v_relationCount v_valueSize v_faultCount a_looked m_tape 8000 a_tape 0 v_taped (by first | assumption | omega (splitDisjunctions := false) | omega | decide) (by first | assumption | omega (splitDisjunctions := false) | omega | decide) (by first | assumption | omega (splitDisjunctions := false) | omega | decide) F_a_looked F_a_tape) rfl rfl [0, 5, 1] [2, 3, 4, 6, 7] (by decide) rfl rfl rfl (by decide) (by decide) k_1329 rfl k_128 k_1326 k_1328 k_53 ⟨rfl, hy_Mod_look⟩ (by decide) rfl rfl (Nat.le_of_ble_eq_true rfl) (by decide) (fun v9 ux2 ch1 => ?_)
  obtain ⟨g_3, rfl⟩ : ∃ z9, z9 = ux2 := ⟨_, rfl⟩
  obtain ⟨ech1, ch1⟩ := ch1
  have ech1 : v9 = none := ech1
  subst ech1
  obtain ⟨fh4, fh5⟩ : (∀ k : Int, 0 ≤ k → k < v_taped.toInt → k < 40 → gx g_3 k = gx a_tape ((0 : Int32).toInt + k)) ∧ (sb_Fit g_3) := ch1
  have lkF := fh4
  refine pb_eq (pc' := 18) (lo' := [(0, .ref h)]) (rest' := []) (ws' := [(m_count, .inl (G.2.2.1, 2, .inl a_count)), (m_nameSize, .inl (G.2.2.1, 34, .inl a_nameSize)), (m_names, .inl (G.2.1, 816, .inl a_names)), (m_size, .inl (G.2.2.1, 34, .inl a_size)), (m_data, .inl (G.2.1, 136000, .inl a_data)), (h, .inr (10, [.ref m_rels, .ref m_openRels, .ref m_closeRels, .ref m_openRel, .ref m_closeRel, .ref m_comment, .ref m_ends, .ref m_order, .int 0, .int v_taped, .ref m_tape, .ref m_count, .ref m_nameSize, .ref m_names, .ref m_size, .ref m_data, .int v_taped, .ref m_looked, .int v_fileSize, .ref m_file, .int v_directorySize, .ref m_directory, .int v_outSize, .ref m_out, .int v_rowSize, .ref m_row, .int v_bitAt, .int v_bitEnd, .int v_why, .int v_madeSize, .ref m_made, .ref m_length, .int v_firstCount, .int v_secondCount, .int v_heldBits, .int v_heldCount, .int v_pressedSize, .ref m_pressed, .int v_at, .int v_bad, .int v_markSize, .ref m_mark, .int v_relationCount, .ref m_idSize, .ref m_ids, .ref m_goalSize, .ref m_goals, .int v_valueSize, .ref m_value, .int v_faultCount, .ref m_faults, .ref m_reached])), (m_looked, .inl (G.2.1, 40, .inl g_3)), (m_tape, .inl (G.2.1, 8000, .inl a_tape))]) ?_
  refine pb_aload_n (pc := 18) d_Mod_remove_18 0 rfl rfl ?_
  refine pb_iconst (pc := 19) (v := 0) d_Mod_remove_19 (by decide) ?_
  refine pb_put (pc := 20) (ty := .int) (ws' := [(m_count, .inl (G.2.2.1, 2, .inl a_count)), (m_nameSize, .inl (G.2.2.1, 34, .inl a_nameSize)), (m_names, .inl (G.2.1, 816, .inl a_names)), (m_size, .inl (G.2.2.1, 34, .inl a_size)), (m_data, .inl (G.2.1, 136000, .inl a_data)), (h, .inr (10, [.ref m_rels, .ref m_openRels, .ref m_closeRels, .ref m_openRel, .ref m_closeRel, .ref m_comment, .ref m_ends, .ref m_order, .int 0, .int 0, .ref m_tape, .ref m_count, .ref m_nameSize, .ref m_names, .ref m_size, .ref m_data, .int v_taped, .ref m_looked, .int v_fileSize, .ref m_file, .int v_directorySize, .ref m_directory, .int v_outSize, .ref m_out, .int v_rowSize, .ref m_row, .int v_bitAt, .int v_bitEnd, .int v_why, .int v_madeSize, .ref m_made, .ref m_length, .int v_firstCount, .int v_secondCount, .int v_heldBits, .int v_heldCount, .int v_pressedSize, .ref m_pressed, .int v_at, .int v_bad, .int v_markSize, .ref m_mark, .int v_relationCount, .ref m_idSize, .ref m_ids, .ref m_goalSize, .ref m_goals, .int v_valueSize, .ref m_value, .int v_faultCount, .ref m_faults, .ref m_reached])), (m_looked, .inl (G.2.1, 40, .inl g_3)), (m_tape, .inl (G.2.1, 8000, .inl a_tape))]) d_Mod_remove_20 5 9 t_Mod t_Mod_ok n_Mod rfl rfl (by decide) in_Mod k_1155 rfl (by decide +kernel) rfl rfl (Nat.le_of_ble_eq_true rfl) rfl ?_
  refine pb_aload_n (pc := 23) d_Mod_remove_23 0 rfl rfl ?_
  refine pb_iconst (pc := 24) (v := 0) d_Mod_remove_24 (by decide) ?_
  refine pb_callV (pc := 25) (I := i_Mod_remove) (qb := 5) (ci := 10) (nA := 1) (rest := []) (wr := [(m_size, .inl (G.2.2.1, 34, .inl a_size)), (m_data, .inl (G.2.1, 136000, .inl a_data)), (m_tape, .inl (G.2.1, 8000, .inl a_tape))]) d_Mod_remove_25 (g_Mod_find hl G h m_rels m_openRels m_closeRels m_openRel m_closeRel m_comment m_ends m_order m_tape m_count m_nameSize m_names m_size m_data m_looked m_file m_directory m_out m_row m_made m_length m_pressed m_mark m_idSize m_ids m_goalSize m_goals m_value m_faults m_reached 0 0 v_taped v_fileSize v_directorySize v_outSize v_rowSize v_bitAt v_bitEnd v_why v_madeSize v_firstCount v_secondCount v_heldBits v_heldCount v_pressedSize v_at v_bad v_markSize v_relationCount v_valueSize v_faultCount a_count a_nameSize a_names g_3 0 (by first | assumption | omega (splitDisjunctions := false) | omega | decide) (by first | assumption | omega (splitDisjunctions := false) | omega | decide) (by simpa only [zl0, Int.mul_zero] using fun i a0 a1 => (⟨(I.2.2.1 i a0 a1).1, (I.2.2.1 i a0 a1).2.1⟩ : 1 ≤ gx a_nameSize (0 + i) ∧ gx a_nameSize (0 + i) ≤ 24)) (by simpa only [zl0] using I.1) (by simpa only [zl0] using I.2.1) (by first | assumption | omega (splitDisjunctions := false) | omega | decide) (by first | assumption | omega (splitDisjunctions := false) | omega | decide) F_a_names fh5) rfl rfl [5, 0, 1, 2, 6] [3, 4, 7] (by decide) rfl rfl rfl (by decide) (by decide) k_1337 rfl k_128 k_1334 k_1336 k_55 ⟨rfl, hy_Mod_find⟩ (by decide) rfl rfl (Nat.le_of_ble_eq_true rfl) (by decide) (fun v9 ux7 ch6 => ?_)
  obtain ⟨r_8, rfl⟩ : ∃ z9, z9 = ux7 := ⟨_, rfl⟩
  obtain ⟨ech6, ch6⟩ := ch6
  have ech6 : v9 = some (.int r_8) := ech6
  subst ech6
  obtain ⟨fh9, fh10, fh11, fh12⟩ : (-1 ≤ r_8.toInt) ∧ (r_8.toInt < gx a_count (0 : Int32).toInt) ∧ (0 ≤ r_8.toInt → nl_eq a_nameSize a_names ((17 * (0 : Int32).toInt + r_8.toInt)) v_taped.toInt g_3) ∧ (r_8.toInt = -1 → ∀ i : Int, 0 ≤ i → i < gx a_count (0 : Int32).toInt → ¬ nl_eq a_nameSize a_names (17 * (0 : Int32).toInt + i) v_taped.toInt g_3) := ch6
  have fr1 := fh10
  rw [zl0] at fr1
  have fr2 := fh11
  have fr3 := fh12
  have fr0 := fh9
  simp only [zl0, Int.mul_zero] at fr2 fr3
  have hz24 : ∀ i9 : Int, 0 ≤ i9 → i9 < vC V → vZ V i9 ≤ 24 := fun i9 z0 z1 => by have q9 := R.1; have q8 := (R.2 i9 z0 (by omega)).1; have q7 := I.2.2.1 i9 z0 (by omega); omega
  have isQ0 : isF_ V v_taped.toInt (gx a_tape) r_8.toInt := by
    have q6 := rM_F R fr0 fr1 fr2 fr3
    by_cases q5 : v_taped.toInt ≤ 24
    · exact isF_cg q6 (fun k k0 k1 => by have q9 := lkF k k0 k1 (by omega); rw [zl0, Int.zero_add] at q9; exact q9)
    · rcases q6 with ⟨q4, q3, q2⟩ | ⟨q4, q3⟩
      · have q9 := hz24 _ q4 q3
        have q8 := q2.1
        omega
      · rw [q4]
        exact isF_big hz24 (by omega)
  obtain ⟨rQ9, erQ9⟩ : ∃ z : Int, z = r_8.toInt := ⟨_, rfl⟩
  refine pb_eq (pc' := 28) (lo' := [(0, .ref h)]) (rest' := [.int r_8]) (ws' := [(m_size, .inl (G.2.2.1, 34, .inl a_size)), (m_data, .inl (G.2.1, 136000, .inl a_data)), (m_tape, .inl (G.2.1, 8000, .inl a_tape)), (h, .inr (10, [.ref m_rels, .ref m_openRels, .ref m_closeRels, .ref m_openRel, .ref m_closeRel, .ref m_comment, .ref m_ends, .ref m_order, .int 0, .int 0, .ref m_tape, .ref m_count, .ref m_nameSize, .ref m_names, .ref m_size, .ref m_data, .int v_taped, .ref m_looked, .int v_fileSize, .ref m_file, .int v_directorySize, .ref m_directory, .int v_outSize, .ref m_out, .int v_rowSize, .ref m_row, .int v_bitAt, .int v_bitEnd, .int v_why, .int v_madeSize, .ref m_made, .ref m_length, .int v_firstCount, .int v_secondCount, .int v_heldBits, .int v_heldCount, .int v_pressedSize, .ref m_pressed, .int v_at, .int v_bad, .int v_markSize, .ref m_mark, .int v_relationCount, .ref m_idSize, .ref m_ids, .ref m_goalSize, .ref m_goals, .int v_valueSize, .ref m_value, .int v_faultCount, .ref m_faults, .ref m_reached])), (m_count, .inl (G.2.2.1, 2, .inl a_count)), (m_nameSize, .inl (G.2.2.1, 34, .inl a_nameSize)), (m_names, .inl (G.2.1, 816, .inl a_names)), (m_looked, .inl (G.2.1, 40, .inl g_3))]) ?_
  refine pb_istore_n (pc := 28) (lo' := [(1, .int r_8), (0, .ref h)]) d_Mod_remove_28 rfl (by decide) rfl ?_
  refine pb_iload_n (pc := 29) d_Mod_remove_29 0 rfl rfl ?_
  refine pb_if_ge (pc := 30) (tgt := 35) d_Mod_remove_30 (by decide) (fun wx13 => ?_) (fun wx13 => ?_)
  · have twx13 : 0 ≤ r_8.toInt := (ti_le (by decide) rfl).mp wx13
    refine pb_aload_n (pc := 35) d_Mod_remove_35 1 rfl rfl ?_
    refine pb_get (pc := 36) d_Mod_remove_36 3 11 rfl rfl (by decide) in_Mod k_1157 rfl ?_
    refine pb_iconst (pc := 39) (v := 0) d_Mod_remove_39 (by decide) ?_
    refine pb_dup2_11 (pc := 40) d_Mod_remove_40 rfl rfl ?_
    refine pb_iald (pc := 41) d_Mod_remove_41 4 rfl (by unfold vp_in; decide) ?_
    refine pb_topi (fun ix14 eix14 => ?_)
    have tix14 : ix14.toInt = gx a_count (0) := gx_ld eix14 (by omega)
    refine pb_iconst (pc := 42) (v := 1) d_Mod_remove_42 (by decide) ?_
    refine pb_isub (pc := 43) d_Mod_remove_43 ?_
    refine pb_topi (fun ix15 eix15 => ?_)
    try have tix15 : ix15.toInt = ix14.toInt - 1 := t2_sub eix15 rfl (by decide) (by omega)
    refine pb_iast (pc := 44) (ws' := [(m_size, .inl (G.2.2.1, 34, .inl a_size)), (m_data, .inl (G.2.1, 136000, .inl a_data)), (m_tape, .inl (G.2.1, 8000, .inl a_tape)), (h, .inr (10, [.ref m_rels, .ref m_openRels, .ref m_closeRels, .ref m_openRel, .ref m_closeRel, .ref m_comment, .ref m_ends, .ref m_order, .int 0, .int 0, .ref m_tape, .ref m_count, .ref m_nameSize, .ref m_names, .ref m_size, .ref m_data, .int v_taped, .ref m_looked, .int v_fileSize, .ref m_file, .int v_directorySize, .ref m_directory, .int v_outSize, .ref m_out, .int v_rowSize, .ref m_row, .int v_bitAt, .int v_bitEnd, .int v_why, .int v_madeSize, .ref m_made, .ref m_length, .int v_firstCount, .int v_secondCount, .int v_heldBits, .int v_heldCount, .int v_pressedSize, .ref m_pressed, .int v_at, .int v_bad, .int v_markSize, .ref m_mark, .int v_relationCount, .ref m_idSize, .ref m_ids, .ref m_goalSize, .ref m_goals, .int v_valueSize, .ref m_value, .int v_faultCount, .ref m_faults, .ref m_reached])), (m_count, .inl (G.2.2.1, 2, .inl (upd a_count ((0 : Int32).toNatClampNeg) ix15))), (m_nameSize, .inl (G.2.2.1, 34, .inl a_nameSize)), (m_names, .inl (G.2.1, 816, .inl a_names)), (m_looked, .inl (G.2.1, 40, .inl g_3))]) d_Mod_remove_44 4 rfl (by unfold vp_in; decide) rfl ?_
    refine pb_iload_n (pc := 45) d_Mod_remove_45 0 rfl rfl ?_
    refine pb_istore_n (pc := 46) (lo' := [(2, .int r_8), (1, .int r_8), (0, .ref h)]) d_Mod_remove_46 rfl (by decide) rfl ?_
    have hL47_16 : ∀ (N9 : Nat) (k : Int32) (i : Int32) (c3 : Nat → Int32) (z3 : Nat → Int32) (n3 : Nat → Int32) (s3 : Nat → Int32) (d3 : Nat → Int32) (lk3 : Nat → Int32), (sb_Fit n3) → (sb_Fit d3) → (sb_Fit lk3) → (0 ≤ i.toInt) → (i.toInt < gx a_count 0) → (i.toInt ≤ k.toInt) → (k.toInt ≤ gx a_count 0 - 1) → (gx c3 0 = gx a_count 0 - 1) → (dn_Z a_nameSize z3 0 i.toInt k.toInt) → (dn_Z a_size s3 0 i.toInt k.toInt) → (dn_N a_names n3 0 i.toInt k.toInt) → (dn_D a_size a_data d3 0 i.toInt k.toInt) → (isF_ V v_taped.toInt (gx a_tape) i.toInt) → ((gx a_count 0 - k.toInt).toNat) < N9 → pb_P l G M i_Mod_remove 47 [(2, .int k), (1, .int i), (0, .ref h)] [] [(h, .inr (10, [.ref m_rels, .ref m_openRels, .ref m_closeRels, .ref m_openRel, .ref m_closeRel, .ref m_comment, .ref m_ends, .ref m_order, .int 0, .int 0, .ref m_tape, .ref m_count, .ref m_nameSize, .ref m_names, .ref m_size, .ref m_data, .int v_taped, .ref m_looked, .int v_fileSize, .ref m_file, .int v_directorySize, .ref m_directory, .int v_outSize, .ref m_out, .int v_rowSize, .ref m_row, .int v_bitAt, .int v_bitEnd, .int v_why, .int v_madeSize, .ref m_made, .ref m_length, .int v_firstCount, .int v_secondCount, .int v_heldBits, .int v_heldCount, .int v_pressedSize, .ref m_pressed, .int v_at, .int v_bad, .int v_markSize, .ref m_mark, .int v_relationCount, .ref m_idSize, .ref m_ids, .ref m_goalSize, .ref m_goals, .int v_valueSize, .ref m_value, .int v_faultCount, .ref m_faults, .ref m_reached])), (m_tape, .inl (G.2.1, 8000, .inl a_tape)), (m_count, .inl (G.2.2.1, 2, .inl c3)), (m_nameSize, .inl (G.2.2.1, 34, .inl z3)), (m_names, .inl (G.2.1, 816, .inl n3)), (m_looked, .inl (G.2.1, 40, .inl lk3)), (m_size, .inl (G.2.2.1, 34, .inl s3)), (m_data, .inl (G.2.1, 136000, .inl d3))] 0 0 := by
      intro N9
      induction N9 with
      | zero => intro k i c3 z3 n3 s3 d3 lk3 F_n3 F_d3 F_lk3 i0 i1 k0 k1 hcn dz ds dn dd isQ hm9; exact absurd hm9 (Nat.not_lt_zero _)
      | succ N9 ih47 =>
        intro k i c3 z3 n3 s3 d3 lk3 F_n3 F_d3 F_lk3 i0 i1 k0 k1 hcn dz ds dn dd isQ hm9
        refine pb_iload_n (pc := 47) d_Mod_remove_47 0 rfl rfl ?_
        refine pb_aload_n (pc := 48) d_Mod_remove_48 2 rfl rfl ?_
        refine pb_get (pc := 49) d_Mod_remove_49 0 11 rfl rfl (by decide) in_Mod k_1157 rfl ?_
        refine pb_iconst (pc := 52) (v := 0) d_Mod_remove_52 (by decide) ?_
        refine pb_iald (pc := 53) d_Mod_remove_53 2 rfl (by unfold vp_in; decide) ?_
        refine pb_topi (fun ix17 eix17 => ?_)
        have tix17 : ix17.toInt = gx c3 (0) := gx_ld eix17 (by omega)
        refine pb_icmp_ge (pc := 54) (tgt := 71) d_Mod_remove_54 (by decide) (fun wx18 => ?_) (fun wx18 => ?_)
        · have twx18 : ix17.toInt ≤ k.toInt := (ti_le rfl rfl).mp wx18
          refine pb_iconst (pc := 71) (v := 1) d_Mod_remove_71 (by decide) ?_
          have kc : k.toInt = gx a_count 0 - 1 := by omega
          rw [kc] at dz ds dn dd
          have fin := dn_out I (by omega) i0 i1 dz ds dn
          rw [← hcn] at fin
          exact pb_iret (pc := 72) hQ d_Mod_remove_72 rfl rfl (1, v_taped, c3, z3, n3, lk3, s3, d3) ⟨rfl, (by (try dsimp only); first | done | assumption | omega (splitDisjunctions := false) | omega | decide), fin, (by (try dsimp only); first | done | assumption | omega (splitDisjunctions := false) | omega | decide), (by (try dsimp only); first | done | assumption | omega (splitDisjunctions := false) | omega | decide), (show hid_ (∃ q : Int, isF_ V v_taped.toInt (gx a_tape) q ∧ (0 ≤ q ∧ (1 : Int32).toInt = 1 ∧ rM_ 0 (gx c3 0) z3 n3 s3 d3 (vou_ V q) ∨ q = -1 ∧ (1 : Int32).toInt = 0 ∧ rM_ 0 (gx c3 0) z3 n3 s3 d3 V)) from (hid_i ⟨i.toInt, isQ, Or.inl ⟨i0, by omega, by have q9 := rM_out R I (by omega) i0 i1 dz ds dn dd; rw [← hcn] at q9; exact q9⟩⟩)), F_n3, F_lk3, F_d3⟩ [0, 1, 2, 3, 4, 5, 6, 7] (by decide) rfl rfl (by decide) (by decide)
        · have twx18 : ¬ ix17.toInt ≤ k.toInt := fun z9 => wx18 ((ti_le rfl rfl).mpr z9)
          have q5 := I.2.2.1 (k.toInt + 1) (by omega) (by omega)
          have q6 := ds (k.toInt + 1) (by omega)
          rw [if_neg (by omega)] at q6
          rw [Int.zero_add] at q5 q6
          refine pb_aload_n (pc := 57) d_Mod_remove_57 2 rfl rfl ?_
          refine pb_iload_n (pc := 58) d_Mod_remove_58 0 rfl rfl ?_
          refine pb_iconst (pc := 59) (v := 1) d_Mod_remove_59 (by decide) ?_
          refine pb_iadd (pc := 60) d_Mod_remove_60 ?_
          refine pb_topi (fun ix19 eix19 => ?_)
          try have tix19 : ix19.toInt = k.toInt + 1 := t2_add eix19 rfl (by decide) (by omega)
          refine pb_iload_n (pc := 61) d_Mod_remove_61 0 rfl rfl ?_
          refine pb_callV (pc := 62) (I := i_Mod_remove) (qb := 0) (ci := 10) (nA := 2) (rest := []) (wr := [(m_tape, .inl (G.2.1, 8000, .inl a_tape)), (m_count, .inl (G.2.2.1, 2, .inl c3)), (m_looked, .inl (G.2.1, 40, .inl lk3))]) d_Mod_remove_62 (g_Mod_move hl G h m_rels m_openRels m_closeRels m_openRel m_closeRel m_comment m_ends m_order m_tape m_count m_nameSize m_names m_size m_data m_looked m_file m_directory m_out m_row m_made m_length m_pressed m_mark m_idSize m_ids m_goalSize m_goals m_value m_faults m_reached 0 0 v_taped v_fileSize v_directorySize v_outSize v_rowSize v_bitAt v_bitEnd v_why v_madeSize v_firstCount v_secondCount v_heldBits v_heldCount v_pressedSize v_at v_bad v_markSize v_relationCount v_valueSize v_faultCount z3 n3 s3 d3 ix19 k (by first | assumption | omega (splitDisjunctions := false) | omega | decide) (by first | assumption | omega (splitDisjunctions := false) | omega | decide) (by first | assumption | omega (splitDisjunctions := false) | omega | decide) (by first | assumption | omega (splitDisjunctions := false) | omega | decide) (by first | assumption | omega (splitDisjunctions := false) | omega | decide) (by rw [show ix19.toInt = k.toInt + 1 by omega]; omega) (by rw [show ix19.toInt = k.toInt + 1 by omega]; omega) F_n3 F_d3) rfl rfl [0, 3, 4, 6, 7] [1, 2, 5] (by decide) rfl rfl rfl (by decide) (by decide) k_1353 rfl k_128 k_1350 k_1352 k_59 ⟨rfl, hy_Mod_move⟩ (by decide) rfl rfl (Nat.le_of_ble_eq_true rfl) (by decide) (fun v9 ux21 ch20 => ?_)
          obtain ⟨z_22, n_23, s_24, d_25⟩ := ux21
          obtain ⟨ech20, ch20⟩ := ch20
          have ech20 : v9 = none := ech20
          subst ech20
          obtain ⟨fh26, fh27, fh28, fh29, fh30, fh31⟩ : (mv_Z z3 z_22 ix19.toInt k.toInt) ∧ (mv_Z s3 s_24 ix19.toInt k.toInt) ∧ (mv_N n3 n_23 ix19.toInt k.toInt) ∧ (mv_D d3 d_25 ix19.toInt k.toInt (gx s3 ix19.toInt)) ∧ (sb_Fit n_23) ∧ (sb_Fit d_25) := ch20
          have m0 := fh26
          have m1 := fh27
          have m2 := fh28
          have m3 := fh29
          rw [show ix19.toInt = k.toInt + 1 by omega] at m3
          refine pb_eq (pc' := 65) (lo' := [(2, .int k), (1, .int i), (0, .ref h)]) (rest' := []) (ws' := [(m_tape, .inl (G.2.1, 8000, .inl a_tape)), (m_count, .inl (G.2.2.1, 2, .inl c3)), (m_looked, .inl (G.2.1, 40, .inl lk3)), (h, .inr (10, [.ref m_rels, .ref m_openRels, .ref m_closeRels, .ref m_openRel, .ref m_closeRel, .ref m_comment, .ref m_ends, .ref m_order, .int 0, .int 0, .ref m_tape, .ref m_count, .ref m_nameSize, .ref m_names, .ref m_size, .ref m_data, .int v_taped, .ref m_looked, .int v_fileSize, .ref m_file, .int v_directorySize, .ref m_directory, .int v_outSize, .ref m_out, .int v_rowSize, .ref m_row, .int v_bitAt, .int v_bitEnd, .int v_why, .int v_madeSize, .ref m_made, .ref m_length, .int v_firstCount, .int v_secondCount, .int v_heldBits, .int v_heldCount, .int v_pressedSize, .ref m_pressed, .int v_at, .int v_bad, .int v_markSize, .ref m_mark, .int v_relationCount, .ref m_idSize, .ref m_ids, .ref m_goalSize, .ref m_goals, .int v_valueSize, .ref m_value, .int v_faultCount, .ref m_faults, .ref m_reached])), (m_nameSize, .inl (G.2.2.1, 34, .inl z_22)), (m_names, .inl (G.2.1, 816, .inl n_23)), (m_size, .inl (G.2.2.1, 34, .inl s_24)), (m_data, .inl (G.2.1, 136000, .inl d_25))]) ?_
          refine pb_iincN (pc := 65) (c := 1) d_Mod_remove_65 0 rfl (by decide) (by decide) (fun ix32 eix32 => ?_)
          have tix32 : ix32.toInt = k.toInt + 1 := t2_add eix32 rfl (by decide) (by first | omega | (have r90 := ti_rng k; have r91 := ti_rng ix32; have r92 := ti_rng i; omega))
          refine pb_eq (pc' := 68) (lo' := [(2, .int ix32), (1, .int i), (0, .ref h)]) (rest' := []) (ws' := [(m_tape, .inl (G.2.1, 8000, .inl a_tape)), (m_count, .inl (G.2.2.1, 2, .inl c3)), (m_looked, .inl (G.2.1, 40, .inl lk3)), (h, .inr (10, [.ref m_rels, .ref m_openRels, .ref m_closeRels, .ref m_openRel, .ref m_closeRel, .ref m_comment, .ref m_ends, .ref m_order, .int 0, .int 0, .ref m_tape, .ref m_count, .ref m_nameSize, .ref m_names, .ref m_size, .ref m_data, .int v_taped, .ref m_looked, .int v_fileSize, .ref m_file, .int v_directorySize, .ref m_directory, .int v_outSize, .ref m_out, .int v_rowSize, .ref m_row, .int v_bitAt, .int v_bitEnd, .int v_why, .int v_madeSize, .ref m_made, .ref m_length, .int v_firstCount, .int v_secondCount, .int v_heldBits, .int v_heldCount, .int v_pressedSize, .ref m_pressed, .int v_at, .int v_bad, .int v_markSize, .ref m_mark, .int v_relationCount, .ref m_idSize, .ref m_ids, .ref m_goalSize, .ref m_goals, .int v_valueSize, .ref m_value, .int v_faultCount, .ref m_faults, .ref m_reached])), (m_nameSize, .inl (G.2.2.1, 34, .inl z_22)), (m_names, .inl (G.2.1, 816, .inl n_23)), (m_size, .inl (G.2.2.1, 34, .inl s_24)), (m_data, .inl (G.2.1, 136000, .inl d_25))]) ?_
          refine pb_goto (pc := 68) (tgt := 47) d_Mod_remove_68 (by decide) ?_
          refine pb_re (ws' := [(h, .inr (10, [.ref m_rels, .ref m_openRels, .ref m_closeRels, .ref m_openRel, .ref m_closeRel, .ref m_comment, .ref m_ends, .ref m_order, .int 0, .int 0, .ref m_tape, .ref m_count, .ref m_nameSize, .ref m_names, .ref m_size, .ref m_data, .int v_taped, .ref m_looked, .int v_fileSize, .ref m_file, .int v_directorySize, .ref m_directory, .int v_outSize, .ref m_out, .int v_rowSize, .ref m_row, .int v_bitAt, .int v_bitEnd, .int v_why, .int v_madeSize, .ref m_made, .ref m_length, .int v_firstCount, .int v_secondCount, .int v_heldBits, .int v_heldCount, .int v_pressedSize, .ref m_pressed, .int v_at, .int v_bad, .int v_markSize, .ref m_mark, .int v_relationCount, .ref m_idSize, .ref m_ids, .ref m_goalSize, .ref m_goals, .int v_valueSize, .ref m_value, .int v_faultCount, .ref m_faults, .ref m_reached])), (m_tape, .inl (G.2.1, 8000, .inl a_tape)), (m_count, .inl (G.2.2.1, 2, .inl c3)), (m_nameSize, .inl (G.2.2.1, 34, .inl z_22)), (m_names, .inl (G.2.1, 816, .inl n_23)), (m_looked, .inl (G.2.1, 40, .inl lk3)), (m_size, .inl (G.2.2.1, 34, .inl s_24)), (m_data, .inl (G.2.1, 136000, .inl d_25))]) (lo' := [(2, .int ix32), (1, .int i), (0, .ref h)]) [3, 0, 1, 4, 5, 2, 6, 7] [0, 1, 2] (by decide) rfl rfl rfl ?_
          exact ih47 ix32 i c3 z_22 n_23 s_24 d_25 lk3 fh30 fh31 F_lk3 (by first | assumption | omega (splitDisjunctions := false) | omega | decide) (by first | assumption | omega (splitDisjunctions := false) | omega | decide) (by first | assumption | omega (splitDisjunctions := false) | omega | decide) (by first | assumption | omega (splitDisjunctions := false) | omega | decide) (by first | assumption | omega (splitDisjunctions := false) | omega | decide) (dn_Zs dz (by omega) (by omega) (by omega) (by omega) (by omega) m0 (by omega)) (dn_Zs ds (by omega) (by omega) (by omega) (by omega) (by omega) m1 (by omega)) (dn_Ns dn (by omega) (by omega) (by omega) (by omega) (by omega) m2 (by omega)) (dn_Ds dd (by omega) (by omega) (by omega) (by omega) (by omega) m3 (by rw [show (0 : Int) + k.toInt + 1 = k.toInt + 1 by omega]; omega) (by omega) (fun j j0 j1 => by have q9 := I.2.2.1 (j + 1) (by omega) (by omega); rw [show (0 : Int) + (j + 1) = 0 + j + 1 by omega] at q9; omega) (by omega)) (by first | assumption | omega (splitDisjunctions := false) | omega | decide) (by omega)
    refine pb_re (ws' := [(h, .inr (10, [.ref m_rels, .ref m_openRels, .ref m_closeRels, .ref m_openRel, .ref m_closeRel, .ref m_comment, .ref m_ends, .ref m_order, .int 0, .int 0, .ref m_tape, .ref m_count, .ref m_nameSize, .ref m_names, .ref m_size, .ref m_data, .int v_taped, .ref m_looked, .int v_fileSize, .ref m_file, .int v_directorySize, .ref m_directory, .int v_outSize, .ref m_out, .int v_rowSize, .ref m_row, .int v_bitAt, .int v_bitEnd, .int v_why, .int v_madeSize, .ref m_made, .ref m_length, .int v_firstCount, .int v_secondCount, .int v_heldBits, .int v_heldCount, .int v_pressedSize, .ref m_pressed, .int v_at, .int v_bad, .int v_markSize, .ref m_mark, .int v_relationCount, .ref m_idSize, .ref m_ids, .ref m_goalSize, .ref m_goals, .int v_valueSize, .ref m_value, .int v_faultCount, .ref m_faults, .ref m_reached])), (m_tape, .inl (G.2.1, 8000, .inl a_tape)), (m_count, .inl (G.2.2.1, 2, .inl (upd a_count ((0 : Int32).toNatClampNeg) ix15))), (m_nameSize, .inl (G.2.2.1, 34, .inl a_nameSize)), (m_names, .inl (G.2.1, 816, .inl a_names)), (m_looked, .inl (G.2.1, 40, .inl g_3)), (m_size, .inl (G.2.2.1, 34, .inl a_size)), (m_data, .inl (G.2.1, 136000, .inl a_data))]) (lo' := [(2, .int r_8), (1, .int r_8), (0, .ref h)]) [3, 2, 4, 5, 6, 7, 0, 1] [0, 1, 2] (by decide) rfl rfl rfl ?_
    exact hL47_16 _ r_8 r_8 (upd a_count ((0 : Int32).toNatClampNeg) ix15) a_nameSize a_names a_size a_data g_3 F_a_names F_a_data fh5 (by first | assumption | omega (splitDisjunctions := false) | omega | decide) (by first | assumption | omega (splitDisjunctions := false) | omega | decide) (by first | assumption | omega (splitDisjunctions := false) | omega | decide) (by first | assumption | omega (splitDisjunctions := false) | omega | decide) (by rw [gx_upd zl0 _ (by omega) (by omega), if_pos rfl]; omega) dn_Z0 dn_Z0 dn_N0 dn_D0 isQ0 (Nat.lt_succ_self _)
  · have twx13 : ¬ 0 ≤ r_8.toInt := fun z9 => wx13 ((ti_le (by decide) rfl).mpr z9)
    refine pb_iconst (pc := 33) (v := 0) d_Mod_remove_33 (by decide) ?_
    exact pb_iret (pc := 34) hQ d_Mod_remove_34 rfl rfl (0, v_taped, a_count, a_nameSize, a_names, g_3, a_size, a_data) ⟨rfl, (by (try dsimp only); first | done | assumption | omega (splitDisjunctions := false) | omega | decide), I, (by (try dsimp only); first | done | assumption | omega (splitDisjunctions := false) | omega | decide), (by (try dsimp only); first | done | assumption | omega (splitDisjunctions := false) | omega | decide), (show hid_ (∃ q : Int, isF_ V v_taped.toInt (gx a_tape) q ∧ (0 ≤ q ∧ (0 : Int32).toInt = 1 ∧ rM_ 0 (gx a_count 0) a_nameSize a_names a_size a_data (vou_ V q) ∨ q = -1 ∧ (0 : Int32).toInt = 0 ∧ rM_ 0 (gx a_count 0) a_nameSize a_names a_size a_data V)) from (hid_i ⟨rQ9, by rw [erQ9]; exact isQ0, Or.inr ⟨by omega, by omega, R⟩⟩)), F_a_names, fh5, F_a_data⟩ [3, 2, 4, 5, 6, 7, 0, 1] (by decide) rfl rfl (by decide) (by decide)

theorem d_Mod_about_52 : decode prog_12_method_16_code 52 = .ok (.aload_n 0, 1) := by decide +kernel
theorem d_Mod_about_53 : decode prog_12_method_16_code 53 = .ok (.getfield 103, 3) := by decide +kernel
theorem d_Mod_about_56 : decode prog_12_method_16_code 56 = .ok (.ifCond .le 5, 3) := by decide +kernel
theorem d_Mod_about_61 : decode prog_12_method_16_code 61 = .ok (.iload_n 1, 1) := by decide +kernel
theorem d_Mod_about_62 : decode prog_12_method_16_code 62 = .ok (.ifCond .ne 12, 3) := by decide +kernel
theorem d_Mod_about_74 : decode prog_12_method_16_code 74 = .ok (.iload_n 1, 1) := by decide +kernel
theorem d_Mod_about_75 : decode prog_12_method_16_code 75 = .ok (.iconst 1, 1) := by decide +kernel
theorem d_Mod_about_76 : decode prog_12_method_16_code 76 = .ok (.if_icmp .ne 12, 3) := by decide +kernel
theorem d_Mod_about_88 : decode prog_12_method_16_code 88 = .ok (.iload_n 1, 1) := by decide +kernel
theorem d_Mod_about_89 : decode prog_12_method_16_code 89 = .ok (.iconst 2, 1) := by decide +kernel
theorem d_Mod_about_90 : decode prog_12_method_16_code 90 = .ok (.if_icmp .ne 12, 3) := by decide +kernel
theorem d_Mod_about_102 : decode prog_12_method_16_code 102 = .ok (.aload_n 0, 1) := by decide +kernel
theorem d_Mod_about_103 : decode prog_12_method_16_code 103 = .ok (.iconst 0, 1) := by decide +kernel
theorem d_Mod_about_104 : decode prog_12_method_16_code 104 = .ok (.invokevirtual 125, 3) := by decide +kernel
theorem d_Mod_about_107 : decode prog_12_method_16_code 107 = .ok (.ireturn, 1) := by decide +kernel
theorem d_Mod_about_93 : decode prog_12_method_16_code 93 = .ok (.aload_n 0, 1) := by decide +kernel
theorem d_Mod_about_94 : decode prog_12_method_16_code 94 = .ok (.getfield 47, 3) := by decide +kernel
theorem d_Mod_about_97 : decode prog_12_method_16_code 97 = .ok (.iload_n 2, 1) := by decide +kernel
theorem d_Mod_about_98 : decode prog_12_method_16_code 98 = .ok (.iaload, 1) := by decide +kernel
theorem d_Mod_about_99 : decode prog_12_method_16_code 99 = .ok (.goto 8, 3) := by decide +kernel
theorem d_Mod_about_79 : decode prog_12_method_16_code 79 = .ok (.aload_n 0, 1) := by decide +kernel
theorem d_Mod_about_80 : decode prog_12_method_16_code 80 = .ok (.getfield 41, 3) := by decide +kernel
theorem d_Mod_about_83 : decode prog_12_method_16_code 83 = .ok (.iload_n 2, 1) := by decide +kernel
theorem d_Mod_about_84 : decode prog_12_method_16_code 84 = .ok (.iaload, 1) := by decide +kernel
theorem d_Mod_about_85 : decode prog_12_method_16_code 85 = .ok (.goto 22, 3) := by decide +kernel
theorem d_Mod_about_65 : decode prog_12_method_16_code 65 = .ok (.aload_n 0, 1) := by decide +kernel
theorem d_Mod_about_66 : decode prog_12_method_16_code 66 = .ok (.getfield 37, 3) := by decide +kernel
theorem d_Mod_about_69 : decode prog_12_method_16_code 69 = .ok (.iconst 0, 1) := by decide +kernel
theorem d_Mod_about_70 : decode prog_12_method_16_code 70 = .ok (.iaload, 1) := by decide +kernel
theorem d_Mod_about_71 : decode prog_12_method_16_code 71 = .ok (.goto 36, 3) := by decide +kernel
theorem d_Mod_about_59 : decode prog_12_method_16_code 59 = .ok (.iconst 0, 1) := by decide +kernel
theorem d_Mod_about_60 : decode prog_12_method_16_code 60 = .ok (.ireturn, 1) := by decide +kernel
theorem d_Mod_about_16 : decode prog_12_method_16_code 16 = .ok (.aload_n 0, 1) := by decide +kernel
theorem d_Mod_about_17 : decode prog_12_method_16_code 17 = .ok (.iload_n 1, 1) := by decide +kernel
theorem d_Mod_about_18 : decode prog_12_method_16_code 18 = .ok (.ifCond .lt 26, 3) := by decide +kernel
theorem d_Mod_about_44 : decode prog_12_method_16_code 44 = .ok (.iconst 1, 1) := by decide +kernel
theorem d_Mod_about_45 : decode prog_12_method_16_code 45 = .ok (.goto 4, 3) := by decide +kernel
theorem d_Mod_about_49 : decode prog_12_method_16_code 49 = .ok (.putfield 103, 3) := by decide +kernel
theorem d_Mod_about_21 : decode prog_12_method_16_code 21 = .ok (.iload_n 1, 1) := by decide +kernel
theorem d_Mod_about_22 : decode prog_12_method_16_code 22 = .ok (.iconst 3, 1) := by decide +kernel
theorem d_Mod_about_23 : decode prog_12_method_16_code 23 = .ok (.if_icmp .gt 21, 3) := by decide +kernel
theorem d_Mod_about_26 : decode prog_12_method_16_code 26 = .ok (.iload_n 3, 1) := by decide +kernel
theorem d_Mod_about_27 : decode prog_12_method_16_code 27 = .ok (.ifCond .eq 21, 3) := by decide +kernel
theorem d_Mod_about_48 : decode prog_12_method_16_code 48 = .ok (.iconst 0, 1) := by decide +kernel
theorem d_Mod_about_30 : decode prog_12_method_16_code 30 = .ok (.iload_n 2, 1) := by decide +kernel
theorem d_Mod_about_31 : decode prog_12_method_16_code 31 = .ok (.ifCond .lt 13, 3) := by decide +kernel
theorem d_Mod_about_34 : decode prog_12_method_16_code 34 = .ok (.iload_n 2, 1) := by decide +kernel
theorem d_Mod_about_35 : decode prog_12_method_16_code 35 = .ok (.aload_n 0, 1) := by decide +kernel
theorem d_Mod_about_36 : decode prog_12_method_16_code 36 = .ok (.getfield 37, 3) := by decide +kernel
theorem d_Mod_about_39 : decode prog_12_method_16_code 39 = .ok (.iconst 0, 1) := by decide +kernel
theorem d_Mod_about_40 : decode prog_12_method_16_code 40 = .ok (.iaload, 1) := by decide +kernel
theorem d_Mod_about_41 : decode prog_12_method_16_code 41 = .ok (.if_icmp .lt 7, 3) := by decide +kernel
theorem d_Mod_about_0 : decode prog_12_method_16_code 0 = .ok (.iload_n 1, 1) := by decide +kernel
theorem d_Mod_about_1 : decode prog_12_method_16_code 1 = .ok (.iconst 1, 1) := by decide +kernel
theorem d_Mod_about_2 : decode prog_12_method_16_code 2 = .ok (.if_icmp .eq 8, 3) := by decide +kernel
theorem d_Mod_about_10 : decode prog_12_method_16_code 10 = .ok (.iconst 1, 1) := by decide +kernel
theorem d_Mod_about_11 : decode prog_12_method_16_code 11 = .ok (.goto 4, 3) := by decide +kernel
theorem d_Mod_about_15 : decode prog_12_method_16_code 15 = .ok (.istore_n 3, 1) := by decide +kernel
theorem d_Mod_about_5 : decode prog_12_method_16_code 5 = .ok (.iload_n 1, 1) := by decide +kernel
theorem d_Mod_about_6 : decode prog_12_method_16_code 6 = .ok (.iconst 2, 1) := by decide +kernel
theorem d_Mod_about_7 : decode prog_12_method_16_code 7 = .ok (.if_icmp .ne 7, 3) := by decide +kernel
theorem d_Mod_about_14 : decode prog_12_method_16_code 14 = .ok (.iconst 0, 1) := by decide +kernel
abbrev y_Mod_about : MethodName := ⟨"PackageBookModel", "about", "(II)I"⟩
abbrev i_Mod_about : pb_I := (y_Mod_about, prog_12_method_16_code, 4, (some Jvm.ClassFile.FieldType.int), [], { frames := 1, cells := 0, slots := 0, locals := 23 })
set_option maxRecDepth 100000 in
set_option maxHeartbeats 4000000 in
theorem g_Mod_about {l : Launch} (hl : l.stackTraces = false) (G : pb_G) (h : Nat) (m_rels : Nat) (m_openRels : Nat) (m_closeRels : Nat) (m_openRel : Nat) (m_closeRel : Nat) (m_comment : Nat) (m_ends : Nat) (m_order : Nat) (m_tape : Nat) (m_count : Nat) (m_nameSize : Nat) (m_names : Nat) (m_size : Nat) (m_data : Nat) (m_looked : Nat) (m_file : Nat) (m_directory : Nat) (m_out : Nat) (m_row : Nat) (m_made : Nat) (m_length : Nat) (m_pressed : Nat) (m_mark : Nat) (m_idSize : Nat) (m_ids : Nat) (m_goalSize : Nat) (m_goals : Nat) (m_value : Nat) (m_faults : Nat) (m_reached : Nat) (v_thrown : Int32) (v_taped : Int32) (v_lookedSize : Int32) (v_fileSize : Int32) (v_directorySize : Int32) (v_outSize : Int32) (v_rowSize : Int32) (v_bitAt : Int32) (v_bitEnd : Int32) (v_why : Int32) (v_madeSize : Int32) (v_firstCount : Int32) (v_secondCount : Int32) (v_heldBits : Int32) (v_heldCount : Int32) (v_pressedSize : Int32) (v_at : Int32) (v_bad : Int32) (v_markSize : Int32) (v_relationCount : Int32) (v_valueSize : Int32) (v_faultCount : Int32) (a_count : Nat → Int32) (a_nameSize : Nat → Int32) (a_size : Nat → Int32) (a_names : Nat → Int32) (a_data : Nat → Int32) (w : Int32) (i : Int32) (V : VW_) (I : ms_I 0 (gx a_count 0) a_nameSize a_size a_names) (R : rM_ 0 (gx a_count 0) a_nameSize a_names a_size a_data V) : Cn l G i_Mod_about [.ref h, .int w, .int i] [(h, .inr (10, [.ref m_rels, .ref m_openRels, .ref m_closeRels, .ref m_openRel, .ref m_closeRel, .ref m_comment, .ref m_ends, .ref m_order, .int v_thrown, .int v_taped, .ref m_tape, .ref m_count, .ref m_nameSize, .ref m_names, .ref m_size, .ref m_data, .int v_lookedSize, .ref m_looked, .int v_fileSize, .ref m_file, .int v_directorySize, .ref m_directory, .int v_outSize, .ref m_out, .int v_rowSize, .ref m_row, .int v_bitAt, .int v_bitEnd, .int v_why, .int v_madeSize, .ref m_made, .ref m_length, .int v_firstCount, .int v_secondCount, .int v_heldBits, .int v_heldCount, .int v_pressedSize, .ref m_pressed, .int v_at, .int v_bad, .int v_markSize, .ref m_mark, .int v_relationCount, .ref m_idSize, .ref m_ids, .ref m_goalSize, .ref m_goals, .int v_valueSize, .ref m_value, .int v_faultCount, .ref m_faults, .ref m_reached])), (m_count, .inl (G.2.2.1, 2, .inl a_count)), (m_nameSize, .inl (G.2.2.1, 34, .inl a_nameSize)), (m_size, .inl (G.2.2.1, 34, .inl a_size))] (S := Int32 × Int32) (fun rv_ u => rv_ = some (.int u.1) ∧ (u.2.toInt = 0 ∨ u.2.toInt = 1) ∧ (u.2.toInt = 1 ↔ ¬ (w.toInt = 0 ∨ w.toInt = 3 ∨ (w.toInt = 1 ∨ w.toInt = 2) ∧ 0 ≤ i.toInt ∧ i.toInt < vC V)) ∧ (u.2.toInt = 0 → (w.toInt = 0 → u.1.toInt = vC V) ∧ (w.toInt = 1 → u.1.toInt = vZ V i.toInt) ∧ (w.toInt = 2 → u.1.toInt = vS V i.toInt) ∧ (w.toInt = 3 → u.1.toInt = vT V))) (fun u => [(h, .inr (10, [.ref m_rels, .ref m_openRels, .ref m_closeRels, .ref m_openRel, .ref m_closeRel, .ref m_comment, .ref m_ends, .ref m_order, .int u.2, .int v_taped, .ref m_tape, .ref m_count, .ref m_nameSize, .ref m_names, .ref m_size, .ref m_data, .int v_lookedSize, .ref m_looked, .int v_fileSize, .ref m_file, .int v_directorySize, .ref m_directory, .int v_outSize, .ref m_out, .int v_rowSize, .ref m_row, .int v_bitAt, .int v_bitEnd, .int v_why, .int v_madeSize, .ref m_made, .ref m_length, .int v_firstCount, .int v_secondCount, .int v_heldBits, .int v_heldCount, .int v_pressedSize, .ref m_pressed, .int v_at, .int v_bad, .int v_markSize, .ref m_mark, .int v_relationCount, .ref m_idSize, .ref m_ids, .ref m_goalSize, .ref m_goals, .int v_valueSize, .ref m_value, .int v_faultCount, .ref m_faults, .ref m_reached])), (m_count, .inl (G.2.2.1, 2, .inl a_count)), (m_nameSize, .inl (G.2.2.1, 34, .inl a_nameSize)), (m_size, .inl (G.2.2.1, 34, .inl a_size))]) := by
  refine Cn.of hl (by decide +kernel) rfl (Nat.le_of_ble_eq_true rfl) (fun M hQ => ?_)
  refine pb_eq (pc' := 0) (lo' := [(0, .ref h), (1, .int w), (2, .int i)]) (rest' := []) (ws' := [(h, .inr (10, [.ref m_rels, .ref m_openRels, .ref m_closeRels, .ref m_openRel, .ref m_closeRel, .ref m_comment, .ref m_ends, .ref m_order, .int v_thrown, .int v_taped, .ref m_tape, .ref m_count, .ref m_nameSize, .ref m_names, .ref m_size, .ref m_data, .int v_lookedSize, .ref m_looked, .int v_fileSize, .ref m_file, .int v_directorySize, .ref m_directory, .int v_outSize, .ref m_out, .int v_rowSize, .ref m_row, .int v_bitAt, .int v_bitEnd, .int v_why, .int v_madeSize, .ref m_made, .ref m_length, .int v_firstCount, .int v_secondCount, .int v_heldBits, .int v_heldCount, .int v_pressedSize, .ref m_pressed, .int v_at, .int v_bad, .int v_markSize, .ref m_mark, .int v_relationCount, .ref m_idSize, .ref m_ids, .ref m_goalSize, .ref m_goals, .int v_valueSize, .ref m_value, .int v_faultCount, .ref m_faults, .ref m_reached])), (m_count, .inl (G.2.2.1, 2, .inl a_count)), (m_nameSize, .inl (G.2.2.1, 34, .inl a_nameSize)), (m_size, .inl (G.2.2.1, 34, .inl a_size))]) ?_
  have zl0 : (0 : Int32).toInt = 0 := by decide
  have zl1 : (1 : Int32).toInt = 1 := by decide
  have w0 := I.1
  have w1 := I.2.1
  have RC := R.1
  have RA : 0 ≤ i.toInt → i.toInt < gx a_count 0 → gx a_nameSize i.toInt = vZ V i.toInt ∧ gx a_size i.toInt = vS V i.toInt := fun q9 q8 => by have q7 := R.2 i.toInt q9 q8; simp only [Int.zero_add] at q7; exact ⟨q7.1, q7.2.1⟩
  have rT := rM_all R w0
  have hJ16_1 : ∀ (of_ : Int32), (of_.toInt = 0 → w.toInt ≠ 1 ∧ w.toInt ≠ 2) → (of_.toInt ≠ 0 → w.toInt = 1 ∨ w.toInt = 2) → pb_P l G M i_Mod_about 16 [(3, .int of_), (0, .ref h), (1, .int w), (2, .int i)] [] [(h, .inr (10, [.ref m_rels, .ref m_openRels, .ref m_closeRels, .ref m_openRel, .ref m_closeRel, .ref m_comment, .ref m_ends, .ref m_order, .int v_thrown, .int v_taped, .ref m_tape, .ref m_count, .ref m_nameSize, .ref m_names, .ref m_size, .ref m_data, .int v_lookedSize, .ref m_looked, .int v_fileSize, .ref m_file, .int v_directorySize, .ref m_directory, .int v_outSize, .ref m_out, .int v_rowSize, .ref m_row, .int v_bitAt, .int v_bitEnd, .int v_why, .int v_madeSize, .ref m_made, .ref m_length, .int v_firstCount, .int v_secondCount, .int v_heldBits, .int v_heldCount, .int v_pressedSize, .ref m_pressed, .int v_at, .int v_bad, .int v_markSize, .ref m_mark, .int v_relationCount, .ref m_idSize, .ref m_ids, .ref m_goalSize, .ref m_goals, .int v_valueSize, .ref m_value, .int v_faultCount, .ref m_faults, .ref m_reached])), (m_count, .inl (G.2.2.1, 2, .inl a_count)), (m_nameSize, .inl (G.2.2.1, 34, .inl a_nameSize)), (m_size, .inl (G.2.2.1, 34, .inl a_size))] 0 0 := by
    intro of_ j0 j1
    have hJ52_2 : ∀ (th_ : Int32), (th_.toInt = 0 ∨ th_.toInt = 1) → (th_.toInt = 0 → (w.toInt = 1 ∨ w.toInt = 2) → 0 ≤ i.toInt ∧ i.toInt < gx a_count 0) → (th_.toInt = 0 → 0 ≤ w.toInt ∧ w.toInt ≤ 3) → (th_.toInt = 1 → ¬ (w.toInt = 0 ∨ w.toInt = 3 ∨ (w.toInt = 1 ∨ w.toInt = 2) ∧ 0 ≤ i.toInt ∧ i.toInt < gx a_count 0)) → pb_P l G M i_Mod_about 52 [(0, .ref h), (1, .int w), (2, .int i)] [] [(h, .inr (10, [.ref m_rels, .ref m_openRels, .ref m_closeRels, .ref m_openRel, .ref m_closeRel, .ref m_comment, .ref m_ends, .ref m_order, .int th_, .int v_taped, .ref m_tape, .ref m_count, .ref m_nameSize, .ref m_names, .ref m_size, .ref m_data, .int v_lookedSize, .ref m_looked, .int v_fileSize, .ref m_file, .int v_directorySize, .ref m_directory, .int v_outSize, .ref m_out, .int v_rowSize, .ref m_row, .int v_bitAt, .int v_bitEnd, .int v_why, .int v_madeSize, .ref m_made, .ref m_length, .int v_firstCount, .int v_secondCount, .int v_heldBits, .int v_heldCount, .int v_pressedSize, .ref m_pressed, .int v_at, .int v_bad, .int v_markSize, .ref m_mark, .int v_relationCount, .ref m_idSize, .ref m_ids, .ref m_goalSize, .ref m_goals, .int v_valueSize, .ref m_value, .int v_faultCount, .ref m_faults, .ref m_reached])), (m_count, .inl (G.2.2.1, 2, .inl a_count)), (m_nameSize, .inl (G.2.2.1, 34, .inl a_nameSize)), (m_size, .inl (G.2.2.1, 34, .inl a_size))] 0 0 := by
      intro th_ l0 l1 l2 l3
      refine pb_aload_n (pc := 52) d_Mod_about_52 0 rfl rfl ?_
      refine pb_get (pc := 53) d_Mod_about_53 0 8 rfl rfl (by decide) in_Mod k_1154 rfl ?_
      refine pb_if_le (pc := 56) (tgt := 61) d_Mod_about_56 (by decide) (fun wx3 => ?_) (fun wx3 => ?_)
      · have twx3 : th_.toInt ≤ 0 := (ti_le rfl (by decide)).mp wx3
        refine pb_iload_n (pc := 61) d_Mod_about_61 1 rfl rfl ?_
        refine pb_if_ne (pc := 62) (tgt := 74) d_Mod_about_62 (by decide) (fun wx4 => ?_) (fun wx4 => ?_)
        · have twx4 : ¬ w.toInt = 0 := fun z9 => wx4 ((ti_eq rfl (by decide)).mpr z9)
          refine pb_iload_n (pc := 74) d_Mod_about_74 1 rfl rfl ?_
          refine pb_iconst (pc := 75) (v := 1) d_Mod_about_75 (by decide) ?_
          refine pb_icmp_ne (pc := 76) (tgt := 88) d_Mod_about_76 (by decide) (fun wx5 => ?_) (fun wx5 => ?_)
          · have twx5 : ¬ w.toInt = 1 := fun z9 => wx5 ((ti_eq rfl (by decide)).mpr z9)
            refine pb_iload_n (pc := 88) d_Mod_about_88 1 rfl rfl ?_
            refine pb_iconst (pc := 89) (v := 2) d_Mod_about_89 (by decide) ?_
            refine pb_icmp_ne (pc := 90) (tgt := 102) d_Mod_about_90 (by decide) (fun wx6 => ?_) (fun wx6 => ?_)
            · have twx6 : ¬ w.toInt = 2 := fun z9 => wx6 ((ti_eq rfl (by decide)).mpr z9)
              refine pb_aload_n (pc := 102) d_Mod_about_102 0 rfl rfl ?_
              refine pb_iconst (pc := 103) (v := 0) d_Mod_about_103 (by decide) ?_
              refine pb_callV (pc := 104) (I := i_Mod_about) (qb := 0) (ci := 10) (nA := 1) (rest := []) (wr := [(m_nameSize, .inl (G.2.2.1, 34, .inl a_nameSize))]) d_Mod_about_104 (g_Mod_allBytes hl G h m_rels m_openRels m_closeRels m_openRel m_closeRel m_comment m_ends m_order m_tape m_count m_nameSize m_names m_size m_data m_looked m_file m_directory m_out m_row m_made m_length m_pressed m_mark m_idSize m_ids m_goalSize m_goals m_value m_faults m_reached th_ v_taped v_lookedSize v_fileSize v_directorySize v_outSize v_rowSize v_bitAt v_bitEnd v_why v_madeSize v_firstCount v_secondCount v_heldBits v_heldCount v_pressedSize v_at v_bad v_markSize v_relationCount v_valueSize v_faultCount a_count a_size 0 (by first | assumption | omega (splitDisjunctions := false) | omega | decide) (by first | assumption | omega (splitDisjunctions := false) | omega | decide) (by simpa only [zl0, Int.mul_zero] using fun i a0 a1 => (I.2.2.1 i a0 a1).2.2) (by simpa only [zl0] using I.1) (by simpa only [zl0] using I.2.1)) rfl rfl [0, 1, 3] [2] (by decide) rfl rfl rfl (by decide) (by decide) k_1345 rfl k_128 k_1342 k_1344 k_57 ⟨rfl, hy_Mod_allBytes⟩ (by decide) rfl rfl (Nat.le_of_ble_eq_true rfl) (by decide) (fun v9 ux8 ch7 => ?_)
              obtain ⟨r_9, rfl⟩ : ∃ z9, z9 = ux8 := ⟨_, rfl⟩
              obtain ⟨ech7, ch7⟩ := ch7
              have ech7 : v9 = some (.int r_9) := ech7
              subst ech7
              obtain ⟨fh10, fh11, fh12⟩ : (r_9.toInt = sm a_size (17 * (0 : Int32).toInt) (gx a_count (0 : Int32).toInt).toNat) ∧ (0 ≤ r_9.toInt) ∧ (r_9.toInt ≤ 64000) := ch7
              have abF := fh10
              simp only [zl0, Int.mul_zero] at abF
              refine pb_eq (pc' := 107) (lo' := [(0, .ref h), (1, .int w), (2, .int i)]) (rest' := [.int r_9]) (ws' := [(m_nameSize, .inl (G.2.2.1, 34, .inl a_nameSize)), (h, .inr (10, [.ref m_rels, .ref m_openRels, .ref m_closeRels, .ref m_openRel, .ref m_closeRel, .ref m_comment, .ref m_ends, .ref m_order, .int th_, .int v_taped, .ref m_tape, .ref m_count, .ref m_nameSize, .ref m_names, .ref m_size, .ref m_data, .int v_lookedSize, .ref m_looked, .int v_fileSize, .ref m_file, .int v_directorySize, .ref m_directory, .int v_outSize, .ref m_out, .int v_rowSize, .ref m_row, .int v_bitAt, .int v_bitEnd, .int v_why, .int v_madeSize, .ref m_made, .ref m_length, .int v_firstCount, .int v_secondCount, .int v_heldBits, .int v_heldCount, .int v_pressedSize, .ref m_pressed, .int v_at, .int v_bad, .int v_markSize, .ref m_mark, .int v_relationCount, .ref m_idSize, .ref m_ids, .ref m_goalSize, .ref m_goals, .int v_valueSize, .ref m_value, .int v_faultCount, .ref m_faults, .ref m_reached])), (m_count, .inl (G.2.2.1, 2, .inl a_count)), (m_size, .inl (G.2.2.1, 34, .inl a_size))]) ?_
              exact pb_iret (pc := 107) hQ d_Mod_about_107 rfl rfl (r_9, th_) ⟨rfl, (by (try dsimp only); first | done | assumption | omega (splitDisjunctions := false) | omega | decide), (by (try dsimp only); first | done | assumption | omega (splitDisjunctions := false) | omega | decide), (show th_.toInt = 0 → (w.toInt = 0 → r_9.toInt = vC V) ∧ (w.toInt = 1 → r_9.toInt = vZ V i.toInt) ∧ (w.toInt = 2 → r_9.toInt = vS V i.toInt) ∧ (w.toInt = 3 → r_9.toInt = vT V) from (fun q9 => by first | (refine ⟨fun _ => ?_, fun _ => ?_, fun _ => ?_, fun _ => ?_⟩ <;> omega) | omega))⟩ [1, 2, 0, 3] (by decide) rfl rfl (by decide) (by decide)
            · have twx6 : w.toInt = 2 := (ti_eq rfl (by decide)).mp wx6
              refine pb_aload_n (pc := 93) d_Mod_about_93 0 rfl rfl ?_
              refine pb_get (pc := 94) d_Mod_about_94 0 14 rfl rfl (by decide) in_Mod k_1160 rfl ?_
              refine pb_iload_n (pc := 97) d_Mod_about_97 2 rfl rfl ?_
              refine pb_iald (pc := 98) d_Mod_about_98 3 rfl (vp_in_iff.mpr (by omega)) ?_
              refine pb_topi (fun ix13 eix13 => ?_)
              have tix13 : ix13.toInt = gx a_size (i.toInt) := gx_ld eix13 rfl
              refine pb_goto (pc := 99) (tgt := 107) d_Mod_about_99 (by decide) ?_
              exact pb_iret (pc := 107) hQ d_Mod_about_107 rfl rfl (ix13, th_) ⟨rfl, (by (try dsimp only); first | done | assumption | omega (splitDisjunctions := false) | omega | decide), (by (try dsimp only); first | done | assumption | omega (splitDisjunctions := false) | omega | decide), (show th_.toInt = 0 → (w.toInt = 0 → ix13.toInt = vC V) ∧ (w.toInt = 1 → ix13.toInt = vZ V i.toInt) ∧ (w.toInt = 2 → ix13.toInt = vS V i.toInt) ∧ (w.toInt = 3 → ix13.toInt = vT V) from (fun q9 => by first | (refine ⟨fun _ => ?_, fun _ => ?_, fun _ => ?_, fun _ => ?_⟩ <;> omega) | omega))⟩ [0, 1, 2, 3] (by decide) rfl rfl (by decide) (by decide)
          · have twx5 : w.toInt = 1 := (ti_eq rfl (by decide)).mp wx5
            refine pb_aload_n (pc := 79) d_Mod_about_79 0 rfl rfl ?_
            refine pb_get (pc := 80) d_Mod_about_80 0 12 rfl rfl (by decide) in_Mod k_1158 rfl ?_
            refine pb_iload_n (pc := 83) d_Mod_about_83 2 rfl rfl ?_
            refine pb_iald (pc := 84) d_Mod_about_84 2 rfl (vp_in_iff.mpr (by omega)) ?_
            refine pb_topi (fun ix14 eix14 => ?_)
            have tix14 : ix14.toInt = gx a_nameSize (i.toInt) := gx_ld eix14 rfl
            refine pb_goto (pc := 85) (tgt := 107) d_Mod_about_85 (by decide) ?_
            exact pb_iret (pc := 107) hQ d_Mod_about_107 rfl rfl (ix14, th_) ⟨rfl, (by (try dsimp only); first | done | assumption | omega (splitDisjunctions := false) | omega | decide), (by (try dsimp only); first | done | assumption | omega (splitDisjunctions := false) | omega | decide), (show th_.toInt = 0 → (w.toInt = 0 → ix14.toInt = vC V) ∧ (w.toInt = 1 → ix14.toInt = vZ V i.toInt) ∧ (w.toInt = 2 → ix14.toInt = vS V i.toInt) ∧ (w.toInt = 3 → ix14.toInt = vT V) from (fun q9 => by first | (refine ⟨fun _ => ?_, fun _ => ?_, fun _ => ?_, fun _ => ?_⟩ <;> omega) | omega))⟩ [0, 1, 2, 3] (by decide) rfl rfl (by decide) (by decide)
        · have twx4 : w.toInt = 0 := (ti_eq rfl (by decide)).mp wx4
          refine pb_aload_n (pc := 65) d_Mod_about_65 0 rfl rfl ?_
          refine pb_get (pc := 66) d_Mod_about_66 0 11 rfl rfl (by decide) in_Mod k_1157 rfl ?_
          refine pb_iconst (pc := 69) (v := 0) d_Mod_about_69 (by decide) ?_
          refine pb_iald (pc := 70) d_Mod_about_70 1 rfl (by unfold vp_in; decide) ?_
          refine pb_topi (fun ix15 eix15 => ?_)
          have tix15 : ix15.toInt = gx a_count (0) := gx_ld eix15 (by omega)
          refine pb_goto (pc := 71) (tgt := 107) d_Mod_about_71 (by decide) ?_
          exact pb_iret (pc := 107) hQ d_Mod_about_107 rfl rfl (ix15, th_) ⟨rfl, (by (try dsimp only); first | done | assumption | omega (splitDisjunctions := false) | omega | decide), (by (try dsimp only); first | done | assumption | omega (splitDisjunctions := false) | omega | decide), (show th_.toInt = 0 → (w.toInt = 0 → ix15.toInt = vC V) ∧ (w.toInt = 1 → ix15.toInt = vZ V i.toInt) ∧ (w.toInt = 2 → ix15.toInt = vS V i.toInt) ∧ (w.toInt = 3 → ix15.toInt = vT V) from (fun q9 => by first | (refine ⟨fun _ => ?_, fun _ => ?_, fun _ => ?_, fun _ => ?_⟩ <;> omega) | omega))⟩ [0, 1, 2, 3] (by decide) rfl rfl (by decide) (by decide)
      · have twx3 : ¬ th_.toInt ≤ 0 := fun z9 => wx3 ((ti_le rfl (by decide)).mpr z9)
        refine pb_iconst (pc := 59) (v := 0) d_Mod_about_59 (by decide) ?_
        exact pb_iret (pc := 60) hQ d_Mod_about_60 rfl rfl (0, th_) ⟨rfl, (by (try dsimp only); first | done | assumption | omega (splitDisjunctions := false) | omega | decide), (by (try dsimp only); first | done | assumption | omega (splitDisjunctions := false) | omega | decide), (show th_.toInt = 0 → (w.toInt = 0 → (0 : Int32).toInt = vC V) ∧ (w.toInt = 1 → (0 : Int32).toInt = vZ V i.toInt) ∧ (w.toInt = 2 → (0 : Int32).toInt = vS V i.toInt) ∧ (w.toInt = 3 → (0 : Int32).toInt = vT V) from (fun q9 => by first | (refine ⟨fun _ => ?_, fun _ => ?_, fun _ => ?_, fun _ => ?_⟩ <;> omega) | omega))⟩ [0, 1, 2, 3] (by decide) rfl rfl (by decide) (by decide)
    refine pb_aload_n (pc := 16) d_Mod_about_16 1 rfl rfl ?_
    refine pb_iload_n (pc := 17) d_Mod_about_17 2 rfl rfl ?_
    refine pb_if_lt (pc := 18) (tgt := 44) d_Mod_about_18 (by decide) (fun wx16 => ?_) (fun wx16 => ?_)
    · have twx16 : w.toInt < 0 := (ti_lt rfl (by decide)).mp wx16
      refine pb_iconst (pc := 44) (v := 1) d_Mod_about_44 (by decide) ?_
      refine pb_goto (pc := 45) (tgt := 49) d_Mod_about_45 (by decide) ?_
      refine pb_put (pc := 49) (ty := .int) (ws' := [(h, .inr (10, [.ref m_rels, .ref m_openRels, .ref m_closeRels, .ref m_openRel, .ref m_closeRel, .ref m_comment, .ref m_ends, .ref m_order, .int 1, .int v_taped, .ref m_tape, .ref m_count, .ref m_nameSize, .ref m_names, .ref m_size, .ref m_data, .int v_lookedSize, .ref m_looked, .int v_fileSize, .ref m_file, .int v_directorySize, .ref m_directory, .int v_outSize, .ref m_out, .int v_rowSize, .ref m_row, .int v_bitAt, .int v_bitEnd, .int v_why, .int v_madeSize, .ref m_made, .ref m_length, .int v_firstCount, .int v_secondCount, .int v_heldBits, .int v_heldCount, .int v_pressedSize, .ref m_pressed, .int v_at, .int v_bad, .int v_markSize, .ref m_mark, .int v_relationCount, .ref m_idSize, .ref m_ids, .ref m_goalSize, .ref m_goals, .int v_valueSize, .ref m_value, .int v_faultCount, .ref m_faults, .ref m_reached])), (m_count, .inl (G.2.2.1, 2, .inl a_count)), (m_nameSize, .inl (G.2.2.1, 34, .inl a_nameSize)), (m_size, .inl (G.2.2.1, 34, .inl a_size))]) d_Mod_about_49 0 8 t_Mod t_Mod_ok n_Mod rfl rfl (by decide) in_Mod k_1154 rfl (by decide +kernel) rfl rfl (Nat.le_of_ble_eq_true rfl) rfl ?_
      refine pb_re (ws' := [(h, .inr (10, [.ref m_rels, .ref m_openRels, .ref m_closeRels, .ref m_openRel, .ref m_closeRel, .ref m_comment, .ref m_ends, .ref m_order, .int 1, .int v_taped, .ref m_tape, .ref m_count, .ref m_nameSize, .ref m_names, .ref m_size, .ref m_data, .int v_lookedSize, .ref m_looked, .int v_fileSize, .ref m_file, .int v_directorySize, .ref m_directory, .int v_outSize, .ref m_out, .int v_rowSize, .ref m_row, .int v_bitAt, .int v_bitEnd, .int v_why, .int v_madeSize, .ref m_made, .ref m_length, .int v_firstCount, .int v_secondCount, .int v_heldBits, .int v_heldCount, .int v_pressedSize, .ref m_pressed, .int v_at, .int v_bad, .int v_markSize, .ref m_mark, .int v_relationCount, .ref m_idSize, .ref m_ids, .ref m_goalSize, .ref m_goals, .int v_valueSize, .ref m_value, .int v_faultCount, .ref m_faults, .ref m_reached])), (m_count, .inl (G.2.2.1, 2, .inl a_count)), (m_nameSize, .inl (G.2.2.1, 34, .inl a_nameSize)), (m_size, .inl (G.2.2.1, 34, .inl a_size))]) (lo' := [(0, .ref h), (1, .int w), (2, .int i)]) [0, 1, 2, 3] [1, 2, 3] (by decide) rfl rfl rfl ?_
      exact hJ52_2 1 (by first | assumption | omega (splitDisjunctions := false) | omega | decide) (by first | assumption | omega (splitDisjunctions := false) | omega | decide) (by first | assumption | omega (splitDisjunctions := false) | omega | decide) (by first | assumption | omega (splitDisjunctions := false) | omega | decide)
    · have twx16 : ¬ w.toInt < 0 := fun z9 => wx16 ((ti_lt rfl (by decide)).mpr z9)
      refine pb_iload_n (pc := 21) d_Mod_about_21 2 rfl rfl ?_
      refine pb_iconst (pc := 22) (v := 3) d_Mod_about_22 (by decide) ?_
      refine pb_icmp_gt (pc := 23) (tgt := 44) d_Mod_about_23 (by decide) (fun wx17 => ?_) (fun wx17 => ?_)
      · have twx17 : 3 < w.toInt := (ti_lt (by decide) rfl).mp wx17
        refine pb_iconst (pc := 44) (v := 1) d_Mod_about_44 (by decide) ?_
        refine pb_goto (pc := 45) (tgt := 49) d_Mod_about_45 (by decide) ?_
        refine pb_put (pc := 49) (ty := .int) (ws' := [(h, .inr (10, [.ref m_rels, .ref m_openRels, .ref m_closeRels, .ref m_openRel, .ref m_closeRel, .ref m_comment, .ref m_ends, .ref m_order, .int 1, .int v_taped, .ref m_tape, .ref m_count, .ref m_nameSize, .ref m_names, .ref m_size, .ref m_data, .int v_lookedSize, .ref m_looked, .int v_fileSize, .ref m_file, .int v_directorySize, .ref m_directory, .int v_outSize, .ref m_out, .int v_rowSize, .ref m_row, .int v_bitAt, .int v_bitEnd, .int v_why, .int v_madeSize, .ref m_made, .ref m_length, .int v_firstCount, .int v_secondCount, .int v_heldBits, .int v_heldCount, .int v_pressedSize, .ref m_pressed, .int v_at, .int v_bad, .int v_markSize, .ref m_mark, .int v_relationCount, .ref m_idSize, .ref m_ids, .ref m_goalSize, .ref m_goals, .int v_valueSize, .ref m_value, .int v_faultCount, .ref m_faults, .ref m_reached])), (m_count, .inl (G.2.2.1, 2, .inl a_count)), (m_nameSize, .inl (G.2.2.1, 34, .inl a_nameSize)), (m_size, .inl (G.2.2.1, 34, .inl a_size))]) d_Mod_about_49 0 8 t_Mod t_Mod_ok n_Mod rfl rfl (by decide) in_Mod k_1154 rfl (by decide +kernel) rfl rfl (Nat.le_of_ble_eq_true rfl) rfl ?_
        refine pb_re (ws' := [(h, .inr (10, [.ref m_rels, .ref m_openRels, .ref m_closeRels, .ref m_openRel, .ref m_closeRel, .ref m_comment, .ref m_ends, .ref m_order, .int 1, .int v_taped, .ref m_tape, .ref m_count, .ref m_nameSize, .ref m_names, .ref m_size, .ref m_data, .int v_lookedSize, .ref m_looked, .int v_fileSize, .ref m_file, .int v_directorySize, .ref m_directory, .int v_outSize, .ref m_out, .int v_rowSize, .ref m_row, .int v_bitAt, .int v_bitEnd, .int v_why, .int v_madeSize, .ref m_made, .ref m_length, .int v_firstCount, .int v_secondCount, .int v_heldBits, .int v_heldCount, .int v_pressedSize, .ref m_pressed, .int v_at, .int v_bad, .int v_markSize, .ref m_mark, .int v_relationCount, .ref m_idSize, .ref m_ids, .ref m_goalSize, .ref m_goals, .int v_valueSize, .ref m_value, .int v_faultCount, .ref m_faults, .ref m_reached])), (m_count, .inl (G.2.2.1, 2, .inl a_count)), (m_nameSize, .inl (G.2.2.1, 34, .inl a_nameSize)), (m_size, .inl (G.2.2.1, 34, .inl a_size))]) (lo' := [(0, .ref h), (1, .int w), (2, .int i)]) [0, 1, 2, 3] [1, 2, 3] (by decide) rfl rfl rfl ?_
        exact hJ52_2 1 (by first | assumption | omega (splitDisjunctions := false) | omega | decide) (by first | assumption | omega (splitDisjunctions := false) | omega | decide) (by first | assumption | omega (splitDisjunctions := false) | omega | decide) (by first | assumption | omega (splitDisjunctions := false) | omega | decide)
      · have twx17 : ¬ 3 < w.toInt := fun z9 => wx17 ((ti_lt (by decide) rfl).mpr z9)
        refine pb_iload_n (pc := 26) d_Mod_about_26 0 rfl rfl ?_
        refine pb_if_eq (pc := 27) (tgt := 48) d_Mod_about_27 (by decide) (fun wx18 => ?_) (fun wx18 => ?_)
        · have twx18 : of_.toInt = 0 := (ti_eq rfl (by decide)).mp wx18
          refine pb_iconst (pc := 48) (v := 0) d_Mod_about_48 (by decide) ?_
          refine pb_put (pc := 49) (ty := .int) (ws' := [(h, .inr (10, [.ref m_rels, .ref m_openRels, .ref m_closeRels, .ref m_openRel, .ref m_closeRel, .ref m_comment, .ref m_ends, .ref m_order, .int 0, .int v_taped, .ref m_tape, .ref m_count, .ref m_nameSize, .ref m_names, .ref m_size, .ref m_data, .int v_lookedSize, .ref m_looked, .int v_fileSize, .ref m_file, .int v_directorySize, .ref m_directory, .int v_outSize, .ref m_out, .int v_rowSize, .ref m_row, .int v_bitAt, .int v_bitEnd, .int v_why, .int v_madeSize, .ref m_made, .ref m_length, .int v_firstCount, .int v_secondCount, .int v_heldBits, .int v_heldCount, .int v_pressedSize, .ref m_pressed, .int v_at, .int v_bad, .int v_markSize, .ref m_mark, .int v_relationCount, .ref m_idSize, .ref m_ids, .ref m_goalSize, .ref m_goals, .int v_valueSize, .ref m_value, .int v_faultCount, .ref m_faults, .ref m_reached])), (m_count, .inl (G.2.2.1, 2, .inl a_count)), (m_nameSize, .inl (G.2.2.1, 34, .inl a_nameSize)), (m_size, .inl (G.2.2.1, 34, .inl a_size))]) d_Mod_about_49 0 8 t_Mod t_Mod_ok n_Mod rfl rfl (by decide) in_Mod k_1154 rfl (by decide +kernel) rfl rfl (Nat.le_of_ble_eq_true rfl) rfl ?_
          refine pb_re (ws' := [(h, .inr (10, [.ref m_rels, .ref m_openRels, .ref m_closeRels, .ref m_openRel, .ref m_closeRel, .ref m_comment, .ref m_ends, .ref m_order, .int 0, .int v_taped, .ref m_tape, .ref m_count, .ref m_nameSize, .ref m_names, .ref m_size, .ref m_data, .int v_lookedSize, .ref m_looked, .int v_fileSize, .ref m_file, .int v_directorySize, .ref m_directory, .int v_outSize, .ref m_out, .int v_rowSize, .ref m_row, .int v_bitAt, .int v_bitEnd, .int v_why, .int v_madeSize, .ref m_made, .ref m_length, .int v_firstCount, .int v_secondCount, .int v_heldBits, .int v_heldCount, .int v_pressedSize, .ref m_pressed, .int v_at, .int v_bad, .int v_markSize, .ref m_mark, .int v_relationCount, .ref m_idSize, .ref m_ids, .ref m_goalSize, .ref m_goals, .int v_valueSize, .ref m_value, .int v_faultCount, .ref m_faults, .ref m_reached])), (m_count, .inl (G.2.2.1, 2, .inl a_count)), (m_nameSize, .inl (G.2.2.1, 34, .inl a_nameSize)), (m_size, .inl (G.2.2.1, 34, .inl a_size))]) (lo' := [(0, .ref h), (1, .int w), (2, .int i)]) [0, 1, 2, 3] [1, 2, 3] (by decide) rfl rfl rfl ?_
          exact hJ52_2 0 (by first | assumption | omega (splitDisjunctions := false) | omega | decide) (by first | assumption | omega (splitDisjunctions := false) | omega | decide) (by first | assumption | omega (splitDisjunctions := false) | omega | decide) (by first | assumption | omega (splitDisjunctions := false) | omega | decide)
        · have twx18 : ¬ of_.toInt = 0 := fun z9 => wx18 ((ti_eq rfl (by decide)).mpr z9)
          refine pb_iload_n (pc := 30) d_Mod_about_30 3 rfl rfl ?_
          refine pb_if_lt (pc := 31) (tgt := 44) d_Mod_about_31 (by decide) (fun wx19 => ?_) (fun wx19 => ?_)
          · have twx19 : i.toInt < 0 := (ti_lt rfl (by decide)).mp wx19
            refine pb_iconst (pc := 44) (v := 1) d_Mod_about_44 (by decide) ?_
            refine pb_goto (pc := 45) (tgt := 49) d_Mod_about_45 (by decide) ?_
            refine pb_put (pc := 49) (ty := .int) (ws' := [(h, .inr (10, [.ref m_rels, .ref m_openRels, .ref m_closeRels, .ref m_openRel, .ref m_closeRel, .ref m_comment, .ref m_ends, .ref m_order, .int 1, .int v_taped, .ref m_tape, .ref m_count, .ref m_nameSize, .ref m_names, .ref m_size, .ref m_data, .int v_lookedSize, .ref m_looked, .int v_fileSize, .ref m_file, .int v_directorySize, .ref m_directory, .int v_outSize, .ref m_out, .int v_rowSize, .ref m_row, .int v_bitAt, .int v_bitEnd, .int v_why, .int v_madeSize, .ref m_made, .ref m_length, .int v_firstCount, .int v_secondCount, .int v_heldBits, .int v_heldCount, .int v_pressedSize, .ref m_pressed, .int v_at, .int v_bad, .int v_markSize, .ref m_mark, .int v_relationCount, .ref m_idSize, .ref m_ids, .ref m_goalSize, .ref m_goals, .int v_valueSize, .ref m_value, .int v_faultCount, .ref m_faults, .ref m_reached])), (m_count, .inl (G.2.2.1, 2, .inl a_count)), (m_nameSize, .inl (G.2.2.1, 34, .inl a_nameSize)), (m_size, .inl (G.2.2.1, 34, .inl a_size))]) d_Mod_about_49 0 8 t_Mod t_Mod_ok n_Mod rfl rfl (by decide) in_Mod k_1154 rfl (by decide +kernel) rfl rfl (Nat.le_of_ble_eq_true rfl) rfl ?_
            refine pb_re (ws' := [(h, .inr (10, [.ref m_rels, .ref m_openRels, .ref m_closeRels, .ref m_openRel, .ref m_closeRel, .ref m_comment, .ref m_ends, .ref m_order, .int 1, .int v_taped, .ref m_tape, .ref m_count, .ref m_nameSize, .ref m_names, .ref m_size, .ref m_data, .int v_lookedSize, .ref m_looked, .int v_fileSize, .ref m_file, .int v_directorySize, .ref m_directory, .int v_outSize, .ref m_out, .int v_rowSize, .ref m_row, .int v_bitAt, .int v_bitEnd, .int v_why, .int v_madeSize, .ref m_made, .ref m_length, .int v_firstCount, .int v_secondCount, .int v_heldBits, .int v_heldCount, .int v_pressedSize, .ref m_pressed, .int v_at, .int v_bad, .int v_markSize, .ref m_mark, .int v_relationCount, .ref m_idSize, .ref m_ids, .ref m_goalSize, .ref m_goals, .int v_valueSize, .ref m_value, .int v_faultCount, .ref m_faults, .ref m_reached])), (m_count, .inl (G.2.2.1, 2, .inl a_count)), (m_nameSize, .inl (G.2.2.1, 34, .inl a_nameSize)), (m_size, .inl (G.2.2.1, 34, .inl a_size))]) (lo' := [(0, .ref h), (1, .int w), (2, .int i)]) [0, 1, 2, 3] [1, 2, 3] (by decide) rfl rfl rfl ?_
            exact hJ52_2 1 (by first | assumption | omega (splitDisjunctions := false) | omega | decide) (by first | assumption | omega (splitDisjunctions := false) | omega | decide) (by first | assumption | omega (splitDisjunctions := false) | omega | decide) (by first | assumption | omega (splitDisjunctions := false) | omega | decide)
          · have twx19 : ¬ i.toInt < 0 := fun z9 => wx19 ((ti_lt rfl (by decide)).mpr z9)
            refine pb_iload_n (pc := 34) d_Mod_about_34 3 rfl rfl ?_
            refine pb_aload_n (pc := 35) d_Mod_about_35 1 rfl rfl ?_
            refine pb_get (pc := 36) d_Mod_about_36 0 11 rfl rfl (by decide) in_Mod k_1157 rfl ?_
            refine pb_iconst (pc := 39) (v := 0) d_Mod_about_39 (by decide) ?_
            refine pb_iald (pc := 40) d_Mod_about_40 1 rfl (by unfold vp_in; decide) ?_
            refine pb_topi (fun ix20 eix20 => ?_)
            have tix20 : ix20.toInt = gx a_count (0) := gx_ld eix20 (by omega)
            refine pb_icmp_lt (pc := 41) (tgt := 48) d_Mod_about_41 (by decide) (fun wx21 => ?_) (fun wx21 => ?_)
            · have twx21 : i.toInt < ix20.toInt := (ti_lt rfl rfl).mp wx21
              refine pb_iconst (pc := 48) (v := 0) d_Mod_about_48 (by decide) ?_
              refine pb_put (pc := 49) (ty := .int) (ws' := [(h, .inr (10, [.ref m_rels, .ref m_openRels, .ref m_closeRels, .ref m_openRel, .ref m_closeRel, .ref m_comment, .ref m_ends, .ref m_order, .int 0, .int v_taped, .ref m_tape, .ref m_count, .ref m_nameSize, .ref m_names, .ref m_size, .ref m_data, .int v_lookedSize, .ref m_looked, .int v_fileSize, .ref m_file, .int v_directorySize, .ref m_directory, .int v_outSize, .ref m_out, .int v_rowSize, .ref m_row, .int v_bitAt, .int v_bitEnd, .int v_why, .int v_madeSize, .ref m_made, .ref m_length, .int v_firstCount, .int v_secondCount, .int v_heldBits, .int v_heldCount, .int v_pressedSize, .ref m_pressed, .int v_at, .int v_bad, .int v_markSize, .ref m_mark, .int v_relationCount, .ref m_idSize, .ref m_ids, .ref m_goalSize, .ref m_goals, .int v_valueSize, .ref m_value, .int v_faultCount, .ref m_faults, .ref m_reached])), (m_count, .inl (G.2.2.1, 2, .inl a_count)), (m_nameSize, .inl (G.2.2.1, 34, .inl a_nameSize)), (m_size, .inl (G.2.2.1, 34, .inl a_size))]) d_Mod_about_49 0 8 t_Mod t_Mod_ok n_Mod rfl rfl (by decide) in_Mod k_1154 rfl (by decide +kernel) rfl rfl (Nat.le_of_ble_eq_true rfl) rfl ?_
              refine pb_re (ws' := [(h, .inr (10, [.ref m_rels, .ref m_openRels, .ref m_closeRels, .ref m_openRel, .ref m_closeRel, .ref m_comment, .ref m_ends, .ref m_order, .int 0, .int v_taped, .ref m_tape, .ref m_count, .ref m_nameSize, .ref m_names, .ref m_size, .ref m_data, .int v_lookedSize, .ref m_looked, .int v_fileSize, .ref m_file, .int v_directorySize, .ref m_directory, .int v_outSize, .ref m_out, .int v_rowSize, .ref m_row, .int v_bitAt, .int v_bitEnd, .int v_why, .int v_madeSize, .ref m_made, .ref m_length, .int v_firstCount, .int v_secondCount, .int v_heldBits, .int v_heldCount, .int v_pressedSize, .ref m_pressed, .int v_at, .int v_bad, .int v_markSize, .ref m_mark, .int v_relationCount, .ref m_idSize, .ref m_ids, .ref m_goalSize, .ref m_goals, .int v_valueSize, .ref m_value, .int v_faultCount, .ref m_faults, .ref m_reached])), (m_count, .inl (G.2.2.1, 2, .inl a_count)), (m_nameSize, .inl (G.2.2.1, 34, .inl a_nameSize)), (m_size, .inl (G.2.2.1, 34, .inl a_size))]) (lo' := [(0, .ref h), (1, .int w), (2, .int i)]) [0, 1, 2, 3] [1, 2, 3] (by decide) rfl rfl rfl ?_
              exact hJ52_2 0 (by first | assumption | omega (splitDisjunctions := false) | omega | decide) (by first | assumption | omega (splitDisjunctions := false) | omega | decide) (by first | assumption | omega (splitDisjunctions := false) | omega | decide) (by first | assumption | omega (splitDisjunctions := false) | omega | decide)
            · have twx21 : ¬ i.toInt < ix20.toInt := fun z9 => wx21 ((ti_lt rfl rfl).mpr z9)
              refine pb_iconst (pc := 44) (v := 1) d_Mod_about_44 (by decide) ?_
              refine pb_goto (pc := 45) (tgt := 49) d_Mod_about_45 (by decide) ?_
              refine pb_put (pc := 49) (ty := .int) (ws' := [(h, .inr (10, [.ref m_rels, .ref m_openRels, .ref m_closeRels, .ref m_openRel, .ref m_closeRel, .ref m_comment, .ref m_ends, .ref m_order, .int 1, .int v_taped, .ref m_tape, .ref m_count, .ref m_nameSize, .ref m_names, .ref m_size, .ref m_data, .int v_lookedSize, .ref m_looked, .int v_fileSize, .ref m_file, .int v_directorySize, .ref m_directory, .int v_outSize, .ref m_out, .int v_rowSize, .ref m_row, .int v_bitAt, .int v_bitEnd, .int v_why, .int v_madeSize, .ref m_made, .ref m_length, .int v_firstCount, .int v_secondCount, .int v_heldBits, .int v_heldCount, .int v_pressedSize, .ref m_pressed, .int v_at, .int v_bad, .int v_markSize, .ref m_mark, .int v_relationCount, .ref m_idSize, .ref m_ids, .ref m_goalSize, .ref m_goals, .int v_valueSize, .ref m_value, .int v_faultCount, .ref m_faults, .ref m_reached])), (m_count, .inl (G.2.2.1, 2, .inl a_count)), (m_nameSize, .inl (G.2.2.1, 34, .inl a_nameSize)), (m_size, .inl (G.2.2.1, 34, .inl a_size))]) d_Mod_about_49 0 8 t_Mod t_Mod_ok n_Mod rfl rfl (by decide) in_Mod k_1154 rfl (by decide +kernel) rfl rfl (Nat.le_of_ble_eq_true rfl) rfl ?_
              refine pb_re (ws' := [(h, .inr (10, [.ref m_rels, .ref m_openRels, .ref m_closeRels, .ref m_openRel, .ref m_closeRel, .ref m_comment, .ref m_ends, .ref m_order, .int 1, .int v_taped, .ref m_tape, .ref m_count, .ref m_nameSize, .ref m_names, .ref m_size, .ref m_data, .int v_lookedSize, .ref m_looked, .int v_fileSize, .ref m_file, .int v_directorySize, .ref m_directory, .int v_outSize, .ref m_out, .int v_rowSize, .ref m_row, .int v_bitAt, .int v_bitEnd, .int v_why, .int v_madeSize, .ref m_made, .ref m_length, .int v_firstCount, .int v_secondCount, .int v_heldBits, .int v_heldCount, .int v_pressedSize, .ref m_pressed, .int v_at, .int v_bad, .int v_markSize, .ref m_mark, .int v_relationCount, .ref m_idSize, .ref m_ids, .ref m_goalSize, .ref m_goals, .int v_valueSize, .ref m_value, .int v_faultCount, .ref m_faults, .ref m_reached])), (m_count, .inl (G.2.2.1, 2, .inl a_count)), (m_nameSize, .inl (G.2.2.1, 34, .inl a_nameSize)), (m_size, .inl (G.2.2.1, 34, .inl a_size))]) (lo' := [(0, .ref h), (1, .int w), (2, .int i)]) [0, 1, 2, 3] [1, 2, 3] (by decide) rfl rfl rfl ?_
              exact hJ52_2 1 (by first | assumption | omega (splitDisjunctions := false) | omega | decide) (by first | assumption | omega (splitDisjunctions := false) | omega | decide) (by first | assumption | omega (splitDisjunctions := false) | omega | decide) (by first | assumption | omega (splitDisjunctions := false) | omega | decide)
  refine pb_iload_n (pc := 0) d_Mod_about_0 1 rfl rfl ?_
  refine pb_iconst (pc := 1) (v := 1) d_Mod_about_1 (by decide) ?_
  refine pb_icmp_eq (pc := 2) (tgt := 10) d_Mod_about_2 (by decide) (fun wx22 => ?_) (fun wx22 => ?_)
  · have twx22 : w.toInt = 1 := (ti_eq rfl (by decide)).mp wx22
    refine pb_iconst (pc := 10) (v := 1) d_Mod_about_10 (by decide) ?_
    refine pb_goto (pc := 11) (tgt := 15) d_Mod_about_11 (by decide) ?_
    refine pb_istore_n (pc := 15) (lo' := [(3, .int 1), (0, .ref h), (1, .int w), (2, .int i)]) d_Mod_about_15 rfl (by decide) rfl ?_
    exact hJ16_1 1 (by first | assumption | omega (splitDisjunctions := false) | omega | decide) (by first | assumption | omega (splitDisjunctions := false) | omega | decide)
  · have twx22 : ¬ w.toInt = 1 := fun z9 => wx22 ((ti_eq rfl (by decide)).mpr z9)
    refine pb_iload_n (pc := 5) d_Mod_about_5 1 rfl rfl ?_
    refine pb_iconst (pc := 6) (v := 2) d_Mod_about_6 (by decide) ?_
    refine pb_icmp_ne (pc := 7) (tgt := 14) d_Mod_about_7 (by decide) (fun wx23 => ?_) (fun wx23 => ?_)
    · have twx23 : ¬ w.toInt = 2 := fun z9 => wx23 ((ti_eq rfl (by decide)).mpr z9)
      refine pb_iconst (pc := 14) (v := 0) d_Mod_about_14 (by decide) ?_
      refine pb_istore_n (pc := 15) (lo' := [(3, .int 0), (0, .ref h), (1, .int w), (2, .int i)]) d_Mod_about_15 rfl (by decide) rfl ?_
      exact hJ16_1 0 (by first | assumption | omega (splitDisjunctions := false) | omega | decide) (by first | assumption | omega (splitDisjunctions := false) | omega | decide)
    · have twx23 : w.toInt = 2 := (ti_eq rfl (by decide)).mp wx23
      refine pb_iconst (pc := 10) (v := 1) d_Mod_about_10 (by decide) ?_
      refine pb_goto (pc := 11) (tgt := 15) d_Mod_about_11 (by decide) ?_
      refine pb_istore_n (pc := 15) (lo' := [(3, .int 1), (0, .ref h), (1, .int w), (2, .int i)]) d_Mod_about_15 rfl (by decide) rfl ?_
      exact hJ16_1 1 (by first | assumption | omega (splitDisjunctions := false) | omega | decide) (by first | assumption | omega (splitDisjunctions := false) | omega | decide)

theorem d_Mod_byteOf_44 : decode prog_12_method_17_code 44 = .ok (.aload_n 0, 1) := by decide +kernel
theorem d_Mod_byteOf_45 : decode prog_12_method_17_code 45 = .ok (.getfield 103, 3) := by decide +kernel
theorem d_Mod_byteOf_48 : decode prog_12_method_17_code 48 = .ok (.ifCond .le 5, 3) := by decide +kernel
theorem d_Mod_byteOf_53 : decode prog_12_method_17_code 53 = .ok (.iload_n 2, 1) := by decide +kernel
theorem d_Mod_byteOf_54 : decode prog_12_method_17_code 54 = .ok (.aload_n 0, 1) := by decide +kernel
theorem d_Mod_byteOf_55 : decode prog_12_method_17_code 55 = .ok (.getfield 41, 3) := by decide +kernel
theorem d_Mod_byteOf_58 : decode prog_12_method_17_code 58 = .ok (.iload_n 1, 1) := by decide +kernel
theorem d_Mod_byteOf_59 : decode prog_12_method_17_code 59 = .ok (.iaload, 1) := by decide +kernel
theorem d_Mod_byteOf_60 : decode prog_12_method_17_code 60 = .ok (.if_icmp .ge 17, 3) := by decide +kernel
theorem d_Mod_byteOf_77 : decode prog_12_method_17_code 77 = .ok (.aload_n 0, 1) := by decide +kernel
theorem d_Mod_byteOf_78 : decode prog_12_method_17_code 78 = .ok (.getfield 51, 3) := by decide +kernel
theorem d_Mod_byteOf_81 : decode prog_12_method_17_code 81 = .ok (.sipush 4000, 3) := by decide +kernel
theorem d_Mod_byteOf_84 : decode prog_12_method_17_code 84 = .ok (.iload_n 1, 1) := by decide +kernel
theorem d_Mod_byteOf_85 : decode prog_12_method_17_code 85 = .ok (.imul, 1) := by decide +kernel
theorem d_Mod_byteOf_86 : decode prog_12_method_17_code 86 = .ok (.iload_n 2, 1) := by decide +kernel
theorem d_Mod_byteOf_87 : decode prog_12_method_17_code 87 = .ok (.iadd, 1) := by decide +kernel
theorem d_Mod_byteOf_88 : decode prog_12_method_17_code 88 = .ok (.aload_n 0, 1) := by decide +kernel
theorem d_Mod_byteOf_89 : decode prog_12_method_17_code 89 = .ok (.getfield 41, 3) := by decide +kernel
theorem d_Mod_byteOf_92 : decode prog_12_method_17_code 92 = .ok (.iload_n 1, 1) := by decide +kernel
theorem d_Mod_byteOf_93 : decode prog_12_method_17_code 93 = .ok (.iaload, 1) := by decide +kernel
theorem d_Mod_byteOf_94 : decode prog_12_method_17_code 94 = .ok (.isub, 1) := by decide +kernel
theorem d_Mod_byteOf_95 : decode prog_12_method_17_code 95 = .ok (.baload, 1) := by decide +kernel
theorem d_Mod_byteOf_96 : decode prog_12_method_17_code 96 = .ok (.sipush 255, 3) := by decide +kernel
theorem d_Mod_byteOf_99 : decode prog_12_method_17_code 99 = .ok (.iand, 1) := by decide +kernel
theorem d_Mod_byteOf_100 : decode prog_12_method_17_code 100 = .ok (.ireturn, 1) := by decide +kernel
theorem d_Mod_byteOf_63 : decode prog_12_method_17_code 63 = .ok (.aload_n 0, 1) := by decide +kernel
theorem d_Mod_byteOf_64 : decode prog_12_method_17_code 64 = .ok (.getfield 44, 3) := by decide +kernel
theorem d_Mod_byteOf_67 : decode prog_12_method_17_code 67 = .ok (.bipush 24, 2) := by decide +kernel
theorem d_Mod_byteOf_69 : decode prog_12_method_17_code 69 = .ok (.iload_n 1, 1) := by decide +kernel
theorem d_Mod_byteOf_70 : decode prog_12_method_17_code 70 = .ok (.imul, 1) := by decide +kernel
theorem d_Mod_byteOf_71 : decode prog_12_method_17_code 71 = .ok (.iload_n 2, 1) := by decide +kernel
theorem d_Mod_byteOf_72 : decode prog_12_method_17_code 72 = .ok (.iadd, 1) := by decide +kernel
theorem d_Mod_byteOf_73 : decode prog_12_method_17_code 73 = .ok (.baload, 1) := by decide +kernel
theorem d_Mod_byteOf_74 : decode prog_12_method_17_code 74 = .ok (.goto 22, 3) := by decide +kernel
theorem d_Mod_byteOf_51 : decode prog_12_method_17_code 51 = .ok (.iconst 0, 1) := by decide +kernel
theorem d_Mod_byteOf_52 : decode prog_12_method_17_code 52 = .ok (.ireturn, 1) := by decide +kernel
theorem d_Mod_byteOf_0 : decode prog_12_method_17_code 0 = .ok (.aload_n 0, 1) := by decide +kernel
theorem d_Mod_byteOf_1 : decode prog_12_method_17_code 1 = .ok (.iload_n 1, 1) := by decide +kernel
theorem d_Mod_byteOf_2 : decode prog_12_method_17_code 2 = .ok (.ifCond .lt 34, 3) := by decide +kernel
theorem d_Mod_byteOf_36 : decode prog_12_method_17_code 36 = .ok (.iconst 1, 1) := by decide +kernel
theorem d_Mod_byteOf_37 : decode prog_12_method_17_code 37 = .ok (.goto 4, 3) := by decide +kernel
theorem d_Mod_byteOf_41 : decode prog_12_method_17_code 41 = .ok (.putfield 103, 3) := by decide +kernel
theorem d_Mod_byteOf_5 : decode prog_12_method_17_code 5 = .ok (.iload_n 1, 1) := by decide +kernel
theorem d_Mod_byteOf_6 : decode prog_12_method_17_code 6 = .ok (.aload_n 0, 1) := by decide +kernel
theorem d_Mod_byteOf_7 : decode prog_12_method_17_code 7 = .ok (.getfield 37, 3) := by decide +kernel
theorem d_Mod_byteOf_10 : decode prog_12_method_17_code 10 = .ok (.iconst 0, 1) := by decide +kernel
theorem d_Mod_byteOf_11 : decode prog_12_method_17_code 11 = .ok (.iaload, 1) := by decide +kernel
theorem d_Mod_byteOf_12 : decode prog_12_method_17_code 12 = .ok (.if_icmp .ge 24, 3) := by decide +kernel
theorem d_Mod_byteOf_15 : decode prog_12_method_17_code 15 = .ok (.iload_n 2, 1) := by decide +kernel
theorem d_Mod_byteOf_16 : decode prog_12_method_17_code 16 = .ok (.ifCond .lt 20, 3) := by decide +kernel
theorem d_Mod_byteOf_19 : decode prog_12_method_17_code 19 = .ok (.iload_n 2, 1) := by decide +kernel
theorem d_Mod_byteOf_20 : decode prog_12_method_17_code 20 = .ok (.aload_n 0, 1) := by decide +kernel
theorem d_Mod_byteOf_21 : decode prog_12_method_17_code 21 = .ok (.getfield 41, 3) := by decide +kernel
theorem d_Mod_byteOf_24 : decode prog_12_method_17_code 24 = .ok (.iload_n 1, 1) := by decide +kernel
theorem d_Mod_byteOf_25 : decode prog_12_method_17_code 25 = .ok (.iaload, 1) := by decide +kernel
theorem d_Mod_byteOf_26 : decode prog_12_method_17_code 26 = .ok (.aload_n 0, 1) := by decide +kernel
theorem d_Mod_byteOf_27 : decode prog_12_method_17_code 27 = .ok (.getfield 47, 3) := by decide +kernel
theorem d_Mod_byteOf_30 : decode prog_12_method_17_code 30 = .ok (.iload_n 1, 1) := by decide +kernel
theorem d_Mod_byteOf_31 : decode prog_12_method_17_code 31 = .ok (.iaload, 1) := by decide +kernel
theorem d_Mod_byteOf_32 : decode prog_12_method_17_code 32 = .ok (.iadd, 1) := by decide +kernel
theorem d_Mod_byteOf_33 : decode prog_12_method_17_code 33 = .ok (.if_icmp .lt 7, 3) := by decide +kernel
theorem d_Mod_byteOf_40 : decode prog_12_method_17_code 40 = .ok (.iconst 0, 1) := by decide +kernel
abbrev y_Mod_byteOf : MethodName := ⟨"PackageBookModel", "byteOf", "(II)I"⟩
abbrev i_Mod_byteOf : pb_I := (y_Mod_byteOf, prog_12_method_17_code, 3, (some Jvm.ClassFile.FieldType.int), [], { frames := 0, cells := 0, slots := 0, locals := 0 })
set_option maxRecDepth 100000 in
set_option maxHeartbeats 4000000 in
theorem g_Mod_byteOf {l : Launch} (hl : l.stackTraces = false) (G : pb_G) (h : Nat) (m_rels : Nat) (m_openRels : Nat) (m_closeRels : Nat) (m_openRel : Nat) (m_closeRel : Nat) (m_comment : Nat) (m_ends : Nat) (m_order : Nat) (m_tape : Nat) (m_count : Nat) (m_nameSize : Nat) (m_names : Nat) (m_size : Nat) (m_data : Nat) (m_looked : Nat) (m_file : Nat) (m_directory : Nat) (m_out : Nat) (m_row : Nat) (m_made : Nat) (m_length : Nat) (m_pressed : Nat) (m_mark : Nat) (m_idSize : Nat) (m_ids : Nat) (m_goalSize : Nat) (m_goals : Nat) (m_value : Nat) (m_faults : Nat) (m_reached : Nat) (v_thrown : Int32) (v_taped : Int32) (v_lookedSize : Int32) (v_fileSize : Int32) (v_directorySize : Int32) (v_outSize : Int32) (v_rowSize : Int32) (v_bitAt : Int32) (v_bitEnd : Int32) (v_why : Int32) (v_madeSize : Int32) (v_firstCount : Int32) (v_secondCount : Int32) (v_heldBits : Int32) (v_heldCount : Int32) (v_pressedSize : Int32) (v_at : Int32) (v_bad : Int32) (v_markSize : Int32) (v_relationCount : Int32) (v_valueSize : Int32) (v_faultCount : Int32) (a_count : Nat → Int32) (a_nameSize : Nat → Int32) (a_size : Nat → Int32) (a_names : Nat → Int32) (a_data : Nat → Int32) (i : Int32) (k : Int32) (V : VW_) (I : ms_I 0 (gx a_count 0) a_nameSize a_size a_names) (R : rM_ 0 (gx a_count 0) a_nameSize a_names a_size a_data V) (F_a_names : sb_Fit a_names) (F_a_data : sb_Fit a_data) : Cn l G i_Mod_byteOf [.ref h, .int i, .int k] [(h, .inr (10, [.ref m_rels, .ref m_openRels, .ref m_closeRels, .ref m_openRel, .ref m_closeRel, .ref m_comment, .ref m_ends, .ref m_order, .int v_thrown, .int v_taped, .ref m_tape, .ref m_count, .ref m_nameSize, .ref m_names, .ref m_size, .ref m_data, .int v_lookedSize, .ref m_looked, .int v_fileSize, .ref m_file, .int v_directorySize, .ref m_directory, .int v_outSize, .ref m_out, .int v_rowSize, .ref m_row, .int v_bitAt, .int v_bitEnd, .int v_why, .int v_madeSize, .ref m_made, .ref m_length, .int v_firstCount, .int v_secondCount, .int v_heldBits, .int v_heldCount, .int v_pressedSize, .ref m_pressed, .int v_at, .int v_bad, .int v_markSize, .ref m_mark, .int v_relationCount, .ref m_idSize, .ref m_ids, .ref m_goalSize, .ref m_goals, .int v_valueSize, .ref m_value, .int v_faultCount, .ref m_faults, .ref m_reached])), (m_count, .inl (G.2.2.1, 2, .inl a_count)), (m_nameSize, .inl (G.2.2.1, 34, .inl a_nameSize)), (m_size, .inl (G.2.2.1, 34, .inl a_size)), (m_names, .inl (G.2.1, 816, .inl a_names)), (m_data, .inl (G.2.1, 136000, .inl a_data))] (S := Int32 × Int32) (fun rv_ u => rv_ = some (.int u.1) ∧ (u.2.toInt = 0 ∧ (0 ≤ i.toInt ∧ i.toInt < vC V ∧ 0 ≤ k.toInt ∧ k.toInt < vZ V i.toInt + vS V i.toInt) ∨ u.2.toInt = 1 ∧ ¬ (0 ≤ i.toInt ∧ i.toInt < vC V ∧ 0 ≤ k.toInt ∧ k.toInt < vZ V i.toInt + vS V i.toInt)) ∧ (u.2.toInt = 0 → u.1.toInt = bo_ V i.toInt k.toInt)) (fun u => [(h, .inr (10, [.ref m_rels, .ref m_openRels, .ref m_closeRels, .ref m_openRel, .ref m_closeRel, .ref m_comment, .ref m_ends, .ref m_order, .int u.2, .int v_taped, .ref m_tape, .ref m_count, .ref m_nameSize, .ref m_names, .ref m_size, .ref m_data, .int v_lookedSize, .ref m_looked, .int v_fileSize, .ref m_file, .int v_directorySize, .ref m_directory, .int v_outSize, .ref m_out, .int v_rowSize, .ref m_row, .int v_bitAt, .int v_bitEnd, .int v_why, .int v_madeSize, .ref m_made, .ref m_length, .int v_firstCount, .int v_secondCount, .int v_heldBits, .int v_heldCount, .int v_pressedSize, .ref m_pressed, .int v_at, .int v_bad, .int v_markSize, .ref m_mark, .int v_relationCount, .ref m_idSize, .ref m_ids, .ref m_goalSize, .ref m_goals, .int v_valueSize, .ref m_value, .int v_faultCount, .ref m_faults, .ref m_reached])), (m_count, .inl (G.2.2.1, 2, .inl a_count)), (m_nameSize, .inl (G.2.2.1, 34, .inl a_nameSize)), (m_size, .inl (G.2.2.1, 34, .inl a_size)), (m_names, .inl (G.2.1, 816, .inl a_names)), (m_data, .inl (G.2.1, 136000, .inl a_data))]) := by
  refine Cn.of hl (by decide +kernel) rfl (Nat.le_of_ble_eq_true rfl) (fun M hQ => ?_)
  refine pb_eq (pc' := 0) (lo' := [(0, .ref h), (1, .int i), (2, .int k)]) (rest' := []) (ws' := [(h, .inr (10, [.ref m_rels, .ref m_openRels, .ref m_closeRels, .ref m_openRel, .ref m_closeRel, .ref m_comment, .ref m_ends, .ref m_order, .int v_thrown, .int v_taped, .ref m_tape, .ref m_count, .ref m_nameSize, .ref m_names, .ref m_size, .ref m_data, .int v_lookedSize, .ref m_looked, .int v_fileSize, .ref m_file, .int v_directorySize, .ref m_directory, .int v_outSize, .ref m_out, .int v_rowSize, .ref m_row, .int v_bitAt, .int v_bitEnd, .int v_why, .int v_madeSize, .ref m_made, .ref m_length, .int v_firstCount, .int v_secondCount, .int v_heldBits, .int v_heldCount, .int v_pressedSize, .ref m_pressed, .int v_at, .int v_bad, .int v_markSize, .ref m_mark, .int v_relationCount, .ref m_idSize, .ref m_ids, .ref m_goalSize, .ref m_goals, .int v_valueSize, .ref m_value, .int v_faultCount, .ref m_faults, .ref m_reached])), (m_count, .inl (G.2.2.1, 2, .inl a_count)), (m_nameSize, .inl (G.2.2.1, 34, .inl a_nameSize)), (m_size, .inl (G.2.2.1, 34, .inl a_size)), (m_names, .inl (G.2.1, 816, .inl a_names)), (m_data, .inl (G.2.1, 136000, .inl a_data))]) ?_
  have zl0 : (0 : Int32).toInt = 0 := by decide
  have zl1 : (1 : Int32).toInt = 1 := by decide
  have zl24 : (24 : Int32).toInt = 24 := by decide
  have zl4000 : (4000 : Int32).toInt = 4000 := by decide
  have w0 := I.1
  have w1 := I.2.1
  have RC := R.1
  have RA : 0 ≤ i.toInt → i.toInt < gx a_count 0 → gx a_nameSize i.toInt = vZ V i.toInt ∧ gx a_size i.toInt = vS V i.toInt := fun q9 q8 => by have q7 := R.2 i.toInt q9 q8; simp only [Int.zero_add] at q7; exact ⟨q7.1, q7.2.1⟩
  have hJ44_1 : ∀ (th_ : Int32), (th_.toInt = 0 ∨ th_.toInt = 1) → (th_.toInt = 0 → 0 ≤ i.toInt ∧ i.toInt < gx a_count 0 ∧ 0 ≤ k.toInt ∧ k.toInt < gx a_nameSize i.toInt + gx a_size i.toInt) → (th_.toInt = 1 → ¬ (0 ≤ i.toInt ∧ i.toInt < gx a_count 0 ∧ 0 ≤ k.toInt ∧ k.toInt < gx a_nameSize i.toInt + gx a_size i.toInt)) → pb_P l G M i_Mod_byteOf 44 [(0, .ref h), (1, .int i), (2, .int k)] [] [(h, .inr (10, [.ref m_rels, .ref m_openRels, .ref m_closeRels, .ref m_openRel, .ref m_closeRel, .ref m_comment, .ref m_ends, .ref m_order, .int th_, .int v_taped, .ref m_tape, .ref m_count, .ref m_nameSize, .ref m_names, .ref m_size, .ref m_data, .int v_lookedSize, .ref m_looked, .int v_fileSize, .ref m_file, .int v_directorySize, .ref m_directory, .int v_outSize, .ref m_out, .int v_rowSize, .ref m_row, .int v_bitAt, .int v_bitEnd, .int v_why, .int v_madeSize, .ref m_made, .ref m_length, .int v_firstCount, .int v_secondCount, .int v_heldBits, .int v_heldCount, .int v_pressedSize, .ref m_pressed, .int v_at, .int v_bad, .int v_markSize, .ref m_mark, .int v_relationCount, .ref m_idSize, .ref m_ids, .ref m_goalSize, .ref m_goals, .int v_valueSize, .ref m_value, .int v_faultCount, .ref m_faults, .ref m_reached])), (m_count, .inl (G.2.2.1, 2, .inl a_count)), (m_nameSize, .inl (G.2.2.1, 34, .inl a_nameSize)), (m_size, .inl (G.2.2.1, 34, .inl a_size)), (m_names, .inl (G.2.1, 816, .inl a_names)), (m_data, .inl (G.2.1, 136000, .inl a_data))] 0 0 := by
    intro th_ l0 l1 l2
    refine pb_aload_n (pc := 44) d_Mod_byteOf_44 0 rfl rfl ?_
    refine pb_get (pc := 45) d_Mod_byteOf_45 0 8 rfl rfl (by decide) in_Mod k_1154 rfl ?_
    refine pb_if_le (pc := 48) (tgt := 53) d_Mod_byteOf_48 (by decide) (fun wx2 => ?_) (fun wx2 => ?_)
    · have twx2 : th_.toInt ≤ 0 := (ti_le rfl (by decide)).mp wx2
      have q5 := I.2.2.1 i.toInt (by omega) (by omega)
      rw [Int.zero_add] at q5
      have R4 := R.2 i.toInt (by omega) (by omega)
      simp only [Int.zero_add] at R4
      have Rz := R4.1
      have Rs := R4.2.1
      refine pb_iload_n (pc := 53) d_Mod_byteOf_53 2 rfl rfl ?_
      refine pb_aload_n (pc := 54) d_Mod_byteOf_54 0 rfl rfl ?_
      refine pb_get (pc := 55) d_Mod_byteOf_55 0 12 rfl rfl (by decide) in_Mod k_1158 rfl ?_
      refine pb_iload_n (pc := 58) d_Mod_byteOf_58 1 rfl rfl ?_
      refine pb_iald (pc := 59) d_Mod_byteOf_59 2 rfl (vp_in_iff.mpr (by omega)) ?_
      refine pb_topi (fun ix3 eix3 => ?_)
      have tix3 : ix3.toInt = gx a_nameSize (i.toInt) := gx_ld eix3 rfl
      refine pb_icmp_ge (pc := 60) (tgt := 77) d_Mod_byteOf_60 (by decide) (fun wx4 => ?_) (fun wx4 => ?_)
      · have twx4 : ix3.toInt ≤ k.toInt := (ti_le rfl rfl).mp wx4
        refine pb_aload_n (pc := 77) d_Mod_byteOf_77 0 rfl rfl ?_
        refine pb_get (pc := 78) d_Mod_byteOf_78 0 15 rfl rfl (by decide) in_Mod k_1161 rfl ?_
        refine pb_sipush (pc := 81) (v := 4000) d_Mod_byteOf_81 (by decide) ?_
        refine pb_iload_n (pc := 84) d_Mod_byteOf_84 1 rfl rfl ?_
        refine pb_imul (pc := 85) d_Mod_byteOf_85 ?_
        refine pb_topi (fun ix5 eix5 => ?_)
        try have tix5 : ix5.toInt = 4000 * i.toInt := ti_mul eix5 (by decide) rfl (by omega) (by omega)
        refine pb_iload_n (pc := 86) d_Mod_byteOf_86 2 rfl rfl ?_
        refine pb_iadd (pc := 87) d_Mod_byteOf_87 ?_
        refine pb_topi (fun ix6 eix6 => ?_)
        try have tix6 : ix6.toInt = ix5.toInt + k.toInt := t2_add eix6 rfl rfl (by omega)
        refine pb_aload_n (pc := 88) d_Mod_byteOf_88 0 rfl rfl ?_
        refine pb_get (pc := 89) d_Mod_byteOf_89 0 12 rfl rfl (by decide) in_Mod k_1158 rfl ?_
        refine pb_iload_n (pc := 92) d_Mod_byteOf_92 1 rfl rfl ?_
        refine pb_iald (pc := 93) d_Mod_byteOf_93 2 rfl (vp_in_iff.mpr (by omega)) ?_
        refine pb_topi (fun ix7 eix7 => ?_)
        have tix7 : ix7.toInt = gx a_nameSize (i.toInt) := gx_ld eix7 rfl
        refine pb_isub (pc := 94) d_Mod_byteOf_94 ?_
        refine pb_topi (fun ix8 eix8 => ?_)
        try have tix8 : ix8.toInt = ix6.toInt - ix7.toInt := t2_sub eix8 rfl rfl (by omega)
        refine pb_bald (pc := 95) d_Mod_byteOf_95 5 rfl (vp_in_iff.mpr (by omega)) ?_
        refine pb_topi (fun ix9 eix9 => ?_)
        have xix9 : ix9 = gr a_data (4000 * i.toInt + k.toInt - gx a_nameSize i.toInt) := gr_ld eix9 (by omega)
        have yix9 : ix9.toInt = gx a_data (4000 * i.toInt + k.toInt - gx a_nameSize i.toInt) := congrArg Int32.toInt xix9
        have xv9 := xix9
        refine pb_sipush (pc := 96) (v := 255) d_Mod_byteOf_96 (by decide) ?_
        refine pb_iand (pc := 99) d_Mod_byteOf_99 ?_
        refine pb_topi (fun ix10 eix10 => ?_)
        have tix10 : 0 ≤ ix10.toInt ∧ ix10.toInt ≤ 255 := ti_and 8 eix10 (by decide) (by decide)
        have ev9 := eix10
        exact pb_iret (pc := 100) hQ d_Mod_byteOf_100 rfl rfl (ix10, th_) ⟨rfl, (show th_.toInt = 0 ∧ (0 ≤ i.toInt ∧ i.toInt < vC V ∧ 0 ≤ k.toInt ∧ k.toInt < vZ V i.toInt + vS V i.toInt) ∨ th_.toInt = 1 ∧ ¬ (0 ≤ i.toInt ∧ i.toInt < vC V ∧ 0 ≤ k.toInt ∧ k.toInt < vZ V i.toInt + vS V i.toInt) from (Or.inl ⟨by omega, by omega, by omega, by omega, by omega⟩)), (show th_.toInt = 0 → ix10.toInt = bo_ V i.toInt k.toInt from (fun _ => by first | exact bo_n (by omega) (by have q3 := R4.2.2.1 k.toInt (by omega) (by omega); omega) (ti_255 ev9) | exact bo_d (by omega) xv9 (by have q3 := R4.2.2.2 (k.toInt - gx a_nameSize i.toInt) (by omega) (by omega); rw [← Rz, ← q3]; exact congrArg (gr a_data) (by omega)) (ti_255 ev9)))⟩ [0, 1, 2, 3, 4, 5] (by decide) rfl rfl (by decide) (by decide)
      · have twx4 : ¬ ix3.toInt ≤ k.toInt := fun z9 => wx4 ((ti_le rfl rfl).mpr z9)
        refine pb_aload_n (pc := 63) d_Mod_byteOf_63 0 rfl rfl ?_
        refine pb_get (pc := 64) d_Mod_byteOf_64 0 13 rfl rfl (by decide) in_Mod k_1159 rfl ?_
        refine pb_bipush (pc := 67) (v := 24) d_Mod_byteOf_67 (by decide) ?_
        refine pb_iload_n (pc := 69) d_Mod_byteOf_69 1 rfl rfl ?_
        refine pb_imul (pc := 70) d_Mod_byteOf_70 ?_
        refine pb_topi (fun ix11 eix11 => ?_)
        try have tix11 : ix11.toInt = 24 * i.toInt := ti_mul eix11 (by decide) rfl (by omega) (by omega)
        refine pb_iload_n (pc := 71) d_Mod_byteOf_71 2 rfl rfl ?_
        refine pb_iadd (pc := 72) d_Mod_byteOf_72 ?_
        refine pb_topi (fun ix12 eix12 => ?_)
        try have tix12 : ix12.toInt = ix11.toInt + k.toInt := t2_add eix12 rfl rfl (by omega)
        refine pb_bald (pc := 73) d_Mod_byteOf_73 4 rfl (vp_in_iff.mpr (by omega)) ?_
        refine pb_topi (fun ix13 eix13 => ?_)
        have xix13 : ix13 = gr a_names (24 * i.toInt + k.toInt) := gr_ld eix13 (by omega)
        have yix13 : ix13.toInt = gx a_names (24 * i.toInt + k.toInt) := congrArg Int32.toInt xix13
        refine pb_goto (pc := 74) (tgt := 96) d_Mod_byteOf_74 (by decide) ?_
        have xv9 := xix13
        refine pb_sipush (pc := 96) (v := 255) d_Mod_byteOf_96 (by decide) ?_
        refine pb_iand (pc := 99) d_Mod_byteOf_99 ?_
        refine pb_topi (fun ix14 eix14 => ?_)
        have tix14 : 0 ≤ ix14.toInt ∧ ix14.toInt ≤ 255 := ti_and 8 eix14 (by decide) (by decide)
        have ev9 := eix14
        exact pb_iret (pc := 100) hQ d_Mod_byteOf_100 rfl rfl (ix14, th_) ⟨rfl, (show th_.toInt = 0 ∧ (0 ≤ i.toInt ∧ i.toInt < vC V ∧ 0 ≤ k.toInt ∧ k.toInt < vZ V i.toInt + vS V i.toInt) ∨ th_.toInt = 1 ∧ ¬ (0 ≤ i.toInt ∧ i.toInt < vC V ∧ 0 ≤ k.toInt ∧ k.toInt < vZ V i.toInt + vS V i.toInt) from (Or.inl ⟨by omega, by omega, by omega, by omega, by omega⟩)), (show th_.toInt = 0 → ix14.toInt = bo_ V i.toInt k.toInt from (fun _ => by first | exact bo_n (by omega) (by have q3 := R4.2.2.1 k.toInt (by omega) (by omega); omega) (ti_255 ev9) | exact bo_d (by omega) xv9 (by have q3 := R4.2.2.2 (k.toInt - gx a_nameSize i.toInt) (by omega) (by omega); rw [← Rz, ← q3]; exact congrArg (gr a_data) (by omega)) (ti_255 ev9)))⟩ [0, 1, 2, 3, 4, 5] (by decide) rfl rfl (by decide) (by decide)
    · have twx2 : ¬ th_.toInt ≤ 0 := fun z9 => wx2 ((ti_le rfl (by decide)).mpr z9)
      refine pb_iconst (pc := 51) (v := 0) d_Mod_byteOf_51 (by decide) ?_
      exact pb_iret (pc := 52) hQ d_Mod_byteOf_52 rfl rfl (0, th_) ⟨rfl, (show th_.toInt = 0 ∧ (0 ≤ i.toInt ∧ i.toInt < vC V ∧ 0 ≤ k.toInt ∧ k.toInt < vZ V i.toInt + vS V i.toInt) ∨ th_.toInt = 1 ∧ ¬ (0 ≤ i.toInt ∧ i.toInt < vC V ∧ 0 ≤ k.toInt ∧ k.toInt < vZ V i.toInt + vS V i.toInt) from (Or.inr ⟨by omega, fun q9 => by have q8 := RA q9.1 (by omega); omega⟩)), (show th_.toInt = 0 → (0 : Int32).toInt = bo_ V i.toInt k.toInt from (fun q9 => absurd q9 (by omega)))⟩ [0, 1, 2, 3, 4, 5] (by decide) rfl rfl (by decide) (by decide)
  refine pb_aload_n (pc := 0) d_Mod_byteOf_0 0 rfl rfl ?_
  refine pb_iload_n (pc := 1) d_Mod_byteOf_1 1 rfl rfl ?_
  refine pb_if_lt (pc := 2) (tgt := 36) d_Mod_byteOf_2 (by decide) (fun wx15 => ?_) (fun wx15 => ?_)
  · have twx15 : i.toInt < 0 := (ti_lt rfl (by decide)).mp wx15
    refine pb_iconst (pc := 36) (v := 1) d_Mod_byteOf_36 (by decide) ?_
    refine pb_goto (pc := 37) (tgt := 41) d_Mod_byteOf_37 (by decide) ?_
    refine pb_put (pc := 41) (ty := .int) (ws' := [(h, .inr (10, [.ref m_rels, .ref m_openRels, .ref m_closeRels, .ref m_openRel, .ref m_closeRel, .ref m_comment, .ref m_ends, .ref m_order, .int 1, .int v_taped, .ref m_tape, .ref m_count, .ref m_nameSize, .ref m_names, .ref m_size, .ref m_data, .int v_lookedSize, .ref m_looked, .int v_fileSize, .ref m_file, .int v_directorySize, .ref m_directory, .int v_outSize, .ref m_out, .int v_rowSize, .ref m_row, .int v_bitAt, .int v_bitEnd, .int v_why, .int v_madeSize, .ref m_made, .ref m_length, .int v_firstCount, .int v_secondCount, .int v_heldBits, .int v_heldCount, .int v_pressedSize, .ref m_pressed, .int v_at, .int v_bad, .int v_markSize, .ref m_mark, .int v_relationCount, .ref m_idSize, .ref m_ids, .ref m_goalSize, .ref m_goals, .int v_valueSize, .ref m_value, .int v_faultCount, .ref m_faults, .ref m_reached])), (m_count, .inl (G.2.2.1, 2, .inl a_count)), (m_nameSize, .inl (G.2.2.1, 34, .inl a_nameSize)), (m_size, .inl (G.2.2.1, 34, .inl a_size)), (m_names, .inl (G.2.1, 816, .inl a_names)), (m_data, .inl (G.2.1, 136000, .inl a_data))]) d_Mod_byteOf_41 0 8 t_Mod t_Mod_ok n_Mod rfl rfl (by decide) in_Mod k_1154 rfl (by decide +kernel) rfl rfl (Nat.le_of_ble_eq_true rfl) rfl ?_
    exact hJ44_1 1 (by first | assumption | omega (splitDisjunctions := false) | omega | decide) (by first | assumption | omega (splitDisjunctions := false) | omega | decide) (by first | assumption | omega (splitDisjunctions := false) | omega | decide)
  · have twx15 : ¬ i.toInt < 0 := fun z9 => wx15 ((ti_lt rfl (by decide)).mpr z9)
    refine pb_iload_n (pc := 5) d_Mod_byteOf_5 1 rfl rfl ?_
    refine pb_aload_n (pc := 6) d_Mod_byteOf_6 0 rfl rfl ?_
    refine pb_get (pc := 7) d_Mod_byteOf_7 0 11 rfl rfl (by decide) in_Mod k_1157 rfl ?_
    refine pb_iconst (pc := 10) (v := 0) d_Mod_byteOf_10 (by decide) ?_
    refine pb_iald (pc := 11) d_Mod_byteOf_11 1 rfl (by unfold vp_in; decide) ?_
    refine pb_topi (fun ix16 eix16 => ?_)
    have tix16 : ix16.toInt = gx a_count (0) := gx_ld eix16 (by omega)
    refine pb_icmp_ge (pc := 12) (tgt := 36) d_Mod_byteOf_12 (by decide) (fun wx17 => ?_) (fun wx17 => ?_)
    · have twx17 : ix16.toInt ≤ i.toInt := (ti_le rfl rfl).mp wx17
      refine pb_iconst (pc := 36) (v := 1) d_Mod_byteOf_36 (by decide) ?_
      refine pb_goto (pc := 37) (tgt := 41) d_Mod_byteOf_37 (by decide) ?_
      refine pb_put (pc := 41) (ty := .int) (ws' := [(h, .inr (10, [.ref m_rels, .ref m_openRels, .ref m_closeRels, .ref m_openRel, .ref m_closeRel, .ref m_comment, .ref m_ends, .ref m_order, .int 1, .int v_taped, .ref m_tape, .ref m_count, .ref m_nameSize, .ref m_names, .ref m_size, .ref m_data, .int v_lookedSize, .ref m_looked, .int v_fileSize, .ref m_file, .int v_directorySize, .ref m_directory, .int v_outSize, .ref m_out, .int v_rowSize, .ref m_row, .int v_bitAt, .int v_bitEnd, .int v_why, .int v_madeSize, .ref m_made, .ref m_length, .int v_firstCount, .int v_secondCount, .int v_heldBits, .int v_heldCount, .int v_pressedSize, .ref m_pressed, .int v_at, .int v_bad, .int v_markSize, .ref m_mark, .int v_relationCount, .ref m_idSize, .ref m_ids, .ref m_goalSize, .ref m_goals, .int v_valueSize, .ref m_value, .int v_faultCount, .ref m_faults, .ref m_reached])), (m_count, .inl (G.2.2.1, 2, .inl a_count)), (m_nameSize, .inl (G.2.2.1, 34, .inl a_nameSize)), (m_size, .inl (G.2.2.1, 34, .inl a_size)), (m_names, .inl (G.2.1, 816, .inl a_names)), (m_data, .inl (G.2.1, 136000, .inl a_data))]) d_Mod_byteOf_41 0 8 t_Mod t_Mod_ok n_Mod rfl rfl (by decide) in_Mod k_1154 rfl (by decide +kernel) rfl rfl (Nat.le_of_ble_eq_true rfl) rfl ?_
      exact hJ44_1 1 (by first | assumption | omega (splitDisjunctions := false) | omega | decide) (by first | assumption | omega (splitDisjunctions := false) | omega | decide) (by first | assumption | omega (splitDisjunctions := false) | omega | decide)
    · have twx17 : ¬ ix16.toInt ≤ i.toInt := fun z9 => wx17 ((ti_le rfl rfl).mpr z9)
      have q5 := I.2.2.1 i.toInt (by omega) (by omega)
      rw [Int.zero_add] at q5
      refine pb_iload_n (pc := 15) d_Mod_byteOf_15 2 rfl rfl ?_
      refine pb_if_lt (pc := 16) (tgt := 36) d_Mod_byteOf_16 (by decide) (fun wx18 => ?_) (fun wx18 => ?_)
      · have twx18 : k.toInt < 0 := (ti_lt rfl (by decide)).mp wx18
        refine pb_iconst (pc := 36) (v := 1) d_Mod_byteOf_36 (by decide) ?_
        refine pb_goto (pc := 37) (tgt := 41) d_Mod_byteOf_37 (by decide) ?_
        refine pb_put (pc := 41) (ty := .int) (ws' := [(h, .inr (10, [.ref m_rels, .ref m_openRels, .ref m_closeRels, .ref m_openRel, .ref m_closeRel, .ref m_comment, .ref m_ends, .ref m_order, .int 1, .int v_taped, .ref m_tape, .ref m_count, .ref m_nameSize, .ref m_names, .ref m_size, .ref m_data, .int v_lookedSize, .ref m_looked, .int v_fileSize, .ref m_file, .int v_directorySize, .ref m_directory, .int v_outSize, .ref m_out, .int v_rowSize, .ref m_row, .int v_bitAt, .int v_bitEnd, .int v_why, .int v_madeSize, .ref m_made, .ref m_length, .int v_firstCount, .int v_secondCount, .int v_heldBits, .int v_heldCount, .int v_pressedSize, .ref m_pressed, .int v_at, .int v_bad, .int v_markSize, .ref m_mark, .int v_relationCount, .ref m_idSize, .ref m_ids, .ref m_goalSize, .ref m_goals, .int v_valueSize, .ref m_value, .int v_faultCount, .ref m_faults, .ref m_reached])), (m_count, .inl (G.2.2.1, 2, .inl a_count)), (m_nameSize, .inl (G.2.2.1, 34, .inl a_nameSize)), (m_size, .inl (G.2.2.1, 34, .inl a_size)), (m_names, .inl (G.2.1, 816, .inl a_names)), (m_data, .inl (G.2.1, 136000, .inl a_data))]) d_Mod_byteOf_41 0 8 t_Mod t_Mod_ok n_Mod rfl rfl (by decide) in_Mod k_1154 rfl (by decide +kernel) rfl rfl (Nat.le_of_ble_eq_true rfl) rfl ?_
        exact hJ44_1 1 (by first | assumption | omega (splitDisjunctions := false) | omega | decide) (by first | assumption | omega (splitDisjunctions := false) | omega | decide) (by first | assumption | omega (splitDisjunctions := false) | omega | decide)
      · have twx18 : ¬ k.toInt < 0 := fun z9 => wx18 ((ti_lt rfl (by decide)).mpr z9)
        refine pb_iload_n (pc := 19) d_Mod_byteOf_19 2 rfl rfl ?_
        refine pb_aload_n (pc := 20) d_Mod_byteOf_20 0 rfl rfl ?_
        refine pb_get (pc := 21) d_Mod_byteOf_21 0 12 rfl rfl (by decide) in_Mod k_1158 rfl ?_
        refine pb_iload_n (pc := 24) d_Mod_byteOf_24 1 rfl rfl ?_
        refine pb_iald (pc := 25) d_Mod_byteOf_25 2 rfl (vp_in_iff.mpr (by omega)) ?_
        refine pb_topi (fun ix19 eix19 => ?_)
        have tix19 : ix19.toInt = gx a_nameSize (i.toInt) := gx_ld eix19 rfl
        refine pb_aload_n (pc := 26) d_Mod_byteOf_26 0 rfl rfl ?_
        refine pb_get (pc := 27) d_Mod_byteOf_27 0 14 rfl rfl (by decide) in_Mod k_1160 rfl ?_
        refine pb_iload_n (pc := 30) d_Mod_byteOf_30 1 rfl rfl ?_
        refine pb_iald (pc := 31) d_Mod_byteOf_31 3 rfl (vp_in_iff.mpr (by omega)) ?_
        refine pb_topi (fun ix20 eix20 => ?_)
        have tix20 : ix20.toInt = gx a_size (i.toInt) := gx_ld eix20 rfl
        refine pb_iadd (pc := 32) d_Mod_byteOf_32 ?_
        refine pb_topi (fun ix21 eix21 => ?_)
        try have tix21 : ix21.toInt = ix19.toInt + ix20.toInt := t2_add eix21 rfl rfl (by omega)
        refine pb_icmp_lt (pc := 33) (tgt := 40) d_Mod_byteOf_33 (by decide) (fun wx22 => ?_) (fun wx22 => ?_)
        · have twx22 : k.toInt < ix21.toInt := (ti_lt rfl rfl).mp wx22
          refine pb_iconst (pc := 40) (v := 0) d_Mod_byteOf_40 (by decide) ?_
          refine pb_put (pc := 41) (ty := .int) (ws' := [(h, .inr (10, [.ref m_rels, .ref m_openRels, .ref m_closeRels, .ref m_openRel, .ref m_closeRel, .ref m_comment, .ref m_ends, .ref m_order, .int 0, .int v_taped, .ref m_tape, .ref m_count, .ref m_nameSize, .ref m_names, .ref m_size, .ref m_data, .int v_lookedSize, .ref m_looked, .int v_fileSize, .ref m_file, .int v_directorySize, .ref m_directory, .int v_outSize, .ref m_out, .int v_rowSize, .ref m_row, .int v_bitAt, .int v_bitEnd, .int v_why, .int v_madeSize, .ref m_made, .ref m_length, .int v_firstCount, .int v_secondCount, .int v_heldBits, .int v_heldCount, .int v_pressedSize, .ref m_pressed, .int v_at, .int v_bad, .int v_markSize, .ref m_mark, .int v_relationCount, .ref m_idSize, .ref m_ids, .ref m_goalSize, .ref m_goals, .int v_valueSize, .ref m_value, .int v_faultCount, .ref m_faults, .ref m_reached])), (m_count, .inl (G.2.2.1, 2, .inl a_count)), (m_nameSize, .inl (G.2.2.1, 34, .inl a_nameSize)), (m_size, .inl (G.2.2.1, 34, .inl a_size)), (m_names, .inl (G.2.1, 816, .inl a_names)), (m_data, .inl (G.2.1, 136000, .inl a_data))]) d_Mod_byteOf_41 0 8 t_Mod t_Mod_ok n_Mod rfl rfl (by decide) in_Mod k_1154 rfl (by decide +kernel) rfl rfl (Nat.le_of_ble_eq_true rfl) rfl ?_
          exact hJ44_1 0 (by first | assumption | omega (splitDisjunctions := false) | omega | decide) (by first | assumption | omega (splitDisjunctions := false) | omega | decide) (by first | assumption | omega (splitDisjunctions := false) | omega | decide)
        · have twx22 : ¬ k.toInt < ix21.toInt := fun z9 => wx22 ((ti_lt rfl rfl).mpr z9)
          refine pb_iconst (pc := 36) (v := 1) d_Mod_byteOf_36 (by decide) ?_
          refine pb_goto (pc := 37) (tgt := 41) d_Mod_byteOf_37 (by decide) ?_
          refine pb_put (pc := 41) (ty := .int) (ws' := [(h, .inr (10, [.ref m_rels, .ref m_openRels, .ref m_closeRels, .ref m_openRel, .ref m_closeRel, .ref m_comment, .ref m_ends, .ref m_order, .int 1, .int v_taped, .ref m_tape, .ref m_count, .ref m_nameSize, .ref m_names, .ref m_size, .ref m_data, .int v_lookedSize, .ref m_looked, .int v_fileSize, .ref m_file, .int v_directorySize, .ref m_directory, .int v_outSize, .ref m_out, .int v_rowSize, .ref m_row, .int v_bitAt, .int v_bitEnd, .int v_why, .int v_madeSize, .ref m_made, .ref m_length, .int v_firstCount, .int v_secondCount, .int v_heldBits, .int v_heldCount, .int v_pressedSize, .ref m_pressed, .int v_at, .int v_bad, .int v_markSize, .ref m_mark, .int v_relationCount, .ref m_idSize, .ref m_ids, .ref m_goalSize, .ref m_goals, .int v_valueSize, .ref m_value, .int v_faultCount, .ref m_faults, .ref m_reached])), (m_count, .inl (G.2.2.1, 2, .inl a_count)), (m_nameSize, .inl (G.2.2.1, 34, .inl a_nameSize)), (m_size, .inl (G.2.2.1, 34, .inl a_size)), (m_names, .inl (G.2.1, 816, .inl a_names)), (m_data, .inl (G.2.1, 136000, .inl a_data))]) d_Mod_byteOf_41 0 8 t_Mod t_Mod_ok n_Mod rfl rfl (by decide) in_Mod k_1154 rfl (by decide +kernel) rfl rfl (Nat.le_of_ble_eq_true rfl) rfl ?_
          exact hJ44_1 1 (by first | assumption | omega (splitDisjunctions := false) | omega | decide) (by first | assumption | omega (splitDisjunctions := false) | omega | decide) (by first | assumption | omega (splitDisjunctions := false) | omega | decide)
