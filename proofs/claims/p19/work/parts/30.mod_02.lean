/-! ROWS OF NUMBERS -/
theorem omg_18df2b675c {x0 : Int} {x1 : Int} {x2 : Int} (a0 : ((0 : Int) ≤ x0)) (a1 : (x0 ≤ (24 : Int))) (a2 : ((0 : Int) ≤ x1)) (a3 : (x1 ≤ (1000000 : Int))) (a4 : (x2 = x0)) : (((-(2147483648 : Int)) ≤ (x2 - x1)) ∧ ((x2 - x1) < (2147483648 : Int))) := by omega
theorem omg_a82c1c5c5f {x0 : Int} {x1 : Int} {x2 : Int} {x3 : Int} {x4 : Int} {x5 : Int} (a0 : ((0 : Int) ≤ x0)) (a1 : (x0 ≤ (1 : Int))) (a2 : (x1 ≤ (16 : Int))) (a3 : ((0 : Int) ≤ x2)) (a4 : (x3 = x1)) (a5 : (¬ (x3 ≤ x2))) (a6 : (x4 = ((17 : Int) * x0))) (a7 : (x5 = (x4 + x2))) : (((0 : Int) ≤ x5) ∧ (x5 < (((34 : Nat) : Nat) : Int))) := by omega
theorem omg_9ee15130d9 {x0 : Int} {x1 : Int} {x2 : Int} {x3 : Int} (a0 : (x0 = ((17 : Int) * x1))) (a1 : (x2 = (x0 + x3))) : (x2 = (((17 : Int) * x1) + x3)) := by omega
theorem omg_049b621951 {x0 : Int} {x1 : Int} {x2 : Int} {x3 : Int} {x4 : Int} {x5 : Int} (a0 : ((0 : Int) ≤ x0)) (a1 : (x0 ≤ (33 : Int))) (a2 : (x1 ≤ (4000 : Int))) (a3 : ((0 : Int) ≤ x2)) (a4 : (x3 = x1)) (a5 : (x4 = x3)) (a6 : (¬ (x4 ≤ x2))) (a7 : (x5 = ((4000 : Int) * x0))) : (((-(2147483648 : Int)) ≤ (x5 + x2)) ∧ ((x5 + x2) < (2147483648 : Int))) := by omega
theorem omg_8387a60c64 {x0 : Int} {x1 : Int} {x2 : Int} {x3 : Int} {x4 : Int} {x5 : Int} {x6 : Int} (a0 : ((0 : Int) ≤ x0)) (a1 : (x0 ≤ (33 : Int))) (a2 : (x1 ≤ (4000 : Int))) (a3 : ((0 : Int) ≤ x2)) (a4 : (x3 = x1)) (a5 : (x4 = x3)) (a6 : (¬ (x4 ≤ x2))) (a7 : (x5 = ((4000 : Int) * x0))) (a8 : (x6 = (x5 + x2))) : (((0 : Int) ≤ x6) ∧ (x6 < (((136000 : Nat) : Nat) : Int))) := by omega
theorem omg_8c483aafce {x0 : Int} {x1 : Int} {x2 : Int} {x3 : Int} (a0 : (x0 = ((4000 : Int) * x1))) (a1 : (x2 = (x0 + x3))) : (x2 = (((4000 : Int) * x1) + x3)) := by omega
theorem omg_4cf3284d47 {x0 : Int} {x1 : Int} {x2 : Int} {x3 : Int} (a0 : (x0 ≤ (4000 : Int))) (a1 : ((0 : Int) ≤ x1)) (a2 : (x2 = x0)) (a3 : (x3 = x2)) (a4 : (¬ (x3 ≤ x1))) : (((-(2147483648 : Int)) ≤ (x1 + (1 : Int))) ∧ ((x1 + (1 : Int)) < (2147483648 : Int))) := by omega
theorem omg_79ae107613 {x0 : Int} {x1 : Int} {x2 : Nat} {x3 : Int} {x4 : Int} {x5 : Int} (a0 : ((Int.toNat (x0 - x1)) < (x2 + (1 : Nat)))) (a1 : (x3 = x0)) (a2 : (x4 = x3)) (a3 : (¬ (x4 ≤ x1))) (a4 : (x5 = (x1 + (1 : Int)))) : ((Int.toNat (x0 - x5)) < x2) := by omega
theorem omg_7d54897fee {x0 : Int} {x1 : Int} {x2 : Int} {x3 : Int} {x4 : Int} {x5 : Int} (a0 : (x0 ≤ (4000 : Int))) (a1 : ((0 : Int) ≤ x1)) (a2 : (x2 = x0)) (a3 : (x3 = x2)) (a4 : (¬ (x3 ≤ x1))) (a5 : ((x4 < ((4000 : Int) * x5)) ∨ ((((4000 : Int) * x5) + (4000 : Int)) ≤ x4))) : (¬ (x4 = (((4000 : Int) * x5) + x1))) := by omega
theorem omg_824ece3cda {x0 : Int} {x1 : Int} {x2 : Int} {x3 : Int} {x4 : Int} (a0 : (x0 = x1)) (a1 : (x2 = x0)) (a2 : (¬ (x2 ≤ x3))) (a3 : (x4 = (x3 + (1 : Int)))) : (x4 ≤ x1) := by omega
theorem omg_54e3acd9bb {x0 : Int} {x1 : Int} (a0 : ((0 : Int) ≤ x0)) (a1 : ((0 : Int) ≤ x1)) : ((0 : Int) ≤ (((24 : Int) * x0) + x1)) := by omega
theorem omg_175bf75ad1 {x0 : Int} {x1 : Int} {x2 : Int} {x3 : Int} (a0 : ((0 : Int) ≤ x0)) (a1 : (x0 ≤ (33 : Int))) (a2 : ((0 : Int) ≤ x1)) (a3 : (¬ ((24 : Int) ≤ x1))) (a4 : (x2 = ((24 : Int) * x0))) (a5 : (x3 = (x2 + x1))) : (((0 : Int) ≤ x3) ∧ (x3 < (((816 : Nat) : Nat) : Int))) := by omega
theorem omg_1de40a3955 {x0 : Int} {x1 : Nat} {x2 : Int} (a0 : ((Int.toNat ((24 : Int) - x0)) < (x1 + (1 : Nat)))) (a1 : (¬ ((24 : Int) ≤ x0))) (a2 : (x2 = (x0 + (1 : Int)))) : ((Int.toNat ((24 : Int) - x2)) < x1) := by omega
theorem omg_e44c1a8172 {x0 : Int} {x1 : Int} {x2 : Int} (a0 : ((((24 : Int) * x0) + x1) = (((24 : Int) * x0) + x2))) : (x1 = x2) := by omega
theorem d_Mod_compare_0 : decode prog_12_method_8_code 0 = .ok (.bipush 17, 2) := by decide +kernel
theorem d_Mod_compare_2 : decode prog_12_method_8_code 2 = .ok (.iload_n 1, 1) := by decide +kernel
theorem d_Mod_compare_3 : decode prog_12_method_8_code 3 = .ok (.imul, 1) := by decide +kernel
theorem d_Mod_compare_4 : decode prog_12_method_8_code 4 = .ok (.iload_n 2, 1) := by decide +kernel
theorem d_Mod_compare_5 : decode prog_12_method_8_code 5 = .ok (.iadd, 1) := by decide +kernel
theorem d_Mod_compare_6 : decode prog_12_method_8_code 6 = .ok (.istore_n 3, 1) := by decide +kernel
theorem d_Mod_compare_7 : decode prog_12_method_8_code 7 = .ok (.iconst 0, 1) := by decide +kernel
theorem d_Mod_compare_8 : decode prog_12_method_8_code 8 = .ok (.istore 4, 2) := by decide +kernel
theorem d_Mod_compare_10 : decode prog_12_method_8_code 10 = .ok (.iload 4, 2) := by decide +kernel
theorem d_Mod_compare_12 : decode prog_12_method_8_code 12 = .ok (.aload_n 0, 1) := by decide +kernel
theorem d_Mod_compare_13 : decode prog_12_method_8_code 13 = .ok (.getfield 41, 3) := by decide +kernel
theorem k_1158 : (Jvm.Cond.fieldLink "PackageBookModel" (41 : Nat) "PackageBookModel" "nameSize" "[I") ∈ uW := uW_of 1158 (by decide +kernel) (by decide +kernel)
theorem d_Mod_compare_16 : decode prog_12_method_8_code 16 = .ok (.iload_n 3, 1) := by decide +kernel
theorem d_Mod_compare_17 : decode prog_12_method_8_code 17 = .ok (.iaload, 1) := by decide +kernel
theorem d_Mod_compare_18 : decode prog_12_method_8_code 18 = .ok (.if_icmp .ge 48, 3) := by decide +kernel
theorem d_Mod_compare_66 : decode prog_12_method_8_code 66 = .ok (.aload_n 0, 1) := by decide +kernel
theorem d_Mod_compare_67 : decode prog_12_method_8_code 67 = .ok (.getfield 41, 3) := by decide +kernel
theorem d_Mod_compare_70 : decode prog_12_method_8_code 70 = .ok (.iload_n 3, 1) := by decide +kernel
theorem d_Mod_compare_71 : decode prog_12_method_8_code 71 = .ok (.iaload, 1) := by decide +kernel
theorem d_Mod_compare_72 : decode prog_12_method_8_code 72 = .ok (.aload_n 0, 1) := by decide +kernel
theorem d_Mod_compare_73 : decode prog_12_method_8_code 73 = .ok (.getfield 114, 3) := by decide +kernel
theorem d_Mod_compare_76 : decode prog_12_method_8_code 76 = .ok (.isub, 1) := by decide +kernel
theorem d_Mod_compare_77 : decode prog_12_method_8_code 77 = .ok (.ireturn, 1) := by decide +kernel
theorem d_Mod_compare_21 : decode prog_12_method_8_code 21 = .ok (.iload 4, 2) := by decide +kernel
theorem d_Mod_compare_23 : decode prog_12_method_8_code 23 = .ok (.aload_n 0, 1) := by decide +kernel
theorem d_Mod_compare_24 : decode prog_12_method_8_code 24 = .ok (.getfield 114, 3) := by decide +kernel
theorem d_Mod_compare_27 : decode prog_12_method_8_code 27 = .ok (.if_icmp .ge 39, 3) := by decide +kernel
theorem d_Mod_compare_30 : decode prog_12_method_8_code 30 = .ok (.aload_n 0, 1) := by decide +kernel
theorem d_Mod_compare_31 : decode prog_12_method_8_code 31 = .ok (.getfield 44, 3) := by decide +kernel
theorem k_1159 : (Jvm.Cond.fieldLink "PackageBookModel" (44 : Nat) "PackageBookModel" "names" "[B") ∈ uW := uW_of 1159 (by decide +kernel) (by decide +kernel)
theorem d_Mod_compare_34 : decode prog_12_method_8_code 34 = .ok (.bipush 24, 2) := by decide +kernel
theorem d_Mod_compare_36 : decode prog_12_method_8_code 36 = .ok (.iload_n 3, 1) := by decide +kernel
theorem d_Mod_compare_37 : decode prog_12_method_8_code 37 = .ok (.imul, 1) := by decide +kernel
theorem d_Mod_compare_38 : decode prog_12_method_8_code 38 = .ok (.iload 4, 2) := by decide +kernel
theorem d_Mod_compare_40 : decode prog_12_method_8_code 40 = .ok (.iadd, 1) := by decide +kernel
theorem d_Mod_compare_41 : decode prog_12_method_8_code 41 = .ok (.baload, 1) := by decide +kernel
theorem d_Mod_compare_42 : decode prog_12_method_8_code 42 = .ok (.aload_n 0, 1) := by decide +kernel
theorem d_Mod_compare_43 : decode prog_12_method_8_code 43 = .ok (.getfield 54, 3) := by decide +kernel
theorem d_Mod_compare_46 : decode prog_12_method_8_code 46 = .ok (.iload 4, 2) := by decide +kernel
theorem d_Mod_compare_48 : decode prog_12_method_8_code 48 = .ok (.baload, 1) := by decide +kernel
theorem d_Mod_compare_49 : decode prog_12_method_8_code 49 = .ok (.isub, 1) := by decide +kernel
theorem d_Mod_compare_50 : decode prog_12_method_8_code 50 = .ok (.istore 5, 2) := by decide +kernel
theorem d_Mod_compare_52 : decode prog_12_method_8_code 52 = .ok (.iload 5, 2) := by decide +kernel
theorem d_Mod_compare_54 : decode prog_12_method_8_code 54 = .ok (.ifCond .eq 6, 3) := by decide +kernel
theorem d_Mod_compare_60 : decode prog_12_method_8_code 60 = .ok (.iinc 4 1, 3) := by decide +kernel
theorem d_Mod_compare_63 : decode prog_12_method_8_code 63 = .ok (.goto (-53), 3) := by decide +kernel
theorem d_Mod_compare_57 : decode prog_12_method_8_code 57 = .ok (.iload 5, 2) := by decide +kernel
theorem d_Mod_compare_59 : decode prog_12_method_8_code 59 = .ok (.ireturn, 1) := by decide +kernel
abbrev y_Mod_compare : MethodName := ⟨"PackageBookModel", "compare", "(II)I"⟩
abbrev i_Mod_compare : pb_I := (y_Mod_compare, prog_12_method_8_code, 6, (some Jvm.ClassFile.FieldType.int), [], { frames := 0, cells := 0, slots := 0, locals := 0 })
set_option maxRecDepth 100000 in
set_option maxHeartbeats 4000000 in
theorem g_Mod_compare {l : Launch} (hl : l.stackTraces = false) (G : pb_G) (h : Nat) (m_rels : Nat) (m_openRels : Nat) (m_closeRels : Nat) (m_openRel : Nat) (m_closeRel : Nat) (m_comment : Nat) (m_ends : Nat) (m_order : Nat) (m_tape : Nat) (m_count : Nat) (m_nameSize : Nat) (m_names : Nat) (m_size : Nat) (m_data : Nat) (m_looked : Nat) (m_file : Nat) (m_directory : Nat) (m_out : Nat) (m_row : Nat) (m_made : Nat) (m_length : Nat) (m_pressed : Nat) (m_mark : Nat) (m_idSize : Nat) (m_ids : Nat) (m_goalSize : Nat) (m_goals : Nat) (m_value : Nat) (m_faults : Nat) (m_reached : Nat) (v_thrown : Int32) (v_taped : Int32) (v_lookedSize : Int32) (v_fileSize : Int32) (v_directorySize : Int32) (v_outSize : Int32) (v_rowSize : Int32) (v_bitAt : Int32) (v_bitEnd : Int32) (v_why : Int32) (v_madeSize : Int32) (v_firstCount : Int32) (v_secondCount : Int32) (v_heldBits : Int32) (v_heldCount : Int32) (v_pressedSize : Int32) (v_at : Int32) (v_bad : Int32) (v_markSize : Int32) (v_relationCount : Int32) (v_valueSize : Int32) (v_faultCount : Int32) (a_nameSize : Nat → Int32) (a_names : Nat → Int32) (a_looked : Nat → Int32) (st : Int32) (i : Int32) (s0 : 0 ≤ st.toInt) (s1 : st.toInt ≤ 1) (i0 : 0 ≤ i.toInt) (i1 : i.toInt ≤ 16) (z0 : 0 ≤ gx a_nameSize (17 * st.toInt + i.toInt)) (z1 : gx a_nameSize (17 * st.toInt + i.toInt) ≤ 24) (l0 : 0 ≤ v_lookedSize.toInt) (l1 : v_lookedSize.toInt ≤ 1000000) (F_a_names : sb_Fit a_names) (F_a_looked : sb_Fit a_looked) : Cn l G i_Mod_compare [.ref h, .int st, .int i] [(h, .inr (10, [.ref m_rels, .ref m_openRels, .ref m_closeRels, .ref m_openRel, .ref m_closeRel, .ref m_comment, .ref m_ends, .ref m_order, .int v_thrown, .int v_taped, .ref m_tape, .ref m_count, .ref m_nameSize, .ref m_names, .ref m_size, .ref m_data, .int v_lookedSize, .ref m_looked, .int v_fileSize, .ref m_file, .int v_directorySize, .ref m_directory, .int v_outSize, .ref m_out, .int v_rowSize, .ref m_row, .int v_bitAt, .int v_bitEnd, .int v_why, .int v_madeSize, .ref m_made, .ref m_length, .int v_firstCount, .int v_secondCount, .int v_heldBits, .int v_heldCount, .int v_pressedSize, .ref m_pressed, .int v_at, .int v_bad, .int v_markSize, .ref m_mark, .int v_relationCount, .ref m_idSize, .ref m_ids, .ref m_goalSize, .ref m_goals, .int v_valueSize, .ref m_value, .int v_faultCount, .ref m_faults, .ref m_reached])), (m_nameSize, .inl (G.2.2.1, 34, .inl a_nameSize)), (m_names, .inl (G.2.1, 816, .inl a_names)), (m_looked, .inl (G.2.1, 40, .inl a_looked))] (S := Int32) (fun rv_ u => rv_ = some (.int u) ∧ (u.toInt = 0 ↔ nl_eq a_nameSize a_names ((17 * st.toInt + i.toInt)) v_lookedSize.toInt a_looked) ∧ (0 < u.toInt → lx_ (gx a_looked) v_lookedSize.toInt (fun k => gx a_names (24 * (17 * st.toInt + i.toInt) + k)) (gx a_nameSize (17 * st.toInt + i.toInt))) ∧ (u.toInt ≤ 0 → ¬ lx_ (gx a_looked) v_lookedSize.toInt (fun k => gx a_names (24 * (17 * st.toInt + i.toInt) + k)) (gx a_nameSize (17 * st.toInt + i.toInt)))) (fun u => [(h, .inr (10, [.ref m_rels, .ref m_openRels, .ref m_closeRels, .ref m_openRel, .ref m_closeRel, .ref m_comment, .ref m_ends, .ref m_order, .int v_thrown, .int v_taped, .ref m_tape, .ref m_count, .ref m_nameSize, .ref m_names, .ref m_size, .ref m_data, .int v_lookedSize, .ref m_looked, .int v_fileSize, .ref m_file, .int v_directorySize, .ref m_directory, .int v_outSize, .ref m_out, .int v_rowSize, .ref m_row, .int v_bitAt, .int v_bitEnd, .int v_why, .int v_madeSize, .ref m_made, .ref m_length, .int v_firstCount, .int v_secondCount, .int v_heldBits, .int v_heldCount, .int v_pressedSize, .ref m_pressed, .int v_at, .int v_bad, .int v_markSize, .ref m_mark, .int v_relationCount, .ref m_idSize, .ref m_ids, .ref m_goalSize, .ref m_goals, .int v_valueSize, .ref m_value, .int v_faultCount, .ref m_faults, .ref m_reached])), (m_nameSize, .inl (G.2.2.1, 34, .inl a_nameSize)), (m_names, .inl (G.2.1, 816, .inl a_names)), (m_looked, .inl (G.2.1, 40, .inl a_looked))]) := by
  refine Cn.of hl (by decide +kernel) rfl (Nat.le_of_ble_eq_true rfl) (fun M hQ => ?_)
  refine pb_eq (pc' := 0) (lo' := [(0, .ref h), (1, .int st), (2, .int i)]) (rest' := []) (ws' := [(h, .inr (10, [.ref m_rels, .ref m_openRels, .ref m_closeRels, .ref m_openRel, .ref m_closeRel, .ref m_comment, .ref m_ends, .ref m_order, .int v_thrown, .int v_taped, .ref m_tape, .ref m_count, .ref m_nameSize, .ref m_names, .ref m_size, .ref m_data, .int v_lookedSize, .ref m_looked, .int v_fileSize, .ref m_file, .int v_directorySize, .ref m_directory, .int v_outSize, .ref m_out, .int v_rowSize, .ref m_row, .int v_bitAt, .int v_bitEnd, .int v_why, .int v_madeSize, .ref m_made, .ref m_length, .int v_firstCount, .int v_secondCount, .int v_heldBits, .int v_heldCount, .int v_pressedSize, .ref m_pressed, .int v_at, .int v_bad, .int v_markSize, .ref m_mark, .int v_relationCount, .ref m_idSize, .ref m_ids, .ref m_goalSize, .ref m_goals, .int v_valueSize, .ref m_value, .int v_faultCount, .ref m_faults, .ref m_reached])), (m_nameSize, .inl (G.2.2.1, 34, .inl a_nameSize)), (m_names, .inl (G.2.1, 816, .inl a_names)), (m_looked, .inl (G.2.1, 40, .inl a_looked))]) ?_
  have zl0 : (0 : Int32).toInt = 0 := by decide
  have zl1 : (1 : Int32).toInt = 1 := by decide
  have zl17 : (17 : Int32).toInt = 17 := by decide
  have zl24 : (24 : Int32).toInt = 24 := by decide
  refine pb_bipush (pc := 0) (v := 17) d_Mod_compare_0 (by decide) ?_
  refine pb_iload_n (pc := 2) d_Mod_compare_2 1 rfl rfl ?_
  refine pb_imul (pc := 3) d_Mod_compare_3 ?_
  refine pb_topi (fun i1 ei1 => ?_)
  try have ti1 : i1.toInt = 17 * st.toInt := ti_mul ei1 (by decide) rfl (by omega) (by omega)
  refine pb_iload_n (pc := 4) d_Mod_compare_4 2 rfl rfl ?_
  refine pb_iadd (pc := 5) d_Mod_compare_5 ?_
  refine pb_topi (fun i2 ei2 => ?_)
  try have ti2 : i2.toInt = i1.toInt + i.toInt := t2_add ei2 rfl rfl (by omega)
  refine pb_istore_n (pc := 6) (lo' := [(3, .int i2), (0, .ref h), (1, .int st), (2, .int i)]) d_Mod_compare_6 rfl (by decide) rfl ?_
  refine pb_iconst (pc := 7) (v := 0) d_Mod_compare_7 (by decide) ?_
  refine pb_istore (pc := 8) (lo' := [(4, .int 0), (3, .int i2), (0, .ref h), (1, .int st), (2, .int i)]) d_Mod_compare_8 (by decide) rfl ?_
  have hL10_3 : ∀ (N9 : Nat) (k : Int32) (p : Int32), (0 ≤ k.toInt) → (p.toInt = (17 * st.toInt + i.toInt)) → (k.toInt ≤ gx a_nameSize (17 * st.toInt + i.toInt)) → (k.toInt ≤ v_lookedSize.toInt) → (∀ j : Int, 0 ≤ j → j < k.toInt → gx a_names (24 * (17 * st.toInt + i.toInt) + j) = gx a_looked j) → ((gx a_nameSize (17 * st.toInt + i.toInt) - k.toInt).toNat) < N9 → pb_P l G M i_Mod_compare 10 [(4, .int k), (3, .int p), (0, .ref h), (1, .int st), (2, .int i)] [] [(h, .inr (10, [.ref m_rels, .ref m_openRels, .ref m_closeRels, .ref m_openRel, .ref m_closeRel, .ref m_comment, .ref m_ends, .ref m_order, .int v_thrown, .int v_taped, .ref m_tape, .ref m_count, .ref m_nameSize, .ref m_names, .ref m_size, .ref m_data, .int v_lookedSize, .ref m_looked, .int v_fileSize, .ref m_file, .int v_directorySize, .ref m_directory, .int v_outSize, .ref m_out, .int v_rowSize, .ref m_row, .int v_bitAt, .int v_bitEnd, .int v_why, .int v_madeSize, .ref m_made, .ref m_length, .int v_firstCount, .int v_secondCount, .int v_heldBits, .int v_heldCount, .int v_pressedSize, .ref m_pressed, .int v_at, .int v_bad, .int v_markSize, .ref m_mark, .int v_relationCount, .ref m_idSize, .ref m_ids, .ref m_goalSize, .ref m_goals, .int v_valueSize, .ref m_value, .int v_faultCount, .ref m_faults, .ref m_reached])), (m_nameSize, .inl (G.2.2.1, 34, .inl a_nameSize)), (m_names, .inl (G.2.1, 816, .inl a_names)), (m_looked, .inl (G.2.1, 40, .inl a_looked))] 0 0 := by
    intro N9
    induction N9 with
    | zero => intro k p k0 kp k1 k2 hall hm9; exact absurd hm9 (Nat.not_lt_zero _)
    | succ N9 ih10 =>
      intro k p k0 kp k1 k2 hall hm9
      refine pb_iload (pc := 10) d_Mod_compare_10 0 rfl ?_
      refine pb_aload_n (pc := 12) d_Mod_compare_12 2 rfl rfl ?_
      refine pb_get (pc := 13) d_Mod_compare_13 0 12 rfl rfl (by decide) in_Mod k_1158 rfl ?_
      refine pb_iload_n (pc := 16) d_Mod_compare_16 1 rfl rfl ?_
      refine pb_iald (pc := 17) d_Mod_compare_17 1 rfl (vp_in_iff.mpr (by omega)) ?_
      refine pb_topi (fun i4 ei4 => ?_)
      have ti4 : i4.toInt = gx a_nameSize ((17 * st.toInt + i.toInt)) := gx_ld ei4 (by omega)
      refine pb_icmp_ge (pc := 18) (tgt := 66) d_Mod_compare_18 (by decide) (fun w5 => ?_) (fun w5 => ?_)
      · have tw5 : i4.toInt ≤ k.toInt := (ti_le rfl rfl).mp w5
        refine pb_aload_n (pc := 66) d_Mod_compare_66 2 rfl rfl ?_
        refine pb_get (pc := 67) d_Mod_compare_67 0 12 rfl rfl (by decide) in_Mod k_1158 rfl ?_
        refine pb_iload_n (pc := 70) d_Mod_compare_70 1 rfl rfl ?_
        refine pb_iald (pc := 71) d_Mod_compare_71 1 rfl (vp_in_iff.mpr (by omega)) ?_
        refine pb_topi (fun i6 ei6 => ?_)
        have ti6 : i6.toInt = gx a_nameSize ((17 * st.toInt + i.toInt)) := gx_ld ei6 (by omega)
        refine pb_aload_n (pc := 72) d_Mod_compare_72 2 rfl rfl ?_
        refine pb_get (pc := 73) d_Mod_compare_73 0 16 rfl rfl (by decide) in_Mod k_1162 rfl ?_
        refine pb_isub (pc := 76) d_Mod_compare_76 ?_
        refine pb_topi (fun i7 ei7 => ?_)
        try have ti7 : i7.toInt = i6.toInt - v_lookedSize.toInt := t2_sub ei7 rfl rfl (by (exact omg_18df2b675c z0 z1 l0 l1 ti6))
        exact pb_iret (pc := 77) hQ d_Mod_compare_77 rfl rfl (i7) ⟨rfl, (show i7.toInt = 0 ↔ nl_eq a_nameSize a_names ((17 * st.toInt + i.toInt)) v_lookedSize.toInt a_looked from ⟨fun h9 => ⟨by omega, fun j j0 j1 => hall j j0 (by omega)⟩, fun h9 => by have q9 := h9.1; omega⟩), (show 0 < i7.toInt → lx_ (gx a_looked) v_lookedSize.toInt (fun k => gx a_names (24 * (17 * st.toInt + i.toInt) + k)) (gx a_nameSize (17 * st.toInt + i.toInt)) from (fun q9 => lx_e1 k0 (fun j h0 h1 => (hall j h0 h1).symm) (by omega) (by omega) (by omega) (by omega))), (show i7.toInt ≤ 0 → ¬ lx_ (gx a_looked) v_lookedSize.toInt (fun k => gx a_names (24 * (17 * st.toInt + i.toInt) + k)) (gx a_nameSize (17 * st.toInt + i.toInt)) from (fun q9 => lx_e0 k0 (fun j h0 h1 => (hall j h0 h1).symm) (by omega) (by omega) (by omega) (by omega)))⟩ [0, 1, 2, 3] (by decide) rfl rfl (by decide) (by decide)
      · have tw5 : ¬ i4.toInt ≤ k.toInt := fun z9 => w5 ((ti_le rfl rfl).mpr z9)
        refine pb_iload (pc := 21) d_Mod_compare_21 0 rfl ?_
        refine pb_aload_n (pc := 23) d_Mod_compare_23 2 rfl rfl ?_
        refine pb_get (pc := 24) d_Mod_compare_24 0 16 rfl rfl (by decide) in_Mod k_1162 rfl ?_
        refine pb_icmp_ge (pc := 27) (tgt := 66) d_Mod_compare_27 (by decide) (fun w8 => ?_) (fun w8 => ?_)
        · have tw8 : v_lookedSize.toInt ≤ k.toInt := (ti_le rfl rfl).mp w8
          refine pb_aload_n (pc := 66) d_Mod_compare_66 2 rfl rfl ?_
          refine pb_get (pc := 67) d_Mod_compare_67 0 12 rfl rfl (by decide) in_Mod k_1158 rfl ?_
          refine pb_iload_n (pc := 70) d_Mod_compare_70 1 rfl rfl ?_
          refine pb_iald (pc := 71) d_Mod_compare_71 1 rfl (vp_in_iff.mpr (by omega)) ?_
          refine pb_topi (fun i9 ei9 => ?_)
          have ti9 : i9.toInt = gx a_nameSize ((17 * st.toInt + i.toInt)) := gx_ld ei9 (by omega)
          refine pb_aload_n (pc := 72) d_Mod_compare_72 2 rfl rfl ?_
          refine pb_get (pc := 73) d_Mod_compare_73 0 16 rfl rfl (by decide) in_Mod k_1162 rfl ?_
          refine pb_isub (pc := 76) d_Mod_compare_76 ?_
          refine pb_topi (fun i10 ei10 => ?_)
          try have ti10 : i10.toInt = i9.toInt - v_lookedSize.toInt := t2_sub ei10 rfl rfl (by (exact omg_18df2b675c z0 z1 l0 l1 ti9))
          exact pb_iret (pc := 77) hQ d_Mod_compare_77 rfl rfl (i10) ⟨rfl, (show i10.toInt = 0 ↔ nl_eq a_nameSize a_names ((17 * st.toInt + i.toInt)) v_lookedSize.toInt a_looked from ⟨fun h9 => ⟨by omega, fun j j0 j1 => hall j j0 (by omega)⟩, fun h9 => by have q9 := h9.1; omega⟩), (show 0 < i10.toInt → lx_ (gx a_looked) v_lookedSize.toInt (fun k => gx a_names (24 * (17 * st.toInt + i.toInt) + k)) (gx a_nameSize (17 * st.toInt + i.toInt)) from (fun q9 => lx_e1 k0 (fun j h0 h1 => (hall j h0 h1).symm) (by omega) (by omega) (by omega) (by omega))), (show i10.toInt ≤ 0 → ¬ lx_ (gx a_looked) v_lookedSize.toInt (fun k => gx a_names (24 * (17 * st.toInt + i.toInt) + k)) (gx a_nameSize (17 * st.toInt + i.toInt)) from (fun q9 => lx_e0 k0 (fun j h0 h1 => (hall j h0 h1).symm) (by omega) (by omega) (by omega) (by omega)))⟩ [0, 1, 2, 3] (by decide) rfl rfl (by decide) (by decide)
        · have tw8 : ¬ v_lookedSize.toInt ≤ k.toInt := fun z9 => w8 ((ti_le rfl rfl).mpr z9)
          refine pb_aload_n (pc := 30) d_Mod_compare_30 2 rfl rfl ?_
          refine pb_get (pc := 31) d_Mod_compare_31 0 13 rfl rfl (by decide) in_Mod k_1159 rfl ?_
          refine pb_bipush (pc := 34) (v := 24) d_Mod_compare_34 (by decide) ?_
          refine pb_iload_n (pc := 36) d_Mod_compare_36 1 rfl rfl ?_
          refine pb_imul (pc := 37) d_Mod_compare_37 ?_
          refine pb_topi (fun i11 ei11 => ?_)
          try have ti11 : i11.toInt = 24 * p.toInt := ti_mul ei11 (by decide) rfl (by omega) (by omega)
          refine pb_iload (pc := 38) d_Mod_compare_38 0 rfl ?_
          refine pb_iadd (pc := 40) d_Mod_compare_40 ?_
          refine pb_topi (fun i12 ei12 => ?_)
          try have ti12 : i12.toInt = i11.toInt + k.toInt := t2_add ei12 rfl rfl (by omega)
          refine pb_bald (pc := 41) d_Mod_compare_41 2 rfl (vp_in_iff.mpr (by omega)) ?_
          refine pb_topi (fun i13 ei13 => ?_)
          have xi13 : i13 = gr a_names (24 * (17 * st.toInt + i.toInt) + k.toInt) := gr_ld ei13 (by omega)
          have yi13 : i13.toInt = gx a_names (24 * (17 * st.toInt + i.toInt) + k.toInt) := congrArg Int32.toInt xi13
          have ti13 : -128 ≤ i13.toInt ∧ i13.toInt ≤ 127 := ti_fit (F_a_names _) ei13
          refine pb_aload_n (pc := 42) d_Mod_compare_42 2 rfl rfl ?_
          refine pb_get (pc := 43) d_Mod_compare_43 0 17 rfl rfl (by decide) in_Mod k_1163 rfl ?_
          refine pb_iload (pc := 46) d_Mod_compare_46 0 rfl ?_
          refine pb_bald (pc := 48) d_Mod_compare_48 3 rfl (vp_in_iff.mpr (by omega)) ?_
          refine pb_topi (fun i14 ei14 => ?_)
          have xi14 : i14 = gr a_looked (k.toInt) := gr_ld ei14 (by omega)
          have yi14 : i14.toInt = gx a_looked (k.toInt) := congrArg Int32.toInt xi14
          have ti14 : -128 ≤ i14.toInt ∧ i14.toInt ≤ 127 := ti_fit (F_a_looked _) ei14
          refine pb_isub (pc := 49) d_Mod_compare_49 ?_
          refine pb_topi (fun i15 ei15 => ?_)
          try have ti15 : i15.toInt = i13.toInt - i14.toInt := t2_sub ei15 rfl rfl (by omega)
          refine pb_istore (pc := 50) (lo' := [(5, .int i15), (4, .int k), (3, .int p), (0, .ref h), (1, .int st), (2, .int i)]) d_Mod_compare_50 (by decide) rfl ?_
          refine pb_iload (pc := 52) d_Mod_compare_52 0 rfl ?_
          refine pb_if_eq (pc := 54) (tgt := 60) d_Mod_compare_54 (by decide) (fun w16 => ?_) (fun w16 => ?_)
          · have tw16 : i15.toInt = 0 := (ti_eq rfl (by decide)).mp w16
            refine pb_iincN (pc := 60) (c := 1) d_Mod_compare_60 1 rfl (by decide) (by decide) (fun i17 ei17 => ?_)
            have ti17 : i17.toInt = k.toInt + 1 := t2_add ei17 rfl (by decide) (by first | omega | (have r90 := ti_rng k; have r91 := ti_rng i17; have r92 := ti_rng i15; have r93 := ti_rng p; have r94 := ti_rng st; have r95 := ti_rng i; omega))
            refine pb_eq (pc' := 63) (lo' := [(4, .int i17), (5, .int i15), (3, .int p), (0, .ref h), (1, .int st), (2, .int i)]) (rest' := []) (ws' := [(h, .inr (10, [.ref m_rels, .ref m_openRels, .ref m_closeRels, .ref m_openRel, .ref m_closeRel, .ref m_comment, .ref m_ends, .ref m_order, .int v_thrown, .int v_taped, .ref m_tape, .ref m_count, .ref m_nameSize, .ref m_names, .ref m_size, .ref m_data, .int v_lookedSize, .ref m_looked, .int v_fileSize, .ref m_file, .int v_directorySize, .ref m_directory, .int v_outSize, .ref m_out, .int v_rowSize, .ref m_row, .int v_bitAt, .int v_bitEnd, .int v_why, .int v_madeSize, .ref m_made, .ref m_length, .int v_firstCount, .int v_secondCount, .int v_heldBits, .int v_heldCount, .int v_pressedSize, .ref m_pressed, .int v_at, .int v_bad, .int v_markSize, .ref m_mark, .int v_relationCount, .ref m_idSize, .ref m_ids, .ref m_goalSize, .ref m_goals, .int v_valueSize, .ref m_value, .int v_faultCount, .ref m_faults, .ref m_reached])), (m_nameSize, .inl (G.2.2.1, 34, .inl a_nameSize)), (m_names, .inl (G.2.1, 816, .inl a_names)), (m_looked, .inl (G.2.1, 40, .inl a_looked))]) ?_
            refine pb_goto (pc := 63) (tgt := 10) d_Mod_compare_63 (by decide) ?_
            refine pb_re (ws' := [(h, .inr (10, [.ref m_rels, .ref m_openRels, .ref m_closeRels, .ref m_openRel, .ref m_closeRel, .ref m_comment, .ref m_ends, .ref m_order, .int v_thrown, .int v_taped, .ref m_tape, .ref m_count, .ref m_nameSize, .ref m_names, .ref m_size, .ref m_data, .int v_lookedSize, .ref m_looked, .int v_fileSize, .ref m_file, .int v_directorySize, .ref m_directory, .int v_outSize, .ref m_out, .int v_rowSize, .ref m_row, .int v_bitAt, .int v_bitEnd, .int v_why, .int v_madeSize, .ref m_made, .ref m_length, .int v_firstCount, .int v_secondCount, .int v_heldBits, .int v_heldCount, .int v_pressedSize, .ref m_pressed, .int v_at, .int v_bad, .int v_markSize, .ref m_mark, .int v_relationCount, .ref m_idSize, .ref m_ids, .ref m_goalSize, .ref m_goals, .int v_valueSize, .ref m_value, .int v_faultCount, .ref m_faults, .ref m_reached])), (m_nameSize, .inl (G.2.2.1, 34, .inl a_nameSize)), (m_names, .inl (G.2.1, 816, .inl a_names)), (m_looked, .inl (G.2.1, 40, .inl a_looked))]) (lo' := [(4, .int i17), (3, .int p), (0, .ref h), (1, .int st), (2, .int i)]) [0, 1, 2, 3] [0, 2, 3, 4, 5] (by decide) rfl rfl rfl ?_
            exact ih10 i17 p (by first | (with_reducible assumption) | omega (splitDisjunctions := false) | assumption | omega | decide) (by first | (with_reducible assumption) | omega (splitDisjunctions := false) | assumption | omega | decide) (by first | (with_reducible assumption) | (exact omg_717929f615 ti4 tw5 ti17) | assumption | omega | decide) (by first | (with_reducible assumption) | omega (splitDisjunctions := false) | assumption | omega | decide) (fun j h0 h1 => if w : j < k.toInt then hall j h0 w else by rw [show j = k.toInt by (exact omg_e822e67b55 ti17 h1 w)]; omega) (by (exact omg_b30a0bed9f hm9 ti4 tw5 ti17))
          · have tw16 : ¬ i15.toInt = 0 := fun z9 => w16 ((ti_eq rfl (by decide)).mpr z9)
            refine pb_iload (pc := 57) d_Mod_compare_57 0 rfl ?_
            exact pb_iret (pc := 59) hQ d_Mod_compare_59 rfl rfl (i15) ⟨rfl, (show i15.toInt = 0 ↔ nl_eq a_nameSize a_names ((17 * st.toInt + i.toInt)) v_lookedSize.toInt a_looked from ⟨fun h9 => absurd h9 (by omega), fun h9 => by have q9 := h9.2 k.toInt k0 (by omega); omega⟩), (show 0 < i15.toInt → lx_ (gx a_looked) v_lookedSize.toInt (fun k => gx a_names (24 * (17 * st.toInt + i.toInt) + k)) (gx a_nameSize (17 * st.toInt + i.toInt)) from (fun q9 => lx_lo k0 (fun j h0 h1 => (hall j h0 h1).symm) (by omega) (by omega) (by show gx a_looked k.toInt < gx a_names (24 * (17 * st.toInt + i.toInt) + k.toInt); omega))), (show i15.toInt ≤ 0 → ¬ lx_ (gx a_looked) v_lookedSize.toInt (fun k => gx a_names (24 * (17 * st.toInt + i.toInt) + k)) (gx a_nameSize (17 * st.toInt + i.toInt)) from (fun q9 => lx_hi k0 (fun j h0 h1 => (hall j h0 h1).symm) (by omega) (by omega) (by show gx a_names (24 * (17 * st.toInt + i.toInt) + k.toInt) < gx a_looked k.toInt; omega)))⟩ [0, 1, 2, 3] (by decide) rfl rfl (by decide) (by decide)
  exact hL10_3 _ 0 i2 (by first | (with_reducible assumption) | omega (splitDisjunctions := false) | assumption | omega | decide) (by first | (with_reducible assumption) | omega (splitDisjunctions := false) | assumption | omega | decide) (by first | (with_reducible assumption) | omega (splitDisjunctions := false) | assumption | omega | decide) (by first | (with_reducible assumption) | omega (splitDisjunctions := false) | assumption | omega | decide) (fun j h0 h1 => absurd h1 (by omega)) (Nat.lt_succ_self _)

theorem d_Mod_find_0 : decode prog_12_method_9_code 0 = .ok (.iconst (-1), 1) := by decide +kernel
theorem d_Mod_find_1 : decode prog_12_method_9_code 1 = .ok (.istore_n 2, 1) := by decide +kernel
theorem d_Mod_find_2 : decode prog_12_method_9_code 2 = .ok (.iconst 0, 1) := by decide +kernel
theorem d_Mod_find_3 : decode prog_12_method_9_code 3 = .ok (.istore_n 3, 1) := by decide +kernel
theorem d_Mod_find_4 : decode prog_12_method_9_code 4 = .ok (.iload_n 3, 1) := by decide +kernel
theorem d_Mod_find_5 : decode prog_12_method_9_code 5 = .ok (.aload_n 0, 1) := by decide +kernel
theorem d_Mod_find_6 : decode prog_12_method_9_code 6 = .ok (.getfield 37, 3) := by decide +kernel
theorem k_1157 : (Jvm.Cond.fieldLink "PackageBookModel" (37 : Nat) "PackageBookModel" "count" "[I") ∈ uW := uW_of 1157 (by decide +kernel) (by decide +kernel)
theorem d_Mod_find_9 : decode prog_12_method_9_code 9 = .ok (.iload_n 1, 1) := by decide +kernel
theorem d_Mod_find_10 : decode prog_12_method_9_code 10 = .ok (.iaload, 1) := by decide +kernel
theorem d_Mod_find_11 : decode prog_12_method_9_code 11 = .ok (.if_icmp .ge 33, 3) := by decide +kernel
theorem d_Mod_find_44 : decode prog_12_method_9_code 44 = .ok (.iload_n 2, 1) := by decide +kernel
theorem d_Mod_find_45 : decode prog_12_method_9_code 45 = .ok (.ireturn, 1) := by decide +kernel
theorem d_Mod_find_14 : decode prog_12_method_9_code 14 = .ok (.aload_n 0, 1) := by decide +kernel
theorem d_Mod_find_15 : decode prog_12_method_9_code 15 = .ok (.getfield 114, 3) := by decide +kernel
theorem d_Mod_find_18 : decode prog_12_method_9_code 18 = .ok (.bipush 24, 2) := by decide +kernel
theorem d_Mod_find_20 : decode prog_12_method_9_code 20 = .ok (.if_icmp .gt 24, 3) := by decide +kernel
theorem d_Mod_find_23 : decode prog_12_method_9_code 23 = .ok (.aload_n 0, 1) := by decide +kernel
theorem d_Mod_find_24 : decode prog_12_method_9_code 24 = .ok (.iload_n 1, 1) := by decide +kernel
theorem d_Mod_find_25 : decode prog_12_method_9_code 25 = .ok (.iload_n 3, 1) := by decide +kernel
theorem d_Mod_find_26 : decode prog_12_method_9_code 26 = .ok (.invokevirtual 117, 3) := by decide +kernel
theorem k_1338 : (Jvm.Cond.methodLink "PackageBookModel" (117 : Nat) ({ cls := "PackageBookModel", name := "compare", desc := "(II)I" } : Jvm.MethodName)) ∈ uW := uW_of 1338 (by decide +kernel) (by decide +kernel)
theorem k_1341 : (Jvm.Cond.code ({ cls := "PackageBookModel", name := "compare", desc := "(II)I" } : Jvm.MethodName) prog_12_method_8_code (6 : Nat) (Option.some Jvm.ClassFile.FieldType.int)) ∈ uW := uW_of 1341 (by decide +kernel) (by decide +kernel)
theorem k_1340 : (Jvm.Cond.instanceMethod ({ cls := "PackageBookModel", name := "compare", desc := "(II)I" } : Jvm.MethodName)) ∈ uW := uW_of 1340 (by decide +kernel) (by decide +kernel)
theorem k_56 : Cond.selects "PackageBookModel" ⟨"PackageBookModel", "compare", "(II)I"⟩ ⟨"PackageBookModel", "compare", "(II)I"⟩ ∈ uW := uW_of 56 (by decide +kernel) (by decide +kernel)
theorem hy_Mod_compare : (y_Mod_compare).cls ≠ "java/lang/invoke/MethodHandle" ∧ (y_Mod_compare).cls ≠ "java/lang/invoke/VarHandle" ∧ (parseMethodDescriptor (y_Mod_compare).desc).map (fun d => d.parameters.length) = some 2 := by decide +kernel
theorem d_Mod_find_29 : decode prog_12_method_9_code 29 = .ok (.ifCond .ne 7, 3) := by decide +kernel
theorem d_Mod_find_36 : decode prog_12_method_9_code 36 = .ok (.iload_n 2, 1) := by decide +kernel
theorem d_Mod_find_37 : decode prog_12_method_9_code 37 = .ok (.istore_n 2, 1) := by decide +kernel
theorem d_Mod_find_38 : decode prog_12_method_9_code 38 = .ok (.iinc 3 1, 3) := by decide +kernel
theorem d_Mod_find_41 : decode prog_12_method_9_code 41 = .ok (.goto (-37), 3) := by decide +kernel
theorem d_Mod_find_32 : decode prog_12_method_9_code 32 = .ok (.iload_n 3, 1) := by decide +kernel
theorem d_Mod_find_33 : decode prog_12_method_9_code 33 = .ok (.goto 4, 3) := by decide +kernel
abbrev y_Mod_find : MethodName := ⟨"PackageBookModel", "find", "(I)I"⟩
abbrev i_Mod_find : pb_I := (y_Mod_find, prog_12_method_9_code, 4, (some Jvm.ClassFile.FieldType.int), [], { frames := 1, cells := 0, slots := 0, locals := 25 })
set_option maxRecDepth 100000 in
set_option maxHeartbeats 4000000 in
theorem g_Mod_find {l : Launch} (hl : l.stackTraces = false) (G : pb_G) (h : Nat) (m_rels : Nat) (m_openRels : Nat) (m_closeRels : Nat) (m_openRel : Nat) (m_closeRel : Nat) (m_comment : Nat) (m_ends : Nat) (m_order : Nat) (m_tape : Nat) (m_count : Nat) (m_nameSize : Nat) (m_names : Nat) (m_size : Nat) (m_data : Nat) (m_looked : Nat) (m_file : Nat) (m_directory : Nat) (m_out : Nat) (m_row : Nat) (m_made : Nat) (m_length : Nat) (m_pressed : Nat) (m_mark : Nat) (m_idSize : Nat) (m_ids : Nat) (m_goalSize : Nat) (m_goals : Nat) (m_value : Nat) (m_faults : Nat) (m_reached : Nat) (v_thrown : Int32) (v_taped : Int32) (v_lookedSize : Int32) (v_fileSize : Int32) (v_directorySize : Int32) (v_outSize : Int32) (v_rowSize : Int32) (v_bitAt : Int32) (v_bitEnd : Int32) (v_why : Int32) (v_madeSize : Int32) (v_firstCount : Int32) (v_secondCount : Int32) (v_heldBits : Int32) (v_heldCount : Int32) (v_pressedSize : Int32) (v_at : Int32) (v_bad : Int32) (v_markSize : Int32) (v_relationCount : Int32) (v_valueSize : Int32) (v_faultCount : Int32) (a_count : Nat → Int32) (a_nameSize : Nat → Int32) (a_names : Nat → Int32) (a_looked : Nat → Int32) (st : Int32) (s0 : 0 ≤ st.toInt) (s1 : st.toInt ≤ 1) (I : ∀ i : Int, 0 ≤ i → i < gx a_count st.toInt → 1 ≤ gx a_nameSize (17 * st.toInt + i) ∧ gx a_nameSize (17 * st.toInt + i) ≤ 24) (c0 : 0 ≤ gx a_count st.toInt) (c1 : gx a_count st.toInt ≤ 16) (l0 : 0 ≤ v_lookedSize.toInt) (l1 : v_lookedSize.toInt ≤ 1000000) (F_a_names : sb_Fit a_names) (F_a_looked : sb_Fit a_looked) : Cn l G i_Mod_find [.ref h, .int st] [(h, .inr (10, [.ref m_rels, .ref m_openRels, .ref m_closeRels, .ref m_openRel, .ref m_closeRel, .ref m_comment, .ref m_ends, .ref m_order, .int v_thrown, .int v_taped, .ref m_tape, .ref m_count, .ref m_nameSize, .ref m_names, .ref m_size, .ref m_data, .int v_lookedSize, .ref m_looked, .int v_fileSize, .ref m_file, .int v_directorySize, .ref m_directory, .int v_outSize, .ref m_out, .int v_rowSize, .ref m_row, .int v_bitAt, .int v_bitEnd, .int v_why, .int v_madeSize, .ref m_made, .ref m_length, .int v_firstCount, .int v_secondCount, .int v_heldBits, .int v_heldCount, .int v_pressedSize, .ref m_pressed, .int v_at, .int v_bad, .int v_markSize, .ref m_mark, .int v_relationCount, .ref m_idSize, .ref m_ids, .ref m_goalSize, .ref m_goals, .int v_valueSize, .ref m_value, .int v_faultCount, .ref m_faults, .ref m_reached])), (m_count, .inl (G.2.2.1, 2, .inl a_count)), (m_nameSize, .inl (G.2.2.1, 34, .inl a_nameSize)), (m_names, .inl (G.2.1, 816, .inl a_names)), (m_looked, .inl (G.2.1, 40, .inl a_looked))] (S := Int32) (fun rv_ u => rv_ = some (.int u) ∧ (-1 ≤ u.toInt) ∧ (u.toInt < gx a_count st.toInt) ∧ (0 ≤ u.toInt → nl_eq a_nameSize a_names ((17 * st.toInt + u.toInt)) v_lookedSize.toInt a_looked) ∧ (u.toInt = -1 → ∀ i : Int, 0 ≤ i → i < gx a_count st.toInt → ¬ nl_eq a_nameSize a_names (17 * st.toInt + i) v_lookedSize.toInt a_looked)) (fun u => [(h, .inr (10, [.ref m_rels, .ref m_openRels, .ref m_closeRels, .ref m_openRel, .ref m_closeRel, .ref m_comment, .ref m_ends, .ref m_order, .int v_thrown, .int v_taped, .ref m_tape, .ref m_count, .ref m_nameSize, .ref m_names, .ref m_size, .ref m_data, .int v_lookedSize, .ref m_looked, .int v_fileSize, .ref m_file, .int v_directorySize, .ref m_directory, .int v_outSize, .ref m_out, .int v_rowSize, .ref m_row, .int v_bitAt, .int v_bitEnd, .int v_why, .int v_madeSize, .ref m_made, .ref m_length, .int v_firstCount, .int v_secondCount, .int v_heldBits, .int v_heldCount, .int v_pressedSize, .ref m_pressed, .int v_at, .int v_bad, .int v_markSize, .ref m_mark, .int v_relationCount, .ref m_idSize, .ref m_ids, .ref m_goalSize, .ref m_goals, .int v_valueSize, .ref m_value, .int v_faultCount, .ref m_faults, .ref m_reached])), (m_count, .inl (G.2.2.1, 2, .inl a_count)), (m_nameSize, .inl (G.2.2.1, 34, .inl a_nameSize)), (m_names, .inl (G.2.1, 816, .inl a_names)), (m_looked, .inl (G.2.1, 40, .inl a_looked))]) := by
  refine Cn.of hl (by decide +kernel) rfl (Nat.le_of_ble_eq_true rfl) (fun M hQ => ?_)
  refine pb_eq (pc' := 0) (lo' := [(0, .ref h), (1, .int st)]) (rest' := []) (ws' := [(h, .inr (10, [.ref m_rels, .ref m_openRels, .ref m_closeRels, .ref m_openRel, .ref m_closeRel, .ref m_comment, .ref m_ends, .ref m_order, .int v_thrown, .int v_taped, .ref m_tape, .ref m_count, .ref m_nameSize, .ref m_names, .ref m_size, .ref m_data, .int v_lookedSize, .ref m_looked, .int v_fileSize, .ref m_file, .int v_directorySize, .ref m_directory, .int v_outSize, .ref m_out, .int v_rowSize, .ref m_row, .int v_bitAt, .int v_bitEnd, .int v_why, .int v_madeSize, .ref m_made, .ref m_length, .int v_firstCount, .int v_secondCount, .int v_heldBits, .int v_heldCount, .int v_pressedSize, .ref m_pressed, .int v_at, .int v_bad, .int v_markSize, .ref m_mark, .int v_relationCount, .ref m_idSize, .ref m_ids, .ref m_goalSize, .ref m_goals, .int v_valueSize, .ref m_value, .int v_faultCount, .ref m_faults, .ref m_reached])), (m_count, .inl (G.2.2.1, 2, .inl a_count)), (m_nameSize, .inl (G.2.2.1, 34, .inl a_nameSize)), (m_names, .inl (G.2.1, 816, .inl a_names)), (m_looked, .inl (G.2.1, 40, .inl a_looked))]) ?_
  have zm1 : ((-1) : Int32).toInt = (-1) := by decide
  have zl0 : (0 : Int32).toInt = 0 := by decide
  have zl1 : (1 : Int32).toInt = 1 := by decide
  refine pb_iconst (pc := 0) (v := (-1)) d_Mod_find_0 (by decide) ?_
  refine pb_istore_n (pc := 1) (lo' := [(2, .int (-1)), (0, .ref h), (1, .int st)]) d_Mod_find_1 rfl (by decide) rfl ?_
  refine pb_iconst (pc := 2) (v := 0) d_Mod_find_2 (by decide) ?_
  refine pb_istore_n (pc := 3) (lo' := [(3, .int 0), (2, .int (-1)), (0, .ref h), (1, .int st)]) d_Mod_find_3 rfl (by decide) rfl ?_
  have hL4_1 : ∀ (N9 : Nat) (fo : Int32) (i : Int32), (0 ≤ i.toInt) → (i.toInt ≤ gx a_count st.toInt) → (-1 ≤ fo.toInt) → (fo.toInt < i.toInt) → (0 ≤ fo.toInt → nl_eq a_nameSize a_names ((17 * st.toInt + fo.toInt)) v_lookedSize.toInt a_looked) → (fo.toInt = -1 → ∀ j : Int, 0 ≤ j → j < i.toInt → ¬ nl_eq a_nameSize a_names (17 * st.toInt + j) v_lookedSize.toInt a_looked) → ((gx a_count st.toInt - i.toInt).toNat) < N9 → pb_P l G M i_Mod_find 4 [(2, .int fo), (3, .int i), (0, .ref h), (1, .int st)] [] [(h, .inr (10, [.ref m_rels, .ref m_openRels, .ref m_closeRels, .ref m_openRel, .ref m_closeRel, .ref m_comment, .ref m_ends, .ref m_order, .int v_thrown, .int v_taped, .ref m_tape, .ref m_count, .ref m_nameSize, .ref m_names, .ref m_size, .ref m_data, .int v_lookedSize, .ref m_looked, .int v_fileSize, .ref m_file, .int v_directorySize, .ref m_directory, .int v_outSize, .ref m_out, .int v_rowSize, .ref m_row, .int v_bitAt, .int v_bitEnd, .int v_why, .int v_madeSize, .ref m_made, .ref m_length, .int v_firstCount, .int v_secondCount, .int v_heldBits, .int v_heldCount, .int v_pressedSize, .ref m_pressed, .int v_at, .int v_bad, .int v_markSize, .ref m_mark, .int v_relationCount, .ref m_idSize, .ref m_ids, .ref m_goalSize, .ref m_goals, .int v_valueSize, .ref m_value, .int v_faultCount, .ref m_faults, .ref m_reached])), (m_count, .inl (G.2.2.1, 2, .inl a_count)), (m_nameSize, .inl (G.2.2.1, 34, .inl a_nameSize)), (m_names, .inl (G.2.1, 816, .inl a_names)), (m_looked, .inl (G.2.1, 40, .inl a_looked))] 0 0 := by
    intro N9
    induction N9 with
    | zero => intro fo i i0 i1 f0 f1 heq hno hm9; exact absurd hm9 (Nat.not_lt_zero _)
    | succ N9 ih4 =>
      intro fo i i0 i1 f0 f1 heq hno hm9
      refine pb_iload_n (pc := 4) d_Mod_find_4 1 rfl rfl ?_
      refine pb_aload_n (pc := 5) d_Mod_find_5 2 rfl rfl ?_
      refine pb_get (pc := 6) d_Mod_find_6 0 11 rfl rfl (by decide) in_Mod k_1157 rfl ?_
      refine pb_iload_n (pc := 9) d_Mod_find_9 3 rfl rfl ?_
      refine pb_iald (pc := 10) d_Mod_find_10 1 rfl (vp_in_iff.mpr (by omega)) ?_
      refine pb_topi (fun i2 ei2 => ?_)
      have ti2 : i2.toInt = gx a_count (st.toInt) := gx_ld ei2 rfl
      refine pb_icmp_ge (pc := 11) (tgt := 44) d_Mod_find_11 (by decide) (fun w3 => ?_) (fun w3 => ?_)
      · have tw3 : i2.toInt ≤ i.toInt := (ti_le rfl rfl).mp w3
        refine pb_iload_n (pc := 44) d_Mod_find_44 0 rfl rfl ?_
        exact pb_iret (pc := 45) hQ d_Mod_find_45 rfl rfl (fo) ⟨rfl, (by (try dsimp only); first | done | (with_reducible assumption) | omega (splitDisjunctions := false) | assumption | (clear heq hno hm9; first | omega (splitDisjunctions := false) | omega) | omega | decide), (by (try dsimp only); first | done | (with_reducible assumption) | omega (splitDisjunctions := false) | assumption | (clear heq hno hm9; first | omega (splitDisjunctions := false) | omega) | omega | decide), heq, (show fo.toInt = -1 → ∀ i : Int, 0 ≤ i → i < gx a_count st.toInt → ¬ nl_eq a_nameSize a_names (17 * st.toInt + i) v_lookedSize.toInt a_looked from (by first | exact fun h9 j j0 j1 => hno h9 j j0 (by omega) | exact fun h9 j j0 j1 hn => by have q1 := (I j j0 j1).2; have q2 := hn.1; omega))⟩ [0, 1, 2, 3, 4] (by decide) rfl rfl (by decide) (by decide)
      · have tw3 : ¬ i2.toInt ≤ i.toInt := fun z9 => w3 ((ti_le rfl rfl).mpr z9)
        refine pb_aload_n (pc := 14) d_Mod_find_14 2 rfl rfl ?_
        refine pb_get (pc := 15) d_Mod_find_15 0 16 rfl rfl (by decide) in_Mod k_1162 rfl ?_
        refine pb_bipush (pc := 18) (v := 24) d_Mod_find_18 (by decide) ?_
        refine pb_icmp_gt (pc := 20) (tgt := 44) d_Mod_find_20 (by decide) (fun w4 => ?_) (fun w4 => ?_)
        · have tw4 : 24 < v_lookedSize.toInt := (ti_lt (by decide) rfl).mp w4
          refine pb_iload_n (pc := 44) d_Mod_find_44 0 rfl rfl ?_
          exact pb_iret (pc := 45) hQ d_Mod_find_45 rfl rfl (fo) ⟨rfl, (by (try dsimp only); first | done | (with_reducible assumption) | omega (splitDisjunctions := false) | assumption | (clear heq hno hm9; first | omega (splitDisjunctions := false) | omega) | omega | decide), (by (try dsimp only); first | done | (with_reducible assumption) | omega (splitDisjunctions := false) | assumption | (clear heq hno hm9; first | omega (splitDisjunctions := false) | omega) | omega | decide), heq, (show fo.toInt = -1 → ∀ i : Int, 0 ≤ i → i < gx a_count st.toInt → ¬ nl_eq a_nameSize a_names (17 * st.toInt + i) v_lookedSize.toInt a_looked from (by first | exact fun h9 j j0 j1 => hno h9 j j0 (by omega) | exact fun h9 j j0 j1 hn => by have q1 := (I j j0 j1).2; have q2 := hn.1; omega))⟩ [0, 1, 2, 3, 4] (by decide) rfl rfl (by decide) (by decide)
        · have tw4 : ¬ 24 < v_lookedSize.toInt := fun z9 => w4 ((ti_lt (by decide) rfl).mpr z9)
          have q5 := I i.toInt i0 (by omega)
          refine pb_aload_n (pc := 23) d_Mod_find_23 2 rfl rfl ?_
          refine pb_iload_n (pc := 24) d_Mod_find_24 3 rfl rfl ?_
          refine pb_iload_n (pc := 25) d_Mod_find_25 1 rfl rfl ?_
          refine pb_callV (pc := 26) (I := i_Mod_find) (qb := 0) (ci := 10) (nA := 2) (rest := []) (wr := [(m_count, .inl (G.2.2.1, 2, .inl a_count))]) d_Mod_find_26 (g_Mod_compare hl G h m_rels m_openRels m_closeRels m_openRel m_closeRel m_comment m_ends m_order m_tape m_count m_nameSize m_names m_size m_data m_looked m_file m_directory m_out m_row m_made m_length m_pressed m_mark m_idSize m_ids m_goalSize m_goals m_value m_faults m_reached v_thrown v_taped v_lookedSize v_fileSize v_directorySize v_outSize v_rowSize v_bitAt v_bitEnd v_why v_madeSize v_firstCount v_secondCount v_heldBits v_heldCount v_pressedSize v_at v_bad v_markSize v_relationCount v_valueSize v_faultCount a_nameSize a_names a_looked st i (by first | (with_reducible assumption) | omega (splitDisjunctions := false) | assumption | (clear heq hno hm9; first | omega (splitDisjunctions := false) | omega) | omega | decide) (by first | (with_reducible assumption) | omega (splitDisjunctions := false) | assumption | (clear heq hno hm9; first | omega (splitDisjunctions := false) | omega) | omega | decide) (by first | (with_reducible assumption) | omega (splitDisjunctions := false) | assumption | (clear heq hno hm9; first | omega (splitDisjunctions := false) | omega) | omega | decide) (by first | (with_reducible assumption) | omega (splitDisjunctions := false) | assumption | (clear heq hno hm9; first | omega (splitDisjunctions := false) | omega) | omega | decide) (by first | (with_reducible assumption) | omega (splitDisjunctions := false) | assumption | (clear heq hno hm9; first | omega (splitDisjunctions := false) | omega) | omega | decide) (by first | (with_reducible assumption) | omega (splitDisjunctions := false) | assumption | (clear heq hno hm9; first | omega (splitDisjunctions := false) | omega) | omega | decide) (by first | (with_reducible assumption) | omega (splitDisjunctions := false) | assumption | (clear heq hno hm9; first | omega (splitDisjunctions := false) | omega) | omega | decide) (by first | (with_reducible assumption) | omega (splitDisjunctions := false) | assumption | (clear heq hno hm9; first | omega (splitDisjunctions := false) | omega) | omega | decide) F_a_names F_a_looked) rfl rfl [0, 2, 3, 4] [1] (by decide) rfl rfl rfl (by decide) (by decide) k_1341 rfl k_128 k_1338 k_1340 k_56 ⟨rfl, hy_Mod_compare⟩ (by decide) rfl rfl (Nat.le_of_ble_eq_true rfl) (by decide) (fun v9 u6 ch5 => ?_)
          obtain ⟨r_7, rfl⟩ : ∃ z9, z9 = u6 := ⟨_, rfl⟩
          obtain ⟨ech5, ch5⟩ := ch5
          have ech5 : v9 = some (.int r_7) := ech5
          subst ech5
          obtain ⟨fh8, fh9, fh10⟩ : (r_7.toInt = 0 ↔ nl_eq a_nameSize a_names ((17 * st.toInt + i.toInt)) v_lookedSize.toInt a_looked) ∧ (0 < r_7.toInt → lx_ (gx a_looked) v_lookedSize.toInt (fun k => gx a_names (24 * (17 * st.toInt + i.toInt) + k)) (gx a_nameSize (17 * st.toInt + i.toInt))) ∧ (r_7.toInt ≤ 0 → ¬ lx_ (gx a_looked) v_lookedSize.toInt (fun k => gx a_names (24 * (17 * st.toInt + i.toInt) + k)) (gx a_nameSize (17 * st.toInt + i.toInt))) := ch5
          have cm := fh8
          refine pb_eq (pc' := 29) (lo' := [(2, .int fo), (3, .int i), (0, .ref h), (1, .int st)]) (rest' := [.int r_7]) (ws' := [(m_count, .inl (G.2.2.1, 2, .inl a_count)), (h, .inr (10, [.ref m_rels, .ref m_openRels, .ref m_closeRels, .ref m_openRel, .ref m_closeRel, .ref m_comment, .ref m_ends, .ref m_order, .int v_thrown, .int v_taped, .ref m_tape, .ref m_count, .ref m_nameSize, .ref m_names, .ref m_size, .ref m_data, .int v_lookedSize, .ref m_looked, .int v_fileSize, .ref m_file, .int v_directorySize, .ref m_directory, .int v_outSize, .ref m_out, .int v_rowSize, .ref m_row, .int v_bitAt, .int v_bitEnd, .int v_why, .int v_madeSize, .ref m_made, .ref m_length, .int v_firstCount, .int v_secondCount, .int v_heldBits, .int v_heldCount, .int v_pressedSize, .ref m_pressed, .int v_at, .int v_bad, .int v_markSize, .ref m_mark, .int v_relationCount, .ref m_idSize, .ref m_ids, .ref m_goalSize, .ref m_goals, .int v_valueSize, .ref m_value, .int v_faultCount, .ref m_faults, .ref m_reached])), (m_nameSize, .inl (G.2.2.1, 34, .inl a_nameSize)), (m_names, .inl (G.2.1, 816, .inl a_names)), (m_looked, .inl (G.2.1, 40, .inl a_looked))]) ?_
          refine pb_if_ne (pc := 29) (tgt := 36) d_Mod_find_29 (by decide) (fun w11 => ?_) (fun w11 => ?_)
          · have tw11 : ¬ r_7.toInt = 0 := fun z9 => w11 ((ti_eq rfl (by decide)).mpr z9)
            refine pb_iload_n (pc := 36) d_Mod_find_36 0 rfl rfl ?_
            refine pb_istore_n (pc := 37) (lo' := [(2, .int fo), (3, .int i), (0, .ref h), (1, .int st)]) d_Mod_find_37 rfl (by decide) rfl ?_
            refine pb_iincN (pc := 38) (c := 1) d_Mod_find_38 1 rfl (by decide) (by decide) (fun i12 ei12 => ?_)
            have ti12 : i12.toInt = i.toInt + 1 := t2_add ei12 rfl (by decide) (by first | omega | (have r90 := ti_rng i; have r91 := ti_rng i12; have r92 := ti_rng fo; have r93 := ti_rng st; omega))
            refine pb_eq (pc' := 41) (lo' := [(3, .int i12), (2, .int fo), (0, .ref h), (1, .int st)]) (rest' := []) (ws' := [(m_count, .inl (G.2.2.1, 2, .inl a_count)), (h, .inr (10, [.ref m_rels, .ref m_openRels, .ref m_closeRels, .ref m_openRel, .ref m_closeRel, .ref m_comment, .ref m_ends, .ref m_order, .int v_thrown, .int v_taped, .ref m_tape, .ref m_count, .ref m_nameSize, .ref m_names, .ref m_size, .ref m_data, .int v_lookedSize, .ref m_looked, .int v_fileSize, .ref m_file, .int v_directorySize, .ref m_directory, .int v_outSize, .ref m_out, .int v_rowSize, .ref m_row, .int v_bitAt, .int v_bitEnd, .int v_why, .int v_madeSize, .ref m_made, .ref m_length, .int v_firstCount, .int v_secondCount, .int v_heldBits, .int v_heldCount, .int v_pressedSize, .ref m_pressed, .int v_at, .int v_bad, .int v_markSize, .ref m_mark, .int v_relationCount, .ref m_idSize, .ref m_ids, .ref m_goalSize, .ref m_goals, .int v_valueSize, .ref m_value, .int v_faultCount, .ref m_faults, .ref m_reached])), (m_nameSize, .inl (G.2.2.1, 34, .inl a_nameSize)), (m_names, .inl (G.2.1, 816, .inl a_names)), (m_looked, .inl (G.2.1, 40, .inl a_looked))]) ?_
            refine pb_goto (pc := 41) (tgt := 4) d_Mod_find_41 (by decide) ?_
            refine pb_re (ws' := [(h, .inr (10, [.ref m_rels, .ref m_openRels, .ref m_closeRels, .ref m_openRel, .ref m_closeRel, .ref m_comment, .ref m_ends, .ref m_order, .int v_thrown, .int v_taped, .ref m_tape, .ref m_count, .ref m_nameSize, .ref m_names, .ref m_size, .ref m_data, .int v_lookedSize, .ref m_looked, .int v_fileSize, .ref m_file, .int v_directorySize, .ref m_directory, .int v_outSize, .ref m_out, .int v_rowSize, .ref m_row, .int v_bitAt, .int v_bitEnd, .int v_why, .int v_madeSize, .ref m_made, .ref m_length, .int v_firstCount, .int v_secondCount, .int v_heldBits, .int v_heldCount, .int v_pressedSize, .ref m_pressed, .int v_at, .int v_bad, .int v_markSize, .ref m_mark, .int v_relationCount, .ref m_idSize, .ref m_ids, .ref m_goalSize, .ref m_goals, .int v_valueSize, .ref m_value, .int v_faultCount, .ref m_faults, .ref m_reached])), (m_count, .inl (G.2.2.1, 2, .inl a_count)), (m_nameSize, .inl (G.2.2.1, 34, .inl a_nameSize)), (m_names, .inl (G.2.1, 816, .inl a_names)), (m_looked, .inl (G.2.1, 40, .inl a_looked))]) (lo' := [(2, .int fo), (3, .int i12), (0, .ref h), (1, .int st)]) [1, 0, 2, 3, 4] [1, 0, 2, 3] (by decide) rfl rfl rfl ?_
            exact ih4 fo i12 (by first | (with_reducible assumption) | omega (splitDisjunctions := false) | assumption | (clear heq hno fh9 fh10 hm9; first | omega (splitDisjunctions := false) | omega) | omega | decide) (by first | (with_reducible assumption) | omega (splitDisjunctions := false) | assumption | (clear heq hno fh9 fh10 hm9; first | omega (splitDisjunctions := false) | omega) | omega | decide) (by first | (with_reducible assumption) | omega (splitDisjunctions := false) | assumption | (clear heq hno fh9 fh10 hm9; first | omega (splitDisjunctions := false) | omega) | omega | decide) (by first | (with_reducible assumption) | omega (splitDisjunctions := false) | assumption | (clear heq hno fh9 fh10 hm9; first | omega (splitDisjunctions := false) | omega) | omega | decide) (by first | exact heq | exact fun _ => cm.mp (by omega)) (by first | exact fun h9 => absurd h9 (by omega) | exact fun h9 j j0 j1 => if w : j < i.toInt then hno h9 j j0 w else by rw [show j = i.toInt by omega]; exact fun q => absurd (cm.mpr q) (by omega)) (by first | (clear heq hno fh9 fh10; (exact omg_b30a0bed9f hm9 ti2 tw3 ti12)) | omega)
          · have tw11 : r_7.toInt = 0 := (ti_eq rfl (by decide)).mp w11
            refine pb_iload_n (pc := 32) d_Mod_find_32 1 rfl rfl ?_
            refine pb_goto (pc := 33) (tgt := 37) d_Mod_find_33 (by decide) ?_
            refine pb_istore_n (pc := 37) (lo' := [(2, .int i), (3, .int i), (0, .ref h), (1, .int st)]) d_Mod_find_37 rfl (by decide) rfl ?_
            refine pb_iincN (pc := 38) (c := 1) d_Mod_find_38 1 rfl (by decide) (by decide) (fun i13 ei13 => ?_)
            have ti13 : i13.toInt = i.toInt + 1 := t2_add ei13 rfl (by decide) (by first | omega | (have r90 := ti_rng i; have r91 := ti_rng i13; have r92 := ti_rng st; omega))
            refine pb_eq (pc' := 41) (lo' := [(3, .int i13), (2, .int i), (0, .ref h), (1, .int st)]) (rest' := []) (ws' := [(m_count, .inl (G.2.2.1, 2, .inl a_count)), (h, .inr (10, [.ref m_rels, .ref m_openRels, .ref m_closeRels, .ref m_openRel, .ref m_closeRel, .ref m_comment, .ref m_ends, .ref m_order, .int v_thrown, .int v_taped, .ref m_tape, .ref m_count, .ref m_nameSize, .ref m_names, .ref m_size, .ref m_data, .int v_lookedSize, .ref m_looked, .int v_fileSize, .ref m_file, .int v_directorySize, .ref m_directory, .int v_outSize, .ref m_out, .int v_rowSize, .ref m_row, .int v_bitAt, .int v_bitEnd, .int v_why, .int v_madeSize, .ref m_made, .ref m_length, .int v_firstCount, .int v_secondCount, .int v_heldBits, .int v_heldCount, .int v_pressedSize, .ref m_pressed, .int v_at, .int v_bad, .int v_markSize, .ref m_mark, .int v_relationCount, .ref m_idSize, .ref m_ids, .ref m_goalSize, .ref m_goals, .int v_valueSize, .ref m_value, .int v_faultCount, .ref m_faults, .ref m_reached])), (m_nameSize, .inl (G.2.2.1, 34, .inl a_nameSize)), (m_names, .inl (G.2.1, 816, .inl a_names)), (m_looked, .inl (G.2.1, 40, .inl a_looked))]) ?_
            refine pb_goto (pc := 41) (tgt := 4) d_Mod_find_41 (by decide) ?_
            refine pb_re (ws' := [(h, .inr (10, [.ref m_rels, .ref m_openRels, .ref m_closeRels, .ref m_openRel, .ref m_closeRel, .ref m_comment, .ref m_ends, .ref m_order, .int v_thrown, .int v_taped, .ref m_tape, .ref m_count, .ref m_nameSize, .ref m_names, .ref m_size, .ref m_data, .int v_lookedSize, .ref m_looked, .int v_fileSize, .ref m_file, .int v_directorySize, .ref m_directory, .int v_outSize, .ref m_out, .int v_rowSize, .ref m_row, .int v_bitAt, .int v_bitEnd, .int v_why, .int v_madeSize, .ref m_made, .ref m_length, .int v_firstCount, .int v_secondCount, .int v_heldBits, .int v_heldCount, .int v_pressedSize, .ref m_pressed, .int v_at, .int v_bad, .int v_markSize, .ref m_mark, .int v_relationCount, .ref m_idSize, .ref m_ids, .ref m_goalSize, .ref m_goals, .int v_valueSize, .ref m_value, .int v_faultCount, .ref m_faults, .ref m_reached])), (m_count, .inl (G.2.2.1, 2, .inl a_count)), (m_nameSize, .inl (G.2.2.1, 34, .inl a_nameSize)), (m_names, .inl (G.2.1, 816, .inl a_names)), (m_looked, .inl (G.2.1, 40, .inl a_looked))]) (lo' := [(2, .int i), (3, .int i13), (0, .ref h), (1, .int st)]) [1, 0, 2, 3, 4] [1, 0, 2, 3] (by decide) rfl rfl rfl ?_
            exact ih4 i i13 (by first | (with_reducible assumption) | omega (splitDisjunctions := false) | assumption | (clear heq hno fh9 fh10 hm9; first | omega (splitDisjunctions := false) | omega) | omega | decide) (by first | (with_reducible assumption) | omega (splitDisjunctions := false) | assumption | (clear heq hno fh9 fh10 hm9; first | omega (splitDisjunctions := false) | omega) | omega | decide) (by first | (with_reducible assumption) | omega (splitDisjunctions := false) | assumption | (clear heq hno fh9 fh10 hm9; first | omega (splitDisjunctions := false) | omega) | omega | decide) (by first | (with_reducible assumption) | omega (splitDisjunctions := false) | assumption | (clear heq hno fh9 fh10 hm9; first | omega (splitDisjunctions := false) | omega) | omega | decide) (by first | exact heq | exact fun _ => cm.mp (by omega)) (by first | exact fun h9 => absurd h9 (by omega) | exact fun h9 j j0 j1 => if w : j < i.toInt then hno h9 j j0 w else by rw [show j = i.toInt by omega]; exact fun q => absurd (cm.mpr q) (by omega)) (by first | (clear heq hno fh9 fh10; (exact omg_b30a0bed9f hm9 ti2 tw3 ti13)) | omega)
  refine pb_re (ws' := [(h, .inr (10, [.ref m_rels, .ref m_openRels, .ref m_closeRels, .ref m_openRel, .ref m_closeRel, .ref m_comment, .ref m_ends, .ref m_order, .int v_thrown, .int v_taped, .ref m_tape, .ref m_count, .ref m_nameSize, .ref m_names, .ref m_size, .ref m_data, .int v_lookedSize, .ref m_looked, .int v_fileSize, .ref m_file, .int v_directorySize, .ref m_directory, .int v_outSize, .ref m_out, .int v_rowSize, .ref m_row, .int v_bitAt, .int v_bitEnd, .int v_why, .int v_madeSize, .ref m_made, .ref m_length, .int v_firstCount, .int v_secondCount, .int v_heldBits, .int v_heldCount, .int v_pressedSize, .ref m_pressed, .int v_at, .int v_bad, .int v_markSize, .ref m_mark, .int v_relationCount, .ref m_idSize, .ref m_ids, .ref m_goalSize, .ref m_goals, .int v_valueSize, .ref m_value, .int v_faultCount, .ref m_faults, .ref m_reached])), (m_count, .inl (G.2.2.1, 2, .inl a_count)), (m_nameSize, .inl (G.2.2.1, 34, .inl a_nameSize)), (m_names, .inl (G.2.1, 816, .inl a_names)), (m_looked, .inl (G.2.1, 40, .inl a_looked))]) (lo' := [(2, .int (-1)), (3, .int 0), (0, .ref h), (1, .int st)]) [0, 1, 2, 3, 4] [1, 0, 2, 3] (by decide) rfl rfl rfl ?_
  exact hL4_1 _ (-1) 0 (by first | (with_reducible assumption) | omega (splitDisjunctions := false) | assumption | omega | decide) (by first | (with_reducible assumption) | omega (splitDisjunctions := false) | assumption | omega | decide) (by first | (with_reducible assumption) | omega (splitDisjunctions := false) | assumption | omega | decide) (by first | (with_reducible assumption) | omega (splitDisjunctions := false) | assumption | omega | decide) (fun h9 => absurd h9 (by omega)) (fun h9 j h0 h1 => absurd h1 (by omega)) (Nat.lt_succ_self _)

theorem d_Mod_allBytes_0 : decode prog_12_method_10_code 0 = .ok (.iconst 0, 1) := by decide +kernel
theorem d_Mod_allBytes_1 : decode prog_12_method_10_code 1 = .ok (.istore_n 2, 1) := by decide +kernel
theorem d_Mod_allBytes_2 : decode prog_12_method_10_code 2 = .ok (.iconst 0, 1) := by decide +kernel
theorem d_Mod_allBytes_3 : decode prog_12_method_10_code 3 = .ok (.istore_n 3, 1) := by decide +kernel
theorem d_Mod_allBytes_4 : decode prog_12_method_10_code 4 = .ok (.iload_n 3, 1) := by decide +kernel
theorem d_Mod_allBytes_5 : decode prog_12_method_10_code 5 = .ok (.aload_n 0, 1) := by decide +kernel
theorem d_Mod_allBytes_6 : decode prog_12_method_10_code 6 = .ok (.getfield 37, 3) := by decide +kernel
theorem d_Mod_allBytes_9 : decode prog_12_method_10_code 9 = .ok (.iload_n 1, 1) := by decide +kernel
theorem d_Mod_allBytes_10 : decode prog_12_method_10_code 10 = .ok (.iaload, 1) := by decide +kernel
theorem d_Mod_allBytes_11 : decode prog_12_method_10_code 11 = .ok (.if_icmp .ge 23, 3) := by decide +kernel
theorem d_Mod_allBytes_34 : decode prog_12_method_10_code 34 = .ok (.iload_n 2, 1) := by decide +kernel
theorem d_Mod_allBytes_35 : decode prog_12_method_10_code 35 = .ok (.ireturn, 1) := by decide +kernel
theorem d_Mod_allBytes_14 : decode prog_12_method_10_code 14 = .ok (.iload_n 2, 1) := by decide +kernel
theorem d_Mod_allBytes_15 : decode prog_12_method_10_code 15 = .ok (.aload_n 0, 1) := by decide +kernel
theorem d_Mod_allBytes_16 : decode prog_12_method_10_code 16 = .ok (.getfield 47, 3) := by decide +kernel
theorem k_1160 : (Jvm.Cond.fieldLink "PackageBookModel" (47 : Nat) "PackageBookModel" "size" "[I") ∈ uW := uW_of 1160 (by decide +kernel) (by decide +kernel)
theorem d_Mod_allBytes_19 : decode prog_12_method_10_code 19 = .ok (.bipush 17, 2) := by decide +kernel
theorem d_Mod_allBytes_21 : decode prog_12_method_10_code 21 = .ok (.iload_n 1, 1) := by decide +kernel
theorem d_Mod_allBytes_22 : decode prog_12_method_10_code 22 = .ok (.imul, 1) := by decide +kernel
theorem d_Mod_allBytes_23 : decode prog_12_method_10_code 23 = .ok (.iload_n 3, 1) := by decide +kernel
theorem d_Mod_allBytes_24 : decode prog_12_method_10_code 24 = .ok (.iadd, 1) := by decide +kernel
theorem d_Mod_allBytes_25 : decode prog_12_method_10_code 25 = .ok (.iaload, 1) := by decide +kernel
theorem d_Mod_allBytes_26 : decode prog_12_method_10_code 26 = .ok (.iadd, 1) := by decide +kernel
theorem d_Mod_allBytes_27 : decode prog_12_method_10_code 27 = .ok (.istore_n 2, 1) := by decide +kernel
theorem d_Mod_allBytes_28 : decode prog_12_method_10_code 28 = .ok (.iinc 3 1, 3) := by decide +kernel
theorem d_Mod_allBytes_31 : decode prog_12_method_10_code 31 = .ok (.goto (-27), 3) := by decide +kernel
abbrev y_Mod_allBytes : MethodName := ⟨"PackageBookModel", "allBytes", "(I)I"⟩
abbrev i_Mod_allBytes : pb_I := (y_Mod_allBytes, prog_12_method_10_code, 4, (some Jvm.ClassFile.FieldType.int), [], { frames := 0, cells := 0, slots := 0, locals := 0 })
set_option maxRecDepth 100000 in
set_option maxHeartbeats 4000000 in
theorem g_Mod_allBytes {l : Launch} (hl : l.stackTraces = false) (G : pb_G) (h : Nat) (m_rels : Nat) (m_openRels : Nat) (m_closeRels : Nat) (m_openRel : Nat) (m_closeRel : Nat) (m_comment : Nat) (m_ends : Nat) (m_order : Nat) (m_tape : Nat) (m_count : Nat) (m_nameSize : Nat) (m_names : Nat) (m_size : Nat) (m_data : Nat) (m_looked : Nat) (m_file : Nat) (m_directory : Nat) (m_out : Nat) (m_row : Nat) (m_made : Nat) (m_length : Nat) (m_pressed : Nat) (m_mark : Nat) (m_idSize : Nat) (m_ids : Nat) (m_goalSize : Nat) (m_goals : Nat) (m_value : Nat) (m_faults : Nat) (m_reached : Nat) (v_thrown : Int32) (v_taped : Int32) (v_lookedSize : Int32) (v_fileSize : Int32) (v_directorySize : Int32) (v_outSize : Int32) (v_rowSize : Int32) (v_bitAt : Int32) (v_bitEnd : Int32) (v_why : Int32) (v_madeSize : Int32) (v_firstCount : Int32) (v_secondCount : Int32) (v_heldBits : Int32) (v_heldCount : Int32) (v_pressedSize : Int32) (v_at : Int32) (v_bad : Int32) (v_markSize : Int32) (v_relationCount : Int32) (v_valueSize : Int32) (v_faultCount : Int32) (a_count : Nat → Int32) (a_size : Nat → Int32) (st : Int32) (s0 : 0 ≤ st.toInt) (s1 : st.toInt ≤ 1) (I : ∀ i : Int, 0 ≤ i → i < gx a_count st.toInt → 0 ≤ gx a_size (17 * st.toInt + i) ∧ gx a_size (17 * st.toInt + i) ≤ 4000) (c0 : 0 ≤ gx a_count st.toInt) (c1 : gx a_count st.toInt ≤ 16) : Cn l G i_Mod_allBytes [.ref h, .int st] [(h, .inr (10, [.ref m_rels, .ref m_openRels, .ref m_closeRels, .ref m_openRel, .ref m_closeRel, .ref m_comment, .ref m_ends, .ref m_order, .int v_thrown, .int v_taped, .ref m_tape, .ref m_count, .ref m_nameSize, .ref m_names, .ref m_size, .ref m_data, .int v_lookedSize, .ref m_looked, .int v_fileSize, .ref m_file, .int v_directorySize, .ref m_directory, .int v_outSize, .ref m_out, .int v_rowSize, .ref m_row, .int v_bitAt, .int v_bitEnd, .int v_why, .int v_madeSize, .ref m_made, .ref m_length, .int v_firstCount, .int v_secondCount, .int v_heldBits, .int v_heldCount, .int v_pressedSize, .ref m_pressed, .int v_at, .int v_bad, .int v_markSize, .ref m_mark, .int v_relationCount, .ref m_idSize, .ref m_ids, .ref m_goalSize, .ref m_goals, .int v_valueSize, .ref m_value, .int v_faultCount, .ref m_faults, .ref m_reached])), (m_count, .inl (G.2.2.1, 2, .inl a_count)), (m_size, .inl (G.2.2.1, 34, .inl a_size))] (S := Int32) (fun rv_ u => rv_ = some (.int u) ∧ (u.toInt = sm a_size (17 * st.toInt) (gx a_count st.toInt).toNat) ∧ (0 ≤ u.toInt) ∧ (u.toInt ≤ 64000)) (fun u => [(h, .inr (10, [.ref m_rels, .ref m_openRels, .ref m_closeRels, .ref m_openRel, .ref m_closeRel, .ref m_comment, .ref m_ends, .ref m_order, .int v_thrown, .int v_taped, .ref m_tape, .ref m_count, .ref m_nameSize, .ref m_names, .ref m_size, .ref m_data, .int v_lookedSize, .ref m_looked, .int v_fileSize, .ref m_file, .int v_directorySize, .ref m_directory, .int v_outSize, .ref m_out, .int v_rowSize, .ref m_row, .int v_bitAt, .int v_bitEnd, .int v_why, .int v_madeSize, .ref m_made, .ref m_length, .int v_firstCount, .int v_secondCount, .int v_heldBits, .int v_heldCount, .int v_pressedSize, .ref m_pressed, .int v_at, .int v_bad, .int v_markSize, .ref m_mark, .int v_relationCount, .ref m_idSize, .ref m_ids, .ref m_goalSize, .ref m_goals, .int v_valueSize, .ref m_value, .int v_faultCount, .ref m_faults, .ref m_reached])), (m_count, .inl (G.2.2.1, 2, .inl a_count)), (m_size, .inl (G.2.2.1, 34, .inl a_size))]) := by
  refine Cn.of hl (by decide +kernel) rfl (Nat.le_of_ble_eq_true rfl) (fun M hQ => ?_)
  refine pb_eq (pc' := 0) (lo' := [(0, .ref h), (1, .int st)]) (rest' := []) (ws' := [(h, .inr (10, [.ref m_rels, .ref m_openRels, .ref m_closeRels, .ref m_openRel, .ref m_closeRel, .ref m_comment, .ref m_ends, .ref m_order, .int v_thrown, .int v_taped, .ref m_tape, .ref m_count, .ref m_nameSize, .ref m_names, .ref m_size, .ref m_data, .int v_lookedSize, .ref m_looked, .int v_fileSize, .ref m_file, .int v_directorySize, .ref m_directory, .int v_outSize, .ref m_out, .int v_rowSize, .ref m_row, .int v_bitAt, .int v_bitEnd, .int v_why, .int v_madeSize, .ref m_made, .ref m_length, .int v_firstCount, .int v_secondCount, .int v_heldBits, .int v_heldCount, .int v_pressedSize, .ref m_pressed, .int v_at, .int v_bad, .int v_markSize, .ref m_mark, .int v_relationCount, .ref m_idSize, .ref m_ids, .ref m_goalSize, .ref m_goals, .int v_valueSize, .ref m_value, .int v_faultCount, .ref m_faults, .ref m_reached])), (m_count, .inl (G.2.2.1, 2, .inl a_count)), (m_size, .inl (G.2.2.1, 34, .inl a_size))]) ?_
  have zl0 : (0 : Int32).toInt = 0 := by decide
  have zl1 : (1 : Int32).toInt = 1 := by decide
  have zl17 : (17 : Int32).toInt = 17 := by decide
  refine pb_iconst (pc := 0) (v := 0) d_Mod_allBytes_0 (by decide) ?_
  refine pb_istore_n (pc := 1) (lo' := [(2, .int 0), (0, .ref h), (1, .int st)]) d_Mod_allBytes_1 rfl (by decide) rfl ?_
  refine pb_iconst (pc := 2) (v := 0) d_Mod_allBytes_2 (by decide) ?_
  refine pb_istore_n (pc := 3) (lo' := [(3, .int 0), (2, .int 0), (0, .ref h), (1, .int st)]) d_Mod_allBytes_3 rfl (by decide) rfl ?_
  have hL4_1 : ∀ (N9 : Nat) (su : Int32) (i : Int32), (0 ≤ i.toInt) → (i.toInt ≤ gx a_count st.toInt) → (0 ≤ su.toInt) → (su.toInt ≤ 4000 * i.toInt) → (su.toInt = sm a_size (17 * st.toInt) i.toInt.toNat) → ((gx a_count st.toInt - i.toInt).toNat) < N9 → pb_P l G M i_Mod_allBytes 4 [(2, .int su), (3, .int i), (0, .ref h), (1, .int st)] [] [(h, .inr (10, [.ref m_rels, .ref m_openRels, .ref m_closeRels, .ref m_openRel, .ref m_closeRel, .ref m_comment, .ref m_ends, .ref m_order, .int v_thrown, .int v_taped, .ref m_tape, .ref m_count, .ref m_nameSize, .ref m_names, .ref m_size, .ref m_data, .int v_lookedSize, .ref m_looked, .int v_fileSize, .ref m_file, .int v_directorySize, .ref m_directory, .int v_outSize, .ref m_out, .int v_rowSize, .ref m_row, .int v_bitAt, .int v_bitEnd, .int v_why, .int v_madeSize, .ref m_made, .ref m_length, .int v_firstCount, .int v_secondCount, .int v_heldBits, .int v_heldCount, .int v_pressedSize, .ref m_pressed, .int v_at, .int v_bad, .int v_markSize, .ref m_mark, .int v_relationCount, .ref m_idSize, .ref m_ids, .ref m_goalSize, .ref m_goals, .int v_valueSize, .ref m_value, .int v_faultCount, .ref m_faults, .ref m_reached])), (m_count, .inl (G.2.2.1, 2, .inl a_count)), (m_size, .inl (G.2.2.1, 34, .inl a_size))] 0 0 := by
    intro N9
    induction N9 with
    | zero => intro su i i0 i1 u0 u1 hs hm9; exact absurd hm9 (Nat.not_lt_zero _)
    | succ N9 ih4 =>
      intro su i i0 i1 u0 u1 hs hm9
      refine pb_iload_n (pc := 4) d_Mod_allBytes_4 1 rfl rfl ?_
      refine pb_aload_n (pc := 5) d_Mod_allBytes_5 2 rfl rfl ?_
      refine pb_get (pc := 6) d_Mod_allBytes_6 0 11 rfl rfl (by decide) in_Mod k_1157 rfl ?_
      refine pb_iload_n (pc := 9) d_Mod_allBytes_9 3 rfl rfl ?_
      refine pb_iald (pc := 10) d_Mod_allBytes_10 1 rfl (vp_in_iff.mpr (by omega)) ?_
      refine pb_topi (fun i2 ei2 => ?_)
      have ti2 : i2.toInt = gx a_count (st.toInt) := gx_ld ei2 rfl
      refine pb_icmp_ge (pc := 11) (tgt := 34) d_Mod_allBytes_11 (by decide) (fun w3 => ?_) (fun w3 => ?_)
      · have tw3 : i2.toInt ≤ i.toInt := (ti_le rfl rfl).mp w3
        refine pb_iload_n (pc := 34) d_Mod_allBytes_34 0 rfl rfl ?_
        exact pb_iret (pc := 35) hQ d_Mod_allBytes_35 rfl rfl (su) ⟨rfl, (show su.toInt = sm a_size (17 * st.toInt) (gx a_count st.toInt).toNat from (by rw [show gx a_count st.toInt = i.toInt by omega]; exact hs)), (by (try dsimp only); first | done | (with_reducible assumption) | omega (splitDisjunctions := false) | assumption | omega | decide), (by (try dsimp only); first | done | (with_reducible assumption) | omega (splitDisjunctions := false) | assumption | omega | decide)⟩ [0, 1, 2] (by decide) rfl rfl (by decide) (by decide)
      · have tw3 : ¬ i2.toInt ≤ i.toInt := fun z9 => w3 ((ti_le rfl rfl).mpr z9)
        have q5 := I i.toInt i0 (by omega)
        have q6 := sm_s (f := a_size) (b := 17 * st.toInt) (c := i.toInt) (d := i.toInt + 1) i0 rfl
        refine pb_iload_n (pc := 14) d_Mod_allBytes_14 0 rfl rfl ?_
        refine pb_aload_n (pc := 15) d_Mod_allBytes_15 2 rfl rfl ?_
        refine pb_get (pc := 16) d_Mod_allBytes_16 0 14 rfl rfl (by decide) in_Mod k_1160 rfl ?_
        refine pb_bipush (pc := 19) (v := 17) d_Mod_allBytes_19 (by decide) ?_
        refine pb_iload_n (pc := 21) d_Mod_allBytes_21 3 rfl rfl ?_
        refine pb_imul (pc := 22) d_Mod_allBytes_22 ?_
        refine pb_topi (fun i4 ei4 => ?_)
        try have ti4 : i4.toInt = 17 * st.toInt := ti_mul ei4 (by decide) rfl (by omega) (by omega)
        refine pb_iload_n (pc := 23) d_Mod_allBytes_23 1 rfl rfl ?_
        refine pb_iadd (pc := 24) d_Mod_allBytes_24 ?_
        refine pb_topi (fun i5 ei5 => ?_)
        try have ti5 : i5.toInt = i4.toInt + i.toInt := t2_add ei5 rfl rfl (by omega)
        refine pb_iald (pc := 25) d_Mod_allBytes_25 2 rfl (vp_in_iff.mpr (by (exact omg_a82c1c5c5f s0 s1 c1 i0 ti2 tw3 ti4 ti5))) ?_
        refine pb_topi (fun i6 ei6 => ?_)
        have ti6 : i6.toInt = gx a_size ((17 * st.toInt + i.toInt)) := gx_ld ei6 (by (exact omg_9ee15130d9 ti4 ti5))
        refine pb_iadd (pc := 26) d_Mod_allBytes_26 ?_
        refine pb_topi (fun i7 ei7 => ?_)
        try have ti7 : i7.toInt = su.toInt + i6.toInt := t2_add ei7 rfl rfl (by omega)
        refine pb_istore_n (pc := 27) (lo' := [(2, .int i7), (3, .int i), (0, .ref h), (1, .int st)]) d_Mod_allBytes_27 rfl (by decide) rfl ?_
        refine pb_iincN (pc := 28) (c := 1) d_Mod_allBytes_28 1 rfl (by decide) (by decide) (fun i8 ei8 => ?_)
        have ti8 : i8.toInt = i.toInt + 1 := t2_add ei8 rfl (by decide) (by first | omega | (have r90 := ti_rng i; have r91 := ti_rng i8; have r92 := ti_rng i7; have r93 := ti_rng st; omega))
        refine pb_eq (pc' := 31) (lo' := [(3, .int i8), (2, .int i7), (0, .ref h), (1, .int st)]) (rest' := []) (ws' := [(h, .inr (10, [.ref m_rels, .ref m_openRels, .ref m_closeRels, .ref m_openRel, .ref m_closeRel, .ref m_comment, .ref m_ends, .ref m_order, .int v_thrown, .int v_taped, .ref m_tape, .ref m_count, .ref m_nameSize, .ref m_names, .ref m_size, .ref m_data, .int v_lookedSize, .ref m_looked, .int v_fileSize, .ref m_file, .int v_directorySize, .ref m_directory, .int v_outSize, .ref m_out, .int v_rowSize, .ref m_row, .int v_bitAt, .int v_bitEnd, .int v_why, .int v_madeSize, .ref m_made, .ref m_length, .int v_firstCount, .int v_secondCount, .int v_heldBits, .int v_heldCount, .int v_pressedSize, .ref m_pressed, .int v_at, .int v_bad, .int v_markSize, .ref m_mark, .int v_relationCount, .ref m_idSize, .ref m_ids, .ref m_goalSize, .ref m_goals, .int v_valueSize, .ref m_value, .int v_faultCount, .ref m_faults, .ref m_reached])), (m_count, .inl (G.2.2.1, 2, .inl a_count)), (m_size, .inl (G.2.2.1, 34, .inl a_size))]) ?_
        refine pb_goto (pc := 31) (tgt := 4) d_Mod_allBytes_31 (by decide) ?_
        refine pb_re (ws' := [(h, .inr (10, [.ref m_rels, .ref m_openRels, .ref m_closeRels, .ref m_openRel, .ref m_closeRel, .ref m_comment, .ref m_ends, .ref m_order, .int v_thrown, .int v_taped, .ref m_tape, .ref m_count, .ref m_nameSize, .ref m_names, .ref m_size, .ref m_data, .int v_lookedSize, .ref m_looked, .int v_fileSize, .ref m_file, .int v_directorySize, .ref m_directory, .int v_outSize, .ref m_out, .int v_rowSize, .ref m_row, .int v_bitAt, .int v_bitEnd, .int v_why, .int v_madeSize, .ref m_made, .ref m_length, .int v_firstCount, .int v_secondCount, .int v_heldBits, .int v_heldCount, .int v_pressedSize, .ref m_pressed, .int v_at, .int v_bad, .int v_markSize, .ref m_mark, .int v_relationCount, .ref m_idSize, .ref m_ids, .ref m_goalSize, .ref m_goals, .int v_valueSize, .ref m_value, .int v_faultCount, .ref m_faults, .ref m_reached])), (m_count, .inl (G.2.2.1, 2, .inl a_count)), (m_size, .inl (G.2.2.1, 34, .inl a_size))]) (lo' := [(2, .int i7), (3, .int i8), (0, .ref h), (1, .int st)]) [0, 1, 2] [1, 0, 2, 3] (by decide) rfl rfl rfl ?_
        exact ih4 i7 i8 (by first | (with_reducible assumption) | omega (splitDisjunctions := false) | assumption | omega | decide) (by first | (with_reducible assumption) | omega (splitDisjunctions := false) | assumption | omega | decide) (by first | (with_reducible assumption) | omega (splitDisjunctions := false) | assumption | omega | decide) (by first | (with_reducible assumption) | omega (splitDisjunctions := false) | assumption | omega | decide) (by rw [show i8.toInt = i.toInt + 1 by omega]; omega) (by (exact omg_b30a0bed9f hm9 ti2 tw3 ti8))
  refine pb_re (ws' := [(h, .inr (10, [.ref m_rels, .ref m_openRels, .ref m_closeRels, .ref m_openRel, .ref m_closeRel, .ref m_comment, .ref m_ends, .ref m_order, .int v_thrown, .int v_taped, .ref m_tape, .ref m_count, .ref m_nameSize, .ref m_names, .ref m_size, .ref m_data, .int v_lookedSize, .ref m_looked, .int v_fileSize, .ref m_file, .int v_directorySize, .ref m_directory, .int v_outSize, .ref m_out, .int v_rowSize, .ref m_row, .int v_bitAt, .int v_bitEnd, .int v_why, .int v_madeSize, .ref m_made, .ref m_length, .int v_firstCount, .int v_secondCount, .int v_heldBits, .int v_heldCount, .int v_pressedSize, .ref m_pressed, .int v_at, .int v_bad, .int v_markSize, .ref m_mark, .int v_relationCount, .ref m_idSize, .ref m_ids, .ref m_goalSize, .ref m_goals, .int v_valueSize, .ref m_value, .int v_faultCount, .ref m_faults, .ref m_reached])), (m_count, .inl (G.2.2.1, 2, .inl a_count)), (m_size, .inl (G.2.2.1, 34, .inl a_size))]) (lo' := [(2, .int 0), (3, .int 0), (0, .ref h), (1, .int st)]) [0, 1, 2] [1, 0, 2, 3] (by decide) rfl rfl rfl ?_
  exact hL4_1 _ 0 0 (by first | (with_reducible assumption) | omega (splitDisjunctions := false) | assumption | omega | decide) (by first | (with_reducible assumption) | omega (splitDisjunctions := false) | assumption | omega | decide) (by first | (with_reducible assumption) | omega (splitDisjunctions := false) | assumption | omega | decide) (by first | (with_reducible assumption) | omega (splitDisjunctions := false) | assumption | omega | decide) (by rw [zl0]; rfl) (Nat.lt_succ_self _)

theorem d_Mod_move_0 : decode prog_12_method_11_code 0 = .ok (.aload_n 0, 1) := by decide +kernel
theorem d_Mod_move_1 : decode prog_12_method_11_code 1 = .ok (.getfield 41, 3) := by decide +kernel
theorem d_Mod_move_4 : decode prog_12_method_11_code 4 = .ok (.iload_n 2, 1) := by decide +kernel
theorem d_Mod_move_5 : decode prog_12_method_11_code 5 = .ok (.aload_n 0, 1) := by decide +kernel
theorem d_Mod_move_6 : decode prog_12_method_11_code 6 = .ok (.getfield 41, 3) := by decide +kernel
theorem d_Mod_move_9 : decode prog_12_method_11_code 9 = .ok (.iload_n 1, 1) := by decide +kernel
theorem d_Mod_move_10 : decode prog_12_method_11_code 10 = .ok (.iaload, 1) := by decide +kernel
theorem d_Mod_move_11 : decode prog_12_method_11_code 11 = .ok (.iastore, 1) := by decide +kernel
theorem d_Mod_move_12 : decode prog_12_method_11_code 12 = .ok (.aload_n 0, 1) := by decide +kernel
theorem d_Mod_move_13 : decode prog_12_method_11_code 13 = .ok (.getfield 47, 3) := by decide +kernel
theorem d_Mod_move_16 : decode prog_12_method_11_code 16 = .ok (.iload_n 2, 1) := by decide +kernel
theorem d_Mod_move_17 : decode prog_12_method_11_code 17 = .ok (.aload_n 0, 1) := by decide +kernel
theorem d_Mod_move_18 : decode prog_12_method_11_code 18 = .ok (.getfield 47, 3) := by decide +kernel
theorem d_Mod_move_21 : decode prog_12_method_11_code 21 = .ok (.iload_n 1, 1) := by decide +kernel
theorem d_Mod_move_22 : decode prog_12_method_11_code 22 = .ok (.iaload, 1) := by decide +kernel
theorem d_Mod_move_23 : decode prog_12_method_11_code 23 = .ok (.iastore, 1) := by decide +kernel
theorem d_Mod_move_24 : decode prog_12_method_11_code 24 = .ok (.iconst 0, 1) := by decide +kernel
theorem d_Mod_move_25 : decode prog_12_method_11_code 25 = .ok (.istore_n 3, 1) := by decide +kernel
theorem d_Mod_move_26 : decode prog_12_method_11_code 26 = .ok (.iload_n 3, 1) := by decide +kernel
theorem d_Mod_move_27 : decode prog_12_method_11_code 27 = .ok (.bipush 24, 2) := by decide +kernel
theorem d_Mod_move_29 : decode prog_12_method_11_code 29 = .ok (.if_icmp .ge 31, 3) := by decide +kernel
theorem d_Mod_move_60 : decode prog_12_method_11_code 60 = .ok (.iconst 0, 1) := by decide +kernel
theorem d_Mod_move_61 : decode prog_12_method_11_code 61 = .ok (.istore_n 3, 1) := by decide +kernel
theorem d_Mod_move_62 : decode prog_12_method_11_code 62 = .ok (.iload_n 3, 1) := by decide +kernel
theorem d_Mod_move_63 : decode prog_12_method_11_code 63 = .ok (.aload_n 0, 1) := by decide +kernel
theorem d_Mod_move_64 : decode prog_12_method_11_code 64 = .ok (.getfield 47, 3) := by decide +kernel
theorem d_Mod_move_67 : decode prog_12_method_11_code 67 = .ok (.iload_n 1, 1) := by decide +kernel
theorem d_Mod_move_68 : decode prog_12_method_11_code 68 = .ok (.iaload, 1) := by decide +kernel
theorem d_Mod_move_69 : decode prog_12_method_11_code 69 = .ok (.if_icmp .ge 33, 3) := by decide +kernel
theorem d_Mod_move_102 : decode prog_12_method_11_code 102 = .ok (.return_, 1) := by decide +kernel
theorem d_Mod_move_72 : decode prog_12_method_11_code 72 = .ok (.aload_n 0, 1) := by decide +kernel
theorem d_Mod_move_73 : decode prog_12_method_11_code 73 = .ok (.getfield 51, 3) := by decide +kernel
theorem k_1161 : (Jvm.Cond.fieldLink "PackageBookModel" (51 : Nat) "PackageBookModel" "data" "[B") ∈ uW := uW_of 1161 (by decide +kernel) (by decide +kernel)
theorem d_Mod_move_76 : decode prog_12_method_11_code 76 = .ok (.sipush 4000, 3) := by decide +kernel
theorem d_Mod_move_79 : decode prog_12_method_11_code 79 = .ok (.iload_n 2, 1) := by decide +kernel
theorem d_Mod_move_80 : decode prog_12_method_11_code 80 = .ok (.imul, 1) := by decide +kernel
theorem d_Mod_move_81 : decode prog_12_method_11_code 81 = .ok (.iload_n 3, 1) := by decide +kernel
theorem d_Mod_move_82 : decode prog_12_method_11_code 82 = .ok (.iadd, 1) := by decide +kernel
theorem d_Mod_move_83 : decode prog_12_method_11_code 83 = .ok (.aload_n 0, 1) := by decide +kernel
theorem d_Mod_move_84 : decode prog_12_method_11_code 84 = .ok (.getfield 51, 3) := by decide +kernel
theorem d_Mod_move_87 : decode prog_12_method_11_code 87 = .ok (.sipush 4000, 3) := by decide +kernel
theorem d_Mod_move_90 : decode prog_12_method_11_code 90 = .ok (.iload_n 1, 1) := by decide +kernel
theorem d_Mod_move_91 : decode prog_12_method_11_code 91 = .ok (.imul, 1) := by decide +kernel
theorem d_Mod_move_92 : decode prog_12_method_11_code 92 = .ok (.iload_n 3, 1) := by decide +kernel
theorem d_Mod_move_93 : decode prog_12_method_11_code 93 = .ok (.iadd, 1) := by decide +kernel
theorem d_Mod_move_94 : decode prog_12_method_11_code 94 = .ok (.baload, 1) := by decide +kernel
theorem d_Mod_move_95 : decode prog_12_method_11_code 95 = .ok (.bastore, 1) := by decide +kernel
theorem d_Mod_move_96 : decode prog_12_method_11_code 96 = .ok (.iinc 3 1, 3) := by decide +kernel
theorem d_Mod_move_99 : decode prog_12_method_11_code 99 = .ok (.goto (-37), 3) := by decide +kernel
theorem d_Mod_move_32 : decode prog_12_method_11_code 32 = .ok (.aload_n 0, 1) := by decide +kernel
theorem d_Mod_move_33 : decode prog_12_method_11_code 33 = .ok (.getfield 44, 3) := by decide +kernel
theorem d_Mod_move_36 : decode prog_12_method_11_code 36 = .ok (.bipush 24, 2) := by decide +kernel
theorem d_Mod_move_38 : decode prog_12_method_11_code 38 = .ok (.iload_n 2, 1) := by decide +kernel
theorem d_Mod_move_39 : decode prog_12_method_11_code 39 = .ok (.imul, 1) := by decide +kernel
theorem d_Mod_move_40 : decode prog_12_method_11_code 40 = .ok (.iload_n 3, 1) := by decide +kernel
theorem d_Mod_move_41 : decode prog_12_method_11_code 41 = .ok (.iadd, 1) := by decide +kernel
theorem d_Mod_move_42 : decode prog_12_method_11_code 42 = .ok (.aload_n 0, 1) := by decide +kernel
theorem d_Mod_move_43 : decode prog_12_method_11_code 43 = .ok (.getfield 44, 3) := by decide +kernel
theorem d_Mod_move_46 : decode prog_12_method_11_code 46 = .ok (.bipush 24, 2) := by decide +kernel
theorem d_Mod_move_48 : decode prog_12_method_11_code 48 = .ok (.iload_n 1, 1) := by decide +kernel
theorem d_Mod_move_49 : decode prog_12_method_11_code 49 = .ok (.imul, 1) := by decide +kernel
theorem d_Mod_move_50 : decode prog_12_method_11_code 50 = .ok (.iload_n 3, 1) := by decide +kernel
theorem d_Mod_move_51 : decode prog_12_method_11_code 51 = .ok (.iadd, 1) := by decide +kernel
theorem d_Mod_move_52 : decode prog_12_method_11_code 52 = .ok (.baload, 1) := by decide +kernel
theorem d_Mod_move_53 : decode prog_12_method_11_code 53 = .ok (.bastore, 1) := by decide +kernel
theorem d_Mod_move_54 : decode prog_12_method_11_code 54 = .ok (.iinc 3 1, 3) := by decide +kernel
theorem d_Mod_move_57 : decode prog_12_method_11_code 57 = .ok (.goto (-31), 3) := by decide +kernel
abbrev y_Mod_move : MethodName := ⟨"PackageBookModel", "move", "(II)V"⟩
abbrev i_Mod_move : pb_I := (y_Mod_move, prog_12_method_11_code, 4, (Option.none : Option Jvm.ClassFile.FieldType), [], { frames := 0, cells := 0, slots := 0, locals := 0 })
set_option maxRecDepth 100000 in
set_option maxHeartbeats 4000000 in
theorem g_Mod_move {l : Launch} (hl : l.stackTraces = false) (G : pb_G) (h : Nat) (m_rels : Nat) (m_openRels : Nat) (m_closeRels : Nat) (m_openRel : Nat) (m_closeRel : Nat) (m_comment : Nat) (m_ends : Nat) (m_order : Nat) (m_tape : Nat) (m_count : Nat) (m_nameSize : Nat) (m_names : Nat) (m_size : Nat) (m_data : Nat) (m_looked : Nat) (m_file : Nat) (m_directory : Nat) (m_out : Nat) (m_row : Nat) (m_made : Nat) (m_length : Nat) (m_pressed : Nat) (m_mark : Nat) (m_idSize : Nat) (m_ids : Nat) (m_goalSize : Nat) (m_goals : Nat) (m_value : Nat) (m_faults : Nat) (m_reached : Nat) (v_thrown : Int32) (v_taped : Int32) (v_lookedSize : Int32) (v_fileSize : Int32) (v_directorySize : Int32) (v_outSize : Int32) (v_rowSize : Int32) (v_bitAt : Int32) (v_bitEnd : Int32) (v_why : Int32) (v_madeSize : Int32) (v_firstCount : Int32) (v_secondCount : Int32) (v_heldBits : Int32) (v_heldCount : Int32) (v_pressedSize : Int32) (v_at : Int32) (v_bad : Int32) (v_markSize : Int32) (v_relationCount : Int32) (v_valueSize : Int32) (v_faultCount : Int32) (a_nameSize : Nat → Int32) (a_names : Nat → Int32) (a_size : Nat → Int32) (a_data : Nat → Int32) (fr : Int32) (to : Int32) (h0 : 0 ≤ fr.toInt) (h1 : fr.toInt ≤ 33) (h2 : 0 ≤ to.toInt) (h3 : to.toInt ≤ 33) (h4 : fr.toInt ≠ to.toInt) (h5 : 0 ≤ gx a_size fr.toInt) (h6 : gx a_size fr.toInt ≤ 4000) (F_a_names : sb_Fit a_names) (F_a_data : sb_Fit a_data) : Cn l G i_Mod_move [.ref h, .int fr, .int to] [(h, .inr (10, [.ref m_rels, .ref m_openRels, .ref m_closeRels, .ref m_openRel, .ref m_closeRel, .ref m_comment, .ref m_ends, .ref m_order, .int v_thrown, .int v_taped, .ref m_tape, .ref m_count, .ref m_nameSize, .ref m_names, .ref m_size, .ref m_data, .int v_lookedSize, .ref m_looked, .int v_fileSize, .ref m_file, .int v_directorySize, .ref m_directory, .int v_outSize, .ref m_out, .int v_rowSize, .ref m_row, .int v_bitAt, .int v_bitEnd, .int v_why, .int v_madeSize, .ref m_made, .ref m_length, .int v_firstCount, .int v_secondCount, .int v_heldBits, .int v_heldCount, .int v_pressedSize, .ref m_pressed, .int v_at, .int v_bad, .int v_markSize, .ref m_mark, .int v_relationCount, .ref m_idSize, .ref m_ids, .ref m_goalSize, .ref m_goals, .int v_valueSize, .ref m_value, .int v_faultCount, .ref m_faults, .ref m_reached])), (m_nameSize, .inl (G.2.2.1, 34, .inl a_nameSize)), (m_names, .inl (G.2.1, 816, .inl a_names)), (m_size, .inl (G.2.2.1, 34, .inl a_size)), (m_data, .inl (G.2.1, 136000, .inl a_data))] (S := (Nat → Int32) × (Nat → Int32) × (Nat → Int32) × (Nat → Int32)) (fun rv_ u => rv_ = none ∧ (mv_Z a_nameSize u.1 fr.toInt to.toInt) ∧ (mv_Z a_size u.2.2.1 fr.toInt to.toInt) ∧ (mv_N a_names u.2.1 fr.toInt to.toInt) ∧ (mv_D a_data u.2.2.2 fr.toInt to.toInt (gx a_size fr.toInt)) ∧ (sb_Fit u.2.1) ∧ (sb_Fit u.2.2.2)) (fun u => [(h, .inr (10, [.ref m_rels, .ref m_openRels, .ref m_closeRels, .ref m_openRel, .ref m_closeRel, .ref m_comment, .ref m_ends, .ref m_order, .int v_thrown, .int v_taped, .ref m_tape, .ref m_count, .ref m_nameSize, .ref m_names, .ref m_size, .ref m_data, .int v_lookedSize, .ref m_looked, .int v_fileSize, .ref m_file, .int v_directorySize, .ref m_directory, .int v_outSize, .ref m_out, .int v_rowSize, .ref m_row, .int v_bitAt, .int v_bitEnd, .int v_why, .int v_madeSize, .ref m_made, .ref m_length, .int v_firstCount, .int v_secondCount, .int v_heldBits, .int v_heldCount, .int v_pressedSize, .ref m_pressed, .int v_at, .int v_bad, .int v_markSize, .ref m_mark, .int v_relationCount, .ref m_idSize, .ref m_ids, .ref m_goalSize, .ref m_goals, .int v_valueSize, .ref m_value, .int v_faultCount, .ref m_faults, .ref m_reached])), (m_nameSize, .inl (G.2.2.1, 34, .inl u.1)), (m_names, .inl (G.2.1, 816, .inl u.2.1)), (m_size, .inl (G.2.2.1, 34, .inl u.2.2.1)), (m_data, .inl (G.2.1, 136000, .inl u.2.2.2))]) := by
  refine Cn.of hl (by decide +kernel) rfl (Nat.le_of_ble_eq_true rfl) (fun M hQ => ?_)
  refine pb_eq (pc' := 0) (lo' := [(0, .ref h), (1, .int fr), (2, .int to)]) (rest' := []) (ws' := [(h, .inr (10, [.ref m_rels, .ref m_openRels, .ref m_closeRels, .ref m_openRel, .ref m_closeRel, .ref m_comment, .ref m_ends, .ref m_order, .int v_thrown, .int v_taped, .ref m_tape, .ref m_count, .ref m_nameSize, .ref m_names, .ref m_size, .ref m_data, .int v_lookedSize, .ref m_looked, .int v_fileSize, .ref m_file, .int v_directorySize, .ref m_directory, .int v_outSize, .ref m_out, .int v_rowSize, .ref m_row, .int v_bitAt, .int v_bitEnd, .int v_why, .int v_madeSize, .ref m_made, .ref m_length, .int v_firstCount, .int v_secondCount, .int v_heldBits, .int v_heldCount, .int v_pressedSize, .ref m_pressed, .int v_at, .int v_bad, .int v_markSize, .ref m_mark, .int v_relationCount, .ref m_idSize, .ref m_ids, .ref m_goalSize, .ref m_goals, .int v_valueSize, .ref m_value, .int v_faultCount, .ref m_faults, .ref m_reached])), (m_nameSize, .inl (G.2.2.1, 34, .inl a_nameSize)), (m_names, .inl (G.2.1, 816, .inl a_names)), (m_size, .inl (G.2.2.1, 34, .inl a_size)), (m_data, .inl (G.2.1, 136000, .inl a_data))]) ?_
  have zl0 : (0 : Int32).toInt = 0 := by decide
  have zl1 : (1 : Int32).toInt = 1 := by decide
  have zl24 : (24 : Int32).toInt = 24 := by decide
  have zl4000 : (4000 : Int32).toInt = 4000 := by decide
  refine pb_aload_n (pc := 0) d_Mod_move_0 0 rfl rfl ?_
  refine pb_get (pc := 1) d_Mod_move_1 0 12 rfl rfl (by decide) in_Mod k_1158 rfl ?_
  refine pb_iload_n (pc := 4) d_Mod_move_4 2 rfl rfl ?_
  refine pb_aload_n (pc := 5) d_Mod_move_5 0 rfl rfl ?_
  refine pb_get (pc := 6) d_Mod_move_6 0 12 rfl rfl (by decide) in_Mod k_1158 rfl ?_
  refine pb_iload_n (pc := 9) d_Mod_move_9 1 rfl rfl ?_
  refine pb_iald (pc := 10) d_Mod_move_10 1 rfl (vp_in_iff.mpr (by omega)) ?_
  refine pb_topi (fun i1 ei1 => ?_)
  have ti1 : i1.toInt = gx a_nameSize (fr.toInt) := gx_ld ei1 rfl
  refine pb_iast (pc := 11) (ws' := [(h, .inr (10, [.ref m_rels, .ref m_openRels, .ref m_closeRels, .ref m_openRel, .ref m_closeRel, .ref m_comment, .ref m_ends, .ref m_order, .int v_thrown, .int v_taped, .ref m_tape, .ref m_count, .ref m_nameSize, .ref m_names, .ref m_size, .ref m_data, .int v_lookedSize, .ref m_looked, .int v_fileSize, .ref m_file, .int v_directorySize, .ref m_directory, .int v_outSize, .ref m_out, .int v_rowSize, .ref m_row, .int v_bitAt, .int v_bitEnd, .int v_why, .int v_madeSize, .ref m_made, .ref m_length, .int v_firstCount, .int v_secondCount, .int v_heldBits, .int v_heldCount, .int v_pressedSize, .ref m_pressed, .int v_at, .int v_bad, .int v_markSize, .ref m_mark, .int v_relationCount, .ref m_idSize, .ref m_ids, .ref m_goalSize, .ref m_goals, .int v_valueSize, .ref m_value, .int v_faultCount, .ref m_faults, .ref m_reached])), (m_nameSize, .inl (G.2.2.1, 34, .inl (upd a_nameSize ((to : Int32).toNatClampNeg) i1))), (m_names, .inl (G.2.1, 816, .inl a_names)), (m_size, .inl (G.2.2.1, 34, .inl a_size)), (m_data, .inl (G.2.1, 136000, .inl a_data))]) d_Mod_move_11 1 rfl (vp_in_iff.mpr (by omega)) rfl ?_
  refine pb_aload_n (pc := 12) d_Mod_move_12 0 rfl rfl ?_
  refine pb_get (pc := 13) d_Mod_move_13 0 14 rfl rfl (by decide) in_Mod k_1160 rfl ?_
  refine pb_iload_n (pc := 16) d_Mod_move_16 2 rfl rfl ?_
  refine pb_aload_n (pc := 17) d_Mod_move_17 0 rfl rfl ?_
  refine pb_get (pc := 18) d_Mod_move_18 0 14 rfl rfl (by decide) in_Mod k_1160 rfl ?_
  refine pb_iload_n (pc := 21) d_Mod_move_21 1 rfl rfl ?_
  refine pb_iald (pc := 22) d_Mod_move_22 3 rfl (vp_in_iff.mpr (by omega)) ?_
  refine pb_topi (fun i2 ei2 => ?_)
  have ti2 : i2.toInt = gx a_size (fr.toInt) := gx_ld ei2 rfl
  refine pb_iast (pc := 23) (ws' := [(h, .inr (10, [.ref m_rels, .ref m_openRels, .ref m_closeRels, .ref m_openRel, .ref m_closeRel, .ref m_comment, .ref m_ends, .ref m_order, .int v_thrown, .int v_taped, .ref m_tape, .ref m_count, .ref m_nameSize, .ref m_names, .ref m_size, .ref m_data, .int v_lookedSize, .ref m_looked, .int v_fileSize, .ref m_file, .int v_directorySize, .ref m_directory, .int v_outSize, .ref m_out, .int v_rowSize, .ref m_row, .int v_bitAt, .int v_bitEnd, .int v_why, .int v_madeSize, .ref m_made, .ref m_length, .int v_firstCount, .int v_secondCount, .int v_heldBits, .int v_heldCount, .int v_pressedSize, .ref m_pressed, .int v_at, .int v_bad, .int v_markSize, .ref m_mark, .int v_relationCount, .ref m_idSize, .ref m_ids, .ref m_goalSize, .ref m_goals, .int v_valueSize, .ref m_value, .int v_faultCount, .ref m_faults, .ref m_reached])), (m_nameSize, .inl (G.2.2.1, 34, .inl (upd a_nameSize ((to : Int32).toNatClampNeg) i1))), (m_names, .inl (G.2.1, 816, .inl a_names)), (m_size, .inl (G.2.2.1, 34, .inl (upd a_size ((to : Int32).toNatClampNeg) i2))), (m_data, .inl (G.2.1, 136000, .inl a_data))]) d_Mod_move_23 3 rfl (vp_in_iff.mpr (by omega)) rfl ?_
  refine pb_iconst (pc := 24) (v := 0) d_Mod_move_24 (by decide) ?_
  refine pb_istore_n (pc := 25) (lo' := [(3, .int 0), (0, .ref h), (1, .int fr), (2, .int to)]) d_Mod_move_25 rfl (by decide) rfl ?_
  have hL26_3 : ∀ (N9 : Nat) (k : Int32) (ng : Nat → Int32) (zz : Nat → Int32) (ss : Nat → Int32), (sb_Fit ng) → (0 ≤ k.toInt) → (k.toInt ≤ 24) → (mv_Z a_nameSize zz fr.toInt to.toInt) → (mv_Z a_size ss fr.toInt to.toInt) → (∀ j : Int, 0 ≤ j → j < k.toInt → gx ng (24 * to.toInt + j) = gx a_names (24 * fr.toInt + j)) → (∀ x : Int, 0 ≤ x → (x < 24 * to.toInt ∨ 24 * to.toInt + 24 ≤ x) → gx ng x = gx a_names x) → ((24 - k.toInt).toNat) < N9 → pb_P l G M i_Mod_move 26 [(3, .int k), (0, .ref h), (1, .int fr), (2, .int to)] [] [(h, .inr (10, [.ref m_rels, .ref m_openRels, .ref m_closeRels, .ref m_openRel, .ref m_closeRel, .ref m_comment, .ref m_ends, .ref m_order, .int v_thrown, .int v_taped, .ref m_tape, .ref m_count, .ref m_nameSize, .ref m_names, .ref m_size, .ref m_data, .int v_lookedSize, .ref m_looked, .int v_fileSize, .ref m_file, .int v_directorySize, .ref m_directory, .int v_outSize, .ref m_out, .int v_rowSize, .ref m_row, .int v_bitAt, .int v_bitEnd, .int v_why, .int v_madeSize, .ref m_made, .ref m_length, .int v_firstCount, .int v_secondCount, .int v_heldBits, .int v_heldCount, .int v_pressedSize, .ref m_pressed, .int v_at, .int v_bad, .int v_markSize, .ref m_mark, .int v_relationCount, .ref m_idSize, .ref m_ids, .ref m_goalSize, .ref m_goals, .int v_valueSize, .ref m_value, .int v_faultCount, .ref m_faults, .ref m_reached])), (m_nameSize, .inl (G.2.2.1, 34, .inl zz)), (m_names, .inl (G.2.1, 816, .inl ng)), (m_size, .inl (G.2.2.1, 34, .inl ss)), (m_data, .inl (G.2.1, 136000, .inl a_data))] 0 0 := by
    intro N9
    induction N9 with
    | zero => intro k ng zz ss F_ng k0 k1 mz ms n0 n1 hm9; exact absurd hm9 (Nat.not_lt_zero _)
    | succ N9 ih26 =>
      intro k ng zz ss F_ng k0 k1 mz ms n0 n1 hm9
      refine pb_iload_n (pc := 26) d_Mod_move_26 0 rfl rfl ?_
      refine pb_bipush (pc := 27) (v := 24) d_Mod_move_27 (by decide) ?_
      refine pb_icmp_ge (pc := 29) (tgt := 60) d_Mod_move_29 (by decide) (fun w4 => ?_) (fun w4 => ?_)
      · have tw4 : 24 ≤ k.toInt := (ti_le (by decide) rfl).mp w4
        refine pb_iconst (pc := 60) (v := 0) d_Mod_move_60 (by decide) ?_
        refine pb_istore_n (pc := 61) (lo' := [(3, .int 0), (0, .ref h), (1, .int fr), (2, .int to)]) d_Mod_move_61 rfl (by decide) rfl ?_
        have hL62_5 : ∀ (N9 : Nat) (k2 : Int32) (dg : Nat → Int32), (sb_Fit dg) → (0 ≤ k2.toInt) → (k2.toInt ≤ gx a_size fr.toInt) → (∀ k : Int, 0 ≤ k → k < k2.toInt → gr dg (4000 * to.toInt + k) = gr a_data (4000 * fr.toInt + k)) → (∀ x : Int, 0 ≤ x → (x < 4000 * to.toInt ∨ 4000 * to.toInt + 4000 ≤ x) → gr dg x = gr a_data x) → ((gx a_size fr.toInt - k2.toInt).toNat) < N9 → pb_P l G M i_Mod_move 62 [(3, .int k2), (0, .ref h), (1, .int fr), (2, .int to)] [] [(h, .inr (10, [.ref m_rels, .ref m_openRels, .ref m_closeRels, .ref m_openRel, .ref m_closeRel, .ref m_comment, .ref m_ends, .ref m_order, .int v_thrown, .int v_taped, .ref m_tape, .ref m_count, .ref m_nameSize, .ref m_names, .ref m_size, .ref m_data, .int v_lookedSize, .ref m_looked, .int v_fileSize, .ref m_file, .int v_directorySize, .ref m_directory, .int v_outSize, .ref m_out, .int v_rowSize, .ref m_row, .int v_bitAt, .int v_bitEnd, .int v_why, .int v_madeSize, .ref m_made, .ref m_length, .int v_firstCount, .int v_secondCount, .int v_heldBits, .int v_heldCount, .int v_pressedSize, .ref m_pressed, .int v_at, .int v_bad, .int v_markSize, .ref m_mark, .int v_relationCount, .ref m_idSize, .ref m_ids, .ref m_goalSize, .ref m_goals, .int v_valueSize, .ref m_value, .int v_faultCount, .ref m_faults, .ref m_reached])), (m_nameSize, .inl (G.2.2.1, 34, .inl zz)), (m_names, .inl (G.2.1, 816, .inl ng)), (m_size, .inl (G.2.2.1, 34, .inl ss)), (m_data, .inl (G.2.1, 136000, .inl dg))] 0 0 := by
          intro N9
          induction N9 with
          | zero => intro k2 dg F_dg j0 j1 dz dx hm9; exact absurd hm9 (Nat.not_lt_zero _)
          | succ N9 ih62 =>
            intro k2 dg F_dg j0 j1 dz dx hm9
            refine pb_iload_n (pc := 62) d_Mod_move_62 0 rfl rfl ?_
            refine pb_aload_n (pc := 63) d_Mod_move_63 1 rfl rfl ?_
            refine pb_get (pc := 64) d_Mod_move_64 0 14 rfl rfl (by decide) in_Mod k_1160 rfl ?_
            refine pb_iload_n (pc := 67) d_Mod_move_67 2 rfl rfl ?_
            have q2 := ms fr.toInt (by omega)
            rw [if_neg h4] at q2
            refine pb_iald (pc := 68) d_Mod_move_68 3 rfl (vp_in_iff.mpr (by omega)) ?_
            refine pb_topi (fun i6 ei6 => ?_)
            have ti6 : i6.toInt = gx ss (fr.toInt) := gx_ld ei6 rfl
            refine pb_icmp_ge (pc := 69) (tgt := 102) d_Mod_move_69 (by decide) (fun w7 => ?_) (fun w7 => ?_)
            · have tw7 : i6.toInt ≤ k2.toInt := (ti_le rfl rfl).mp w7
              exact pb_vret (pc := 102) hQ d_Mod_move_102 rfl (zz, ng, ss, dg) ⟨rfl, mz, ms, (show mv_N a_names ng fr.toInt to.toInt from ⟨fun k k0 k1 => n0 k k0 (by omega), n1⟩), (show mv_D a_data dg fr.toInt to.toInt (gx a_size fr.toInt) from ⟨fun k k0 k1 => dz k k0 (by omega), dx⟩), F_ng, F_dg⟩ [0, 1, 2, 3, 4] (by decide) rfl rfl (by decide) (by decide)
            · have tw7 : ¬ i6.toInt ≤ k2.toInt := fun z9 => w7 ((ti_le rfl rfl).mpr z9)
              refine pb_aload_n (pc := 72) d_Mod_move_72 1 rfl rfl ?_
              refine pb_get (pc := 73) d_Mod_move_73 0 15 rfl rfl (by decide) in_Mod k_1161 rfl ?_
              refine pb_sipush (pc := 76) (v := 4000) d_Mod_move_76 (by decide) ?_
              refine pb_iload_n (pc := 79) d_Mod_move_79 3 rfl rfl ?_
              refine pb_imul (pc := 80) d_Mod_move_80 ?_
              refine pb_topi (fun i8 ei8 => ?_)
              try have ti8 : i8.toInt = 4000 * to.toInt := ti_mul ei8 (by decide) rfl (by omega) (by omega)
              refine pb_iload_n (pc := 81) d_Mod_move_81 0 rfl rfl ?_
              refine pb_iadd (pc := 82) d_Mod_move_82 ?_
              refine pb_topi (fun i9 ei9 => ?_)
              try have ti9 : i9.toInt = i8.toInt + k2.toInt := t2_add ei9 rfl rfl (by (exact omg_049b621951 h2 h3 h6 j0 q2 ti6 tw7 ti8))
              refine pb_aload_n (pc := 83) d_Mod_move_83 1 rfl rfl ?_
              refine pb_get (pc := 84) d_Mod_move_84 0 15 rfl rfl (by decide) in_Mod k_1161 rfl ?_
              refine pb_sipush (pc := 87) (v := 4000) d_Mod_move_87 (by decide) ?_
              refine pb_iload_n (pc := 90) d_Mod_move_90 2 rfl rfl ?_
              refine pb_imul (pc := 91) d_Mod_move_91 ?_
              refine pb_topi (fun i10 ei10 => ?_)
              try have ti10 : i10.toInt = 4000 * fr.toInt := ti_mul ei10 (by decide) rfl (by omega) (by omega)
              refine pb_iload_n (pc := 92) d_Mod_move_92 0 rfl rfl ?_
              refine pb_iadd (pc := 93) d_Mod_move_93 ?_
              refine pb_topi (fun i11 ei11 => ?_)
              try have ti11 : i11.toInt = i10.toInt + k2.toInt := t2_add ei11 rfl rfl (by (exact omg_049b621951 h0 h1 h6 j0 q2 ti6 tw7 ti10))
              refine pb_bald (pc := 94) d_Mod_move_94 4 rfl (vp_in_iff.mpr (by (exact omg_8387a60c64 h0 h1 h6 j0 q2 ti6 tw7 ti10 ti11))) ?_
              refine pb_topi (fun i12 ei12 => ?_)
              have xi12 : i12 = gr dg (4000 * fr.toInt + k2.toInt) := gr_ld ei12 (by (exact omg_8c483aafce ti10 ti11))
              have yi12 : i12.toInt = gx dg (4000 * fr.toInt + k2.toInt) := congrArg Int32.toInt xi12
              have ti12 : -128 ≤ i12.toInt ∧ i12.toInt ≤ 127 := ti_fit (F_dg _) ei12
              refine pb_bast (pc := 95) (ws' := [(h, .inr (10, [.ref m_rels, .ref m_openRels, .ref m_closeRels, .ref m_openRel, .ref m_closeRel, .ref m_comment, .ref m_ends, .ref m_order, .int v_thrown, .int v_taped, .ref m_tape, .ref m_count, .ref m_nameSize, .ref m_names, .ref m_size, .ref m_data, .int v_lookedSize, .ref m_looked, .int v_fileSize, .ref m_file, .int v_directorySize, .ref m_directory, .int v_outSize, .ref m_out, .int v_rowSize, .ref m_row, .int v_bitAt, .int v_bitEnd, .int v_why, .int v_madeSize, .ref m_made, .ref m_length, .int v_firstCount, .int v_secondCount, .int v_heldBits, .int v_heldCount, .int v_pressedSize, .ref m_pressed, .int v_at, .int v_bad, .int v_markSize, .ref m_mark, .int v_relationCount, .ref m_idSize, .ref m_ids, .ref m_goalSize, .ref m_goals, .int v_valueSize, .ref m_value, .int v_faultCount, .ref m_faults, .ref m_reached])), (m_nameSize, .inl (G.2.2.1, 34, .inl zz)), (m_names, .inl (G.2.1, 816, .inl ng)), (m_size, .inl (G.2.2.1, 34, .inl ss)), (m_data, .inl (G.2.1, 136000, .inl (upd dg ((i9 : Int32).toNatClampNeg) (vp_nar .byte i12))))]) d_Mod_move_95 4 rfl (vp_in_iff.mpr (by (exact omg_8387a60c64 h2 h3 h6 j0 q2 ti6 tw7 ti8 ti9))) rfl ?_
              refine pb_iincN (pc := 96) (c := 1) d_Mod_move_96 0 rfl (by decide) (by decide) (fun i13 ei13 => ?_)
              have ti13 : i13.toInt = k2.toInt + 1 := t2_add ei13 rfl (by decide) (by first | (exact omg_4cf3284d47 h6 j0 q2 ti6 tw7) | (have r90 := ti_rng k2; have r91 := ti_rng i13; have r92 := ti_rng fr; have r93 := ti_rng to; omega))
              refine pb_eq (pc' := 99) (lo' := [(3, .int i13), (0, .ref h), (1, .int fr), (2, .int to)]) (rest' := []) (ws' := [(h, .inr (10, [.ref m_rels, .ref m_openRels, .ref m_closeRels, .ref m_openRel, .ref m_closeRel, .ref m_comment, .ref m_ends, .ref m_order, .int v_thrown, .int v_taped, .ref m_tape, .ref m_count, .ref m_nameSize, .ref m_names, .ref m_size, .ref m_data, .int v_lookedSize, .ref m_looked, .int v_fileSize, .ref m_file, .int v_directorySize, .ref m_directory, .int v_outSize, .ref m_out, .int v_rowSize, .ref m_row, .int v_bitAt, .int v_bitEnd, .int v_why, .int v_madeSize, .ref m_made, .ref m_length, .int v_firstCount, .int v_secondCount, .int v_heldBits, .int v_heldCount, .int v_pressedSize, .ref m_pressed, .int v_at, .int v_bad, .int v_markSize, .ref m_mark, .int v_relationCount, .ref m_idSize, .ref m_ids, .ref m_goalSize, .ref m_goals, .int v_valueSize, .ref m_value, .int v_faultCount, .ref m_faults, .ref m_reached])), (m_nameSize, .inl (G.2.2.1, 34, .inl zz)), (m_names, .inl (G.2.1, 816, .inl ng)), (m_size, .inl (G.2.2.1, 34, .inl ss)), (m_data, .inl (G.2.1, 136000, .inl (upd dg ((i9 : Int32).toNatClampNeg) (vp_nar .byte i12))))]) ?_
              refine pb_goto (pc := 99) (tgt := 62) d_Mod_move_99 (by decide) ?_
              exact ih62 i13 (upd dg ((i9 : Int32).toNatClampNeg) (vp_nar .byte i12)) (sb_fitU F_dg (fit_nar _)) (by first | (with_reducible assumption) | (exact omg_c14412231a j0 ti13) | assumption | omega | decide) (by first | (with_reducible assumption) | (exact omg_824ece3cda q2 ti6 tw7 ti13) | assumption | omega | decide) (fun j j0 j1 => by rw [gr_updb (a := 4000 * to.toInt + k2.toInt) (by (exact omg_8c483aafce ti8 ti9)) _ (by omega) (by omega)]; split <;> first | (rename_i w; rw [show j = k2.toInt by omega, bz_fit (by omega)]; exact (show _ = gr dg (4000 * fr.toInt + k2.toInt) by assumption).trans (dx _ (by omega) (by omega))) | exact dz j j0 (by omega)) (fun x x0 x1 => by rw [gr_updb (a := 4000 * to.toInt + k2.toInt) (by omega) _ (by omega) (by omega), if_neg (by (exact omg_7d54897fee h6 j0 q2 ti6 tw7 x1))]; exact dx x x0 x1) (by (exact omg_79ae107613 hm9 q2 ti6 tw7 ti13))
        exact hL62_5 _ 0 a_data F_a_data (by first | (with_reducible assumption) | omega (splitDisjunctions := false) | assumption | omega | decide) (by first | (with_reducible assumption) | omega (splitDisjunctions := false) | assumption | omega | decide) (fun j h0 h1 => absurd h1 (by omega)) (fun x h0 h1 => rfl) (Nat.lt_succ_self _)
      · have tw4 : ¬ 24 ≤ k.toInt := fun z9 => w4 ((ti_le (by decide) rfl).mpr z9)
        refine pb_aload_n (pc := 32) d_Mod_move_32 1 rfl rfl ?_
        refine pb_get (pc := 33) d_Mod_move_33 0 13 rfl rfl (by decide) in_Mod k_1159 rfl ?_
        refine pb_bipush (pc := 36) (v := 24) d_Mod_move_36 (by decide) ?_
        refine pb_iload_n (pc := 38) d_Mod_move_38 3 rfl rfl ?_
        refine pb_imul (pc := 39) d_Mod_move_39 ?_
        refine pb_topi (fun i14 ei14 => ?_)
        try have ti14 : i14.toInt = 24 * to.toInt := ti_mul ei14 (by decide) rfl (by omega) (by omega)
        refine pb_iload_n (pc := 40) d_Mod_move_40 0 rfl rfl ?_
        refine pb_iadd (pc := 41) d_Mod_move_41 ?_
        refine pb_topi (fun i15 ei15 => ?_)
        try have ti15 : i15.toInt = i14.toInt + k.toInt := t2_add ei15 rfl rfl (by omega)
        refine pb_aload_n (pc := 42) d_Mod_move_42 1 rfl rfl ?_
        refine pb_get (pc := 43) d_Mod_move_43 0 13 rfl rfl (by decide) in_Mod k_1159 rfl ?_
        refine pb_bipush (pc := 46) (v := 24) d_Mod_move_46 (by decide) ?_
        refine pb_iload_n (pc := 48) d_Mod_move_48 2 rfl rfl ?_
        refine pb_imul (pc := 49) d_Mod_move_49 ?_
        refine pb_topi (fun i16 ei16 => ?_)
        try have ti16 : i16.toInt = 24 * fr.toInt := ti_mul ei16 (by decide) rfl (by omega) (by omega)
        refine pb_iload_n (pc := 50) d_Mod_move_50 0 rfl rfl ?_
        refine pb_iadd (pc := 51) d_Mod_move_51 ?_
        refine pb_topi (fun i17 ei17 => ?_)
        try have ti17 : i17.toInt = i16.toInt + k.toInt := t2_add ei17 rfl rfl (by omega)
        have q1 := n1 (24 * fr.toInt + k.toInt) (by (exact omg_54e3acd9bb h0 k0)) (by omega)
        refine pb_bald (pc := 52) d_Mod_move_52 2 rfl (vp_in_iff.mpr (by (exact omg_175bf75ad1 h0 h1 k0 tw4 ti16 ti17))) ?_
        refine pb_topi (fun i18 ei18 => ?_)
        have xi18 : i18 = gr ng (24 * fr.toInt + k.toInt) := gr_ld ei18 (by omega)
        have yi18 : i18.toInt = gx ng (24 * fr.toInt + k.toInt) := congrArg Int32.toInt xi18
        have ti18 : -128 ≤ i18.toInt ∧ i18.toInt ≤ 127 := ti_fit (F_ng _) ei18
        refine pb_bast (pc := 53) (ws' := [(h, .inr (10, [.ref m_rels, .ref m_openRels, .ref m_closeRels, .ref m_openRel, .ref m_closeRel, .ref m_comment, .ref m_ends, .ref m_order, .int v_thrown, .int v_taped, .ref m_tape, .ref m_count, .ref m_nameSize, .ref m_names, .ref m_size, .ref m_data, .int v_lookedSize, .ref m_looked, .int v_fileSize, .ref m_file, .int v_directorySize, .ref m_directory, .int v_outSize, .ref m_out, .int v_rowSize, .ref m_row, .int v_bitAt, .int v_bitEnd, .int v_why, .int v_madeSize, .ref m_made, .ref m_length, .int v_firstCount, .int v_secondCount, .int v_heldBits, .int v_heldCount, .int v_pressedSize, .ref m_pressed, .int v_at, .int v_bad, .int v_markSize, .ref m_mark, .int v_relationCount, .ref m_idSize, .ref m_ids, .ref m_goalSize, .ref m_goals, .int v_valueSize, .ref m_value, .int v_faultCount, .ref m_faults, .ref m_reached])), (m_nameSize, .inl (G.2.2.1, 34, .inl zz)), (m_names, .inl (G.2.1, 816, .inl (upd ng ((i15 : Int32).toNatClampNeg) (vp_nar .byte i18)))), (m_size, .inl (G.2.2.1, 34, .inl ss)), (m_data, .inl (G.2.1, 136000, .inl a_data))]) d_Mod_move_53 2 rfl (vp_in_iff.mpr (by (exact omg_175bf75ad1 h2 h3 k0 tw4 ti14 ti15))) rfl ?_
        refine pb_iincN (pc := 54) (c := 1) d_Mod_move_54 0 rfl (by decide) (by decide) (fun i19 ei19 => ?_)
        have ti19 : i19.toInt = k.toInt + 1 := t2_add ei19 rfl (by decide) (by first | omega | (have r90 := ti_rng k; have r91 := ti_rng i19; have r92 := ti_rng fr; have r93 := ti_rng to; omega))
        refine pb_eq (pc' := 57) (lo' := [(3, .int i19), (0, .ref h), (1, .int fr), (2, .int to)]) (rest' := []) (ws' := [(h, .inr (10, [.ref m_rels, .ref m_openRels, .ref m_closeRels, .ref m_openRel, .ref m_closeRel, .ref m_comment, .ref m_ends, .ref m_order, .int v_thrown, .int v_taped, .ref m_tape, .ref m_count, .ref m_nameSize, .ref m_names, .ref m_size, .ref m_data, .int v_lookedSize, .ref m_looked, .int v_fileSize, .ref m_file, .int v_directorySize, .ref m_directory, .int v_outSize, .ref m_out, .int v_rowSize, .ref m_row, .int v_bitAt, .int v_bitEnd, .int v_why, .int v_madeSize, .ref m_made, .ref m_length, .int v_firstCount, .int v_secondCount, .int v_heldBits, .int v_heldCount, .int v_pressedSize, .ref m_pressed, .int v_at, .int v_bad, .int v_markSize, .ref m_mark, .int v_relationCount, .ref m_idSize, .ref m_ids, .ref m_goalSize, .ref m_goals, .int v_valueSize, .ref m_value, .int v_faultCount, .ref m_faults, .ref m_reached])), (m_nameSize, .inl (G.2.2.1, 34, .inl zz)), (m_names, .inl (G.2.1, 816, .inl (upd ng ((i15 : Int32).toNatClampNeg) (vp_nar .byte i18)))), (m_size, .inl (G.2.2.1, 34, .inl ss)), (m_data, .inl (G.2.1, 136000, .inl a_data))]) ?_
        refine pb_goto (pc := 57) (tgt := 26) d_Mod_move_57 (by decide) ?_
        exact ih26 i19 (upd ng ((i15 : Int32).toNatClampNeg) (vp_nar .byte i18)) zz ss (sb_fitU F_ng (fit_nar _)) (by first | (with_reducible assumption) | (exact omg_c14412231a k0 ti19) | assumption | omega | decide) (by first | (with_reducible assumption) | omega (splitDisjunctions := false) | assumption | omega | decide) (by first | assumption | decide | omega) (by first | assumption | decide | omega) (fun j j0 j1 => by rw [gx_updb (a := 24 * to.toInt + k.toInt) (by omega) _ (by (exact omg_54e3acd9bb h2 k0)) (by omega) (by omega)]; split <;> first | (rename_i w; rw [show j = k.toInt by (first | exact omg_e44c1a8172 w | omega)]; (exact omg_99b4580df8 q1 yi18)) | exact n0 j j0 (by omega)) (fun x x0 x1 => by rw [gx_updb (a := 24 * to.toInt + k.toInt) (by omega) _ (by omega) (by omega) (by omega), if_neg (by omega)]; exact n1 x x0 x1) (by (exact omg_1de40a3955 hm9 tw4 ti19))
  exact hL26_3 _ 0 a_names (upd a_nameSize ((to : Int32).toNatClampNeg) i1) (upd a_size ((to : Int32).toNatClampNeg) i2) F_a_names (by first | (with_reducible assumption) | omega (splitDisjunctions := false) | assumption | omega | decide) (by first | (with_reducible assumption) | omega (splitDisjunctions := false) | assumption | omega | decide) (fun j h0 => by rw [gx_upd rfl j (by omega) h0]; split <;> first | omega | rfl) (fun j h0 => by rw [gx_upd rfl j (by omega) h0]; split <;> first | omega | rfl) (fun j h0 h1 => absurd h1 (by omega)) (fun x h0 h1 => rfl) (Nat.lt_succ_self _)
