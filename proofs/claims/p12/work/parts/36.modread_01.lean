theorem d_Mod_isRecord_0 : decode prog_12_method_56_code 0 = .ok (.aload_n 0, 1) := by decide +kernel
theorem d_Mod_isRecord_1 : decode prog_12_method_56_code 1 = .ok (.iload_n 1, 1) := by decide +kernel
theorem d_Mod_isRecord_2 : decode prog_12_method_56_code 2 = .ok (.bipush 42, 2) := by decide +kernel
theorem d_Mod_isRecord_4 : decode prog_12_method_56_code 4 = .ok (.iadd, 1) := by decide +kernel
theorem d_Mod_isRecord_5 : decode prog_12_method_56_code 5 = .ok (.iconst 4, 1) := by decide +kernel
theorem d_Mod_isRecord_6 : decode prog_12_method_56_code 6 = .ok (.invokevirtual 299, 3) := by decide +kernel
theorem d_Mod_isRecord_9 : decode prog_12_method_56_code 9 = .ok (.lstore_n 3, 1) := by decide +kernel
theorem d_Mod_isRecord_10 : decode prog_12_method_56_code 10 = .ok (.aload_n 0, 1) := by decide +kernel
theorem d_Mod_isRecord_11 : decode prog_12_method_56_code 11 = .ok (.iload_n 1, 1) := by decide +kernel
theorem d_Mod_isRecord_12 : decode prog_12_method_56_code 12 = .ok (.bipush 28, 2) := by decide +kernel
theorem d_Mod_isRecord_14 : decode prog_12_method_56_code 14 = .ok (.iadd, 1) := by decide +kernel
theorem d_Mod_isRecord_15 : decode prog_12_method_56_code 15 = .ok (.iconst 2, 1) := by decide +kernel
theorem d_Mod_isRecord_16 : decode prog_12_method_56_code 16 = .ok (.invokevirtual 299, 3) := by decide +kernel
theorem d_Mod_isRecord_19 : decode prog_12_method_56_code 19 = .ok (.l2i, 1) := by decide +kernel
theorem d_Mod_isRecord_20 : decode prog_12_method_56_code 20 = .ok (.istore 5, 2) := by decide +kernel
theorem d_Mod_isRecord_22 : decode prog_12_method_56_code 22 = .ok (.lload_n 3, 1) := by decide +kernel
theorem d_Mod_isRecord_23 : decode prog_12_method_56_code 23 = .ok (.ldc2_w 307, 3) := by decide +kernel
theorem k_1541 : (Jvm.Cond.constantLong "PackageBookModel" (307 : Nat) (30 : Int64)) ∈ uW := uW_of 1541 (by decide +kernel) (by decide +kernel)
theorem d_Mod_isRecord_26 : decode prog_12_method_56_code 26 = .ok (.ladd, 1) := by decide +kernel
theorem d_Mod_isRecord_27 : decode prog_12_method_56_code 27 = .ok (.iload 5, 2) := by decide +kernel
theorem d_Mod_isRecord_29 : decode prog_12_method_56_code 29 = .ok (.i2l, 1) := by decide +kernel
theorem d_Mod_isRecord_30 : decode prog_12_method_56_code 30 = .ok (.ladd, 1) := by decide +kernel
theorem d_Mod_isRecord_31 : decode prog_12_method_56_code 31 = .ok (.aload_n 0, 1) := by decide +kernel
theorem d_Mod_isRecord_32 : decode prog_12_method_56_code 32 = .ok (.iload_n 1, 1) := by decide +kernel
theorem d_Mod_isRecord_33 : decode prog_12_method_56_code 33 = .ok (.bipush 20, 2) := by decide +kernel
theorem d_Mod_isRecord_35 : decode prog_12_method_56_code 35 = .ok (.iadd, 1) := by decide +kernel
theorem d_Mod_isRecord_36 : decode prog_12_method_56_code 36 = .ok (.iconst 4, 1) := by decide +kernel
theorem d_Mod_isRecord_37 : decode prog_12_method_56_code 37 = .ok (.invokevirtual 299, 3) := by decide +kernel
theorem d_Mod_isRecord_40 : decode prog_12_method_56_code 40 = .ok (.ladd, 1) := by decide +kernel
theorem d_Mod_isRecord_41 : decode prog_12_method_56_code 41 = .ok (.iload_n 2, 1) := by decide +kernel
theorem d_Mod_isRecord_42 : decode prog_12_method_56_code 42 = .ok (.i2l, 1) := by decide +kernel
theorem d_Mod_isRecord_43 : decode prog_12_method_56_code 43 = .ok (.lcmp, 1) := by decide +kernel
theorem d_Mod_isRecord_44 : decode prog_12_method_56_code 44 = .ok (.ifCond .le 5, 3) := by decide +kernel
theorem d_Mod_isRecord_49 : decode prog_12_method_56_code 49 = .ok (.lload_n 3, 1) := by decide +kernel
theorem d_Mod_isRecord_50 : decode prog_12_method_56_code 50 = .ok (.l2i, 1) := by decide +kernel
theorem d_Mod_isRecord_51 : decode prog_12_method_56_code 51 = .ok (.istore 6, 2) := by decide +kernel
theorem d_Mod_isRecord_105 : decode prog_12_method_56_code 105 = .ok (.iconst 0, 1) := by decide +kernel
theorem d_Mod_isRecord_106 : decode prog_12_method_56_code 106 = .ok (.istore 8, 2) := by decide +kernel
theorem d_Mod_isRecord_108 : decode prog_12_method_56_code 108 = .ok (.iload 8, 2) := by decide +kernel
theorem d_Mod_isRecord_110 : decode prog_12_method_56_code 110 = .ok (.bipush 20, 2) := by decide +kernel
theorem d_Mod_isRecord_112 : decode prog_12_method_56_code 112 = .ok (.if_icmp .ge 49, 3) := by decide +kernel
theorem d_Mod_isRecord_161 : decode prog_12_method_56_code 161 = .ok (.iconst 0, 1) := by decide +kernel
theorem d_Mod_isRecord_162 : decode prog_12_method_56_code 162 = .ok (.istore 8, 2) := by decide +kernel
theorem d_Mod_isRecord_164 : decode prog_12_method_56_code 164 = .ok (.iload 8, 2) := by decide +kernel
theorem d_Mod_isRecord_166 : decode prog_12_method_56_code 166 = .ok (.iload 5, 2) := by decide +kernel
theorem d_Mod_isRecord_168 : decode prog_12_method_56_code 168 = .ok (.if_icmp .ge 49, 3) := by decide +kernel
theorem d_Mod_isRecord_217 : decode prog_12_method_56_code 217 = .ok (.iload 7, 2) := by decide +kernel
theorem d_Mod_isRecord_219 : decode prog_12_method_56_code 219 = .ok (.ireturn, 1) := by decide +kernel
theorem d_Mod_isRecord_171 : decode prog_12_method_56_code 171 = .ok (.iload 7, 2) := by decide +kernel
theorem d_Mod_isRecord_173 : decode prog_12_method_56_code 173 = .ok (.ifCond .eq 44, 3) := by decide +kernel
theorem d_Mod_isRecord_176 : decode prog_12_method_56_code 176 = .ok (.aload_n 0, 1) := by decide +kernel
theorem d_Mod_isRecord_177 : decode prog_12_method_56_code 177 = .ok (.getfield 66, 3) := by decide +kernel
theorem d_Mod_isRecord_180 : decode prog_12_method_56_code 180 = .ok (.iload 6, 2) := by decide +kernel
theorem d_Mod_isRecord_182 : decode prog_12_method_56_code 182 = .ok (.bipush 30, 2) := by decide +kernel
theorem d_Mod_isRecord_184 : decode prog_12_method_56_code 184 = .ok (.iadd, 1) := by decide +kernel
theorem d_Mod_isRecord_185 : decode prog_12_method_56_code 185 = .ok (.iload 8, 2) := by decide +kernel
theorem d_Mod_isRecord_187 : decode prog_12_method_56_code 187 = .ok (.iadd, 1) := by decide +kernel
theorem d_Mod_isRecord_188 : decode prog_12_method_56_code 188 = .ok (.baload, 1) := by decide +kernel
theorem d_Mod_isRecord_189 : decode prog_12_method_56_code 189 = .ok (.aload_n 0, 1) := by decide +kernel
theorem d_Mod_isRecord_190 : decode prog_12_method_56_code 190 = .ok (.getfield 66, 3) := by decide +kernel
theorem d_Mod_isRecord_193 : decode prog_12_method_56_code 193 = .ok (.iload_n 1, 1) := by decide +kernel
theorem d_Mod_isRecord_194 : decode prog_12_method_56_code 194 = .ok (.bipush 46, 2) := by decide +kernel
theorem d_Mod_isRecord_196 : decode prog_12_method_56_code 196 = .ok (.iadd, 1) := by decide +kernel
theorem d_Mod_isRecord_197 : decode prog_12_method_56_code 197 = .ok (.iload 8, 2) := by decide +kernel
theorem d_Mod_isRecord_199 : decode prog_12_method_56_code 199 = .ok (.iadd, 1) := by decide +kernel
theorem d_Mod_isRecord_200 : decode prog_12_method_56_code 200 = .ok (.baload, 1) := by decide +kernel
theorem d_Mod_isRecord_201 : decode prog_12_method_56_code 201 = .ok (.if_icmp .ne 7, 3) := by decide +kernel
theorem d_Mod_isRecord_208 : decode prog_12_method_56_code 208 = .ok (.iconst 0, 1) := by decide +kernel
theorem d_Mod_isRecord_209 : decode prog_12_method_56_code 209 = .ok (.istore 7, 2) := by decide +kernel
theorem d_Mod_isRecord_211 : decode prog_12_method_56_code 211 = .ok (.iinc 8 1, 3) := by decide +kernel
theorem d_Mod_isRecord_214 : decode prog_12_method_56_code 214 = .ok (.goto (-50), 3) := by decide +kernel
theorem d_Mod_isRecord_204 : decode prog_12_method_56_code 204 = .ok (.iconst 1, 1) := by decide +kernel
theorem d_Mod_isRecord_205 : decode prog_12_method_56_code 205 = .ok (.goto 4, 3) := by decide +kernel
theorem d_Mod_isRecord_115 : decode prog_12_method_56_code 115 = .ok (.iload 7, 2) := by decide +kernel
theorem d_Mod_isRecord_117 : decode prog_12_method_56_code 117 = .ok (.ifCond .eq 44, 3) := by decide +kernel
theorem d_Mod_isRecord_120 : decode prog_12_method_56_code 120 = .ok (.aload_n 0, 1) := by decide +kernel
theorem d_Mod_isRecord_121 : decode prog_12_method_56_code 121 = .ok (.getfield 66, 3) := by decide +kernel
theorem d_Mod_isRecord_124 : decode prog_12_method_56_code 124 = .ok (.iload 6, 2) := by decide +kernel
theorem d_Mod_isRecord_126 : decode prog_12_method_56_code 126 = .ok (.bipush 8, 2) := by decide +kernel
theorem d_Mod_isRecord_128 : decode prog_12_method_56_code 128 = .ok (.iadd, 1) := by decide +kernel
theorem d_Mod_isRecord_129 : decode prog_12_method_56_code 129 = .ok (.iload 8, 2) := by decide +kernel
theorem d_Mod_isRecord_131 : decode prog_12_method_56_code 131 = .ok (.iadd, 1) := by decide +kernel
theorem d_Mod_isRecord_132 : decode prog_12_method_56_code 132 = .ok (.baload, 1) := by decide +kernel
theorem d_Mod_isRecord_133 : decode prog_12_method_56_code 133 = .ok (.aload_n 0, 1) := by decide +kernel
theorem d_Mod_isRecord_134 : decode prog_12_method_56_code 134 = .ok (.getfield 66, 3) := by decide +kernel
theorem d_Mod_isRecord_137 : decode prog_12_method_56_code 137 = .ok (.iload_n 1, 1) := by decide +kernel
theorem d_Mod_isRecord_138 : decode prog_12_method_56_code 138 = .ok (.bipush 10, 2) := by decide +kernel
theorem d_Mod_isRecord_140 : decode prog_12_method_56_code 140 = .ok (.iadd, 1) := by decide +kernel
theorem d_Mod_isRecord_141 : decode prog_12_method_56_code 141 = .ok (.iload 8, 2) := by decide +kernel
theorem d_Mod_isRecord_143 : decode prog_12_method_56_code 143 = .ok (.iadd, 1) := by decide +kernel
theorem d_Mod_isRecord_144 : decode prog_12_method_56_code 144 = .ok (.baload, 1) := by decide +kernel
theorem d_Mod_isRecord_145 : decode prog_12_method_56_code 145 = .ok (.if_icmp .ne 7, 3) := by decide +kernel
theorem d_Mod_isRecord_152 : decode prog_12_method_56_code 152 = .ok (.iconst 0, 1) := by decide +kernel
theorem d_Mod_isRecord_153 : decode prog_12_method_56_code 153 = .ok (.istore 7, 2) := by decide +kernel
theorem d_Mod_isRecord_155 : decode prog_12_method_56_code 155 = .ok (.iinc 8 1, 3) := by decide +kernel
theorem d_Mod_isRecord_158 : decode prog_12_method_56_code 158 = .ok (.goto (-50), 3) := by decide +kernel
theorem d_Mod_isRecord_148 : decode prog_12_method_56_code 148 = .ok (.iconst 1, 1) := by decide +kernel
theorem d_Mod_isRecord_149 : decode prog_12_method_56_code 149 = .ok (.goto 4, 3) := by decide +kernel
theorem d_Mod_isRecord_53 : decode prog_12_method_56_code 53 = .ok (.aload_n 0, 1) := by decide +kernel
theorem d_Mod_isRecord_54 : decode prog_12_method_56_code 54 = .ok (.iload 6, 2) := by decide +kernel
theorem d_Mod_isRecord_56 : decode prog_12_method_56_code 56 = .ok (.iconst 4, 1) := by decide +kernel
theorem d_Mod_isRecord_57 : decode prog_12_method_56_code 57 = .ok (.invokevirtual 299, 3) := by decide +kernel
theorem d_Mod_isRecord_60 : decode prog_12_method_56_code 60 = .ok (.ldc2_w 275, 3) := by decide +kernel
theorem d_Mod_isRecord_63 : decode prog_12_method_56_code 63 = .ok (.lcmp, 1) := by decide +kernel
theorem d_Mod_isRecord_64 : decode prog_12_method_56_code 64 = .ok (.ifCond .ne 38, 3) := by decide +kernel
theorem d_Mod_isRecord_102 : decode prog_12_method_56_code 102 = .ok (.iconst 0, 1) := by decide +kernel
theorem d_Mod_isRecord_103 : decode prog_12_method_56_code 103 = .ok (.istore 7, 2) := by decide +kernel
theorem d_Mod_isRecord_67 : decode prog_12_method_56_code 67 = .ok (.aload_n 0, 1) := by decide +kernel
theorem d_Mod_isRecord_68 : decode prog_12_method_56_code 68 = .ok (.iload 6, 2) := by decide +kernel
theorem d_Mod_isRecord_70 : decode prog_12_method_56_code 70 = .ok (.iconst 4, 1) := by decide +kernel
theorem d_Mod_isRecord_71 : decode prog_12_method_56_code 71 = .ok (.iadd, 1) := by decide +kernel
theorem d_Mod_isRecord_72 : decode prog_12_method_56_code 72 = .ok (.iconst 4, 1) := by decide +kernel
theorem d_Mod_isRecord_73 : decode prog_12_method_56_code 73 = .ok (.invokevirtual 299, 3) := by decide +kernel
theorem d_Mod_isRecord_76 : decode prog_12_method_56_code 76 = .ok (.ldc2_w 281, 3) := by decide +kernel
theorem d_Mod_isRecord_79 : decode prog_12_method_56_code 79 = .ok (.lcmp, 1) := by decide +kernel
theorem d_Mod_isRecord_80 : decode prog_12_method_56_code 80 = .ok (.ifCond .ne 22, 3) := by decide +kernel
theorem d_Mod_isRecord_83 : decode prog_12_method_56_code 83 = .ok (.aload_n 0, 1) := by decide +kernel
theorem d_Mod_isRecord_84 : decode prog_12_method_56_code 84 = .ok (.iload 6, 2) := by decide +kernel
theorem d_Mod_isRecord_86 : decode prog_12_method_56_code 86 = .ok (.bipush 28, 2) := by decide +kernel
theorem d_Mod_isRecord_88 : decode prog_12_method_56_code 88 = .ok (.iadd, 1) := by decide +kernel
theorem d_Mod_isRecord_89 : decode prog_12_method_56_code 89 = .ok (.iconst 2, 1) := by decide +kernel
theorem d_Mod_isRecord_90 : decode prog_12_method_56_code 90 = .ok (.invokevirtual 299, 3) := by decide +kernel
theorem d_Mod_isRecord_93 : decode prog_12_method_56_code 93 = .ok (.lconst 0, 1) := by decide +kernel
theorem d_Mod_isRecord_94 : decode prog_12_method_56_code 94 = .ok (.lcmp, 1) := by decide +kernel
theorem d_Mod_isRecord_95 : decode prog_12_method_56_code 95 = .ok (.ifCond .ne 7, 3) := by decide +kernel
theorem d_Mod_isRecord_98 : decode prog_12_method_56_code 98 = .ok (.iconst 1, 1) := by decide +kernel
theorem d_Mod_isRecord_99 : decode prog_12_method_56_code 99 = .ok (.goto 4, 3) := by decide +kernel
theorem d_Mod_isRecord_47 : decode prog_12_method_56_code 47 = .ok (.iconst 0, 1) := by decide +kernel
theorem d_Mod_isRecord_48 : decode prog_12_method_56_code 48 = .ok (.ireturn, 1) := by decide +kernel
abbrev y_Mod_isRecord : MethodName := ⟨"PackageBookModel", "isRecord", "(II)Z"⟩
abbrev i_Mod_isRecord : pb_I := (y_Mod_isRecord, prog_12_method_56_code, 9, (some Jvm.ClassFile.FieldType.boolean), [], { frames := 1, cells := 0, slots := 0, locals := 25 })
set_option maxRecDepth 100000 in
set_option maxHeartbeats 4000000 in
theorem g_Mod_isRecord {l : Launch} (hl : l.stackTraces = false) (G : pb_G) (h : Nat) (m_rels : Nat) (m_openRels : Nat) (m_closeRels : Nat) (m_openRel : Nat) (m_closeRel : Nat) (m_comment : Nat) (m_ends : Nat) (m_order : Nat) (m_tape : Nat) (m_count : Nat) (m_nameSize : Nat) (m_names : Nat) (m_size : Nat) (m_data : Nat) (m_looked : Nat) (m_file : Nat) (m_directory : Nat) (m_out : Nat) (m_row : Nat) (m_made : Nat) (m_length : Nat) (m_pressed : Nat) (m_mark : Nat) (m_idSize : Nat) (m_ids : Nat) (m_goalSize : Nat) (m_goals : Nat) (m_value : Nat) (m_faults : Nat) (m_reached : Nat) (v_thrown : Int32) (v_taped : Int32) (v_lookedSize : Int32) (v_fileSize : Int32) (v_directorySize : Int32) (v_outSize : Int32) (v_rowSize : Int32) (v_bitAt : Int32) (v_bitEnd : Int32) (v_why : Int32) (v_madeSize : Int32) (v_firstCount : Int32) (v_secondCount : Int32) (v_heldBits : Int32) (v_heldCount : Int32) (v_pressedSize : Int32) (v_at : Int32) (v_bad : Int32) (v_markSize : Int32) (v_relationCount : Int32) (v_valueSize : Int32) (v_faultCount : Int32) (a_row : Nat → Int32) (e : Int32) (bg : Int32) (h0 : 0 ≤ e.toInt) (h1 : e.toInt + 46 + av a_row (e.toInt + 28) 2 ≤ 20000) (h2 : bg.toInt ≤ 20000) (F_a_row : sb_Fit a_row) : Cn l G i_Mod_isRecord [.ref h, .int e, .int bg] [(h, .inr (10, [.ref m_rels, .ref m_openRels, .ref m_closeRels, .ref m_openRel, .ref m_closeRel, .ref m_comment, .ref m_ends, .ref m_order, .int v_thrown, .int v_taped, .ref m_tape, .ref m_count, .ref m_nameSize, .ref m_names, .ref m_size, .ref m_data, .int v_lookedSize, .ref m_looked, .int v_fileSize, .ref m_file, .int v_directorySize, .ref m_directory, .int v_outSize, .ref m_out, .int v_rowSize, .ref m_row, .int v_bitAt, .int v_bitEnd, .int v_why, .int v_madeSize, .ref m_made, .ref m_length, .int v_firstCount, .int v_secondCount, .int v_heldBits, .int v_heldCount, .int v_pressedSize, .ref m_pressed, .int v_at, .int v_bad, .int v_markSize, .ref m_mark, .int v_relationCount, .ref m_idSize, .ref m_ids, .ref m_goalSize, .ref m_goals, .int v_valueSize, .ref m_value, .int v_faultCount, .ref m_faults, .ref m_reached])), (m_row, .inl (G.2.1, 20000, .inl a_row))] (S := Int32) (fun rv_ u => rv_ = some (.int u) ∧ (u.toInt = 0 ∨ u.toInt = 1) ∧ (u.toInt = 1 → av a_row (e.toInt + 42) 4 + 30 + av a_row (e.toInt + 28) 2 + av a_row (e.toInt + 20) 4 ≤ bg.toInt)) (fun u => [(h, .inr (10, [.ref m_rels, .ref m_openRels, .ref m_closeRels, .ref m_openRel, .ref m_closeRel, .ref m_comment, .ref m_ends, .ref m_order, .int v_thrown, .int v_taped, .ref m_tape, .ref m_count, .ref m_nameSize, .ref m_names, .ref m_size, .ref m_data, .int v_lookedSize, .ref m_looked, .int v_fileSize, .ref m_file, .int v_directorySize, .ref m_directory, .int v_outSize, .ref m_out, .int v_rowSize, .ref m_row, .int v_bitAt, .int v_bitEnd, .int v_why, .int v_madeSize, .ref m_made, .ref m_length, .int v_firstCount, .int v_secondCount, .int v_heldBits, .int v_heldCount, .int v_pressedSize, .ref m_pressed, .int v_at, .int v_bad, .int v_markSize, .ref m_mark, .int v_relationCount, .ref m_idSize, .ref m_ids, .ref m_goalSize, .ref m_goals, .int v_valueSize, .ref m_value, .int v_faultCount, .ref m_faults, .ref m_reached])), (m_row, .inl (G.2.1, 20000, .inl a_row))]) := by
  refine Cn.of hl (by decide +kernel) rfl (Nat.le_of_ble_eq_true rfl) (fun M hQ => ?_)
  refine pb_eq (pc' := 0) (lo' := [(0, .ref h), (1, .int e), (2, .int bg)]) (rest' := []) (ws' := [(h, .inr (10, [.ref m_rels, .ref m_openRels, .ref m_closeRels, .ref m_openRel, .ref m_closeRel, .ref m_comment, .ref m_ends, .ref m_order, .int v_thrown, .int v_taped, .ref m_tape, .ref m_count, .ref m_nameSize, .ref m_names, .ref m_size, .ref m_data, .int v_lookedSize, .ref m_looked, .int v_fileSize, .ref m_file, .int v_directorySize, .ref m_directory, .int v_outSize, .ref m_out, .int v_rowSize, .ref m_row, .int v_bitAt, .int v_bitEnd, .int v_why, .int v_madeSize, .ref m_made, .ref m_length, .int v_firstCount, .int v_secondCount, .int v_heldBits, .int v_heldCount, .int v_pressedSize, .ref m_pressed, .int v_at, .int v_bad, .int v_markSize, .ref m_mark, .int v_relationCount, .ref m_idSize, .ref m_ids, .ref m_goalSize, .ref m_goals, .int v_valueSize, .ref m_value, .int v_faultCount, .ref m_faults, .ref m_reached])), (m_row, .inl (G.2.1, 20000, .inl a_row))]) ?_
  have zl0 : (0 : Int32).toInt = 0 := by decide
  have zl1 : (1 : Int32).toInt = 1 := by decide
  have zl2 : (2 : Int32).toInt = 2 := by decide
  have zl4 : (4 : Int32).toInt = 4 := by decide
  have n4 : (4 : Int32).toInt.toNat = 4 := by decide
  have n2 : (2 : Int32).toInt.toNat = 2 := by decide
  have v1 := av2 a_row (e.toInt + 28)
  have v2 := av4 a_row (e.toInt + 42)
  have v3 := av4 a_row (e.toInt + 20)
  refine pb_aload_n (pc := 0) d_Mod_isRecord_0 0 rfl rfl ?_
  refine pb_iload_n (pc := 1) d_Mod_isRecord_1 1 rfl rfl ?_
  refine pb_bipush (pc := 2) (v := 42) d_Mod_isRecord_2 (by decide) ?_
  refine pb_iadd (pc := 4) d_Mod_isRecord_4 ?_
  refine pb_topi (fun ix1 eix1 => ?_)
  try have tix1 : ix1.toInt = e.toInt + 42 := t2_add eix1 rfl (by decide) (by omega)
  refine pb_iconst (pc := 5) (v := 4) d_Mod_isRecord_5 (by decide) ?_
  refine pb_callV (pc := 6) (I := i_Mod_isRecord) (qb := 0) (ci := 10) (nA := 2) (rest := []) (wr := []) d_Mod_isRecord_6 (g_Mod_at hl G h m_rels m_openRels m_closeRels m_openRel m_closeRel m_comment m_ends m_order m_tape m_count m_nameSize m_names m_size m_data m_looked m_file m_directory m_out m_row m_made m_length m_pressed m_mark m_idSize m_ids m_goalSize m_goals m_value m_faults m_reached v_thrown v_taped v_lookedSize v_fileSize v_directorySize v_outSize v_rowSize v_bitAt v_bitEnd v_why v_madeSize v_firstCount v_secondCount v_heldBits v_heldCount v_pressedSize v_at v_bad v_markSize v_relationCount v_valueSize v_faultCount a_row ix1 4 (by first | assumption | omega (splitDisjunctions := false) | omega | decide) (by first | assumption | omega (splitDisjunctions := false) | omega | decide) (by first | assumption | omega (splitDisjunctions := false) | omega | decide) (by first | assumption | omega (splitDisjunctions := false) | omega | decide) F_a_row) rfl rfl [0, 1] [] (by decide) rfl rfl rfl (by decide) (by decide) k_1529 rfl k_128 k_1526 k_1528 k_88 ⟨rfl, hy_Mod_at⟩ (by decide) rfl rfl (Nat.le_of_ble_eq_true rfl) (by decide) (fun v9 ux3 ch2 => ?_)
  obtain ⟨r_4, rfl⟩ : ∃ z9, z9 = ux3 := ⟨_, rfl⟩
  obtain ⟨ech2, ch2⟩ := ch2
  have ech2 : v9 = some (.long r_4) := ech2
  subst ech2
  obtain ⟨fh5, fh6, fh7⟩ : (r_4.toInt = av a_row ix1.toInt (4 : Int32).toInt.toNat) ∧ (0 ≤ r_4.toInt) ∧ (r_4.toInt < 4294967296) := ch2
  rw [n4, show ix1.toInt = e.toInt + 42 by omega] at fh5
  refine pb_eq (pc' := 9) (lo' := [(0, .ref h), (1, .int e), (2, .int bg)]) (rest' := [.long r_4]) (ws' := [(h, .inr (10, [.ref m_rels, .ref m_openRels, .ref m_closeRels, .ref m_openRel, .ref m_closeRel, .ref m_comment, .ref m_ends, .ref m_order, .int v_thrown, .int v_taped, .ref m_tape, .ref m_count, .ref m_nameSize, .ref m_names, .ref m_size, .ref m_data, .int v_lookedSize, .ref m_looked, .int v_fileSize, .ref m_file, .int v_directorySize, .ref m_directory, .int v_outSize, .ref m_out, .int v_rowSize, .ref m_row, .int v_bitAt, .int v_bitEnd, .int v_why, .int v_madeSize, .ref m_made, .ref m_length, .int v_firstCount, .int v_secondCount, .int v_heldBits, .int v_heldCount, .int v_pressedSize, .ref m_pressed, .int v_at, .int v_bad, .int v_markSize, .ref m_mark, .int v_relationCount, .ref m_idSize, .ref m_ids, .ref m_goalSize, .ref m_goals, .int v_valueSize, .ref m_value, .int v_faultCount, .ref m_faults, .ref m_reached])), (m_row, .inl (G.2.1, 20000, .inl a_row))]) ?_
  refine pb_lstore_n (pc := 9) (lo' := [(3, .long r_4), (0, .ref h), (1, .int e), (2, .int bg)]) d_Mod_isRecord_9 rfl (by decide) rfl ?_
  refine pb_aload_n (pc := 10) d_Mod_isRecord_10 1 rfl rfl ?_
  refine pb_iload_n (pc := 11) d_Mod_isRecord_11 2 rfl rfl ?_
  refine pb_bipush (pc := 12) (v := 28) d_Mod_isRecord_12 (by decide) ?_
  refine pb_iadd (pc := 14) d_Mod_isRecord_14 ?_
  refine pb_topi (fun ix8 eix8 => ?_)
  try have tix8 : ix8.toInt = e.toInt + 28 := t2_add eix8 rfl (by decide) (by omega)
  refine pb_iconst (pc := 15) (v := 2) d_Mod_isRecord_15 (by decide) ?_
  refine pb_callV (pc := 16) (I := i_Mod_isRecord) (qb := 0) (ci := 10) (nA := 2) (rest := []) (wr := []) d_Mod_isRecord_16 (g_Mod_at hl G h m_rels m_openRels m_closeRels m_openRel m_closeRel m_comment m_ends m_order m_tape m_count m_nameSize m_names m_size m_data m_looked m_file m_directory m_out m_row m_made m_length m_pressed m_mark m_idSize m_ids m_goalSize m_goals m_value m_faults m_reached v_thrown v_taped v_lookedSize v_fileSize v_directorySize v_outSize v_rowSize v_bitAt v_bitEnd v_why v_madeSize v_firstCount v_secondCount v_heldBits v_heldCount v_pressedSize v_at v_bad v_markSize v_relationCount v_valueSize v_faultCount a_row ix8 2 (by first | assumption | omega (splitDisjunctions := false) | omega | decide) (by first | assumption | omega (splitDisjunctions := false) | omega | decide) (by first | assumption | omega (splitDisjunctions := false) | omega | decide) (by first | assumption | omega (splitDisjunctions := false) | omega | decide) F_a_row) rfl rfl [0, 1] [] (by decide) rfl rfl rfl (by decide) (by decide) k_1529 rfl k_128 k_1526 k_1528 k_88 ⟨rfl, hy_Mod_at⟩ (by decide) rfl rfl (Nat.le_of_ble_eq_true rfl) (by decide) (fun v9 ux10 ch9 => ?_)
  obtain ⟨r_11, rfl⟩ : ∃ z9, z9 = ux10 := ⟨_, rfl⟩
  obtain ⟨ech9, ch9⟩ := ch9
  have ech9 : v9 = some (.long r_11) := ech9
  subst ech9
  obtain ⟨fh12, fh13, fh14⟩ : (r_11.toInt = av a_row ix8.toInt (2 : Int32).toInt.toNat) ∧ (0 ≤ r_11.toInt) ∧ (r_11.toInt < 4294967296) := ch9
  rw [n2, show ix8.toInt = e.toInt + 28 by omega] at fh12
  refine pb_eq (pc' := 19) (lo' := [(3, .long r_4), (0, .ref h), (1, .int e), (2, .int bg)]) (rest' := [.long r_11]) (ws' := [(h, .inr (10, [.ref m_rels, .ref m_openRels, .ref m_closeRels, .ref m_openRel, .ref m_closeRel, .ref m_comment, .ref m_ends, .ref m_order, .int v_thrown, .int v_taped, .ref m_tape, .ref m_count, .ref m_nameSize, .ref m_names, .ref m_size, .ref m_data, .int v_lookedSize, .ref m_looked, .int v_fileSize, .ref m_file, .int v_directorySize, .ref m_directory, .int v_outSize, .ref m_out, .int v_rowSize, .ref m_row, .int v_bitAt, .int v_bitEnd, .int v_why, .int v_madeSize, .ref m_made, .ref m_length, .int v_firstCount, .int v_secondCount, .int v_heldBits, .int v_heldCount, .int v_pressedSize, .ref m_pressed, .int v_at, .int v_bad, .int v_markSize, .ref m_mark, .int v_relationCount, .ref m_idSize, .ref m_ids, .ref m_goalSize, .ref m_goals, .int v_valueSize, .ref m_value, .int v_faultCount, .ref m_faults, .ref m_reached])), (m_row, .inl (G.2.1, 20000, .inl a_row))]) ?_
  refine pb_l2i (pc := 19) d_Mod_isRecord_19 rfl ?_
  refine pb_topi (fun ix15 eix15 => ?_)
  try have tix15 : ix15.toInt = r_11.toInt := ti_l2i eix15 rfl (by omega) (by omega)
  refine pb_istore (pc := 20) (lo' := [(5, .int ix15), (3, .long r_4), (0, .ref h), (1, .int e), (2, .int bg)]) d_Mod_isRecord_20 (by decide) rfl ?_
  refine pb_lload_n (pc := 22) d_Mod_isRecord_22 1 rfl rfl ?_
  refine pb_ldc2 (pc := 23) (v := 30) d_Mod_isRecord_23 k_1541 ?_
  refine pb_ladd (pc := 26) d_Mod_isRecord_26 ?_
  refine pb_topl (fun jx16 ejx16 => ?_)
  try have tjx16 : jx16.toInt = r_4.toInt + 30 := tl_add ejx16 rfl (by decide) (by omega) (by omega)
  refine pb_iload (pc := 27) d_Mod_isRecord_27 0 rfl ?_
  refine pb_i2l (pc := 29) d_Mod_isRecord_29 rfl ?_
  refine pb_topl (fun jx17 ejx17 => ?_)
  have tjx17 : jx17.toInt = ix15.toInt := tl_i2l ejx17 rfl
  refine pb_ladd (pc := 30) d_Mod_isRecord_30 ?_
  refine pb_topl (fun jx18 ejx18 => ?_)
  try have tjx18 : jx18.toInt = jx16.toInt + jx17.toInt := tl_add ejx18 rfl rfl (by omega) (by omega)
  refine pb_aload_n (pc := 31) d_Mod_isRecord_31 2 rfl rfl ?_
  refine pb_iload_n (pc := 32) d_Mod_isRecord_32 3 rfl rfl ?_
  refine pb_bipush (pc := 33) (v := 20) d_Mod_isRecord_33 (by decide) ?_
  refine pb_iadd (pc := 35) d_Mod_isRecord_35 ?_
  refine pb_topi (fun ix19 eix19 => ?_)
  try have tix19 : ix19.toInt = e.toInt + 20 := t2_add eix19 rfl (by decide) (by omega)
  refine pb_iconst (pc := 36) (v := 4) d_Mod_isRecord_36 (by decide) ?_
  refine pb_callV (pc := 37) (I := i_Mod_isRecord) (qb := 0) (ci := 10) (nA := 2) (rest := [.long jx18]) (wr := []) d_Mod_isRecord_37 (g_Mod_at hl G h m_rels m_openRels m_closeRels m_openRel m_closeRel m_comment m_ends m_order m_tape m_count m_nameSize m_names m_size m_data m_looked m_file m_directory m_out m_row m_made m_length m_pressed m_mark m_idSize m_ids m_goalSize m_goals m_value m_faults m_reached v_thrown v_taped v_lookedSize v_fileSize v_directorySize v_outSize v_rowSize v_bitAt v_bitEnd v_why v_madeSize v_firstCount v_secondCount v_heldBits v_heldCount v_pressedSize v_at v_bad v_markSize v_relationCount v_valueSize v_faultCount a_row ix19 4 (by first | assumption | omega (splitDisjunctions := false) | omega | decide) (by first | assumption | omega (splitDisjunctions := false) | omega | decide) (by first | assumption | omega (splitDisjunctions := false) | omega | decide) (by first | assumption | omega (splitDisjunctions := false) | omega | decide) F_a_row) rfl rfl [0, 1] [] (by decide) rfl rfl rfl (by decide) (by decide) k_1529 rfl k_128 k_1526 k_1528 k_88 ⟨rfl, hy_Mod_at⟩ (by decide) rfl rfl (Nat.le_of_ble_eq_true rfl) (by decide) (fun v9 ux21 ch20 => ?_)
  obtain ⟨r_22, rfl⟩ : ∃ z9, z9 = ux21 := ⟨_, rfl⟩
  obtain ⟨ech20, ch20⟩ := ch20
  have ech20 : v9 = some (.long r_22) := ech20
  subst ech20
  obtain ⟨fh23, fh24, fh25⟩ : (r_22.toInt = av a_row ix19.toInt (4 : Int32).toInt.toNat) ∧ (0 ≤ r_22.toInt) ∧ (r_22.toInt < 4294967296) := ch20
  rw [n4, show ix19.toInt = e.toInt + 20 by omega] at fh23
  refine pb_eq (pc' := 40) (lo' := [(5, .int ix15), (3, .long r_4), (0, .ref h), (1, .int e), (2, .int bg)]) (rest' := [.long r_22, .long jx18]) (ws' := [(h, .inr (10, [.ref m_rels, .ref m_openRels, .ref m_closeRels, .ref m_openRel, .ref m_closeRel, .ref m_comment, .ref m_ends, .ref m_order, .int v_thrown, .int v_taped, .ref m_tape, .ref m_count, .ref m_nameSize, .ref m_names, .ref m_size, .ref m_data, .int v_lookedSize, .ref m_looked, .int v_fileSize, .ref m_file, .int v_directorySize, .ref m_directory, .int v_outSize, .ref m_out, .int v_rowSize, .ref m_row, .int v_bitAt, .int v_bitEnd, .int v_why, .int v_madeSize, .ref m_made, .ref m_length, .int v_firstCount, .int v_secondCount, .int v_heldBits, .int v_heldCount, .int v_pressedSize, .ref m_pressed, .int v_at, .int v_bad, .int v_markSize, .ref m_mark, .int v_relationCount, .ref m_idSize, .ref m_ids, .ref m_goalSize, .ref m_goals, .int v_valueSize, .ref m_value, .int v_faultCount, .ref m_faults, .ref m_reached])), (m_row, .inl (G.2.1, 20000, .inl a_row))]) ?_
  refine pb_ladd (pc := 40) d_Mod_isRecord_40 ?_
  refine pb_topl (fun jx26 ejx26 => ?_)
  try have tjx26 : jx26.toInt = jx18.toInt + r_22.toInt := tl_add ejx26 rfl rfl (by omega) (by omega)
  refine pb_iload_n (pc := 41) d_Mod_isRecord_41 4 rfl rfl ?_
  refine pb_i2l (pc := 42) d_Mod_isRecord_42 rfl ?_
  refine pb_topl (fun jx27 ejx27 => ?_)
  have tjx27 : jx27.toInt = bg.toInt := tl_i2l ejx27 rfl
  refine pb_lcmp (pc := 43) d_Mod_isRecord_43 ?_
  refine pb_topi (fun ix28 eix28 => ?_)
  have tix28 : (ix28.toInt < 0 ↔ jx26.toInt < jx27.toInt) ∧ (ix28.toInt = 0 ↔ jx26.toInt = jx27.toInt) ∧ (0 < ix28.toInt ↔ jx27.toInt < jx26.toInt) := tl_cmp eix28 rfl rfl
  refine pb_if_le (pc := 44) (tgt := 49) d_Mod_isRecord_44 (by decide) (fun wx29 => ?_) (fun wx29 => ?_)
  · have twx29 : ix28.toInt ≤ 0 := (ti_le rfl (by decide)).mp wx29
    refine pb_lload_n (pc := 49) d_Mod_isRecord_49 1 rfl rfl ?_
    refine pb_l2i (pc := 50) d_Mod_isRecord_50 rfl ?_
    refine pb_topi (fun ix30 eix30 => ?_)
    try have tix30 : ix30.toInt = r_4.toInt := ti_l2i eix30 rfl (by omega) (by omega)
    refine pb_istore (pc := 51) (lo' := [(6, .int ix30), (5, .int ix15), (3, .long r_4), (0, .ref h), (1, .int e), (2, .int bg)]) d_Mod_isRecord_51 (by decide) rfl ?_
    have hJ105_31 : ∀ (sm_ : Int32) (r6 : Int32) (n5 : Int32), (sm_.toInt = 0 ∨ sm_.toInt = 1) → (r6.toInt = av a_row (e.toInt + 42) 4) → (n5.toInt = av a_row (e.toInt + 28) 2) → (av a_row (e.toInt + 42) 4 + 30 + av a_row (e.toInt + 28) 2 + av a_row (e.toInt + 20) 4 ≤ bg.toInt) → pb_P l G M i_Mod_isRecord 105 [(7, .int sm_), (6, .int r6), (5, .int n5), (0, .ref h), (1, .int e), (2, .int bg)] [] [(h, .inr (10, [.ref m_rels, .ref m_openRels, .ref m_closeRels, .ref m_openRel, .ref m_closeRel, .ref m_comment, .ref m_ends, .ref m_order, .int v_thrown, .int v_taped, .ref m_tape, .ref m_count, .ref m_nameSize, .ref m_names, .ref m_size, .ref m_data, .int v_lookedSize, .ref m_looked, .int v_fileSize, .ref m_file, .int v_directorySize, .ref m_directory, .int v_outSize, .ref m_out, .int v_rowSize, .ref m_row, .int v_bitAt, .int v_bitEnd, .int v_why, .int v_madeSize, .ref m_made, .ref m_length, .int v_firstCount, .int v_secondCount, .int v_heldBits, .int v_heldCount, .int v_pressedSize, .ref m_pressed, .int v_at, .int v_bad, .int v_markSize, .ref m_mark, .int v_relationCount, .ref m_idSize, .ref m_ids, .ref m_goalSize, .ref m_goals, .int v_valueSize, .ref m_value, .int v_faultCount, .ref m_faults, .ref m_reached])), (m_row, .inl (G.2.1, 20000, .inl a_row))] 0 0 := by
      intro sm_ r6 n5 j0 j1 j2 j3
      refine pb_iconst (pc := 105) (v := 0) d_Mod_isRecord_105 (by decide) ?_
      refine pb_istore (pc := 106) (lo' := [(8, .int 0), (7, .int sm_), (6, .int r6), (5, .int n5), (0, .ref h), (1, .int e), (2, .int bg)]) d_Mod_isRecord_106 (by decide) rfl ?_
      have hL108_32 : ∀ (N9 : Nat) (s7 : Int32) (k8 : Int32), (0 ≤ k8.toInt) → (s7.toInt = 0 ∨ s7.toInt = 1) → ((20 - k8.toInt).toNat) < N9 → pb_P l G M i_Mod_isRecord 108 [(7, .int s7), (8, .int k8), (6, .int r6), (5, .int n5), (0, .ref h), (1, .int e), (2, .int bg)] [] [(h, .inr (10, [.ref m_rels, .ref m_openRels, .ref m_closeRels, .ref m_openRel, .ref m_closeRel, .ref m_comment, .ref m_ends, .ref m_order, .int v_thrown, .int v_taped, .ref m_tape, .ref m_count, .ref m_nameSize, .ref m_names, .ref m_size, .ref m_data, .int v_lookedSize, .ref m_looked, .int v_fileSize, .ref m_file, .int v_directorySize, .ref m_directory, .int v_outSize, .ref m_out, .int v_rowSize, .ref m_row, .int v_bitAt, .int v_bitEnd, .int v_why, .int v_madeSize, .ref m_made, .ref m_length, .int v_firstCount, .int v_secondCount, .int v_heldBits, .int v_heldCount, .int v_pressedSize, .ref m_pressed, .int v_at, .int v_bad, .int v_markSize, .ref m_mark, .int v_relationCount, .ref m_idSize, .ref m_ids, .ref m_goalSize, .ref m_goals, .int v_valueSize, .ref m_value, .int v_faultCount, .ref m_faults, .ref m_reached])), (m_row, .inl (G.2.1, 20000, .inl a_row))] 0 0 := by
        intro N9
        induction N9 with
        | zero => intro s7 k8 k0 k1 hm9; exact absurd hm9 (Nat.not_lt_zero _)
        | succ N9 ih108 =>
          intro s7 k8 k0 k1 hm9
          refine pb_iload (pc := 108) d_Mod_isRecord_108 1 rfl ?_
          refine pb_bipush (pc := 110) (v := 20) d_Mod_isRecord_110 (by decide) ?_
          refine pb_icmp_ge (pc := 112) (tgt := 161) d_Mod_isRecord_112 (by decide) (fun wx33 => ?_) (fun wx33 => ?_)
          · have twx33 : 20 ≤ k8.toInt := (ti_le (by decide) rfl).mp wx33
            refine pb_iconst (pc := 161) (v := 0) d_Mod_isRecord_161 (by decide) ?_
            refine pb_istore (pc := 162) (lo' := [(8, .int 0), (7, .int s7), (6, .int r6), (5, .int n5), (0, .ref h), (1, .int e), (2, .int bg)]) d_Mod_isRecord_162 (by decide) rfl ?_
            have hL164_34 : ∀ (N9 : Nat) (s9 : Int32) (k9 : Int32), (0 ≤ k9.toInt) → (s9.toInt = 0 ∨ s9.toInt = 1) → ((n5.toInt - k9.toInt).toNat) < N9 → pb_P l G M i_Mod_isRecord 164 [(7, .int s9), (8, .int k9), (6, .int r6), (5, .int n5), (0, .ref h), (1, .int e), (2, .int bg)] [] [(h, .inr (10, [.ref m_rels, .ref m_openRels, .ref m_closeRels, .ref m_openRel, .ref m_closeRel, .ref m_comment, .ref m_ends, .ref m_order, .int v_thrown, .int v_taped, .ref m_tape, .ref m_count, .ref m_nameSize, .ref m_names, .ref m_size, .ref m_data, .int v_lookedSize, .ref m_looked, .int v_fileSize, .ref m_file, .int v_directorySize, .ref m_directory, .int v_outSize, .ref m_out, .int v_rowSize, .ref m_row, .int v_bitAt, .int v_bitEnd, .int v_why, .int v_madeSize, .ref m_made, .ref m_length, .int v_firstCount, .int v_secondCount, .int v_heldBits, .int v_heldCount, .int v_pressedSize, .ref m_pressed, .int v_at, .int v_bad, .int v_markSize, .ref m_mark, .int v_relationCount, .ref m_idSize, .ref m_ids, .ref m_goalSize, .ref m_goals, .int v_valueSize, .ref m_value, .int v_faultCount, .ref m_faults, .ref m_reached])), (m_row, .inl (G.2.1, 20000, .inl a_row))] 0 0 := by
              intro N9
              induction N9 with
              | zero => intro s9 k9 m0 m1 hm9; exact absurd hm9 (Nat.not_lt_zero _)
              | succ N9 ih164 =>
                intro s9 k9 m0 m1 hm9
                refine pb_iload (pc := 164) d_Mod_isRecord_164 1 rfl ?_
                refine pb_iload (pc := 166) d_Mod_isRecord_166 3 rfl ?_
                refine pb_icmp_ge (pc := 168) (tgt := 217) d_Mod_isRecord_168 (by decide) (fun wx35 => ?_) (fun wx35 => ?_)
                · have twx35 : n5.toInt ≤ k9.toInt := (ti_le rfl rfl).mp wx35
                  refine pb_iload (pc := 217) d_Mod_isRecord_217 0 rfl ?_
                  exact pb_iret (pc := 219) hQ d_Mod_isRecord_219 rfl (nar_b (by omega)) (s9) ⟨rfl, (by (try dsimp only); first | done | assumption | omega (splitDisjunctions := false) | omega | decide), (by (try dsimp only); first | done | assumption | exact fun q9 => absurd q9 (by assumption) | exact fun q9 => absurd (by assumption) q9 | exact fun _ => (by omega (splitDisjunctions := false)) | omega (splitDisjunctions := false) | omega | decide)⟩ [0, 1] (by decide) rfl rfl (by decide) (by decide)
                · have twx35 : ¬ n5.toInt ≤ k9.toInt := fun z9 => wx35 ((ti_le rfl rfl).mpr z9)
                  refine pb_iload (pc := 171) d_Mod_isRecord_171 0 rfl ?_
                  refine pb_if_eq (pc := 173) (tgt := 217) d_Mod_isRecord_173 (by decide) (fun wx36 => ?_) (fun wx36 => ?_)
                  · have twx36 : s9.toInt = 0 := (ti_eq rfl (by decide)).mp wx36
                    refine pb_iload (pc := 217) d_Mod_isRecord_217 0 rfl ?_
                    exact pb_iret (pc := 219) hQ d_Mod_isRecord_219 rfl (nar_b (by omega)) (s9) ⟨rfl, (by (try dsimp only); first | done | assumption | omega (splitDisjunctions := false) | omega | decide), (by (try dsimp only); first | done | assumption | exact fun q9 => absurd q9 (by assumption) | exact fun q9 => absurd (by assumption) q9 | exact fun _ => (by omega (splitDisjunctions := false)) | omega (splitDisjunctions := false) | omega | decide)⟩ [0, 1] (by decide) rfl rfl (by decide) (by decide)
                  · have twx36 : ¬ s9.toInt = 0 := fun z9 => wx36 ((ti_eq rfl (by decide)).mpr z9)
                    refine pb_aload_n (pc := 176) d_Mod_isRecord_176 4 rfl rfl ?_
                    refine pb_get (pc := 177) d_Mod_isRecord_177 0 25 rfl rfl (by decide) in_Mod k_1171 rfl ?_
                    refine pb_iload (pc := 180) d_Mod_isRecord_180 2 rfl ?_
                    refine pb_bipush (pc := 182) (v := 30) d_Mod_isRecord_182 (by decide) ?_
                    refine pb_iadd (pc := 184) d_Mod_isRecord_184 ?_
                    refine pb_topi (fun ix37 eix37 => ?_)
                    try have tix37 : ix37.toInt = r6.toInt + 30 := t2_add eix37 rfl (by decide) (by omega)
                    refine pb_iload (pc := 185) d_Mod_isRecord_185 1 rfl ?_
                    refine pb_iadd (pc := 187) d_Mod_isRecord_187 ?_
                    refine pb_topi (fun ix38 eix38 => ?_)
                    try have tix38 : ix38.toInt = ix37.toInt + k9.toInt := t2_add eix38 rfl rfl (by omega)
                    refine pb_bald (pc := 188) d_Mod_isRecord_188 1 rfl (vp_in_iff.mpr (by omega)) ?_
                    refine pb_topi (fun ix39 eix39 => ?_)
                    refine pb_aload_n (pc := 189) d_Mod_isRecord_189 4 rfl rfl ?_
                    refine pb_get (pc := 190) d_Mod_isRecord_190 0 25 rfl rfl (by decide) in_Mod k_1171 rfl ?_
                    refine pb_iload_n (pc := 193) d_Mod_isRecord_193 5 rfl rfl ?_
                    refine pb_bipush (pc := 194) (v := 46) d_Mod_isRecord_194 (by decide) ?_
                    refine pb_iadd (pc := 196) d_Mod_isRecord_196 ?_
                    refine pb_topi (fun ix40 eix40 => ?_)
                    try have tix40 : ix40.toInt = e.toInt + 46 := t2_add eix40 rfl (by decide) (by omega)
                    refine pb_iload (pc := 197) d_Mod_isRecord_197 1 rfl ?_
                    refine pb_iadd (pc := 199) d_Mod_isRecord_199 ?_
                    refine pb_topi (fun ix41 eix41 => ?_)
                    try have tix41 : ix41.toInt = ix40.toInt + k9.toInt := t2_add eix41 rfl rfl (by omega)
                    refine pb_bald (pc := 200) d_Mod_isRecord_200 1 rfl (vp_in_iff.mpr (by omega)) ?_
                    refine pb_topi (fun ix42 eix42 => ?_)
                    refine pb_icmp_ne (pc := 201) (tgt := 208) d_Mod_isRecord_201 (by decide) (fun wx43 => ?_) (fun wx43 => ?_)
                    · have twx43 : ¬ ix39.toInt = ix42.toInt := fun z9 => wx43 ((ti_eq rfl rfl).mpr z9)
                      refine pb_iconst (pc := 208) (v := 0) d_Mod_isRecord_208 (by decide) ?_
                      refine pb_istore (pc := 209) (lo' := [(7, .int 0), (8, .int k9), (6, .int r6), (5, .int n5), (0, .ref h), (1, .int e), (2, .int bg)]) d_Mod_isRecord_209 (by decide) rfl ?_
                      refine pb_iincN (pc := 211) (c := 1) d_Mod_isRecord_211 1 rfl (by decide) (by decide) (fun ix44 eix44 => ?_)
                      have tix44 : ix44.toInt = k9.toInt + 1 := t2_add eix44 rfl (by decide) (by first | omega | (have r90 := ti_rng k9; have r91 := ti_rng ix44; have r92 := ti_rng r6; have r93 := ti_rng n5; have r94 := ti_rng e; have r95 := ti_rng bg; omega))
                      refine pb_eq (pc' := 214) (lo' := [(8, .int ix44), (7, .int 0), (6, .int r6), (5, .int n5), (0, .ref h), (1, .int e), (2, .int bg)]) (rest' := []) (ws' := [(h, .inr (10, [.ref m_rels, .ref m_openRels, .ref m_closeRels, .ref m_openRel, .ref m_closeRel, .ref m_comment, .ref m_ends, .ref m_order, .int v_thrown, .int v_taped, .ref m_tape, .ref m_count, .ref m_nameSize, .ref m_names, .ref m_size, .ref m_data, .int v_lookedSize, .ref m_looked, .int v_fileSize, .ref m_file, .int v_directorySize, .ref m_directory, .int v_outSize, .ref m_out, .int v_rowSize, .ref m_row, .int v_bitAt, .int v_bitEnd, .int v_why, .int v_madeSize, .ref m_made, .ref m_length, .int v_firstCount, .int v_secondCount, .int v_heldBits, .int v_heldCount, .int v_pressedSize, .ref m_pressed, .int v_at, .int v_bad, .int v_markSize, .ref m_mark, .int v_relationCount, .ref m_idSize, .ref m_ids, .ref m_goalSize, .ref m_goals, .int v_valueSize, .ref m_value, .int v_faultCount, .ref m_faults, .ref m_reached])), (m_row, .inl (G.2.1, 20000, .inl a_row))]) ?_
                      refine pb_goto (pc := 214) (tgt := 164) d_Mod_isRecord_214 (by decide) ?_
                      refine pb_re (ws' := [(h, .inr (10, [.ref m_rels, .ref m_openRels, .ref m_closeRels, .ref m_openRel, .ref m_closeRel, .ref m_comment, .ref m_ends, .ref m_order, .int v_thrown, .int v_taped, .ref m_tape, .ref m_count, .ref m_nameSize, .ref m_names, .ref m_size, .ref m_data, .int v_lookedSize, .ref m_looked, .int v_fileSize, .ref m_file, .int v_directorySize, .ref m_directory, .int v_outSize, .ref m_out, .int v_rowSize, .ref m_row, .int v_bitAt, .int v_bitEnd, .int v_why, .int v_madeSize, .ref m_made, .ref m_length, .int v_firstCount, .int v_secondCount, .int v_heldBits, .int v_heldCount, .int v_pressedSize, .ref m_pressed, .int v_at, .int v_bad, .int v_markSize, .ref m_mark, .int v_relationCount, .ref m_idSize, .ref m_ids, .ref m_goalSize, .ref m_goals, .int v_valueSize, .ref m_value, .int v_faultCount, .ref m_faults, .ref m_reached])), (m_row, .inl (G.2.1, 20000, .inl a_row))]) (lo' := [(7, .int 0), (8, .int ix44), (6, .int r6), (5, .int n5), (0, .ref h), (1, .int e), (2, .int bg)]) [0, 1] [1, 0, 2, 3, 4, 5, 6] (by decide) rfl rfl rfl ?_
                      exact ih164 0 ix44 (by first | assumption | omega (splitDisjunctions := false) | omega | decide) (by first | assumption | omega (splitDisjunctions := false) | omega | decide) (by omega)
                    · have twx43 : ix39.toInt = ix42.toInt := (ti_eq rfl rfl).mp wx43
                      refine pb_iconst (pc := 204) (v := 1) d_Mod_isRecord_204 (by decide) ?_
                      refine pb_goto (pc := 205) (tgt := 209) d_Mod_isRecord_205 (by decide) ?_
                      refine pb_istore (pc := 209) (lo' := [(7, .int 1), (8, .int k9), (6, .int r6), (5, .int n5), (0, .ref h), (1, .int e), (2, .int bg)]) d_Mod_isRecord_209 (by decide) rfl ?_
                      refine pb_iincN (pc := 211) (c := 1) d_Mod_isRecord_211 1 rfl (by decide) (by decide) (fun ix45 eix45 => ?_)
                      have tix45 : ix45.toInt = k9.toInt + 1 := t2_add eix45 rfl (by decide) (by first | omega | (have r90 := ti_rng k9; have r91 := ti_rng ix45; have r92 := ti_rng r6; have r93 := ti_rng n5; have r94 := ti_rng e; have r95 := ti_rng bg; omega))
                      refine pb_eq (pc' := 214) (lo' := [(8, .int ix45), (7, .int 1), (6, .int r6), (5, .int n5), (0, .ref h), (1, .int e), (2, .int bg)]) (rest' := []) (ws' := [(h, .inr (10, [.ref m_rels, .ref m_openRels, .ref m_closeRels, .ref m_openRel, .ref m_closeRel, .ref m_comment, .ref m_ends, .ref m_order, .int v_thrown, .int v_taped, .ref m_tape, .ref m_count, .ref m_nameSize, .ref m_names, .ref m_size, .ref m_data, .int v_lookedSize, .ref m_looked, .int v_fileSize, .ref m_file, .int v_directorySize, .ref m_directory, .int v_outSize, .ref m_out, .int v_rowSize, .ref m_row, .int v_bitAt, .int v_bitEnd, .int v_why, .int v_madeSize, .ref m_made, .ref m_length, .int v_firstCount, .int v_secondCount, .int v_heldBits, .int v_heldCount, .int v_pressedSize, .ref m_pressed, .int v_at, .int v_bad, .int v_markSize, .ref m_mark, .int v_relationCount, .ref m_idSize, .ref m_ids, .ref m_goalSize, .ref m_goals, .int v_valueSize, .ref m_value, .int v_faultCount, .ref m_faults, .ref m_reached])), (m_row, .inl (G.2.1, 20000, .inl a_row))]) ?_
                      refine pb_goto (pc := 214) (tgt := 164) d_Mod_isRecord_214 (by decide) ?_
                      refine pb_re (ws' := [(h, .inr (10, [.ref m_rels, .ref m_openRels, .ref m_closeRels, .ref m_openRel, .ref m_closeRel, .ref m_comment, .ref m_ends, .ref m_order, .int v_thrown, .int v_taped, .ref m_tape, .ref m_count, .ref m_nameSize, .ref m_names, .ref m_size, .ref m_data, .int v_lookedSize, .ref m_looked, .int v_fileSize, .ref m_file, .int v_directorySize, .ref m_directory, .int v_outSize, .ref m_out, .int v_rowSize, .ref m_row, .int v_bitAt, .int v_bitEnd, .int v_why, .int v_madeSize, .ref m_made, .ref m_length, .int v_firstCount, .int v_secondCount, .int v_heldBits, .int v_heldCount, .int v_pressedSize, .ref m_pressed, .int v_at, .int v_bad, .int v_markSize, .ref m_mark, .int v_relationCount, .ref m_idSize, .ref m_ids, .ref m_goalSize, .ref m_goals, .int v_valueSize, .ref m_value, .int v_faultCount, .ref m_faults, .ref m_reached])), (m_row, .inl (G.2.1, 20000, .inl a_row))]) (lo' := [(7, .int 1), (8, .int ix45), (6, .int r6), (5, .int n5), (0, .ref h), (1, .int e), (2, .int bg)]) [0, 1] [1, 0, 2, 3, 4, 5, 6] (by decide) rfl rfl rfl ?_
                      exact ih164 1 ix45 (by first | assumption | omega (splitDisjunctions := false) | omega | decide) (by first | assumption | omega (splitDisjunctions := false) | omega | decide) (by omega)
            refine pb_re (ws' := [(h, .inr (10, [.ref m_rels, .ref m_openRels, .ref m_closeRels, .ref m_openRel, .ref m_closeRel, .ref m_comment, .ref m_ends, .ref m_order, .int v_thrown, .int v_taped, .ref m_tape, .ref m_count, .ref m_nameSize, .ref m_names, .ref m_size, .ref m_data, .int v_lookedSize, .ref m_looked, .int v_fileSize, .ref m_file, .int v_directorySize, .ref m_directory, .int v_outSize, .ref m_out, .int v_rowSize, .ref m_row, .int v_bitAt, .int v_bitEnd, .int v_why, .int v_madeSize, .ref m_made, .ref m_length, .int v_firstCount, .int v_secondCount, .int v_heldBits, .int v_heldCount, .int v_pressedSize, .ref m_pressed, .int v_at, .int v_bad, .int v_markSize, .ref m_mark, .int v_relationCount, .ref m_idSize, .ref m_ids, .ref m_goalSize, .ref m_goals, .int v_valueSize, .ref m_value, .int v_faultCount, .ref m_faults, .ref m_reached])), (m_row, .inl (G.2.1, 20000, .inl a_row))]) (lo' := [(7, .int s7), (8, .int 0), (6, .int r6), (5, .int n5), (0, .ref h), (1, .int e), (2, .int bg)]) [0, 1] [1, 0, 2, 3, 4, 5, 6] (by decide) rfl rfl rfl ?_
            exact hL164_34 _ s7 0 (by first | assumption | omega (splitDisjunctions := false) | omega | decide) (by first | assumption | omega (splitDisjunctions := false) | omega | decide) (Nat.lt_succ_self _)
          · have twx33 : ¬ 20 ≤ k8.toInt := fun z9 => wx33 ((ti_le (by decide) rfl).mpr z9)
            refine pb_iload (pc := 115) d_Mod_isRecord_115 0 rfl ?_
            refine pb_if_eq (pc := 117) (tgt := 161) d_Mod_isRecord_117 (by decide) (fun wx46 => ?_) (fun wx46 => ?_)
            · have twx46 : s7.toInt = 0 := (ti_eq rfl (by decide)).mp wx46
              refine pb_iconst (pc := 161) (v := 0) d_Mod_isRecord_161 (by decide) ?_
              refine pb_istore (pc := 162) (lo' := [(8, .int 0), (7, .int s7), (6, .int r6), (5, .int n5), (0, .ref h), (1, .int e), (2, .int bg)]) d_Mod_isRecord_162 (by decide) rfl ?_
              have hL164_47 : ∀ (N9 : Nat) (s9 : Int32) (k9 : Int32), (0 ≤ k9.toInt) → (s9.toInt = 0 ∨ s9.toInt = 1) → ((n5.toInt - k9.toInt).toNat) < N9 → pb_P l G M i_Mod_isRecord 164 [(7, .int s9), (8, .int k9), (6, .int r6), (5, .int n5), (0, .ref h), (1, .int e), (2, .int bg)] [] [(h, .inr (10, [.ref m_rels, .ref m_openRels, .ref m_closeRels, .ref m_openRel, .ref m_closeRel, .ref m_comment, .ref m_ends, .ref m_order, .int v_thrown, .int v_taped, .ref m_tape, .ref m_count, .ref m_nameSize, .ref m_names, .ref m_size, .ref m_data, .int v_lookedSize, .ref m_looked, .int v_fileSize, .ref m_file, .int v_directorySize, .ref m_directory, .int v_outSize, .ref m_out, .int v_rowSize, .ref m_row, .int v_bitAt, .int v_bitEnd, .int v_why, .int v_madeSize, .ref m_made, .ref m_length, .int v_firstCount, .int v_secondCount, .int v_heldBits, .int v_heldCount, .int v_pressedSize, .ref m_pressed, .int v_at, .int v_bad, .int v_markSize, .ref m_mark, .int v_relationCount, .ref m_idSize, .ref m_ids, .ref m_goalSize, .ref m_goals, .int v_valueSize, .ref m_value, .int v_faultCount, .ref m_faults, .ref m_reached])), (m_row, .inl (G.2.1, 20000, .inl a_row))] 0 0 := by
                intro N9
                induction N9 with
                | zero => intro s9 k9 m0 m1 hm9; exact absurd hm9 (Nat.not_lt_zero _)
                | succ N9 ih164 =>
                  intro s9 k9 m0 m1 hm9
                  refine pb_iload (pc := 164) d_Mod_isRecord_164 1 rfl ?_
                  refine pb_iload (pc := 166) d_Mod_isRecord_166 3 rfl ?_
                  refine pb_icmp_ge (pc := 168) (tgt := 217) d_Mod_isRecord_168 (by decide) (fun wx48 => ?_) (fun wx48 => ?_)
                  · have twx48 : n5.toInt ≤ k9.toInt := (ti_le rfl rfl).mp wx48
                    refine pb_iload (pc := 217) d_Mod_isRecord_217 0 rfl ?_
                    exact pb_iret (pc := 219) hQ d_Mod_isRecord_219 rfl (nar_b (by omega)) (s9) ⟨rfl, (by (try dsimp only); first | done | assumption | omega (splitDisjunctions := false) | omega | decide), (by (try dsimp only); first | done | assumption | exact fun q9 => absurd q9 (by assumption) | exact fun q9 => absurd (by assumption) q9 | exact fun _ => (by omega (splitDisjunctions := false)) | omega (splitDisjunctions := false) | omega | decide)⟩ [0, 1] (by decide) rfl rfl (by decide) (by decide)
                  · have twx48 : ¬ n5.toInt ≤ k9.toInt := fun z9 => wx48 ((ti_le rfl rfl).mpr z9)
                    refine pb_iload (pc := 171) d_Mod_isRecord_171 0 rfl ?_
                    refine pb_if_eq (pc := 173) (tgt := 217) d_Mod_isRecord_173 (by decide) (fun wx49 => ?_) (fun wx49 => ?_)
                    · have twx49 : s9.toInt = 0 := (ti_eq rfl (by decide)).mp wx49
                      refine pb_iload (pc := 217) d_Mod_isRecord_217 0 rfl ?_
                      exact pb_iret (pc := 219) hQ d_Mod_isRecord_219 rfl (nar_b (by omega)) (s9) ⟨rfl, (by (try dsimp only); first | done | assumption | omega (splitDisjunctions := false) | omega | decide), (by (try dsimp only); first | done | assumption | exact fun q9 => absurd q9 (by assumption) | exact fun q9 => absurd (by assumption) q9 | exact fun _ => (by omega (splitDisjunctions := false)) | omega (splitDisjunctions := false) | omega | decide)⟩ [0, 1] (by decide) rfl rfl (by decide) (by decide)
                    · have twx49 : ¬ s9.toInt = 0 := fun z9 => wx49 ((ti_eq rfl (by decide)).mpr z9)
                      refine pb_aload_n (pc := 176) d_Mod_isRecord_176 4 rfl rfl ?_
                      refine pb_get (pc := 177) d_Mod_isRecord_177 0 25 rfl rfl (by decide) in_Mod k_1171 rfl ?_
                      refine pb_iload (pc := 180) d_Mod_isRecord_180 2 rfl ?_
                      refine pb_bipush (pc := 182) (v := 30) d_Mod_isRecord_182 (by decide) ?_
                      refine pb_iadd (pc := 184) d_Mod_isRecord_184 ?_
                      refine pb_topi (fun ix50 eix50 => ?_)
                      try have tix50 : ix50.toInt = r6.toInt + 30 := t2_add eix50 rfl (by decide) (by omega)
                      refine pb_iload (pc := 185) d_Mod_isRecord_185 1 rfl ?_
                      refine pb_iadd (pc := 187) d_Mod_isRecord_187 ?_
                      refine pb_topi (fun ix51 eix51 => ?_)
                      try have tix51 : ix51.toInt = ix50.toInt + k9.toInt := t2_add eix51 rfl rfl (by omega)
                      refine pb_bald (pc := 188) d_Mod_isRecord_188 1 rfl (vp_in_iff.mpr (by omega)) ?_
                      refine pb_topi (fun ix52 eix52 => ?_)
                      refine pb_aload_n (pc := 189) d_Mod_isRecord_189 4 rfl rfl ?_
                      refine pb_get (pc := 190) d_Mod_isRecord_190 0 25 rfl rfl (by decide) in_Mod k_1171 rfl ?_
                      refine pb_iload_n (pc := 193) d_Mod_isRecord_193 5 rfl rfl ?_
                      refine pb_bipush (pc := 194) (v := 46) d_Mod_isRecord_194 (by decide) ?_
                      refine pb_iadd (pc := 196) d_Mod_isRecord_196 ?_
                      refine pb_topi (fun ix53 eix53 => ?_)
                      try have tix53 : ix53.toInt = e.toInt + 46 := t2_add eix53 rfl (by decide) (by omega)
                      refine pb_iload (pc := 197) d_Mod_isRecord_197 1 rfl ?_
                      refine pb_iadd (pc := 199) d_Mod_isRecord_199 ?_
                      refine pb_topi (fun ix54 eix54 => ?_)
                      try have tix54 : ix54.toInt = ix53.toInt + k9.toInt := t2_add eix54 rfl rfl (by omega)
                      refine pb_bald (pc := 200) d_Mod_isRecord_200 1 rfl (vp_in_iff.mpr (by omega)) ?_
                      refine pb_topi (fun ix55 eix55 => ?_)
                      refine pb_icmp_ne (pc := 201) (tgt := 208) d_Mod_isRecord_201 (by decide) (fun wx56 => ?_) (fun wx56 => ?_)
                      · have twx56 : ¬ ix52.toInt = ix55.toInt := fun z9 => wx56 ((ti_eq rfl rfl).mpr z9)
                        refine pb_iconst (pc := 208) (v := 0) d_Mod_isRecord_208 (by decide) ?_
                        refine pb_istore (pc := 209) (lo' := [(7, .int 0), (8, .int k9), (6, .int r6), (5, .int n5), (0, .ref h), (1, .int e), (2, .int bg)]) d_Mod_isRecord_209 (by decide) rfl ?_
                        refine pb_iincN (pc := 211) (c := 1) d_Mod_isRecord_211 1 rfl (by decide) (by decide) (fun ix57 eix57 => ?_)
                        have tix57 : ix57.toInt = k9.toInt + 1 := t2_add eix57 rfl (by decide) (by first | omega | (have r90 := ti_rng k9; have r91 := ti_rng ix57; have r92 := ti_rng r6; have r93 := ti_rng n5; have r94 := ti_rng e; have r95 := ti_rng bg; omega))
                        refine pb_eq (pc' := 214) (lo' := [(8, .int ix57), (7, .int 0), (6, .int r6), (5, .int n5), (0, .ref h), (1, .int e), (2, .int bg)]) (rest' := []) (ws' := [(h, .inr (10, [.ref m_rels, .ref m_openRels, .ref m_closeRels, .ref m_openRel, .ref m_closeRel, .ref m_comment, .ref m_ends, .ref m_order, .int v_thrown, .int v_taped, .ref m_tape, .ref m_count, .ref m_nameSize, .ref m_names, .ref m_size, .ref m_data, .int v_lookedSize, .ref m_looked, .int v_fileSize, .ref m_file, .int v_directorySize, .ref m_directory, .int v_outSize, .ref m_out, .int v_rowSize, .ref m_row, .int v_bitAt, .int v_bitEnd, .int v_why, .int v_madeSize, .ref m_made, .ref m_length, .int v_firstCount, .int v_secondCount, .int v_heldBits, .int v_heldCount, .int v_pressedSize, .ref m_pressed, .int v_at, .int v_bad, .int v_markSize, .ref m_mark, .int v_relationCount, .ref m_idSize, .ref m_ids, .ref m_goalSize, .ref m_goals, .int v_valueSize, .ref m_value, .int v_faultCount, .ref m_faults, .ref m_reached])), (m_row, .inl (G.2.1, 20000, .inl a_row))]) ?_
                        refine pb_goto (pc := 214) (tgt := 164) d_Mod_isRecord_214 (by decide) ?_
                        refine pb_re (ws' := [(h, .inr (10, [.ref m_rels, .ref m_openRels, .ref m_closeRels, .ref m_openRel, .ref m_closeRel, .ref m_comment, .ref m_ends, .ref m_order, .int v_thrown, .int v_taped, .ref m_tape, .ref m_count, .ref m_nameSize, .ref m_names, .ref m_size, .ref m_data, .int v_lookedSize, .ref m_looked, .int v_fileSize, .ref m_file, .int v_directorySize, .ref m_directory, .int v_outSize, .ref m_out, .int v_rowSize, .ref m_row, .int v_bitAt, .int v_bitEnd, .int v_why, .int v_madeSize, .ref m_made, .ref m_length, .int v_firstCount, .int v_secondCount, .int v_heldBits, .int v_heldCount, .int v_pressedSize, .ref m_pressed, .int v_at, .int v_bad, .int v_markSize, .ref m_mark, .int v_relationCount, .ref m_idSize, .ref m_ids, .ref m_goalSize, .ref m_goals, .int v_valueSize, .ref m_value, .int v_faultCount, .ref m_faults, .ref m_reached])), (m_row, .inl (G.2.1, 20000, .inl a_row))]) (lo' := [(7, .int 0), (8, .int ix57), (6, .int r6), (5, .int n5), (0, .ref h), (1, .int e), (2, .int bg)]) [0, 1] [1, 0, 2, 3, 4, 5, 6] (by decide) rfl rfl rfl ?_
                        exact ih164 0 ix57 (by first | assumption | omega (splitDisjunctions := false) | omega | decide) (by first | assumption | omega (splitDisjunctions := false) | omega | decide) (by omega)
                      · have twx56 : ix52.toInt = ix55.toInt := (ti_eq rfl rfl).mp wx56
                        refine pb_iconst (pc := 204) (v := 1) d_Mod_isRecord_204 (by decide) ?_
                        refine pb_goto (pc := 205) (tgt := 209) d_Mod_isRecord_205 (by decide) ?_
                        refine pb_istore (pc := 209) (lo' := [(7, .int 1), (8, .int k9), (6, .int r6), (5, .int n5), (0, .ref h), (1, .int e), (2, .int bg)]) d_Mod_isRecord_209 (by decide) rfl ?_
                        refine pb_iincN (pc := 211) (c := 1) d_Mod_isRecord_211 1 rfl (by decide) (by decide) (fun ix58 eix58 => ?_)
                        have tix58 : ix58.toInt = k9.toInt + 1 := t2_add eix58 rfl (by decide) (by first | omega | (have r90 := ti_rng k9; have r91 := ti_rng ix58; have r92 := ti_rng r6; have r93 := ti_rng n5; have r94 := ti_rng e; have r95 := ti_rng bg; omega))
                        refine pb_eq (pc' := 214) (lo' := [(8, .int ix58), (7, .int 1), (6, .int r6), (5, .int n5), (0, .ref h), (1, .int e), (2, .int bg)]) (rest' := []) (ws' := [(h, .inr (10, [.ref m_rels, .ref m_openRels, .ref m_closeRels, .ref m_openRel, .ref m_closeRel, .ref m_comment, .ref m_ends, .ref m_order, .int v_thrown, .int v_taped, .ref m_tape, .ref m_count, .ref m_nameSize, .ref m_names, .ref m_size, .ref m_data, .int v_lookedSize, .ref m_looked, .int v_fileSize, .ref m_file, .int v_directorySize, .ref m_directory, .int v_outSize, .ref m_out, .int v_rowSize, .ref m_row, .int v_bitAt, .int v_bitEnd, .int v_why, .int v_madeSize, .ref m_made, .ref m_length, .int v_firstCount, .int v_secondCount, .int v_heldBits, .int v_heldCount, .int v_pressedSize, .ref m_pressed, .int v_at, .int v_bad, .int v_markSize, .ref m_mark, .int v_relationCount, .ref m_idSize, .ref m_ids, .ref m_goalSize, .ref m_goals, .int v_valueSize, .ref m_value, .int v_faultCount, .ref m_faults, .ref m_reached])), (m_row, .inl (G.2.1, 20000, .inl a_row))]) ?_
                        refine pb_goto (pc := 214) (tgt := 164) d_Mod_isRecord_214 (by decide) ?_
                        refine pb_re (ws' := [(h, .inr (10, [.ref m_rels, .ref m_openRels, .ref m_closeRels, .ref m_openRel, .ref m_closeRel, .ref m_comment, .ref m_ends, .ref m_order, .int v_thrown, .int v_taped, .ref m_tape, .ref m_count, .ref m_nameSize, .ref m_names, .ref m_size, .ref m_data, .int v_lookedSize, .ref m_looked, .int v_fileSize, .ref m_file, .int v_directorySize, .ref m_directory, .int v_outSize, .ref m_out, .int v_rowSize, .ref m_row, .int v_bitAt, .int v_bitEnd, .int v_why, .int v_madeSize, .ref m_made, .ref m_length, .int v_firstCount, .int v_secondCount, .int v_heldBits, .int v_heldCount, .int v_pressedSize, .ref m_pressed, .int v_at, .int v_bad, .int v_markSize, .ref m_mark, .int v_relationCount, .ref m_idSize, .ref m_ids, .ref m_goalSize, .ref m_goals, .int v_valueSize, .ref m_value, .int v_faultCount, .ref m_faults, .ref m_reached])), (m_row, .inl (G.2.1, 20000, .inl a_row))]) (lo' := [(7, .int 1), (8, .int ix58), (6, .int r6), (5, .int n5), (0, .ref h), (1, .int e), (2, .int bg)]) [0, 1] [1, 0, 2, 3, 4, 5, 6] (by decide) rfl rfl rfl ?_
                        exact ih164 1 ix58 (by first | assumption | omega (splitDisjunctions := false) | omega | decide) (by first | assumption | omega (splitDisjunctions := false) | omega | decide) (by omega)
              refine pb_re (ws' := [(h, .inr (10, [.ref m_rels, .ref m_openRels, .ref m_closeRels, .ref m_openRel, .ref m_closeRel, .ref m_comment, .ref m_ends, .ref m_order, .int v_thrown, .int v_taped, .ref m_tape, .ref m_count, .ref m_nameSize, .ref m_names, .ref m_size, .ref m_data, .int v_lookedSize, .ref m_looked, .int v_fileSize, .ref m_file, .int v_directorySize, .ref m_directory, .int v_outSize, .ref m_out, .int v_rowSize, .ref m_row, .int v_bitAt, .int v_bitEnd, .int v_why, .int v_madeSize, .ref m_made, .ref m_length, .int v_firstCount, .int v_secondCount, .int v_heldBits, .int v_heldCount, .int v_pressedSize, .ref m_pressed, .int v_at, .int v_bad, .int v_markSize, .ref m_mark, .int v_relationCount, .ref m_idSize, .ref m_ids, .ref m_goalSize, .ref m_goals, .int v_valueSize, .ref m_value, .int v_faultCount, .ref m_faults, .ref m_reached])), (m_row, .inl (G.2.1, 20000, .inl a_row))]) (lo' := [(7, .int s7), (8, .int 0), (6, .int r6), (5, .int n5), (0, .ref h), (1, .int e), (2, .int bg)]) [0, 1] [1, 0, 2, 3, 4, 5, 6] (by decide) rfl rfl rfl ?_
              exact hL164_47 _ s7 0 (by first | assumption | omega (splitDisjunctions := false) | omega | decide) (by first | assumption | omega (splitDisjunctions := false) | omega | decide) (Nat.lt_succ_self _)
            · have twx46 : ¬ s7.toInt = 0 := fun z9 => wx46 ((ti_eq rfl (by decide)).mpr z9)
              refine pb_aload_n (pc := 120) d_Mod_isRecord_120 4 rfl rfl ?_
              refine pb_get (pc := 121) d_Mod_isRecord_121 0 25 rfl rfl (by decide) in_Mod k_1171 rfl ?_
              refine pb_iload (pc := 124) d_Mod_isRecord_124 2 rfl ?_
              refine pb_bipush (pc := 126) (v := 8) d_Mod_isRecord_126 (by decide) ?_
              refine pb_iadd (pc := 128) d_Mod_isRecord_128 ?_
              refine pb_topi (fun ix59 eix59 => ?_)
              try have tix59 : ix59.toInt = r6.toInt + 8 := t2_add eix59 rfl (by decide) (by omega)
              refine pb_iload (pc := 129) d_Mod_isRecord_129 1 rfl ?_
              refine pb_iadd (pc := 131) d_Mod_isRecord_131 ?_
              refine pb_topi (fun ix60 eix60 => ?_)
              try have tix60 : ix60.toInt = ix59.toInt + k8.toInt := t2_add eix60 rfl rfl (by omega)
              refine pb_bald (pc := 132) d_Mod_isRecord_132 1 rfl (vp_in_iff.mpr (by omega)) ?_
              refine pb_topi (fun ix61 eix61 => ?_)
              refine pb_aload_n (pc := 133) d_Mod_isRecord_133 4 rfl rfl ?_
              refine pb_get (pc := 134) d_Mod_isRecord_134 0 25 rfl rfl (by decide) in_Mod k_1171 rfl ?_
              refine pb_iload_n (pc := 137) d_Mod_isRecord_137 5 rfl rfl ?_
              refine pb_bipush (pc := 138) (v := 10) d_Mod_isRecord_138 (by decide) ?_
              refine pb_iadd (pc := 140) d_Mod_isRecord_140 ?_
              refine pb_topi (fun ix62 eix62 => ?_)
              try have tix62 : ix62.toInt = e.toInt + 10 := t2_add eix62 rfl (by decide) (by omega)
              refine pb_iload (pc := 141) d_Mod_isRecord_141 1 rfl ?_
              refine pb_iadd (pc := 143) d_Mod_isRecord_143 ?_
              refine pb_topi (fun ix63 eix63 => ?_)
              try have tix63 : ix63.toInt = ix62.toInt + k8.toInt := t2_add eix63 rfl rfl (by omega)
              refine pb_bald (pc := 144) d_Mod_isRecord_144 1 rfl (vp_in_iff.mpr (by omega)) ?_
              refine pb_topi (fun ix64 eix64 => ?_)
              refine pb_icmp_ne (pc := 145) (tgt := 152) d_Mod_isRecord_145 (by decide) (fun wx65 => ?_) (fun wx65 => ?_)
              · have twx65 : ¬ ix61.toInt = ix64.toInt := fun z9 => wx65 ((ti_eq rfl rfl).mpr z9)
                refine pb_iconst (pc := 152) (v := 0) d_Mod_isRecord_152 (by decide) ?_
                refine pb_istore (pc := 153) (lo' := [(7, .int 0), (8, .int k8), (6, .int r6), (5, .int n5), (0, .ref h), (1, .int e), (2, .int bg)]) d_Mod_isRecord_153 (by decide) rfl ?_
                refine pb_iincN (pc := 155) (c := 1) d_Mod_isRecord_155 1 rfl (by decide) (by decide) (fun ix66 eix66 => ?_)
                have tix66 : ix66.toInt = k8.toInt + 1 := t2_add eix66 rfl (by decide) (by first | omega | (have r90 := ti_rng k8; have r91 := ti_rng ix66; have r92 := ti_rng r6; have r93 := ti_rng n5; have r94 := ti_rng e; have r95 := ti_rng bg; omega))
                refine pb_eq (pc' := 158) (lo' := [(8, .int ix66), (7, .int 0), (6, .int r6), (5, .int n5), (0, .ref h), (1, .int e), (2, .int bg)]) (rest' := []) (ws' := [(h, .inr (10, [.ref m_rels, .ref m_openRels, .ref m_closeRels, .ref m_openRel, .ref m_closeRel, .ref m_comment, .ref m_ends, .ref m_order, .int v_thrown, .int v_taped, .ref m_tape, .ref m_count, .ref m_nameSize, .ref m_names, .ref m_size, .ref m_data, .int v_lookedSize, .ref m_looked, .int v_fileSize, .ref m_file, .int v_directorySize, .ref m_directory, .int v_outSize, .ref m_out, .int v_rowSize, .ref m_row, .int v_bitAt, .int v_bitEnd, .int v_why, .int v_madeSize, .ref m_made, .ref m_length, .int v_firstCount, .int v_secondCount, .int v_heldBits, .int v_heldCount, .int v_pressedSize, .ref m_pressed, .int v_at, .int v_bad, .int v_markSize, .ref m_mark, .int v_relationCount, .ref m_idSize, .ref m_ids, .ref m_goalSize, .ref m_goals, .int v_valueSize, .ref m_value, .int v_faultCount, .ref m_faults, .ref m_reached])), (m_row, .inl (G.2.1, 20000, .inl a_row))]) ?_
                refine pb_goto (pc := 158) (tgt := 108) d_Mod_isRecord_158 (by decide) ?_
                refine pb_re (ws' := [(h, .inr (10, [.ref m_rels, .ref m_openRels, .ref m_closeRels, .ref m_openRel, .ref m_closeRel, .ref m_comment, .ref m_ends, .ref m_order, .int v_thrown, .int v_taped, .ref m_tape, .ref m_count, .ref m_nameSize, .ref m_names, .ref m_size, .ref m_data, .int v_lookedSize, .ref m_looked, .int v_fileSize, .ref m_file, .int v_directorySize, .ref m_directory, .int v_outSize, .ref m_out, .int v_rowSize, .ref m_row, .int v_bitAt, .int v_bitEnd, .int v_why, .int v_madeSize, .ref m_made, .ref m_length, .int v_firstCount, .int v_secondCount, .int v_heldBits, .int v_heldCount, .int v_pressedSize, .ref m_pressed, .int v_at, .int v_bad, .int v_markSize, .ref m_mark, .int v_relationCount, .ref m_idSize, .ref m_ids, .ref m_goalSize, .ref m_goals, .int v_valueSize, .ref m_value, .int v_faultCount, .ref m_faults, .ref m_reached])), (m_row, .inl (G.2.1, 20000, .inl a_row))]) (lo' := [(7, .int 0), (8, .int ix66), (6, .int r6), (5, .int n5), (0, .ref h), (1, .int e), (2, .int bg)]) [0, 1] [1, 0, 2, 3, 4, 5, 6] (by decide) rfl rfl rfl ?_
                exact ih108 0 ix66 (by first | assumption | omega (splitDisjunctions := false) | omega | decide) (by first | assumption | omega (splitDisjunctions := false) | omega | decide) (by omega)
              · have twx65 : ix61.toInt = ix64.toInt := (ti_eq rfl rfl).mp wx65
                refine pb_iconst (pc := 148) (v := 1) d_Mod_isRecord_148 (by decide) ?_
                refine pb_goto (pc := 149) (tgt := 153) d_Mod_isRecord_149 (by decide) ?_
                refine pb_istore (pc := 153) (lo' := [(7, .int 1), (8, .int k8), (6, .int r6), (5, .int n5), (0, .ref h), (1, .int e), (2, .int bg)]) d_Mod_isRecord_153 (by decide) rfl ?_
                refine pb_iincN (pc := 155) (c := 1) d_Mod_isRecord_155 1 rfl (by decide) (by decide) (fun ix67 eix67 => ?_)
                have tix67 : ix67.toInt = k8.toInt + 1 := t2_add eix67 rfl (by decide) (by first | omega | (have r90 := ti_rng k8; have r91 := ti_rng ix67; have r92 := ti_rng r6; have r93 := ti_rng n5; have r94 := ti_rng e; have r95 := ti_rng bg; omega))
                refine pb_eq (pc' := 158) (lo' := [(8, .int ix67), (7, .int 1), (6, .int r6), (5, .int n5), (0, .ref h), (1, .int e), (2, .int bg)]) (rest' := []) (ws' := [(h, .inr (10, [.ref m_rels, .ref m_openRels, .ref m_closeRels, .ref m_openRel, .ref m_closeRel, .ref m_comment, .ref m_ends, .ref m_order, .int v_thrown, .int v_taped, .ref m_tape, .ref m_count, .ref m_nameSize, .ref m_names, .ref m_size, .ref m_data, .int v_lookedSize, .ref m_looked, .int v_fileSize, .ref m_file, .int v_directorySize, .ref m_directory, .int v_outSize, .ref m_out, .int v_rowSize, .ref m_row, .int v_bitAt, .int v_bitEnd, .int v_why, .int v_madeSize, .ref m_made, .ref m_length, .int v_firstCount, .int v_secondCount, .int v_heldBits, .int v_heldCount, .int v_pressedSize, .ref m_pressed, .int v_at, .int v_bad, .int v_markSize, .ref m_mark, .int v_relationCount, .ref m_idSize, .ref m_ids, .ref m_goalSize, .ref m_goals, .int v_valueSize, .ref m_value, .int v_faultCount, .ref m_faults, .ref m_reached])), (m_row, .inl (G.2.1, 20000, .inl a_row))]) ?_
                refine pb_goto (pc := 158) (tgt := 108) d_Mod_isRecord_158 (by decide) ?_
                refine pb_re (ws' := [(h, .inr (10, [.ref m_rels, .ref m_openRels, .ref m_closeRels, .ref m_openRel, .ref m_closeRel, .ref m_comment, .ref m_ends, .ref m_order, .int v_thrown, .int v_taped, .ref m_tape, .ref m_count, .ref m_nameSize, .ref m_names, .ref m_size, .ref m_data, .int v_lookedSize, .ref m_looked, .int v_fileSize, .ref m_file, .int v_directorySize, .ref m_directory, .int v_outSize, .ref m_out, .int v_rowSize, .ref m_row, .int v_bitAt, .int v_bitEnd, .int v_why, .int v_madeSize, .ref m_made, .ref m_length, .int v_firstCount, .int v_secondCount, .int v_heldBits, .int v_heldCount, .int v_pressedSize, .ref m_pressed, .int v_at, .int v_bad, .int v_markSize, .ref m_mark, .int v_relationCount, .ref m_idSize, .ref m_ids, .ref m_goalSize, .ref m_goals, .int v_valueSize, .ref m_value, .int v_faultCount, .ref m_faults, .ref m_reached])), (m_row, .inl (G.2.1, 20000, .inl a_row))]) (lo' := [(7, .int 1), (8, .int ix67), (6, .int r6), (5, .int n5), (0, .ref h), (1, .int e), (2, .int bg)]) [0, 1] [1, 0, 2, 3, 4, 5, 6] (by decide) rfl rfl rfl ?_
                exact ih108 1 ix67 (by first | assumption | omega (splitDisjunctions := false) | omega | decide) (by first | assumption | omega (splitDisjunctions := false) | omega | decide) (by omega)
      refine pb_re (ws' := [(h, .inr (10, [.ref m_rels, .ref m_openRels, .ref m_closeRels, .ref m_openRel, .ref m_closeRel, .ref m_comment, .ref m_ends, .ref m_order, .int v_thrown, .int v_taped, .ref m_tape, .ref m_count, .ref m_nameSize, .ref m_names, .ref m_size, .ref m_data, .int v_lookedSize, .ref m_looked, .int v_fileSize, .ref m_file, .int v_directorySize, .ref m_directory, .int v_outSize, .ref m_out, .int v_rowSize, .ref m_row, .int v_bitAt, .int v_bitEnd, .int v_why, .int v_madeSize, .ref m_made, .ref m_length, .int v_firstCount, .int v_secondCount, .int v_heldBits, .int v_heldCount, .int v_pressedSize, .ref m_pressed, .int v_at, .int v_bad, .int v_markSize, .ref m_mark, .int v_relationCount, .ref m_idSize, .ref m_ids, .ref m_goalSize, .ref m_goals, .int v_valueSize, .ref m_value, .int v_faultCount, .ref m_faults, .ref m_reached])), (m_row, .inl (G.2.1, 20000, .inl a_row))]) (lo' := [(7, .int sm_), (8, .int 0), (6, .int r6), (5, .int n5), (0, .ref h), (1, .int e), (2, .int bg)]) [0, 1] [1, 0, 2, 3, 4, 5, 6] (by decide) rfl rfl rfl ?_
      exact hL108_32 _ sm_ 0 (by first | assumption | omega (splitDisjunctions := false) | omega | decide) (by first | assumption | omega (splitDisjunctions := false) | omega | decide) (Nat.lt_succ_self _)
    refine pb_aload_n (pc := 53) d_Mod_isRecord_53 3 rfl rfl ?_
    refine pb_iload (pc := 54) d_Mod_isRecord_54 0 rfl ?_
    refine pb_iconst (pc := 56) (v := 4) d_Mod_isRecord_56 (by decide) ?_
    refine pb_callV (pc := 57) (I := i_Mod_isRecord) (qb := 0) (ci := 10) (nA := 2) (rest := []) (wr := []) d_Mod_isRecord_57 (g_Mod_at hl G h m_rels m_openRels m_closeRels m_openRel m_closeRel m_comment m_ends m_order m_tape m_count m_nameSize m_names m_size m_data m_looked m_file m_directory m_out m_row m_made m_length m_pressed m_mark m_idSize m_ids m_goalSize m_goals m_value m_faults m_reached v_thrown v_taped v_lookedSize v_fileSize v_directorySize v_outSize v_rowSize v_bitAt v_bitEnd v_why v_madeSize v_firstCount v_secondCount v_heldBits v_heldCount v_pressedSize v_at v_bad v_markSize v_relationCount v_valueSize v_faultCount a_row ix30 4 (by first | assumption | omega (splitDisjunctions := false) | omega | decide) (by first | assumption | omega (splitDisjunctions := false) | omega | decide) (by first | assumption | omega (splitDisjunctions := false) | omega | decide) (by first | assumption | omega (splitDisjunctions := false) | omega | decide) F_a_row) rfl rfl [0, 1] [] (by decide) rfl rfl rfl (by decide) (by decide) k_1529 rfl k_128 k_1526 k_1528 k_88 ⟨rfl, hy_Mod_at⟩ (by decide) rfl rfl (Nat.le_of_ble_eq_true rfl) (by decide) (fun v9 ux69 ch68 => ?_)
    obtain ⟨r_70, rfl⟩ : ∃ z9, z9 = ux69 := ⟨_, rfl⟩
    obtain ⟨ech68, ch68⟩ := ch68
    have ech68 : v9 = some (.long r_70) := ech68
    subst ech68
    obtain ⟨fh71, fh72, fh73⟩ : (r_70.toInt = av a_row ix30.toInt (4 : Int32).toInt.toNat) ∧ (0 ≤ r_70.toInt) ∧ (r_70.toInt < 4294967296) := ch68
    refine pb_eq (pc' := 60) (lo' := [(6, .int ix30), (5, .int ix15), (3, .long r_4), (0, .ref h), (1, .int e), (2, .int bg)]) (rest' := [.long r_70]) (ws' := [(h, .inr (10, [.ref m_rels, .ref m_openRels, .ref m_closeRels, .ref m_openRel, .ref m_closeRel, .ref m_comment, .ref m_ends, .ref m_order, .int v_thrown, .int v_taped, .ref m_tape, .ref m_count, .ref m_nameSize, .ref m_names, .ref m_size, .ref m_data, .int v_lookedSize, .ref m_looked, .int v_fileSize, .ref m_file, .int v_directorySize, .ref m_directory, .int v_outSize, .ref m_out, .int v_rowSize, .ref m_row, .int v_bitAt, .int v_bitEnd, .int v_why, .int v_madeSize, .ref m_made, .ref m_length, .int v_firstCount, .int v_secondCount, .int v_heldBits, .int v_heldCount, .int v_pressedSize, .ref m_pressed, .int v_at, .int v_bad, .int v_markSize, .ref m_mark, .int v_relationCount, .ref m_idSize, .ref m_ids, .ref m_goalSize, .ref m_goals, .int v_valueSize, .ref m_value, .int v_faultCount, .ref m_faults, .ref m_reached])), (m_row, .inl (G.2.1, 20000, .inl a_row))]) ?_
    refine pb_ldc2 (pc := 60) (v := 67324752) d_Mod_isRecord_60 k_1496 ?_
    refine pb_lcmp (pc := 63) d_Mod_isRecord_63 ?_
    refine pb_topi (fun ix74 eix74 => ?_)
    have tix74 : (ix74.toInt < 0 ↔ r_70.toInt < 67324752) ∧ (ix74.toInt = 0 ↔ r_70.toInt = 67324752) ∧ (0 < ix74.toInt ↔ 67324752 < r_70.toInt) := tl_cmp eix74 rfl (by decide)
    refine pb_if_ne (pc := 64) (tgt := 102) d_Mod_isRecord_64 (by decide) (fun wx75 => ?_) (fun wx75 => ?_)
    · have twx75 : ¬ ix74.toInt = 0 := fun z9 => wx75 ((ti_eq rfl (by decide)).mpr z9)
      refine pb_iconst (pc := 102) (v := 0) d_Mod_isRecord_102 (by decide) ?_
      refine pb_istore (pc := 103) (lo' := [(7, .int 0), (6, .int ix30), (5, .int ix15), (3, .long r_4), (0, .ref h), (1, .int e), (2, .int bg)]) d_Mod_isRecord_103 (by decide) rfl ?_
      refine pb_re (ws' := [(h, .inr (10, [.ref m_rels, .ref m_openRels, .ref m_closeRels, .ref m_openRel, .ref m_closeRel, .ref m_comment, .ref m_ends, .ref m_order, .int v_thrown, .int v_taped, .ref m_tape, .ref m_count, .ref m_nameSize, .ref m_names, .ref m_size, .ref m_data, .int v_lookedSize, .ref m_looked, .int v_fileSize, .ref m_file, .int v_directorySize, .ref m_directory, .int v_outSize, .ref m_out, .int v_rowSize, .ref m_row, .int v_bitAt, .int v_bitEnd, .int v_why, .int v_madeSize, .ref m_made, .ref m_length, .int v_firstCount, .int v_secondCount, .int v_heldBits, .int v_heldCount, .int v_pressedSize, .ref m_pressed, .int v_at, .int v_bad, .int v_markSize, .ref m_mark, .int v_relationCount, .ref m_idSize, .ref m_ids, .ref m_goalSize, .ref m_goals, .int v_valueSize, .ref m_value, .int v_faultCount, .ref m_faults, .ref m_reached])), (m_row, .inl (G.2.1, 20000, .inl a_row))]) (lo' := [(7, .int 0), (6, .int ix30), (5, .int ix15), (0, .ref h), (1, .int e), (2, .int bg)]) [0, 1] [0, 1, 2, 4, 5, 6] (by decide) rfl rfl rfl ?_
      exact hJ105_31 0 ix30 ix15 (by first | assumption | omega (splitDisjunctions := false) | omega | decide) (by first | assumption | omega (splitDisjunctions := false) | omega | decide) (by first | assumption | omega (splitDisjunctions := false) | omega | decide) (by first | assumption | omega (splitDisjunctions := false) | omega | decide)
    · have twx75 : ix74.toInt = 0 := (ti_eq rfl (by decide)).mp wx75
      refine pb_aload_n (pc := 67) d_Mod_isRecord_67 3 rfl rfl ?_
      refine pb_iload (pc := 68) d_Mod_isRecord_68 0 rfl ?_
      refine pb_iconst (pc := 70) (v := 4) d_Mod_isRecord_70 (by decide) ?_
      refine pb_iadd (pc := 71) d_Mod_isRecord_71 ?_
      refine pb_topi (fun ix76 eix76 => ?_)
      try have tix76 : ix76.toInt = ix30.toInt + 4 := t2_add eix76 rfl (by decide) (by omega)
      refine pb_iconst (pc := 72) (v := 4) d_Mod_isRecord_72 (by decide) ?_
      refine pb_callV (pc := 73) (I := i_Mod_isRecord) (qb := 0) (ci := 10) (nA := 2) (rest := []) (wr := []) d_Mod_isRecord_73 (g_Mod_at hl G h m_rels m_openRels m_closeRels m_openRel m_closeRel m_comment m_ends m_order m_tape m_count m_nameSize m_names m_size m_data m_looked m_file m_directory m_out m_row m_made m_length m_pressed m_mark m_idSize m_ids m_goalSize m_goals m_value m_faults m_reached v_thrown v_taped v_lookedSize v_fileSize v_directorySize v_outSize v_rowSize v_bitAt v_bitEnd v_why v_madeSize v_firstCount v_secondCount v_heldBits v_heldCount v_pressedSize v_at v_bad v_markSize v_relationCount v_valueSize v_faultCount a_row ix76 4 (by first | assumption | omega (splitDisjunctions := false) | omega | decide) (by first | assumption | omega (splitDisjunctions := false) | omega | decide) (by first | assumption | omega (splitDisjunctions := false) | omega | decide) (by first | assumption | omega (splitDisjunctions := false) | omega | decide) F_a_row) rfl rfl [0, 1] [] (by decide) rfl rfl rfl (by decide) (by decide) k_1529 rfl k_128 k_1526 k_1528 k_88 ⟨rfl, hy_Mod_at⟩ (by decide) rfl rfl (Nat.le_of_ble_eq_true rfl) (by decide) (fun v9 ux78 ch77 => ?_)
      obtain ⟨r_79, rfl⟩ : ∃ z9, z9 = ux78 := ⟨_, rfl⟩
      obtain ⟨ech77, ch77⟩ := ch77
      have ech77 : v9 = some (.long r_79) := ech77
      subst ech77
      obtain ⟨fh80, fh81, fh82⟩ : (r_79.toInt = av a_row ix76.toInt (4 : Int32).toInt.toNat) ∧ (0 ≤ r_79.toInt) ∧ (r_79.toInt < 4294967296) := ch77
      refine pb_eq (pc' := 76) (lo' := [(6, .int ix30), (5, .int ix15), (3, .long r_4), (0, .ref h), (1, .int e), (2, .int bg)]) (rest' := [.long r_79]) (ws' := [(h, .inr (10, [.ref m_rels, .ref m_openRels, .ref m_closeRels, .ref m_openRel, .ref m_closeRel, .ref m_comment, .ref m_ends, .ref m_order, .int v_thrown, .int v_taped, .ref m_tape, .ref m_count, .ref m_nameSize, .ref m_names, .ref m_size, .ref m_data, .int v_lookedSize, .ref m_looked, .int v_fileSize, .ref m_file, .int v_directorySize, .ref m_directory, .int v_outSize, .ref m_out, .int v_rowSize, .ref m_row, .int v_bitAt, .int v_bitEnd, .int v_why, .int v_madeSize, .ref m_made, .ref m_length, .int v_firstCount, .int v_secondCount, .int v_heldBits, .int v_heldCount, .int v_pressedSize, .ref m_pressed, .int v_at, .int v_bad, .int v_markSize, .ref m_mark, .int v_relationCount, .ref m_idSize, .ref m_ids, .ref m_goalSize, .ref m_goals, .int v_valueSize, .ref m_value, .int v_faultCount, .ref m_faults, .ref m_reached])), (m_row, .inl (G.2.1, 20000, .inl a_row))]) ?_
      refine pb_ldc2 (pc := 76) (v := 20) d_Mod_isRecord_76 k_1501 ?_
      refine pb_lcmp (pc := 79) d_Mod_isRecord_79 ?_
      refine pb_topi (fun ix83 eix83 => ?_)
      have tix83 : (ix83.toInt < 0 ↔ r_79.toInt < 20) ∧ (ix83.toInt = 0 ↔ r_79.toInt = 20) ∧ (0 < ix83.toInt ↔ 20 < r_79.toInt) := tl_cmp eix83 rfl (by decide)
      refine pb_if_ne (pc := 80) (tgt := 102) d_Mod_isRecord_80 (by decide) (fun wx84 => ?_) (fun wx84 => ?_)
      · have twx84 : ¬ ix83.toInt = 0 := fun z9 => wx84 ((ti_eq rfl (by decide)).mpr z9)
        refine pb_iconst (pc := 102) (v := 0) d_Mod_isRecord_102 (by decide) ?_
        refine pb_istore (pc := 103) (lo' := [(7, .int 0), (6, .int ix30), (5, .int ix15), (3, .long r_4), (0, .ref h), (1, .int e), (2, .int bg)]) d_Mod_isRecord_103 (by decide) rfl ?_
        refine pb_re (ws' := [(h, .inr (10, [.ref m_rels, .ref m_openRels, .ref m_closeRels, .ref m_openRel, .ref m_closeRel, .ref m_comment, .ref m_ends, .ref m_order, .int v_thrown, .int v_taped, .ref m_tape, .ref m_count, .ref m_nameSize, .ref m_names, .ref m_size, .ref m_data, .int v_lookedSize, .ref m_looked, .int v_fileSize, .ref m_file, .int v_directorySize, .ref m_directory, .int v_outSize, .ref m_out, .int v_rowSize, .ref m_row, .int v_bitAt, .int v_bitEnd, .int v_why, .int v_madeSize, .ref m_made, .ref m_length, .int v_firstCount, .int v_secondCount, .int v_heldBits, .int v_heldCount, .int v_pressedSize, .ref m_pressed, .int v_at, .int v_bad, .int v_markSize, .ref m_mark, .int v_relationCount, .ref m_idSize, .ref m_ids, .ref m_goalSize, .ref m_goals, .int v_valueSize, .ref m_value, .int v_faultCount, .ref m_faults, .ref m_reached])), (m_row, .inl (G.2.1, 20000, .inl a_row))]) (lo' := [(7, .int 0), (6, .int ix30), (5, .int ix15), (0, .ref h), (1, .int e), (2, .int bg)]) [0, 1] [0, 1, 2, 4, 5, 6] (by decide) rfl rfl rfl ?_
        exact hJ105_31 0 ix30 ix15 (by first | assumption | omega (splitDisjunctions := false) | omega | decide) (by first | assumption | omega (splitDisjunctions := false) | omega | decide) (by first | assumption | omega (splitDisjunctions := false) | omega | decide) (by first | assumption | omega (splitDisjunctions := false) | omega | decide)
      · have twx84 : ix83.toInt = 0 := (ti_eq rfl (by decide)).mp wx84
        refine pb_aload_n (pc := 83) d_Mod_isRecord_83 3 rfl rfl ?_
        refine pb_iload (pc := 84) d_Mod_isRecord_84 0 rfl ?_
        refine pb_bipush (pc := 86) (v := 28) d_Mod_isRecord_86 (by decide) ?_
        refine pb_iadd (pc := 88) d_Mod_isRecord_88 ?_
        refine pb_topi (fun ix85 eix85 => ?_)
        try have tix85 : ix85.toInt = ix30.toInt + 28 := t2_add eix85 rfl (by decide) (by omega)
        refine pb_iconst (pc := 89) (v := 2) d_Mod_isRecord_89 (by decide) ?_
        refine pb_callV (pc := 90) (I := i_Mod_isRecord) (qb := 0) (ci := 10) (nA := 2) (rest := []) (wr := []) d_Mod_isRecord_90 (g_Mod_at hl G h m_rels m_openRels m_closeRels m_openRel m_closeRel m_comment m_ends m_order m_tape m_count m_nameSize m_names m_size m_data m_looked m_file m_directory m_out m_row m_made m_length m_pressed m_mark m_idSize m_ids m_goalSize m_goals m_value m_faults m_reached v_thrown v_taped v_lookedSize v_fileSize v_directorySize v_outSize v_rowSize v_bitAt v_bitEnd v_why v_madeSize v_firstCount v_secondCount v_heldBits v_heldCount v_pressedSize v_at v_bad v_markSize v_relationCount v_valueSize v_faultCount a_row ix85 2 (by first | assumption | omega (splitDisjunctions := false) | omega | decide) (by first | assumption | omega (splitDisjunctions := false) | omega | decide) (by first | assumption | omega (splitDisjunctions := false) | omega | decide) (by first | assumption | omega (splitDisjunctions := false) | omega | decide) F_a_row) rfl rfl [0, 1] [] (by decide) rfl rfl rfl (by decide) (by decide) k_1529 rfl k_128 k_1526 k_1528 k_88 ⟨rfl, hy_Mod_at⟩ (by decide) rfl rfl (Nat.le_of_ble_eq_true rfl) (by decide) (fun v9 ux87 ch86 => ?_)
        obtain ⟨r_88, rfl⟩ : ∃ z9, z9 = ux87 := ⟨_, rfl⟩
        obtain ⟨ech86, ch86⟩ := ch86
        have ech86 : v9 = some (.long r_88) := ech86
        subst ech86
        obtain ⟨fh89, fh90, fh91⟩ : (r_88.toInt = av a_row ix85.toInt (2 : Int32).toInt.toNat) ∧ (0 ≤ r_88.toInt) ∧ (r_88.toInt < 4294967296) := ch86
        refine pb_eq (pc' := 93) (lo' := [(6, .int ix30), (5, .int ix15), (3, .long r_4), (0, .ref h), (1, .int e), (2, .int bg)]) (rest' := [.long r_88]) (ws' := [(h, .inr (10, [.ref m_rels, .ref m_openRels, .ref m_closeRels, .ref m_openRel, .ref m_closeRel, .ref m_comment, .ref m_ends, .ref m_order, .int v_thrown, .int v_taped, .ref m_tape, .ref m_count, .ref m_nameSize, .ref m_names, .ref m_size, .ref m_data, .int v_lookedSize, .ref m_looked, .int v_fileSize, .ref m_file, .int v_directorySize, .ref m_directory, .int v_outSize, .ref m_out, .int v_rowSize, .ref m_row, .int v_bitAt, .int v_bitEnd, .int v_why, .int v_madeSize, .ref m_made, .ref m_length, .int v_firstCount, .int v_secondCount, .int v_heldBits, .int v_heldCount, .int v_pressedSize, .ref m_pressed, .int v_at, .int v_bad, .int v_markSize, .ref m_mark, .int v_relationCount, .ref m_idSize, .ref m_ids, .ref m_goalSize, .ref m_goals, .int v_valueSize, .ref m_value, .int v_faultCount, .ref m_faults, .ref m_reached])), (m_row, .inl (G.2.1, 20000, .inl a_row))]) ?_
        refine pb_lconst (pc := 93) (v := 0) d_Mod_isRecord_93 (by decide) ?_
        refine pb_lcmp (pc := 94) d_Mod_isRecord_94 ?_
        refine pb_topi (fun ix92 eix92 => ?_)
        have tix92 : (ix92.toInt < 0 ↔ r_88.toInt < 0) ∧ (ix92.toInt = 0 ↔ r_88.toInt = 0) ∧ (0 < ix92.toInt ↔ 0 < r_88.toInt) := tl_cmp eix92 rfl (by decide)
        refine pb_if_ne (pc := 95) (tgt := 102) d_Mod_isRecord_95 (by decide) (fun wx93 => ?_) (fun wx93 => ?_)
        · have twx93 : ¬ ix92.toInt = 0 := fun z9 => wx93 ((ti_eq rfl (by decide)).mpr z9)
          refine pb_iconst (pc := 102) (v := 0) d_Mod_isRecord_102 (by decide) ?_
          refine pb_istore (pc := 103) (lo' := [(7, .int 0), (6, .int ix30), (5, .int ix15), (3, .long r_4), (0, .ref h), (1, .int e), (2, .int bg)]) d_Mod_isRecord_103 (by decide) rfl ?_
          refine pb_re (ws' := [(h, .inr (10, [.ref m_rels, .ref m_openRels, .ref m_closeRels, .ref m_openRel, .ref m_closeRel, .ref m_comment, .ref m_ends, .ref m_order, .int v_thrown, .int v_taped, .ref m_tape, .ref m_count, .ref m_nameSize, .ref m_names, .ref m_size, .ref m_data, .int v_lookedSize, .ref m_looked, .int v_fileSize, .ref m_file, .int v_directorySize, .ref m_directory, .int v_outSize, .ref m_out, .int v_rowSize, .ref m_row, .int v_bitAt, .int v_bitEnd, .int v_why, .int v_madeSize, .ref m_made, .ref m_length, .int v_firstCount, .int v_secondCount, .int v_heldBits, .int v_heldCount, .int v_pressedSize, .ref m_pressed, .int v_at, .int v_bad, .int v_markSize, .ref m_mark, .int v_relationCount, .ref m_idSize, .ref m_ids, .ref m_goalSize, .ref m_goals, .int v_valueSize, .ref m_value, .int v_faultCount, .ref m_faults, .ref m_reached])), (m_row, .inl (G.2.1, 20000, .inl a_row))]) (lo' := [(7, .int 0), (6, .int ix30), (5, .int ix15), (0, .ref h), (1, .int e), (2, .int bg)]) [0, 1] [0, 1, 2, 4, 5, 6] (by decide) rfl rfl rfl ?_
          exact hJ105_31 0 ix30 ix15 (by first | assumption | omega (splitDisjunctions := false) | omega | decide) (by first | assumption | omega (splitDisjunctions := false) | omega | decide) (by first | assumption | omega (splitDisjunctions := false) | omega | decide) (by first | assumption | omega (splitDisjunctions := false) | omega | decide)
        · have twx93 : ix92.toInt = 0 := (ti_eq rfl (by decide)).mp wx93
          refine pb_iconst (pc := 98) (v := 1) d_Mod_isRecord_98 (by decide) ?_
          refine pb_goto (pc := 99) (tgt := 103) d_Mod_isRecord_99 (by decide) ?_
          refine pb_istore (pc := 103) (lo' := [(7, .int 1), (6, .int ix30), (5, .int ix15), (3, .long r_4), (0, .ref h), (1, .int e), (2, .int bg)]) d_Mod_isRecord_103 (by decide) rfl ?_
          refine pb_re (ws' := [(h, .inr (10, [.ref m_rels, .ref m_openRels, .ref m_closeRels, .ref m_openRel, .ref m_closeRel, .ref m_comment, .ref m_ends, .ref m_order, .int v_thrown, .int v_taped, .ref m_tape, .ref m_count, .ref m_nameSize, .ref m_names, .ref m_size, .ref m_data, .int v_lookedSize, .ref m_looked, .int v_fileSize, .ref m_file, .int v_directorySize, .ref m_directory, .int v_outSize, .ref m_out, .int v_rowSize, .ref m_row, .int v_bitAt, .int v_bitEnd, .int v_why, .int v_madeSize, .ref m_made, .ref m_length, .int v_firstCount, .int v_secondCount, .int v_heldBits, .int v_heldCount, .int v_pressedSize, .ref m_pressed, .int v_at, .int v_bad, .int v_markSize, .ref m_mark, .int v_relationCount, .ref m_idSize, .ref m_ids, .ref m_goalSize, .ref m_goals, .int v_valueSize, .ref m_value, .int v_faultCount, .ref m_faults, .ref m_reached])), (m_row, .inl (G.2.1, 20000, .inl a_row))]) (lo' := [(7, .int 1), (6, .int ix30), (5, .int ix15), (0, .ref h), (1, .int e), (2, .int bg)]) [0, 1] [0, 1, 2, 4, 5, 6] (by decide) rfl rfl rfl ?_
          exact hJ105_31 1 ix30 ix15 (by first | assumption | omega (splitDisjunctions := false) | omega | decide) (by first | assumption | omega (splitDisjunctions := false) | omega | decide) (by first | assumption | omega (splitDisjunctions := false) | omega | decide) (by first | assumption | omega (splitDisjunctions := false) | omega | decide)
  · have twx29 : ¬ ix28.toInt ≤ 0 := fun z9 => wx29 ((ti_le rfl (by decide)).mpr z9)
    refine pb_iconst (pc := 47) (v := 0) d_Mod_isRecord_47 (by decide) ?_
    exact pb_iret (pc := 48) hQ d_Mod_isRecord_48 rfl rfl (0) ⟨rfl, (by (try dsimp only); first | done | assumption | omega (splitDisjunctions := false) | omega | decide), (by (try dsimp only); first | done | assumption | exact fun q9 => absurd q9 (by assumption) | exact fun q9 => absurd (by assumption) q9 | exact fun _ => (by omega (splitDisjunctions := false)) | omega (splitDisjunctions := false) | omega | decide)⟩ [0, 1] (by decide) rfl rfl (by decide) (by decide)

theorem d_Mod_entryFault_0 : decode prog_12_method_57_code 0 = .ok (.aload_n 0, 1) := by decide +kernel
theorem d_Mod_entryFault_1 : decode prog_12_method_57_code 1 = .ok (.iload_n 1, 1) := by decide +kernel
theorem d_Mod_entryFault_2 : decode prog_12_method_57_code 2 = .ok (.iload_n 2, 1) := by decide +kernel
theorem d_Mod_entryFault_3 : decode prog_12_method_57_code 3 = .ok (.invokevirtual 309, 3) := by decide +kernel
theorem k_1537 : (Jvm.Cond.methodLink "PackageBookModel" (309 : Nat) ({ cls := "PackageBookModel", name := "isRecord", desc := "(II)Z" } : Jvm.MethodName)) ∈ uW := uW_of 1537 (by decide +kernel) (by decide +kernel)
theorem k_1540 : (Jvm.Cond.code ({ cls := "PackageBookModel", name := "isRecord", desc := "(II)Z" } : Jvm.MethodName) prog_12_method_56_code (9 : Nat) (Option.some Jvm.ClassFile.FieldType.boolean)) ∈ uW := uW_of 1540 (by decide +kernel) (by decide +kernel)
theorem k_1539 : (Jvm.Cond.instanceMethod ({ cls := "PackageBookModel", name := "isRecord", desc := "(II)Z" } : Jvm.MethodName)) ∈ uW := uW_of 1539 (by decide +kernel) (by decide +kernel)
theorem k_90 : Cond.selects "PackageBookModel" ⟨"PackageBookModel", "isRecord", "(II)Z"⟩ ⟨"PackageBookModel", "isRecord", "(II)Z"⟩ ∈ uW := uW_of 90 (by decide +kernel) (by decide +kernel)
theorem hy_Mod_isRecord : (y_Mod_isRecord).cls ≠ "java/lang/invoke/MethodHandle" ∧ (y_Mod_isRecord).cls ≠ "java/lang/invoke/VarHandle" ∧ (parseMethodDescriptor (y_Mod_isRecord).desc).map (fun d => d.parameters.length) = some 2 := by decide +kernel
theorem d_Mod_entryFault_6 : decode prog_12_method_57_code 6 = .ok (.ifCond .ne 5, 3) := by decide +kernel
theorem d_Mod_entryFault_11 : decode prog_12_method_57_code 11 = .ok (.aload_n 0, 1) := by decide +kernel
theorem d_Mod_entryFault_12 : decode prog_12_method_57_code 12 = .ok (.iload_n 1, 1) := by decide +kernel
theorem d_Mod_entryFault_13 : decode prog_12_method_57_code 13 = .ok (.bipush 28, 2) := by decide +kernel
theorem d_Mod_entryFault_15 : decode prog_12_method_57_code 15 = .ok (.iadd, 1) := by decide +kernel
theorem d_Mod_entryFault_16 : decode prog_12_method_57_code 16 = .ok (.iconst 2, 1) := by decide +kernel
theorem d_Mod_entryFault_17 : decode prog_12_method_57_code 17 = .ok (.invokevirtual 299, 3) := by decide +kernel
theorem d_Mod_entryFault_20 : decode prog_12_method_57_code 20 = .ok (.l2i, 1) := by decide +kernel
theorem d_Mod_entryFault_21 : decode prog_12_method_57_code 21 = .ok (.istore_n 3, 1) := by decide +kernel
theorem d_Mod_entryFault_22 : decode prog_12_method_57_code 22 = .ok (.aload_n 0, 1) := by decide +kernel
theorem d_Mod_entryFault_23 : decode prog_12_method_57_code 23 = .ok (.getfield 66, 3) := by decide +kernel
theorem d_Mod_entryFault_26 : decode prog_12_method_57_code 26 = .ok (.iload_n 1, 1) := by decide +kernel
theorem d_Mod_entryFault_27 : decode prog_12_method_57_code 27 = .ok (.bipush 46, 2) := by decide +kernel
theorem d_Mod_entryFault_29 : decode prog_12_method_57_code 29 = .ok (.iadd, 1) := by decide +kernel
theorem d_Mod_entryFault_30 : decode prog_12_method_57_code 30 = .ok (.iload_n 3, 1) := by decide +kernel
theorem d_Mod_entryFault_31 : decode prog_12_method_57_code 31 = .ok (.invokestatic 132, 3) := by decide +kernel
theorem d_Mod_entryFault_34 : decode prog_12_method_57_code 34 = .ok (.ifCond .ne 5, 3) := by decide +kernel
theorem d_Mod_entryFault_39 : decode prog_12_method_57_code 39 = .ok (.aload_n 0, 1) := by decide +kernel
theorem d_Mod_entryFault_40 : decode prog_12_method_57_code 40 = .ok (.aload_n 0, 1) := by decide +kernel
theorem d_Mod_entryFault_41 : decode prog_12_method_57_code 41 = .ok (.getfield 66, 3) := by decide +kernel
theorem d_Mod_entryFault_44 : decode prog_12_method_57_code 44 = .ok (.iload_n 1, 1) := by decide +kernel
theorem d_Mod_entryFault_45 : decode prog_12_method_57_code 45 = .ok (.bipush 46, 2) := by decide +kernel
theorem d_Mod_entryFault_47 : decode prog_12_method_57_code 47 = .ok (.iadd, 1) := by decide +kernel
theorem d_Mod_entryFault_48 : decode prog_12_method_57_code 48 = .ok (.iload_n 3, 1) := by decide +kernel
theorem d_Mod_entryFault_49 : decode prog_12_method_57_code 49 = .ok (.invokevirtual 136, 3) := by decide +kernel
theorem d_Mod_entryFault_52 : decode prog_12_method_57_code 52 = .ok (.aload_n 0, 1) := by decide +kernel
theorem d_Mod_entryFault_53 : decode prog_12_method_57_code 53 = .ok (.iconst 1, 1) := by decide +kernel
theorem d_Mod_entryFault_54 : decode prog_12_method_57_code 54 = .ok (.invokevirtual 121, 3) := by decide +kernel
theorem d_Mod_entryFault_57 : decode prog_12_method_57_code 57 = .ok (.ifCond .lt 5, 3) := by decide +kernel
theorem d_Mod_entryFault_62 : decode prog_12_method_57_code 62 = .ok (.aload_n 0, 1) := by decide +kernel
theorem d_Mod_entryFault_63 : decode prog_12_method_57_code 63 = .ok (.iload_n 1, 1) := by decide +kernel
theorem d_Mod_entryFault_64 : decode prog_12_method_57_code 64 = .ok (.bipush 42, 2) := by decide +kernel
theorem d_Mod_entryFault_66 : decode prog_12_method_57_code 66 = .ok (.iadd, 1) := by decide +kernel
theorem d_Mod_entryFault_67 : decode prog_12_method_57_code 67 = .ok (.iconst 4, 1) := by decide +kernel
theorem d_Mod_entryFault_68 : decode prog_12_method_57_code 68 = .ok (.invokevirtual 299, 3) := by decide +kernel
theorem d_Mod_entryFault_71 : decode prog_12_method_57_code 71 = .ok (.l2i, 1) := by decide +kernel
theorem d_Mod_entryFault_72 : decode prog_12_method_57_code 72 = .ok (.bipush 30, 2) := by decide +kernel
theorem d_Mod_entryFault_74 : decode prog_12_method_57_code 74 = .ok (.iadd, 1) := by decide +kernel
theorem d_Mod_entryFault_75 : decode prog_12_method_57_code 75 = .ok (.iload_n 3, 1) := by decide +kernel
theorem d_Mod_entryFault_76 : decode prog_12_method_57_code 76 = .ok (.iadd, 1) := by decide +kernel
theorem d_Mod_entryFault_77 : decode prog_12_method_57_code 77 = .ok (.istore 4, 2) := by decide +kernel
theorem d_Mod_entryFault_79 : decode prog_12_method_57_code 79 = .ok (.aload_n 0, 1) := by decide +kernel
theorem d_Mod_entryFault_80 : decode prog_12_method_57_code 80 = .ok (.iload_n 1, 1) := by decide +kernel
theorem d_Mod_entryFault_81 : decode prog_12_method_57_code 81 = .ok (.bipush 20, 2) := by decide +kernel
theorem d_Mod_entryFault_83 : decode prog_12_method_57_code 83 = .ok (.iadd, 1) := by decide +kernel
theorem d_Mod_entryFault_84 : decode prog_12_method_57_code 84 = .ok (.iconst 4, 1) := by decide +kernel
theorem d_Mod_entryFault_85 : decode prog_12_method_57_code 85 = .ok (.invokevirtual 299, 3) := by decide +kernel
theorem d_Mod_entryFault_88 : decode prog_12_method_57_code 88 = .ok (.l2i, 1) := by decide +kernel
theorem d_Mod_entryFault_89 : decode prog_12_method_57_code 89 = .ok (.istore 5, 2) := by decide +kernel
theorem d_Mod_entryFault_91 : decode prog_12_method_57_code 91 = .ok (.aload_n 0, 1) := by decide +kernel
theorem d_Mod_entryFault_92 : decode prog_12_method_57_code 92 = .ok (.iload_n 1, 1) := by decide +kernel
theorem d_Mod_entryFault_93 : decode prog_12_method_57_code 93 = .ok (.bipush 24, 2) := by decide +kernel
theorem d_Mod_entryFault_95 : decode prog_12_method_57_code 95 = .ok (.iadd, 1) := by decide +kernel
theorem d_Mod_entryFault_96 : decode prog_12_method_57_code 96 = .ok (.iconst 4, 1) := by decide +kernel
theorem d_Mod_entryFault_97 : decode prog_12_method_57_code 97 = .ok (.invokevirtual 299, 3) := by decide +kernel
theorem d_Mod_entryFault_100 : decode prog_12_method_57_code 100 = .ok (.lstore 6, 2) := by decide +kernel
theorem d_Mod_entryFault_102 : decode prog_12_method_57_code 102 = .ok (.aload_n 0, 1) := by decide +kernel
theorem d_Mod_entryFault_103 : decode prog_12_method_57_code 103 = .ok (.iload_n 1, 1) := by decide +kernel
theorem d_Mod_entryFault_104 : decode prog_12_method_57_code 104 = .ok (.bipush 16, 2) := by decide +kernel
theorem d_Mod_entryFault_106 : decode prog_12_method_57_code 106 = .ok (.iadd, 1) := by decide +kernel
theorem d_Mod_entryFault_107 : decode prog_12_method_57_code 107 = .ok (.iconst 4, 1) := by decide +kernel
theorem d_Mod_entryFault_108 : decode prog_12_method_57_code 108 = .ok (.invokevirtual 299, 3) := by decide +kernel
theorem d_Mod_entryFault_111 : decode prog_12_method_57_code 111 = .ok (.l2i, 1) := by decide +kernel
theorem d_Mod_entryFault_112 : decode prog_12_method_57_code 112 = .ok (.istore 8, 2) := by decide +kernel
theorem d_Mod_entryFault_114 : decode prog_12_method_57_code 114 = .ok (.aload_n 0, 1) := by decide +kernel
theorem d_Mod_entryFault_115 : decode prog_12_method_57_code 115 = .ok (.iload_n 1, 1) := by decide +kernel
theorem d_Mod_entryFault_116 : decode prog_12_method_57_code 116 = .ok (.bipush 10, 2) := by decide +kernel
theorem d_Mod_entryFault_118 : decode prog_12_method_57_code 118 = .ok (.iadd, 1) := by decide +kernel
theorem d_Mod_entryFault_119 : decode prog_12_method_57_code 119 = .ok (.iconst 2, 1) := by decide +kernel
theorem d_Mod_entryFault_120 : decode prog_12_method_57_code 120 = .ok (.invokevirtual 299, 3) := by decide +kernel
theorem d_Mod_entryFault_123 : decode prog_12_method_57_code 123 = .ok (.ldc2_w 283, 3) := by decide +kernel
theorem d_Mod_entryFault_126 : decode prog_12_method_57_code 126 = .ok (.lcmp, 1) := by decide +kernel
theorem d_Mod_entryFault_127 : decode prog_12_method_57_code 127 = .ok (.ifCond .ne 78, 3) := by decide +kernel
theorem d_Mod_entryFault_205 : decode prog_12_method_57_code 205 = .ok (.iload 5, 2) := by decide +kernel
theorem d_Mod_entryFault_207 : decode prog_12_method_57_code 207 = .ok (.i2l, 1) := by decide +kernel
theorem d_Mod_entryFault_208 : decode prog_12_method_57_code 208 = .ok (.lload 6, 2) := by decide +kernel
theorem d_Mod_entryFault_210 : decode prog_12_method_57_code 210 = .ok (.lcmp, 1) := by decide +kernel
theorem d_Mod_entryFault_211 : decode prog_12_method_57_code 211 = .ok (.ifCond .ne 19, 3) := by decide +kernel
theorem d_Mod_entryFault_230 : decode prog_12_method_57_code 230 = .ok (.iconst 5, 1) := by decide +kernel
theorem d_Mod_entryFault_231 : decode prog_12_method_57_code 231 = .ok (.ireturn, 1) := by decide +kernel
theorem d_Mod_entryFault_214 : decode prog_12_method_57_code 214 = .ok (.aload_n 0, 1) := by decide +kernel
theorem d_Mod_entryFault_215 : decode prog_12_method_57_code 215 = .ok (.getfield 66, 3) := by decide +kernel
theorem d_Mod_entryFault_218 : decode prog_12_method_57_code 218 = .ok (.iload 4, 2) := by decide +kernel
theorem d_Mod_entryFault_220 : decode prog_12_method_57_code 220 = .ok (.iload 5, 2) := by decide +kernel
theorem d_Mod_entryFault_222 : decode prog_12_method_57_code 222 = .ok (.invokestatic 149, 3) := by decide +kernel
theorem d_Mod_entryFault_225 : decode prog_12_method_57_code 225 = .ok (.iload 8, 2) := by decide +kernel
theorem d_Mod_entryFault_227 : decode prog_12_method_57_code 227 = .ok (.if_icmp .eq 5, 3) := by decide +kernel
theorem d_Mod_entryFault_232 : decode prog_12_method_57_code 232 = .ok (.aload_n 0, 1) := by decide +kernel
theorem d_Mod_entryFault_233 : decode prog_12_method_57_code 233 = .ok (.iconst 1, 1) := by decide +kernel
theorem d_Mod_entryFault_234 : decode prog_12_method_57_code 234 = .ok (.iload 5, 2) := by decide +kernel
theorem d_Mod_entryFault_236 : decode prog_12_method_57_code 236 = .ok (.invokevirtual 140, 3) := by decide +kernel
theorem d_Mod_entryFault_239 : decode prog_12_method_57_code 239 = .ok (.ifCond .ne 6, 3) := by decide +kernel
theorem d_Mod_entryFault_245 : decode prog_12_method_57_code 245 = .ok (.aload_n 0, 1) := by decide +kernel
theorem d_Mod_entryFault_246 : decode prog_12_method_57_code 246 = .ok (.iconst 1, 1) := by decide +kernel
theorem d_Mod_entryFault_247 : decode prog_12_method_57_code 247 = .ok (.aload_n 0, 1) := by decide +kernel
theorem d_Mod_entryFault_248 : decode prog_12_method_57_code 248 = .ok (.getfield 66, 3) := by decide +kernel
theorem d_Mod_entryFault_251 : decode prog_12_method_57_code 251 = .ok (.iload 4, 2) := by decide +kernel
theorem d_Mod_entryFault_253 : decode prog_12_method_57_code 253 = .ok (.iload 5, 2) := by decide +kernel
theorem d_Mod_entryFault_255 : decode prog_12_method_57_code 255 = .ok (.invokevirtual 144, 3) := by decide +kernel
theorem d_Mod_entryFault_258 : decode prog_12_method_57_code 258 = .ok (.iconst 0, 1) := by decide +kernel
theorem d_Mod_entryFault_259 : decode prog_12_method_57_code 259 = .ok (.ireturn, 1) := by decide +kernel
theorem d_Mod_entryFault_242 : decode prog_12_method_57_code 242 = .ok (.bipush 6, 2) := by decide +kernel
theorem d_Mod_entryFault_244 : decode prog_12_method_57_code 244 = .ok (.ireturn, 1) := by decide +kernel
theorem d_Mod_entryFault_130 : decode prog_12_method_57_code 130 = .ok (.aload_n 0, 1) := by decide +kernel
theorem d_Mod_entryFault_131 : decode prog_12_method_57_code 131 = .ok (.iload 4, 2) := by decide +kernel
theorem d_Mod_entryFault_133 : decode prog_12_method_57_code 133 = .ok (.iload 4, 2) := by decide +kernel
theorem d_Mod_entryFault_135 : decode prog_12_method_57_code 135 = .ok (.iload 5, 2) := by decide +kernel
theorem d_Mod_entryFault_137 : decode prog_12_method_57_code 137 = .ok (.iadd, 1) := by decide +kernel
theorem d_Mod_entryFault_138 : decode prog_12_method_57_code 138 = .ok (.invokevirtual 266, 3) := by decide +kernel
theorem d_Mod_entryFault_141 : decode prog_12_method_57_code 141 = .ok (.ifCond .gt 31, 3) := by decide +kernel
theorem d_Mod_entryFault_172 : decode prog_12_method_57_code 172 = .ok (.iconst 5, 1) := by decide +kernel
theorem d_Mod_entryFault_173 : decode prog_12_method_57_code 173 = .ok (.ireturn, 1) := by decide +kernel
theorem d_Mod_entryFault_144 : decode prog_12_method_57_code 144 = .ok (.aload_n 0, 1) := by decide +kernel
theorem d_Mod_entryFault_145 : decode prog_12_method_57_code 145 = .ok (.getfield 220, 3) := by decide +kernel
theorem d_Mod_entryFault_148 : decode prog_12_method_57_code 148 = .ok (.i2l, 1) := by decide +kernel
theorem d_Mod_entryFault_149 : decode prog_12_method_57_code 149 = .ok (.lload 6, 2) := by decide +kernel
theorem d_Mod_entryFault_151 : decode prog_12_method_57_code 151 = .ok (.lcmp, 1) := by decide +kernel
theorem d_Mod_entryFault_152 : decode prog_12_method_57_code 152 = .ok (.ifCond .ne 20, 3) := by decide +kernel
theorem d_Mod_entryFault_155 : decode prog_12_method_57_code 155 = .ok (.aload_n 0, 1) := by decide +kernel
theorem d_Mod_entryFault_156 : decode prog_12_method_57_code 156 = .ok (.getfield 69, 3) := by decide +kernel
theorem d_Mod_entryFault_159 : decode prog_12_method_57_code 159 = .ok (.iconst 0, 1) := by decide +kernel
theorem d_Mod_entryFault_160 : decode prog_12_method_57_code 160 = .ok (.aload_n 0, 1) := by decide +kernel
theorem d_Mod_entryFault_161 : decode prog_12_method_57_code 161 = .ok (.getfield 220, 3) := by decide +kernel
theorem d_Mod_entryFault_164 : decode prog_12_method_57_code 164 = .ok (.invokestatic 149, 3) := by decide +kernel
theorem d_Mod_entryFault_167 : decode prog_12_method_57_code 167 = .ok (.iload 8, 2) := by decide +kernel
theorem d_Mod_entryFault_169 : decode prog_12_method_57_code 169 = .ok (.if_icmp .eq 5, 3) := by decide +kernel
theorem d_Mod_entryFault_174 : decode prog_12_method_57_code 174 = .ok (.aload_n 0, 1) := by decide +kernel
theorem d_Mod_entryFault_175 : decode prog_12_method_57_code 175 = .ok (.iconst 1, 1) := by decide +kernel
theorem d_Mod_entryFault_176 : decode prog_12_method_57_code 176 = .ok (.aload_n 0, 1) := by decide +kernel
theorem d_Mod_entryFault_177 : decode prog_12_method_57_code 177 = .ok (.getfield 220, 3) := by decide +kernel
theorem d_Mod_entryFault_180 : decode prog_12_method_57_code 180 = .ok (.invokevirtual 140, 3) := by decide +kernel
theorem d_Mod_entryFault_183 : decode prog_12_method_57_code 183 = .ok (.ifCond .ne 6, 3) := by decide +kernel
theorem d_Mod_entryFault_189 : decode prog_12_method_57_code 189 = .ok (.aload_n 0, 1) := by decide +kernel
theorem d_Mod_entryFault_190 : decode prog_12_method_57_code 190 = .ok (.iconst 1, 1) := by decide +kernel
theorem d_Mod_entryFault_191 : decode prog_12_method_57_code 191 = .ok (.aload_n 0, 1) := by decide +kernel
theorem d_Mod_entryFault_192 : decode prog_12_method_57_code 192 = .ok (.getfield 69, 3) := by decide +kernel
theorem d_Mod_entryFault_195 : decode prog_12_method_57_code 195 = .ok (.iconst 0, 1) := by decide +kernel
theorem d_Mod_entryFault_196 : decode prog_12_method_57_code 196 = .ok (.aload_n 0, 1) := by decide +kernel
theorem d_Mod_entryFault_197 : decode prog_12_method_57_code 197 = .ok (.getfield 220, 3) := by decide +kernel
theorem d_Mod_entryFault_200 : decode prog_12_method_57_code 200 = .ok (.invokevirtual 144, 3) := by decide +kernel
theorem d_Mod_entryFault_203 : decode prog_12_method_57_code 203 = .ok (.iconst 0, 1) := by decide +kernel
theorem d_Mod_entryFault_204 : decode prog_12_method_57_code 204 = .ok (.ireturn, 1) := by decide +kernel
theorem d_Mod_entryFault_186 : decode prog_12_method_57_code 186 = .ok (.bipush 6, 2) := by decide +kernel
theorem d_Mod_entryFault_188 : decode prog_12_method_57_code 188 = .ok (.ireturn, 1) := by decide +kernel
theorem d_Mod_entryFault_60 : decode prog_12_method_57_code 60 = .ok (.iconst 4, 1) := by decide +kernel
theorem d_Mod_entryFault_61 : decode prog_12_method_57_code 61 = .ok (.ireturn, 1) := by decide +kernel
theorem d_Mod_entryFault_37 : decode prog_12_method_57_code 37 = .ok (.iconst 4, 1) := by decide +kernel
theorem d_Mod_entryFault_38 : decode prog_12_method_57_code 38 = .ok (.ireturn, 1) := by decide +kernel
theorem d_Mod_entryFault_9 : decode prog_12_method_57_code 9 = .ok (.iconst 3, 1) := by decide +kernel
theorem d_Mod_entryFault_10 : decode prog_12_method_57_code 10 = .ok (.ireturn, 1) := by decide +kernel
abbrev y_Mod_entryFault : MethodName := ⟨"PackageBookModel", "entryFault", "(II)I"⟩
abbrev i_Mod_entryFault : pb_I := (y_Mod_entryFault, prog_12_method_57_code, 9, (some Jvm.ClassFile.FieldType.int), [], { frames := 6, cells := 0, slots := 0, locals := 144 })
set_option maxRecDepth 100000 in
set_option maxHeartbeats 4000000 in
theorem g_Mod_entryFault {l : Launch} (hl : l.stackTraces = false) (G : pb_G) (h : Nat) (m_rels : Nat) (m_openRels : Nat) (m_closeRels : Nat) (m_openRel : Nat) (m_closeRel : Nat) (m_comment : Nat) (m_ends : Nat) (m_order : Nat) (m_tape : Nat) (m_count : Nat) (m_nameSize : Nat) (m_names : Nat) (m_size : Nat) (m_data : Nat) (m_looked : Nat) (m_file : Nat) (m_directory : Nat) (m_out : Nat) (m_row : Nat) (m_made : Nat) (m_length : Nat) (m_pressed : Nat) (m_mark : Nat) (m_idSize : Nat) (m_ids : Nat) (m_goalSize : Nat) (m_goals : Nat) (m_value : Nat) (m_faults : Nat) (m_reached : Nat) (v_thrown : Int32) (v_taped : Int32) (v_lookedSize : Int32) (v_fileSize : Int32) (v_directorySize : Int32) (v_outSize : Int32) (v_rowSize : Int32) (v_bitAt : Int32) (v_bitEnd : Int32) (v_why : Int32) (v_madeSize : Int32) (v_firstCount : Int32) (v_secondCount : Int32) (v_heldBits : Int32) (v_heldCount : Int32) (v_pressedSize : Int32) (v_at : Int32) (v_bad : Int32) (v_markSize : Int32) (v_relationCount : Int32) (v_valueSize : Int32) (v_faultCount : Int32) (a_row : Nat → Int32) (a_count : Nat → Int32) (a_nameSize : Nat → Int32) (a_names : Nat → Int32) (a_looked : Nat → Int32) (a_size : Nat → Int32) (a_data : Nat → Int32) (a_length : Nat → Int32) (a_order : Nat → Int32) (a_made : Nat → Int32) (e : Int32) (bg : Int32) (h0 : 0 ≤ e.toInt) (h1 : e.toInt + 46 + av a_row (e.toInt + 28) 2 ≤ 20000) (h2 : bg.toInt ≤ 20000) (I : ms_I 17 (gx a_count 1) a_nameSize a_size a_names) (LI : le_I a_length) (OI : ∀ x : Int, 0 ≤ x → x < 19 → 0 ≤ gx a_order x ∧ gx a_order x ≤ 18) (hO : ∀ j : Int, 0 ≤ j → j < 19 → gx a_order j = od_ j) (y0 : 0 ≤ v_lookedSize.toInt) (y1 : v_lookedSize.toInt ≤ 8000) (d0 : 0 ≤ v_madeSize.toInt) (d1 : v_madeSize.toInt ≤ 4000) (F_a_row : sb_Fit a_row) (F_a_names : sb_Fit a_names) (F_a_looked : sb_Fit a_looked) (F_a_data : sb_Fit a_data) (F_a_order : sb_Fit a_order) (F_a_made : sb_Fit a_made) : Cn l G i_Mod_entryFault [.ref h, .int e, .int bg] [(h, .inr (10, [.ref m_rels, .ref m_openRels, .ref m_closeRels, .ref m_openRel, .ref m_closeRel, .ref m_comment, .ref m_ends, .ref m_order, .int v_thrown, .int v_taped, .ref m_tape, .ref m_count, .ref m_nameSize, .ref m_names, .ref m_size, .ref m_data, .int v_lookedSize, .ref m_looked, .int v_fileSize, .ref m_file, .int v_directorySize, .ref m_directory, .int v_outSize, .ref m_out, .int v_rowSize, .ref m_row, .int v_bitAt, .int v_bitEnd, .int v_why, .int v_madeSize, .ref m_made, .ref m_length, .int v_firstCount, .int v_secondCount, .int v_heldBits, .int v_heldCount, .int v_pressedSize, .ref m_pressed, .int v_at, .int v_bad, .int v_markSize, .ref m_mark, .int v_relationCount, .ref m_idSize, .ref m_ids, .ref m_goalSize, .ref m_goals, .int v_valueSize, .ref m_value, .int v_faultCount, .ref m_faults, .ref m_reached])), (m_row, .inl (G.2.1, 20000, .inl a_row)), (m_count, .inl (G.2.2.1, 2, .inl a_count)), (m_nameSize, .inl (G.2.2.1, 34, .inl a_nameSize)), (m_names, .inl (G.2.1, 816, .inl a_names)), (m_looked, .inl (G.2.1, 40, .inl a_looked)), (m_size, .inl (G.2.2.1, 34, .inl a_size)), (m_data, .inl (G.2.1, 136000, .inl a_data)), (m_length, .inl (G.2.2.1, 420, .inl a_length)), (m_order, .inl (G.2.1, 19, .inl a_order)), (m_made, .inl (G.2.1, 4000, .inl a_made))] (S := Int32 × Int32 × Int32 × Int32 × Int32 × Int32 × Int32 × Int32 × (Nat → Int32) × (Nat → Int32) × (Nat → Int32) × (Nat → Int32) × (Nat → Int32) × (Nat → Int32) × (Nat → Int32) × (Nat → Int32)) (fun rv_ u => rv_ = some (.int u.1) ∧ (ms_I 17 (gx u.2.2.2.2.2.2.2.2.1 1) u.2.2.2.2.2.2.2.2.2.1 u.2.2.2.2.2.2.2.2.2.2.2.2.1 u.2.2.2.2.2.2.2.2.2.2.1) ∧ (gx u.2.2.2.2.2.2.2.2.1 0 = gx a_count 0) ∧ (ot_Z a_nameSize u.2.2.2.2.2.2.2.2.2.1 17) ∧ (ot_Z a_size u.2.2.2.2.2.2.2.2.2.2.2.2.1 17) ∧ (ot_N a_names u.2.2.2.2.2.2.2.2.2.2.1 17) ∧ (le_I u.2.2.2.2.2.2.2.2.2.2.2.2.2.2.1) ∧ (0 ≤ u.2.1.toInt) ∧ (u.2.1.toInt ≤ 8000) ∧ (0 ≤ u.2.2.2.2.2.2.2.1.toInt) ∧ (u.2.2.2.2.2.2.2.1.toInt ≤ 4000) ∧ (sb_Fit u.2.2.2.2.2.2.2.2.2.2.1) ∧ (sb_Fit u.2.2.2.2.2.2.2.2.2.2.2.1) ∧ (sb_Fit u.2.2.2.2.2.2.2.2.2.2.2.2.2.1) ∧ (sb_Fit u.2.2.2.2.2.2.2.2.2.2.2.2.2.2.2)) (fun u => [(h, .inr (10, [.ref m_rels, .ref m_openRels, .ref m_closeRels, .ref m_openRel, .ref m_closeRel, .ref m_comment, .ref m_ends, .ref m_order, .int v_thrown, .int v_taped, .ref m_tape, .ref m_count, .ref m_nameSize, .ref m_names, .ref m_size, .ref m_data, .int u.2.1, .ref m_looked, .int v_fileSize, .ref m_file, .int v_directorySize, .ref m_directory, .int v_outSize, .ref m_out, .int v_rowSize, .ref m_row, .int u.2.2.1, .int u.2.2.2.1, .int u.2.2.2.2.1, .int u.2.2.2.2.2.2.2.1, .ref m_made, .ref m_length, .int u.2.2.2.2.2.1, .int u.2.2.2.2.2.2.1, .int v_heldBits, .int v_heldCount, .int v_pressedSize, .ref m_pressed, .int v_at, .int v_bad, .int v_markSize, .ref m_mark, .int v_relationCount, .ref m_idSize, .ref m_ids, .ref m_goalSize, .ref m_goals, .int v_valueSize, .ref m_value, .int v_faultCount, .ref m_faults, .ref m_reached])), (m_row, .inl (G.2.1, 20000, .inl a_row)), (m_count, .inl (G.2.2.1, 2, .inl u.2.2.2.2.2.2.2.2.1)), (m_nameSize, .inl (G.2.2.1, 34, .inl u.2.2.2.2.2.2.2.2.2.1)), (m_names, .inl (G.2.1, 816, .inl u.2.2.2.2.2.2.2.2.2.2.1)), (m_looked, .inl (G.2.1, 40, .inl u.2.2.2.2.2.2.2.2.2.2.2.1)), (m_size, .inl (G.2.2.1, 34, .inl u.2.2.2.2.2.2.2.2.2.2.2.2.1)), (m_data, .inl (G.2.1, 136000, .inl u.2.2.2.2.2.2.2.2.2.2.2.2.2.1)), (m_length, .inl (G.2.2.1, 420, .inl u.2.2.2.2.2.2.2.2.2.2.2.2.2.2.1)), (m_order, .inl (G.2.1, 19, .inl a_order)), (m_made, .inl (G.2.1, 4000, .inl u.2.2.2.2.2.2.2.2.2.2.2.2.2.2.2))]) := by
  refine Cn.of hl (by decide +kernel) rfl (Nat.le_of_ble_eq_true rfl) (fun M hQ => ?_)
  refine pb_eq (pc' := 0) (lo' := [(0, .ref h), (1, .int e), (2, .int bg)]) (rest' := []) (ws' := [(h, .inr (10, [.ref m_rels, .ref m_openRels, .ref m_closeRels, .ref m_openRel, .ref m_closeRel, .ref m_comment, .ref m_ends, .ref m_order, .int v_thrown, .int v_taped, .ref m_tape, .ref m_count, .ref m_nameSize, .ref m_names, .ref m_size, .ref m_data, .int v_lookedSize, .ref m_looked, .int v_fileSize, .ref m_file, .int v_directorySize, .ref m_directory, .int v_outSize, .ref m_out, .int v_rowSize, .ref m_row, .int v_bitAt, .int v_bitEnd, .int v_why, .int v_madeSize, .ref m_made, .ref m_length, .int v_firstCount, .int v_secondCount, .int v_heldBits, .int v_heldCount, .int v_pressedSize, .ref m_pressed, .int v_at, .int v_bad, .int v_markSize, .ref m_mark, .int v_relationCount, .ref m_idSize, .ref m_ids, .ref m_goalSize, .ref m_goals, .int v_valueSize, .ref m_value, .int v_faultCount, .ref m_faults, .ref m_reached])), (m_row, .inl (G.2.1, 20000, .inl a_row)), (m_count, .inl (G.2.2.1, 2, .inl a_count)), (m_nameSize, .inl (G.2.2.1, 34, .inl a_nameSize)), (m_names, .inl (G.2.1, 816, .inl a_names)), (m_looked, .inl (G.2.1, 40, .inl a_looked)), (m_size, .inl (G.2.2.1, 34, .inl a_size)), (m_data, .inl (G.2.1, 136000, .inl a_data)), (m_length, .inl (G.2.2.1, 420, .inl a_length)), (m_order, .inl (G.2.1, 19, .inl a_order)), (m_made, .inl (G.2.1, 4000, .inl a_made))]) ?_
  have zl0 : (0 : Int32).toInt = 0 := by decide
  have zl1 : (1 : Int32).toInt = 1 := by decide
  have zl2 : (2 : Int32).toInt = 2 := by decide
  have zl3 : (3 : Int32).toInt = 3 := by decide
  have zl4 : (4 : Int32).toInt = 4 := by decide
  have zl5 : (5 : Int32).toInt = 5 := by decide
  have zl6 : (6 : Int32).toInt = 6 := by decide
  have n4 : (4 : Int32).toInt.toNat = 4 := by decide
  have n2 : (2 : Int32).toInt.toNat = 2 := by decide
  have v1 := av2 a_row (e.toInt + 28)
  have v2 := av4 a_row (e.toInt + 42)
  have v3 := av4 a_row (e.toInt + 20)
  refine pb_aload_n (pc := 0) d_Mod_entryFault_0 0 rfl rfl ?_
  refine pb_iload_n (pc := 1) d_Mod_entryFault_1 1 rfl rfl ?_
  refine pb_iload_n (pc := 2) d_Mod_entryFault_2 2 rfl rfl ?_
  refine pb_callV (pc := 3) (I := i_Mod_entryFault) (qb := 0) (ci := 10) (nA := 2) (rest := []) (wr := [(m_count, .inl (G.2.2.1, 2, .inl a_count)), (m_nameSize, .inl (G.2.2.1, 34, .inl a_nameSize)), (m_names, .inl (G.2.1, 816, .inl a_names)), (m_looked, .inl (G.2.1, 40, .inl a_looked)), (m_size, .inl (G.2.2.1, 34, .inl a_size)), (m_data, .inl (G.2.1, 136000, .inl a_data)), (m_length, .inl (G.2.2.1, 420, .inl a_length)), (m_order, .inl (G.2.1, 19, .inl a_order)), (m_made, .inl (G.2.1, 4000, .inl a_made))]) d_Mod_entryFault_3 (g_Mod_isRecord hl G h m_rels m_openRels m_closeRels m_openRel m_closeRel m_comment m_ends m_order m_tape m_count m_nameSize m_names m_size m_data m_looked m_file m_directory m_out m_row m_made m_length m_pressed m_mark m_idSize m_ids m_goalSize m_goals m_value m_faults m_reached v_thrown v_taped v_lookedSize v_fileSize v_directorySize v_outSize v_rowSize v_bitAt v_bitEnd v_why v_madeSize v_firstCount v_secondCount v_heldBits v_heldCount v_pressedSize v_at v_bad v_markSize v_relationCount v_valueSize v_faultCount a_row e bg (by first | assumption | omega (splitDisjunctions := false) | omega | decide) (by first | assumption | omega (splitDisjunctions := false) | omega | decide) (by first | assumption | omega (splitDisjunctions := false) | omega | decide) F_a_row) rfl rfl [0, 1] [2, 3, 4, 5, 6, 7, 8, 9, 10] (by decide) rfl rfl rfl (by decide) (by decide) k_1540 rfl k_128 k_1537 k_1539 k_90 ⟨rfl, hy_Mod_isRecord⟩ (by decide) rfl rfl (Nat.le_of_ble_eq_true rfl) (by decide) (fun v9 ux2 ch1 => ?_)
  obtain ⟨r_3, rfl⟩ : ∃ z9, z9 = ux2 := ⟨_, rfl⟩
  obtain ⟨ech1, ch1⟩ := ch1
  have ech1 : v9 = some (.int r_3) := ech1
  subst ech1
  obtain ⟨fh4, fh5⟩ : (r_3.toInt = 0 ∨ r_3.toInt = 1) ∧ (r_3.toInt = 1 → av a_row (e.toInt + 42) 4 + 30 + av a_row (e.toInt + 28) 2 + av a_row (e.toInt + 20) 4 ≤ bg.toInt) := ch1
  have rc := fh5
  refine pb_eq (pc' := 6) (lo' := [(0, .ref h), (1, .int e), (2, .int bg)]) (rest' := [.int r_3]) (ws' := [(m_count, .inl (G.2.2.1, 2, .inl a_count)), (m_nameSize, .inl (G.2.2.1, 34, .inl a_nameSize)), (m_names, .inl (G.2.1, 816, .inl a_names)), (m_looked, .inl (G.2.1, 40, .inl a_looked)), (m_size, .inl (G.2.2.1, 34, .inl a_size)), (m_data, .inl (G.2.1, 136000, .inl a_data)), (m_length, .inl (G.2.2.1, 420, .inl a_length)), (m_order, .inl (G.2.1, 19, .inl a_order)), (m_made, .inl (G.2.1, 4000, .inl a_made)), (h, .inr (10, [.ref m_rels, .ref m_openRels, .ref m_closeRels, .ref m_openRel, .ref m_closeRel, .ref m_comment, .ref m_ends, .ref m_order, .int v_thrown, .int v_taped, .ref m_tape, .ref m_count, .ref m_nameSize, .ref m_names, .ref m_size, .ref m_data, .int v_lookedSize, .ref m_looked, .int v_fileSize, .ref m_file, .int v_directorySize, .ref m_directory, .int v_outSize, .ref m_out, .int v_rowSize, .ref m_row, .int v_bitAt, .int v_bitEnd, .int v_why, .int v_madeSize, .ref m_made, .ref m_length, .int v_firstCount, .int v_secondCount, .int v_heldBits, .int v_heldCount, .int v_pressedSize, .ref m_pressed, .int v_at, .int v_bad, .int v_markSize, .ref m_mark, .int v_relationCount, .ref m_idSize, .ref m_ids, .ref m_goalSize, .ref m_goals, .int v_valueSize, .ref m_value, .int v_faultCount, .ref m_faults, .ref m_reached])), (m_row, .inl (G.2.1, 20000, .inl a_row))]) ?_
  refine pb_if_ne (pc := 6) (tgt := 11) d_Mod_entryFault_6 (by decide) (fun wx6 => ?_) (fun wx6 => ?_)
  · have twx6 : ¬ r_3.toInt = 0 := fun z9 => wx6 ((ti_eq rfl (by decide)).mpr z9)
    have rc1 := rc (by omega)
    refine pb_aload_n (pc := 11) d_Mod_entryFault_11 0 rfl rfl ?_
    refine pb_iload_n (pc := 12) d_Mod_entryFault_12 1 rfl rfl ?_
    refine pb_bipush (pc := 13) (v := 28) d_Mod_entryFault_13 (by decide) ?_
    refine pb_iadd (pc := 15) d_Mod_entryFault_15 ?_
    refine pb_topi (fun ix7 eix7 => ?_)
    try have tix7 : ix7.toInt = e.toInt + 28 := t2_add eix7 rfl (by decide) (by omega)
    refine pb_iconst (pc := 16) (v := 2) d_Mod_entryFault_16 (by decide) ?_
    refine pb_callV (pc := 17) (I := i_Mod_entryFault) (qb := 9) (ci := 10) (nA := 2) (rest := []) (wr := [(m_count, .inl (G.2.2.1, 2, .inl a_count)), (m_nameSize, .inl (G.2.2.1, 34, .inl a_nameSize)), (m_names, .inl (G.2.1, 816, .inl a_names)), (m_looked, .inl (G.2.1, 40, .inl a_looked)), (m_size, .inl (G.2.2.1, 34, .inl a_size)), (m_data, .inl (G.2.1, 136000, .inl a_data)), (m_length, .inl (G.2.2.1, 420, .inl a_length)), (m_order, .inl (G.2.1, 19, .inl a_order)), (m_made, .inl (G.2.1, 4000, .inl a_made))]) d_Mod_entryFault_17 (g_Mod_at hl G h m_rels m_openRels m_closeRels m_openRel m_closeRel m_comment m_ends m_order m_tape m_count m_nameSize m_names m_size m_data m_looked m_file m_directory m_out m_row m_made m_length m_pressed m_mark m_idSize m_ids m_goalSize m_goals m_value m_faults m_reached v_thrown v_taped v_lookedSize v_fileSize v_directorySize v_outSize v_rowSize v_bitAt v_bitEnd v_why v_madeSize v_firstCount v_secondCount v_heldBits v_heldCount v_pressedSize v_at v_bad v_markSize v_relationCount v_valueSize v_faultCount a_row ix7 2 (by first | assumption | omega (splitDisjunctions := false) | omega | decide) (by first | assumption | omega (splitDisjunctions := false) | omega | decide) (by first | assumption | omega (splitDisjunctions := false) | omega | decide) (by first | assumption | omega (splitDisjunctions := false) | omega | decide) F_a_row) rfl rfl [9, 10] [0, 1, 2, 3, 4, 5, 6, 7, 8] (by decide) rfl rfl rfl (by decide) (by decide) k_1529 rfl k_128 k_1526 k_1528 k_88 ⟨rfl, hy_Mod_at⟩ (by decide) rfl rfl (Nat.le_of_ble_eq_true rfl) (by decide) (fun v9 ux9 ch8 => ?_)
    obtain ⟨r_10, rfl⟩ : ∃ z9, z9 = ux9 := ⟨_, rfl⟩
    obtain ⟨ech8, ch8⟩ := ch8
    have ech8 : v9 = some (.long r_10) := ech8
    subst ech8
    obtain ⟨fh11, fh12, fh13⟩ : (r_10.toInt = av a_row ix7.toInt (2 : Int32).toInt.toNat) ∧ (0 ≤ r_10.toInt) ∧ (r_10.toInt < 4294967296) := ch8
    rw [n2, show ix7.toInt = e.toInt + 28 by omega] at fh11
    refine pb_eq (pc' := 20) (lo' := [(0, .ref h), (1, .int e), (2, .int bg)]) (rest' := [.long r_10]) (ws' := [(m_count, .inl (G.2.2.1, 2, .inl a_count)), (m_nameSize, .inl (G.2.2.1, 34, .inl a_nameSize)), (m_names, .inl (G.2.1, 816, .inl a_names)), (m_looked, .inl (G.2.1, 40, .inl a_looked)), (m_size, .inl (G.2.2.1, 34, .inl a_size)), (m_data, .inl (G.2.1, 136000, .inl a_data)), (m_length, .inl (G.2.2.1, 420, .inl a_length)), (m_order, .inl (G.2.1, 19, .inl a_order)), (m_made, .inl (G.2.1, 4000, .inl a_made)), (h, .inr (10, [.ref m_rels, .ref m_openRels, .ref m_closeRels, .ref m_openRel, .ref m_closeRel, .ref m_comment, .ref m_ends, .ref m_order, .int v_thrown, .int v_taped, .ref m_tape, .ref m_count, .ref m_nameSize, .ref m_names, .ref m_size, .ref m_data, .int v_lookedSize, .ref m_looked, .int v_fileSize, .ref m_file, .int v_directorySize, .ref m_directory, .int v_outSize, .ref m_out, .int v_rowSize, .ref m_row, .int v_bitAt, .int v_bitEnd, .int v_why, .int v_madeSize, .ref m_made, .ref m_length, .int v_firstCount, .int v_secondCount, .int v_heldBits, .int v_heldCount, .int v_pressedSize, .ref m_pressed, .int v_at, .int v_bad, .int v_markSize, .ref m_mark, .int v_relationCount, .ref m_idSize, .ref m_ids, .ref m_goalSize, .ref m_goals, .int v_valueSize, .ref m_value, .int v_faultCount, .ref m_faults, .ref m_reached])), (m_row, .inl (G.2.1, 20000, .inl a_row))]) ?_
    refine pb_l2i (pc := 20) d_Mod_entryFault_20 rfl ?_
    refine pb_topi (fun ix14 eix14 => ?_)
    try have tix14 : ix14.toInt = r_10.toInt := ti_l2i eix14 rfl (by omega) (by omega)
    refine pb_istore_n (pc := 21) (lo' := [(3, .int ix14), (0, .ref h), (1, .int e), (2, .int bg)]) d_Mod_entryFault_21 rfl (by decide) rfl ?_
    refine pb_aload_n (pc := 22) d_Mod_entryFault_22 1 rfl rfl ?_
    refine pb_get (pc := 23) d_Mod_entryFault_23 9 25 rfl rfl (by decide) in_Mod k_1171 rfl ?_
    refine pb_iload_n (pc := 26) d_Mod_entryFault_26 2 rfl rfl ?_
    refine pb_bipush (pc := 27) (v := 46) d_Mod_entryFault_27 (by decide) ?_
    refine pb_iadd (pc := 29) d_Mod_entryFault_29 ?_
    refine pb_topi (fun ix15 eix15 => ?_)
    try have tix15 : ix15.toInt = e.toInt + 46 := t2_add eix15 rfl (by decide) (by omega)
    refine pb_iload_n (pc := 30) d_Mod_entryFault_30 0 rfl rfl ?_
    refine pb_callS (pc := 31) (I := i_Mod_entryFault) (nA := 3) (rest := []) (wr := [(m_count, .inl (G.2.2.1, 2, .inl a_count)), (m_nameSize, .inl (G.2.2.1, 34, .inl a_nameSize)), (m_names, .inl (G.2.1, 816, .inl a_names)), (m_looked, .inl (G.2.1, 40, .inl a_looked)), (m_size, .inl (G.2.2.1, 34, .inl a_size)), (m_data, .inl (G.2.1, 136000, .inl a_data)), (m_length, .inl (G.2.2.1, 420, .inl a_length)), (m_order, .inl (G.2.1, 19, .inl a_order)), (m_made, .inl (G.2.1, 4000, .inl a_made)), (h, .inr (10, [.ref m_rels, .ref m_openRels, .ref m_closeRels, .ref m_openRel, .ref m_closeRel, .ref m_comment, .ref m_ends, .ref m_order, .int v_thrown, .int v_taped, .ref m_tape, .ref m_count, .ref m_nameSize, .ref m_names, .ref m_size, .ref m_data, .int v_lookedSize, .ref m_looked, .int v_fileSize, .ref m_file, .int v_directorySize, .ref m_directory, .int v_outSize, .ref m_out, .int v_rowSize, .ref m_row, .int v_bitAt, .int v_bitEnd, .int v_why, .int v_madeSize, .ref m_made, .ref m_length, .int v_firstCount, .int v_secondCount, .int v_heldBits, .int v_heldCount, .int v_pressedSize, .ref m_pressed, .int v_at, .int v_bad, .int v_markSize, .ref m_mark, .int v_relationCount, .ref m_idSize, .ref m_ids, .ref m_goalSize, .ref m_goals, .int v_valueSize, .ref m_value, .int v_faultCount, .ref m_faults, .ref m_reached]))]) d_Mod_entryFault_31 (g_Mod_isName hl G m_row 20000 a_row ix15 ix14 (by first | assumption | omega (splitDisjunctions := false) | omega | decide) (by first | assumption | exact fun q9 => absurd q9 (by assumption) | exact fun q9 => absurd (by assumption) q9 | exact fun _ => (by omega (splitDisjunctions := false)) | omega (splitDisjunctions := false) | omega | decide) (by first | assumption | omega (splitDisjunctions := false) | omega | decide) (by first | assumption | omega (splitDisjunctions := false) | omega | decide) F_a_row) [10] [0, 1, 2, 3, 4, 5, 6, 7, 8, 9] (by decide) rfl rfl rfl (by decide) (by decide) k_1322 rfl k_128 k_1320 k_1321 hy_Mod_isName (by decide) rfl rfl (Nat.le_of_ble_eq_true rfl) (by decide) (fun v9 ux17 ch16 => ?_)
    obtain ⟨r_18, rfl⟩ : ∃ z9, z9 = ux17 := ⟨_, rfl⟩
    obtain ⟨ech16, ch16⟩ := ch16
    have ech16 : v9 = some (.int r_18) := ech16
    subst ech16
    obtain ⟨fh19, fh20⟩ : (r_18.toInt = 0 ∨ r_18.toInt = 1) ∧ (r_18.toInt = 1 → 1 ≤ ix14.toInt ∧ ix14.toInt ≤ 24) := ch16
    refine pb_eq (pc' := 34) (lo' := [(3, .int ix14), (0, .ref h), (1, .int e), (2, .int bg)]) (rest' := [.int r_18]) (ws' := [(m_count, .inl (G.2.2.1, 2, .inl a_count)), (m_nameSize, .inl (G.2.2.1, 34, .inl a_nameSize)), (m_names, .inl (G.2.1, 816, .inl a_names)), (m_looked, .inl (G.2.1, 40, .inl a_looked)), (m_size, .inl (G.2.2.1, 34, .inl a_size)), (m_data, .inl (G.2.1, 136000, .inl a_data)), (m_length, .inl (G.2.2.1, 420, .inl a_length)), (m_order, .inl (G.2.1, 19, .inl a_order)), (m_made, .inl (G.2.1, 4000, .inl a_made)), (h, .inr (10, [.ref m_rels, .ref m_openRels, .ref m_closeRels, .ref m_openRel, .ref m_closeRel, .ref m_comment, .ref m_ends, .ref m_order, .int v_thrown, .int v_taped, .ref m_tape, .ref m_count, .ref m_nameSize, .ref m_names, .ref m_size, .ref m_data, .int v_lookedSize, .ref m_looked, .int v_fileSize, .ref m_file, .int v_directorySize, .ref m_directory, .int v_outSize, .ref m_out, .int v_rowSize, .ref m_row, .int v_bitAt, .int v_bitEnd, .int v_why, .int v_madeSize, .ref m_made, .ref m_length, .int v_firstCount, .int v_secondCount, .int v_heldBits, .int v_heldCount, .int v_pressedSize, .ref m_pressed, .int v_at, .int v_bad, .int v_markSize, .ref m_mark, .int v_relationCount, .ref m_idSize, .ref m_ids, .ref m_goalSize, .ref m_goals, .int v_valueSize, .ref m_value, .int v_faultCount, .ref m_faults, .ref m_reached])), (m_row, .inl (G.2.1, 20000, .inl a_row))]) ?_
    refine pb_if_ne (pc := 34) (tgt := 39) d_Mod_entryFault_34 (by decide) (fun wx21 => ?_) (fun wx21 => ?_)
    · have twx21 : ¬ r_18.toInt = 0 := fun z9 => wx21 ((ti_eq rfl (by decide)).mpr z9)
      refine pb_aload_n (pc := 39) d_Mod_entryFault_39 1 rfl rfl ?_
      refine pb_aload_n (pc := 40) d_Mod_entryFault_40 1 rfl rfl ?_
      refine pb_get (pc := 41) d_Mod_entryFault_41 9 25 rfl rfl (by decide) in_Mod k_1171 rfl ?_
      refine pb_iload_n (pc := 44) d_Mod_entryFault_44 2 rfl rfl ?_
      refine pb_bipush (pc := 45) (v := 46) d_Mod_entryFault_45 (by decide) ?_
      refine pb_iadd (pc := 47) d_Mod_entryFault_47 ?_
      refine pb_topi (fun ix22 eix22 => ?_)
      try have tix22 : ix22.toInt = e.toInt + 46 := t2_add eix22 rfl (by decide) (by omega)
      refine pb_iload_n (pc := 48) d_Mod_entryFault_48 0 rfl rfl ?_
      refine pb_callV (pc := 49) (I := i_Mod_entryFault) (qb := 9) (ci := 10) (nA := 3) (rest := []) (wr := [(m_count, .inl (G.2.2.1, 2, .inl a_count)), (m_nameSize, .inl (G.2.2.1, 34, .inl a_nameSize)), (m_names, .inl (G.2.1, 816, .inl a_names)), (m_size, .inl (G.2.2.1, 34, .inl a_size)), (m_data, .inl (G.2.1, 136000, .inl a_data)), (m_length, .inl (G.2.2.1, 420, .inl a_length)), (m_order, .inl (G.2.1, 19, .inl a_order)), (m_made, .inl (G.2.1, 4000, .inl a_made))]) d_Mod_entryFault_49 (g_Mod_look hl G h m_rels m_openRels m_closeRels m_openRel m_closeRel m_comment m_ends m_order m_tape m_count m_nameSize m_names m_size m_data m_looked m_file m_directory m_out m_row m_made m_length m_pressed m_mark m_idSize m_ids m_goalSize m_goals m_value m_faults m_reached v_thrown v_taped v_lookedSize v_fileSize v_directorySize v_outSize v_rowSize v_bitAt v_bitEnd v_why v_madeSize v_firstCount v_secondCount v_heldBits v_heldCount v_pressedSize v_at v_bad v_markSize v_relationCount v_valueSize v_faultCount a_looked m_row 20000 a_row ix22 ix14 (by first | assumption | omega (splitDisjunctions := false) | omega | decide) (by first | assumption | omega (splitDisjunctions := false) | omega | decide) (by first | assumption | omega (splitDisjunctions := false) | omega | decide) F_a_looked F_a_row) rfl rfl [9, 3, 10] [0, 1, 2, 4, 5, 6, 7, 8] (by decide) rfl rfl rfl (by decide) (by decide) k_1329 rfl k_128 k_1326 k_1328 k_53 ⟨rfl, hy_Mod_look⟩ (by decide) rfl rfl (Nat.le_of_ble_eq_true rfl) (by decide) (fun v9 ux24 ch23 => ?_)
      obtain ⟨g_25, rfl⟩ : ∃ z9, z9 = ux24 := ⟨_, rfl⟩
      obtain ⟨ech23, ch23⟩ := ch23
      have ech23 : v9 = none := ech23
      subst ech23
      obtain ⟨fh26, fh27⟩ : (∀ k : Int, 0 ≤ k → k < ix14.toInt → k < 40 → gx g_25 k = gx a_row (ix22.toInt + k)) ∧ (sb_Fit g_25) := ch23
      refine pb_eq (pc' := 52) (lo' := [(3, .int ix14), (0, .ref h), (1, .int e), (2, .int bg)]) (rest' := []) (ws' := [(m_count, .inl (G.2.2.1, 2, .inl a_count)), (m_nameSize, .inl (G.2.2.1, 34, .inl a_nameSize)), (m_names, .inl (G.2.1, 816, .inl a_names)), (m_size, .inl (G.2.2.1, 34, .inl a_size)), (m_data, .inl (G.2.1, 136000, .inl a_data)), (m_length, .inl (G.2.2.1, 420, .inl a_length)), (m_order, .inl (G.2.1, 19, .inl a_order)), (m_made, .inl (G.2.1, 4000, .inl a_made)), (h, .inr (10, [.ref m_rels, .ref m_openRels, .ref m_closeRels, .ref m_openRel, .ref m_closeRel, .ref m_comment, .ref m_ends, .ref m_order, .int v_thrown, .int v_taped, .ref m_tape, .ref m_count, .ref m_nameSize, .ref m_names, .ref m_size, .ref m_data, .int ix14, .ref m_looked, .int v_fileSize, .ref m_file, .int v_directorySize, .ref m_directory, .int v_outSize, .ref m_out, .int v_rowSize, .ref m_row, .int v_bitAt, .int v_bitEnd, .int v_why, .int v_madeSize, .ref m_made, .ref m_length, .int v_firstCount, .int v_secondCount, .int v_heldBits, .int v_heldCount, .int v_pressedSize, .ref m_pressed, .int v_at, .int v_bad, .int v_markSize, .ref m_mark, .int v_relationCount, .ref m_idSize, .ref m_ids, .ref m_goalSize, .ref m_goals, .int v_valueSize, .ref m_value, .int v_faultCount, .ref m_faults, .ref m_reached])), (m_looked, .inl (G.2.1, 40, .inl g_25)), (m_row, .inl (G.2.1, 20000, .inl a_row))]) ?_
      refine pb_aload_n (pc := 52) d_Mod_entryFault_52 1 rfl rfl ?_
      refine pb_iconst (pc := 53) (v := 1) d_Mod_entryFault_53 (by decide) ?_
      refine pb_callV (pc := 54) (I := i_Mod_entryFault) (qb := 8) (ci := 10) (nA := 1) (rest := []) (wr := [(m_size, .inl (G.2.2.1, 34, .inl a_size)), (m_data, .inl (G.2.1, 136000, .inl a_data)), (m_length, .inl (G.2.2.1, 420, .inl a_length)), (m_order, .inl (G.2.1, 19, .inl a_order)), (m_made, .inl (G.2.1, 4000, .inl a_made)), (m_row, .inl (G.2.1, 20000, .inl a_row))]) d_Mod_entryFault_54 (g_Mod_find hl G h m_rels m_openRels m_closeRels m_openRel m_closeRel m_comment m_ends m_order m_tape m_count m_nameSize m_names m_size m_data m_looked m_file m_directory m_out m_row m_made m_length m_pressed m_mark m_idSize m_ids m_goalSize m_goals m_value m_faults m_reached v_thrown v_taped ix14 v_fileSize v_directorySize v_outSize v_rowSize v_bitAt v_bitEnd v_why v_madeSize v_firstCount v_secondCount v_heldBits v_heldCount v_pressedSize v_at v_bad v_markSize v_relationCount v_valueSize v_faultCount a_count a_nameSize a_names g_25 1 (by first | assumption | omega (splitDisjunctions := false) | omega | decide) (by first | assumption | omega (splitDisjunctions := false) | omega | decide) (by simpa only [zl1, Int.mul_one] using fun i a0 a1 => (⟨(I.2.2.1 i a0 a1).1, (I.2.2.1 i a0 a1).2.1⟩ : 1 ≤ gx a_nameSize (17 + i) ∧ gx a_nameSize (17 + i) ≤ 24)) (by simpa only [zl1] using I.1) (by simpa only [zl1] using I.2.1) (by first | assumption | omega (splitDisjunctions := false) | omega | decide) (by first | assumption | omega (splitDisjunctions := false) | omega | decide) F_a_names fh27) rfl rfl [8, 0, 1, 2, 9] [3, 4, 5, 6, 7, 10] (by decide) rfl rfl rfl (by decide) (by decide) k_1337 rfl k_128 k_1334 k_1336 k_55 ⟨rfl, hy_Mod_find⟩ (by decide) rfl rfl (Nat.le_of_ble_eq_true rfl) (by decide) (fun v9 ux29 ch28 => ?_)
      obtain ⟨r_30, rfl⟩ : ∃ z9, z9 = ux29 := ⟨_, rfl⟩
      obtain ⟨ech28, ch28⟩ := ch28
      have ech28 : v9 = some (.int r_30) := ech28
      subst ech28
      obtain ⟨fh31, fh32, fh33, fh34⟩ : (-1 ≤ r_30.toInt) ∧ (r_30.toInt < gx a_count (1 : Int32).toInt) ∧ (0 ≤ r_30.toInt → nl_eq a_nameSize a_names ((17 * (1 : Int32).toInt + r_30.toInt)) ix14.toInt g_25) ∧ (r_30.toInt = -1 → ∀ i : Int, 0 ≤ i → i < gx a_count (1 : Int32).toInt → ¬ nl_eq a_nameSize a_names (17 * (1 : Int32).toInt + i) ix14.toInt g_25) := ch28
      refine pb_eq (pc' := 57) (lo' := [(3, .int ix14), (0, .ref h), (1, .int e), (2, .int bg)]) (rest' := [.int r_30]) (ws' := [(m_size, .inl (G.2.2.1, 34, .inl a_size)), (m_data, .inl (G.2.1, 136000, .inl a_data)), (m_length, .inl (G.2.2.1, 420, .inl a_length)), (m_order, .inl (G.2.1, 19, .inl a_order)), (m_made, .inl (G.2.1, 4000, .inl a_made)), (m_row, .inl (G.2.1, 20000, .inl a_row)), (h, .inr (10, [.ref m_rels, .ref m_openRels, .ref m_closeRels, .ref m_openRel, .ref m_closeRel, .ref m_comment, .ref m_ends, .ref m_order, .int v_thrown, .int v_taped, .ref m_tape, .ref m_count, .ref m_nameSize, .ref m_names, .ref m_size, .ref m_data, .int ix14, .ref m_looked, .int v_fileSize, .ref m_file, .int v_directorySize, .ref m_directory, .int v_outSize, .ref m_out, .int v_rowSize, .ref m_row, .int v_bitAt, .int v_bitEnd, .int v_why, .int v_madeSize, .ref m_made, .ref m_length, .int v_firstCount, .int v_secondCount, .int v_heldBits, .int v_heldCount, .int v_pressedSize, .ref m_pressed, .int v_at, .int v_bad, .int v_markSize, .ref m_mark, .int v_relationCount, .ref m_idSize, .ref m_ids, .ref m_goalSize, .ref m_goals, .int v_valueSize, .ref m_value, .int v_faultCount, .ref m_faults, .ref m_reached])), (m_count, .inl (G.2.2.1, 2, .inl a_count)), (m_nameSize, .inl (G.2.2.1, 34, .inl a_nameSize)), (m_names, .inl (G.2.1, 816, .inl a_names)), (m_looked, .inl (G.2.1, 40, .inl g_25))]) ?_
      refine pb_if_lt (pc := 57) (tgt := 62) d_Mod_entryFault_57 (by decide) (fun wx35 => ?_) (fun wx35 => ?_)
      · have twx35 : r_30.toInt < 0 := (ti_lt rfl (by decide)).mp wx35
        refine pb_aload_n (pc := 62) d_Mod_entryFault_62 1 rfl rfl ?_
        refine pb_iload_n (pc := 63) d_Mod_entryFault_63 2 rfl rfl ?_
        refine pb_bipush (pc := 64) (v := 42) d_Mod_entryFault_64 (by decide) ?_
        refine pb_iadd (pc := 66) d_Mod_entryFault_66 ?_
        refine pb_topi (fun ix36 eix36 => ?_)
        try have tix36 : ix36.toInt = e.toInt + 42 := t2_add eix36 rfl (by decide) (by omega)
        refine pb_iconst (pc := 67) (v := 4) d_Mod_entryFault_67 (by decide) ?_
        refine pb_callV (pc := 68) (I := i_Mod_entryFault) (qb := 6) (ci := 10) (nA := 2) (rest := []) (wr := [(m_size, .inl (G.2.2.1, 34, .inl a_size)), (m_data, .inl (G.2.1, 136000, .inl a_data)), (m_length, .inl (G.2.2.1, 420, .inl a_length)), (m_order, .inl (G.2.1, 19, .inl a_order)), (m_made, .inl (G.2.1, 4000, .inl a_made)), (m_count, .inl (G.2.2.1, 2, .inl a_count)), (m_nameSize, .inl (G.2.2.1, 34, .inl a_nameSize)), (m_names, .inl (G.2.1, 816, .inl a_names)), (m_looked, .inl (G.2.1, 40, .inl g_25))]) d_Mod_entryFault_68 (g_Mod_at hl G h m_rels m_openRels m_closeRels m_openRel m_closeRel m_comment m_ends m_order m_tape m_count m_nameSize m_names m_size m_data m_looked m_file m_directory m_out m_row m_made m_length m_pressed m_mark m_idSize m_ids m_goalSize m_goals m_value m_faults m_reached v_thrown v_taped ix14 v_fileSize v_directorySize v_outSize v_rowSize v_bitAt v_bitEnd v_why v_madeSize v_firstCount v_secondCount v_heldBits v_heldCount v_pressedSize v_at v_bad v_markSize v_relationCount v_valueSize v_faultCount a_row ix36 4 (by first | assumption | omega (splitDisjunctions := false) | omega | decide) (by first | assumption | omega (splitDisjunctions := false) | omega | decide) (by first | assumption | omega (splitDisjunctions := false) | omega | decide) (by first | assumption | omega (splitDisjunctions := false) | omega | decide) F_a_row) rfl rfl [6, 5] [0, 1, 2, 3, 4, 7, 8, 9, 10] (by decide) rfl rfl rfl (by decide) (by decide) k_1529 rfl k_128 k_1526 k_1528 k_88 ⟨rfl, hy_Mod_at⟩ (by decide) rfl rfl (Nat.le_of_ble_eq_true rfl) (by decide) (fun v9 ux38 ch37 => ?_)
        obtain ⟨r_39, rfl⟩ : ∃ z9, z9 = ux38 := ⟨_, rfl⟩
        obtain ⟨ech37, ch37⟩ := ch37
        have ech37 : v9 = some (.long r_39) := ech37
        subst ech37
        obtain ⟨fh40, fh41, fh42⟩ : (r_39.toInt = av a_row ix36.toInt (4 : Int32).toInt.toNat) ∧ (0 ≤ r_39.toInt) ∧ (r_39.toInt < 4294967296) := ch37
        rw [n4, show ix36.toInt = e.toInt + 42 by omega] at fh40
        refine pb_eq (pc' := 71) (lo' := [(3, .int ix14), (0, .ref h), (1, .int e), (2, .int bg)]) (rest' := [.long r_39]) (ws' := [(m_size, .inl (G.2.2.1, 34, .inl a_size)), (m_data, .inl (G.2.1, 136000, .inl a_data)), (m_length, .inl (G.2.2.1, 420, .inl a_length)), (m_order, .inl (G.2.1, 19, .inl a_order)), (m_made, .inl (G.2.1, 4000, .inl a_made)), (m_count, .inl (G.2.2.1, 2, .inl a_count)), (m_nameSize, .inl (G.2.2.1, 34, .inl a_nameSize)), (m_names, .inl (G.2.1, 816, .inl a_names)), (m_looked, .inl (G.2.1, 40, .inl g_25)), (h, .inr (10, [.ref m_rels, .ref m_openRels, .ref m_closeRels, .ref m_openRel, .ref m_closeRel, .ref m_comment, .ref m_ends, .ref m_order, .int v_thrown, .int v_taped, .ref m_tape, .ref m_count, .ref m_nameSize, .ref m_names, .ref m_size, .ref m_data, .int ix14, .ref m_looked, .int v_fileSize, .ref m_file, .int v_directorySize, .ref m_directory, .int v_outSize, .ref m_out, .int v_rowSize, .ref m_row, .int v_bitAt, .int v_bitEnd, .int v_why, .int v_madeSize, .ref m_made, .ref m_length, .int v_firstCount, .int v_secondCount, .int v_heldBits, .int v_heldCount, .int v_pressedSize, .ref m_pressed, .int v_at, .int v_bad, .int v_markSize, .ref m_mark, .int v_relationCount, .ref m_idSize, .ref m_ids, .ref m_goalSize, .ref m_goals, .int v_valueSize, .ref m_value, .int v_faultCount, .ref m_faults, .ref m_reached])), (m_row, .inl (G.2.1, 20000, .inl a_row))]) ?_
        refine pb_l2i (pc := 71) d_Mod_entryFault_71 rfl ?_
        refine pb_topi (fun ix43 eix43 => ?_)
        try have tix43 : ix43.toInt = r_39.toInt := ti_l2i eix43 rfl (by omega) (by omega)
        refine pb_bipush (pc := 72) (v := 30) d_Mod_entryFault_72 (by decide) ?_
        refine pb_iadd (pc := 74) d_Mod_entryFault_74 ?_
        refine pb_topi (fun ix44 eix44 => ?_)
        try have tix44 : ix44.toInt = ix43.toInt + 30 := t2_add eix44 rfl (by decide) (by omega)
        refine pb_iload_n (pc := 75) d_Mod_entryFault_75 0 rfl rfl ?_
        refine pb_iadd (pc := 76) d_Mod_entryFault_76 ?_
        refine pb_topi (fun ix45 eix45 => ?_)
        try have tix45 : ix45.toInt = ix44.toInt + ix14.toInt := t2_add eix45 rfl rfl (by omega)
        refine pb_istore (pc := 77) (lo' := [(4, .int ix45), (3, .int ix14), (0, .ref h), (1, .int e), (2, .int bg)]) d_Mod_entryFault_77 (by decide) rfl ?_
        refine pb_aload_n (pc := 79) d_Mod_entryFault_79 2 rfl rfl ?_
        refine pb_iload_n (pc := 80) d_Mod_entryFault_80 3 rfl rfl ?_
        refine pb_bipush (pc := 81) (v := 20) d_Mod_entryFault_81 (by decide) ?_
        refine pb_iadd (pc := 83) d_Mod_entryFault_83 ?_
        refine pb_topi (fun ix46 eix46 => ?_)
        try have tix46 : ix46.toInt = e.toInt + 20 := t2_add eix46 rfl (by decide) (by omega)
        refine pb_iconst (pc := 84) (v := 4) d_Mod_entryFault_84 (by decide) ?_
        refine pb_callV (pc := 85) (I := i_Mod_entryFault) (qb := 9) (ci := 10) (nA := 2) (rest := []) (wr := [(m_size, .inl (G.2.2.1, 34, .inl a_size)), (m_data, .inl (G.2.1, 136000, .inl a_data)), (m_length, .inl (G.2.2.1, 420, .inl a_length)), (m_order, .inl (G.2.1, 19, .inl a_order)), (m_made, .inl (G.2.1, 4000, .inl a_made)), (m_count, .inl (G.2.2.1, 2, .inl a_count)), (m_nameSize, .inl (G.2.2.1, 34, .inl a_nameSize)), (m_names, .inl (G.2.1, 816, .inl a_names)), (m_looked, .inl (G.2.1, 40, .inl g_25))]) d_Mod_entryFault_85 (g_Mod_at hl G h m_rels m_openRels m_closeRels m_openRel m_closeRel m_comment m_ends m_order m_tape m_count m_nameSize m_names m_size m_data m_looked m_file m_directory m_out m_row m_made m_length m_pressed m_mark m_idSize m_ids m_goalSize m_goals m_value m_faults m_reached v_thrown v_taped ix14 v_fileSize v_directorySize v_outSize v_rowSize v_bitAt v_bitEnd v_why v_madeSize v_firstCount v_secondCount v_heldBits v_heldCount v_pressedSize v_at v_bad v_markSize v_relationCount v_valueSize v_faultCount a_row ix46 4 (by first | assumption | omega (splitDisjunctions := false) | omega | decide) (by first | assumption | omega (splitDisjunctions := false) | omega | decide) (by first | assumption | omega (splitDisjunctions := false) | omega | decide) (by first | assumption | omega (splitDisjunctions := false) | omega | decide) F_a_row) rfl rfl [9, 10] [0, 1, 2, 3, 4, 5, 6, 7, 8] (by decide) rfl rfl rfl (by decide) (by decide) k_1529 rfl k_128 k_1526 k_1528 k_88 ⟨rfl, hy_Mod_at⟩ (by decide) rfl rfl (Nat.le_of_ble_eq_true rfl) (by decide) (fun v9 ux48 ch47 => ?_)
        obtain ⟨r_49, rfl⟩ : ∃ z9, z9 = ux48 := ⟨_, rfl⟩
        obtain ⟨ech47, ch47⟩ := ch47
        have ech47 : v9 = some (.long r_49) := ech47
        subst ech47
        obtain ⟨fh50, fh51, fh52⟩ : (r_49.toInt = av a_row ix46.toInt (4 : Int32).toInt.toNat) ∧ (0 ≤ r_49.toInt) ∧ (r_49.toInt < 4294967296) := ch47
        rw [n4, show ix46.toInt = e.toInt + 20 by omega] at fh50
        refine pb_eq (pc' := 88) (lo' := [(4, .int ix45), (3, .int ix14), (0, .ref h), (1, .int e), (2, .int bg)]) (rest' := [.long r_49]) (ws' := [(m_size, .inl (G.2.2.1, 34, .inl a_size)), (m_data, .inl (G.2.1, 136000, .inl a_data)), (m_length, .inl (G.2.2.1, 420, .inl a_length)), (m_order, .inl (G.2.1, 19, .inl a_order)), (m_made, .inl (G.2.1, 4000, .inl a_made)), (m_count, .inl (G.2.2.1, 2, .inl a_count)), (m_nameSize, .inl (G.2.2.1, 34, .inl a_nameSize)), (m_names, .inl (G.2.1, 816, .inl a_names)), (m_looked, .inl (G.2.1, 40, .inl g_25)), (h, .inr (10, [.ref m_rels, .ref m_openRels, .ref m_closeRels, .ref m_openRel, .ref m_closeRel, .ref m_comment, .ref m_ends, .ref m_order, .int v_thrown, .int v_taped, .ref m_tape, .ref m_count, .ref m_nameSize, .ref m_names, .ref m_size, .ref m_data, .int ix14, .ref m_looked, .int v_fileSize, .ref m_file, .int v_directorySize, .ref m_directory, .int v_outSize, .ref m_out, .int v_rowSize, .ref m_row, .int v_bitAt, .int v_bitEnd, .int v_why, .int v_madeSize, .ref m_made, .ref m_length, .int v_firstCount, .int v_secondCount, .int v_heldBits, .int v_heldCount, .int v_pressedSize, .ref m_pressed, .int v_at, .int v_bad, .int v_markSize, .ref m_mark, .int v_relationCount, .ref m_idSize, .ref m_ids, .ref m_goalSize, .ref m_goals, .int v_valueSize, .ref m_value, .int v_faultCount, .ref m_faults, .ref m_reached])), (m_row, .inl (G.2.1, 20000, .inl a_row))]) ?_
        refine pb_l2i (pc := 88) d_Mod_entryFault_88 rfl ?_
        refine pb_topi (fun ix53 eix53 => ?_)
        try have tix53 : ix53.toInt = r_49.toInt := ti_l2i eix53 rfl (by omega) (by omega)
        refine pb_istore (pc := 89) (lo' := [(5, .int ix53), (4, .int ix45), (3, .int ix14), (0, .ref h), (1, .int e), (2, .int bg)]) d_Mod_entryFault_89 (by decide) rfl ?_
        refine pb_aload_n (pc := 91) d_Mod_entryFault_91 3 rfl rfl ?_
        refine pb_iload_n (pc := 92) d_Mod_entryFault_92 4 rfl rfl ?_
        refine pb_bipush (pc := 93) (v := 24) d_Mod_entryFault_93 (by decide) ?_
        refine pb_iadd (pc := 95) d_Mod_entryFault_95 ?_
        refine pb_topi (fun ix54 eix54 => ?_)
        try have tix54 : ix54.toInt = e.toInt + 24 := t2_add eix54 rfl (by decide) (by omega)
        refine pb_iconst (pc := 96) (v := 4) d_Mod_entryFault_96 (by decide) ?_
        refine pb_callV (pc := 97) (I := i_Mod_entryFault) (qb := 9) (ci := 10) (nA := 2) (rest := []) (wr := [(m_size, .inl (G.2.2.1, 34, .inl a_size)), (m_data, .inl (G.2.1, 136000, .inl a_data)), (m_length, .inl (G.2.2.1, 420, .inl a_length)), (m_order, .inl (G.2.1, 19, .inl a_order)), (m_made, .inl (G.2.1, 4000, .inl a_made)), (m_count, .inl (G.2.2.1, 2, .inl a_count)), (m_nameSize, .inl (G.2.2.1, 34, .inl a_nameSize)), (m_names, .inl (G.2.1, 816, .inl a_names)), (m_looked, .inl (G.2.1, 40, .inl g_25))]) d_Mod_entryFault_97 (g_Mod_at hl G h m_rels m_openRels m_closeRels m_openRel m_closeRel m_comment m_ends m_order m_tape m_count m_nameSize m_names m_size m_data m_looked m_file m_directory m_out m_row m_made m_length m_pressed m_mark m_idSize m_ids m_goalSize m_goals m_value m_faults m_reached v_thrown v_taped ix14 v_fileSize v_directorySize v_outSize v_rowSize v_bitAt v_bitEnd v_why v_madeSize v_firstCount v_secondCount v_heldBits v_heldCount v_pressedSize v_at v_bad v_markSize v_relationCount v_valueSize v_faultCount a_row ix54 4 (by first | assumption | omega (splitDisjunctions := false) | omega | decide) (by first | assumption | omega (splitDisjunctions := false) | omega | decide) (by first | assumption | omega (splitDisjunctions := false) | omega | decide) (by first | assumption | omega (splitDisjunctions := false) | omega | decide) F_a_row) rfl rfl [9, 10] [0, 1, 2, 3, 4, 5, 6, 7, 8] (by decide) rfl rfl rfl (by decide) (by decide) k_1529 rfl k_128 k_1526 k_1528 k_88 ⟨rfl, hy_Mod_at⟩ (by decide) rfl rfl (Nat.le_of_ble_eq_true rfl) (by decide) (fun v9 ux56 ch55 => ?_)
        obtain ⟨r_57, rfl⟩ : ∃ z9, z9 = ux56 := ⟨_, rfl⟩
        obtain ⟨ech55, ch55⟩ := ch55
        have ech55 : v9 = some (.long r_57) := ech55
        subst ech55
        obtain ⟨fh58, fh59, fh60⟩ : (r_57.toInt = av a_row ix54.toInt (4 : Int32).toInt.toNat) ∧ (0 ≤ r_57.toInt) ∧ (r_57.toInt < 4294967296) := ch55
        refine pb_eq (pc' := 100) (lo' := [(5, .int ix53), (4, .int ix45), (3, .int ix14), (0, .ref h), (1, .int e), (2, .int bg)]) (rest' := [.long r_57]) (ws' := [(m_size, .inl (G.2.2.1, 34, .inl a_size)), (m_data, .inl (G.2.1, 136000, .inl a_data)), (m_length, .inl (G.2.2.1, 420, .inl a_length)), (m_order, .inl (G.2.1, 19, .inl a_order)), (m_made, .inl (G.2.1, 4000, .inl a_made)), (m_count, .inl (G.2.2.1, 2, .inl a_count)), (m_nameSize, .inl (G.2.2.1, 34, .inl a_nameSize)), (m_names, .inl (G.2.1, 816, .inl a_names)), (m_looked, .inl (G.2.1, 40, .inl g_25)), (h, .inr (10, [.ref m_rels, .ref m_openRels, .ref m_closeRels, .ref m_openRel, .ref m_closeRel, .ref m_comment, .ref m_ends, .ref m_order, .int v_thrown, .int v_taped, .ref m_tape, .ref m_count, .ref m_nameSize, .ref m_names, .ref m_size, .ref m_data, .int ix14, .ref m_looked, .int v_fileSize, .ref m_file, .int v_directorySize, .ref m_directory, .int v_outSize, .ref m_out, .int v_rowSize, .ref m_row, .int v_bitAt, .int v_bitEnd, .int v_why, .int v_madeSize, .ref m_made, .ref m_length, .int v_firstCount, .int v_secondCount, .int v_heldBits, .int v_heldCount, .int v_pressedSize, .ref m_pressed, .int v_at, .int v_bad, .int v_markSize, .ref m_mark, .int v_relationCount, .ref m_idSize, .ref m_ids, .ref m_goalSize, .ref m_goals, .int v_valueSize, .ref m_value, .int v_faultCount, .ref m_faults, .ref m_reached])), (m_row, .inl (G.2.1, 20000, .inl a_row))]) ?_
        refine pb_lstore (pc := 100) (lo' := [(6, .long r_57), (5, .int ix53), (4, .int ix45), (3, .int ix14), (0, .ref h), (1, .int e), (2, .int bg)]) d_Mod_entryFault_100 (by decide) rfl ?_
        refine pb_aload_n (pc := 102) d_Mod_entryFault_102 4 rfl rfl ?_
        refine pb_iload_n (pc := 103) d_Mod_entryFault_103 5 rfl rfl ?_
        refine pb_bipush (pc := 104) (v := 16) d_Mod_entryFault_104 (by decide) ?_
        refine pb_iadd (pc := 106) d_Mod_entryFault_106 ?_
        refine pb_topi (fun ix61 eix61 => ?_)
        try have tix61 : ix61.toInt = e.toInt + 16 := t2_add eix61 rfl (by decide) (by omega)
        refine pb_iconst (pc := 107) (v := 4) d_Mod_entryFault_107 (by decide) ?_
        refine pb_callV (pc := 108) (I := i_Mod_entryFault) (qb := 9) (ci := 10) (nA := 2) (rest := []) (wr := [(m_size, .inl (G.2.2.1, 34, .inl a_size)), (m_data, .inl (G.2.1, 136000, .inl a_data)), (m_length, .inl (G.2.2.1, 420, .inl a_length)), (m_order, .inl (G.2.1, 19, .inl a_order)), (m_made, .inl (G.2.1, 4000, .inl a_made)), (m_count, .inl (G.2.2.1, 2, .inl a_count)), (m_nameSize, .inl (G.2.2.1, 34, .inl a_nameSize)), (m_names, .inl (G.2.1, 816, .inl a_names)), (m_looked, .inl (G.2.1, 40, .inl g_25))]) d_Mod_entryFault_108 (g_Mod_at hl G h m_rels m_openRels m_closeRels m_openRel m_closeRel m_comment m_ends m_order m_tape m_count m_nameSize m_names m_size m_data m_looked m_file m_directory m_out m_row m_made m_length m_pressed m_mark m_idSize m_ids m_goalSize m_goals m_value m_faults m_reached v_thrown v_taped ix14 v_fileSize v_directorySize v_outSize v_rowSize v_bitAt v_bitEnd v_why v_madeSize v_firstCount v_secondCount v_heldBits v_heldCount v_pressedSize v_at v_bad v_markSize v_relationCount v_valueSize v_faultCount a_row ix61 4 (by first | assumption | omega (splitDisjunctions := false) | omega | decide) (by first | assumption | omega (splitDisjunctions := false) | omega | decide) (by first | assumption | omega (splitDisjunctions := false) | omega | decide) (by first | assumption | omega (splitDisjunctions := false) | omega | decide) F_a_row) rfl rfl [9, 10] [0, 1, 2, 3, 4, 5, 6, 7, 8] (by decide) rfl rfl rfl (by decide) (by decide) k_1529 rfl k_128 k_1526 k_1528 k_88 ⟨rfl, hy_Mod_at⟩ (by decide) rfl rfl (Nat.le_of_ble_eq_true rfl) (by decide) (fun v9 ux63 ch62 => ?_)
        obtain ⟨r_64, rfl⟩ : ∃ z9, z9 = ux63 := ⟨_, rfl⟩
        obtain ⟨ech62, ch62⟩ := ch62
        have ech62 : v9 = some (.long r_64) := ech62
        subst ech62
        obtain ⟨fh65, fh66, fh67⟩ : (r_64.toInt = av a_row ix61.toInt (4 : Int32).toInt.toNat) ∧ (0 ≤ r_64.toInt) ∧ (r_64.toInt < 4294967296) := ch62
        refine pb_eq (pc' := 111) (lo' := [(6, .long r_57), (5, .int ix53), (4, .int ix45), (3, .int ix14), (0, .ref h), (1, .int e), (2, .int bg)]) (rest' := [.long r_64]) (ws' := [(m_size, .inl (G.2.2.1, 34, .inl a_size)), (m_data, .inl (G.2.1, 136000, .inl a_data)), (m_length, .inl (G.2.2.1, 420, .inl a_length)), (m_order, .inl (G.2.1, 19, .inl a_order)), (m_made, .inl (G.2.1, 4000, .inl a_made)), (m_count, .inl (G.2.2.1, 2, .inl a_count)), (m_nameSize, .inl (G.2.2.1, 34, .inl a_nameSize)), (m_names, .inl (G.2.1, 816, .inl a_names)), (m_looked, .inl (G.2.1, 40, .inl g_25)), (h, .inr (10, [.ref m_rels, .ref m_openRels, .ref m_closeRels, .ref m_openRel, .ref m_closeRel, .ref m_comment, .ref m_ends, .ref m_order, .int v_thrown, .int v_taped, .ref m_tape, .ref m_count, .ref m_nameSize, .ref m_names, .ref m_size, .ref m_data, .int ix14, .ref m_looked, .int v_fileSize, .ref m_file, .int v_directorySize, .ref m_directory, .int v_outSize, .ref m_out, .int v_rowSize, .ref m_row, .int v_bitAt, .int v_bitEnd, .int v_why, .int v_madeSize, .ref m_made, .ref m_length, .int v_firstCount, .int v_secondCount, .int v_heldBits, .int v_heldCount, .int v_pressedSize, .ref m_pressed, .int v_at, .int v_bad, .int v_markSize, .ref m_mark, .int v_relationCount, .ref m_idSize, .ref m_ids, .ref m_goalSize, .ref m_goals, .int v_valueSize, .ref m_value, .int v_faultCount, .ref m_faults, .ref m_reached])), (m_row, .inl (G.2.1, 20000, .inl a_row))]) ?_
        refine pb_l2i (pc := 111) d_Mod_entryFault_111 rfl ?_
        refine pb_topi (fun ix68 eix68 => ?_)
        try have tix68 : ix68.toInt = r_64.toInt := ti_l2i eix68 rfl (by omega) (by omega)
        refine pb_istore (pc := 112) (lo' := [(8, .int ix68), (6, .long r_57), (5, .int ix53), (4, .int ix45), (3, .int ix14), (0, .ref h), (1, .int e), (2, .int bg)]) d_Mod_entryFault_112 (by decide) rfl ?_
        refine pb_aload_n (pc := 114) d_Mod_entryFault_114 5 rfl rfl ?_
        refine pb_iload_n (pc := 115) d_Mod_entryFault_115 6 rfl rfl ?_
        refine pb_bipush (pc := 116) (v := 10) d_Mod_entryFault_116 (by decide) ?_
        refine pb_iadd (pc := 118) d_Mod_entryFault_118 ?_
        refine pb_topi (fun ix69 eix69 => ?_)
        try have tix69 : ix69.toInt = e.toInt + 10 := t2_add eix69 rfl (by decide) (by omega)
        refine pb_iconst (pc := 119) (v := 2) d_Mod_entryFault_119 (by decide) ?_
        refine pb_callV (pc := 120) (I := i_Mod_entryFault) (qb := 9) (ci := 10) (nA := 2) (rest := []) (wr := [(m_size, .inl (G.2.2.1, 34, .inl a_size)), (m_data, .inl (G.2.1, 136000, .inl a_data)), (m_length, .inl (G.2.2.1, 420, .inl a_length)), (m_order, .inl (G.2.1, 19, .inl a_order)), (m_made, .inl (G.2.1, 4000, .inl a_made)), (m_count, .inl (G.2.2.1, 2, .inl a_count)), (m_nameSize, .inl (G.2.2.1, 34, .inl a_nameSize)), (m_names, .inl (G.2.1, 816, .inl a_names)), (m_looked, .inl (G.2.1, 40, .inl g_25))]) d_Mod_entryFault_120 (g_Mod_at hl G h m_rels m_openRels m_closeRels m_openRel m_closeRel m_comment m_ends m_order m_tape m_count m_nameSize m_names m_size m_data m_looked m_file m_directory m_out m_row m_made m_length m_pressed m_mark m_idSize m_ids m_goalSize m_goals m_value m_faults m_reached v_thrown v_taped ix14 v_fileSize v_directorySize v_outSize v_rowSize v_bitAt v_bitEnd v_why v_madeSize v_firstCount v_secondCount v_heldBits v_heldCount v_pressedSize v_at v_bad v_markSize v_relationCount v_valueSize v_faultCount a_row ix69 2 (by first | assumption | omega (splitDisjunctions := false) | omega | decide) (by first | assumption | omega (splitDisjunctions := false) | omega | decide) (by first | assumption | omega (splitDisjunctions := false) | omega | decide) (by first | assumption | omega (splitDisjunctions := false) | omega | decide) F_a_row) rfl rfl [9, 10] [0, 1, 2, 3, 4, 5, 6, 7, 8] (by decide) rfl rfl rfl (by decide) (by decide) k_1529 rfl k_128 k_1526 k_1528 k_88 ⟨rfl, hy_Mod_at⟩ (by decide) rfl rfl (Nat.le_of_ble_eq_true rfl) (by decide) (fun v9 ux71 ch70 => ?_)
        obtain ⟨r_72, rfl⟩ : ∃ z9, z9 = ux71 := ⟨_, rfl⟩
        obtain ⟨ech70, ch70⟩ := ch70
        have ech70 : v9 = some (.long r_72) := ech70
        subst ech70
        obtain ⟨fh73, fh74, fh75⟩ : (r_72.toInt = av a_row ix69.toInt (2 : Int32).toInt.toNat) ∧ (0 ≤ r_72.toInt) ∧ (r_72.toInt < 4294967296) := ch70
        refine pb_eq (pc' := 123) (lo' := [(8, .int ix68), (6, .long r_57), (5, .int ix53), (4, .int ix45), (3, .int ix14), (0, .ref h), (1, .int e), (2, .int bg)]) (rest' := [.long r_72]) (ws' := [(m_size, .inl (G.2.2.1, 34, .inl a_size)), (m_data, .inl (G.2.1, 136000, .inl a_data)), (m_length, .inl (G.2.2.1, 420, .inl a_length)), (m_order, .inl (G.2.1, 19, .inl a_order)), (m_made, .inl (G.2.1, 4000, .inl a_made)), (m_count, .inl (G.2.2.1, 2, .inl a_count)), (m_nameSize, .inl (G.2.2.1, 34, .inl a_nameSize)), (m_names, .inl (G.2.1, 816, .inl a_names)), (m_looked, .inl (G.2.1, 40, .inl g_25)), (h, .inr (10, [.ref m_rels, .ref m_openRels, .ref m_closeRels, .ref m_openRel, .ref m_closeRel, .ref m_comment, .ref m_ends, .ref m_order, .int v_thrown, .int v_taped, .ref m_tape, .ref m_count, .ref m_nameSize, .ref m_names, .ref m_size, .ref m_data, .int ix14, .ref m_looked, .int v_fileSize, .ref m_file, .int v_directorySize, .ref m_directory, .int v_outSize, .ref m_out, .int v_rowSize, .ref m_row, .int v_bitAt, .int v_bitEnd, .int v_why, .int v_madeSize, .ref m_made, .ref m_length, .int v_firstCount, .int v_secondCount, .int v_heldBits, .int v_heldCount, .int v_pressedSize, .ref m_pressed, .int v_at, .int v_bad, .int v_markSize, .ref m_mark, .int v_relationCount, .ref m_idSize, .ref m_ids, .ref m_goalSize, .ref m_goals, .int v_valueSize, .ref m_value, .int v_faultCount, .ref m_faults, .ref m_reached])), (m_row, .inl (G.2.1, 20000, .inl a_row))]) ?_
        refine pb_ldc2 (pc := 123) (v := 8) d_Mod_entryFault_123 k_1502 ?_
        refine pb_lcmp (pc := 126) d_Mod_entryFault_126 ?_
        refine pb_topi (fun ix76 eix76 => ?_)
        have tix76 : (ix76.toInt < 0 ↔ r_72.toInt < 8) ∧ (ix76.toInt = 0 ↔ r_72.toInt = 8) ∧ (0 < ix76.toInt ↔ 8 < r_72.toInt) := tl_cmp eix76 rfl (by decide)
        refine pb_if_ne (pc := 127) (tgt := 205) d_Mod_entryFault_127 (by decide) (fun wx77 => ?_) (fun wx77 => ?_)
        · have twx77 : ¬ ix76.toInt = 0 := fun z9 => wx77 ((ti_eq rfl (by decide)).mpr z9)
          refine pb_iload (pc := 205) d_Mod_entryFault_205 2 rfl ?_
          refine pb_i2l (pc := 207) d_Mod_entryFault_207 rfl ?_
          refine pb_topl (fun jx78 ejx78 => ?_)
          have tjx78 : jx78.toInt = ix53.toInt := tl_i2l ejx78 rfl
          refine pb_lload (pc := 208) d_Mod_entryFault_208 1 rfl ?_
          refine pb_lcmp (pc := 210) d_Mod_entryFault_210 ?_
          refine pb_topi (fun ix79 eix79 => ?_)
          have tix79 : (ix79.toInt < 0 ↔ jx78.toInt < r_57.toInt) ∧ (ix79.toInt = 0 ↔ jx78.toInt = r_57.toInt) ∧ (0 < ix79.toInt ↔ r_57.toInt < jx78.toInt) := tl_cmp eix79 rfl rfl
          refine pb_if_ne (pc := 211) (tgt := 230) d_Mod_entryFault_211 (by decide) (fun wx80 => ?_) (fun wx80 => ?_)
          · have twx80 : ¬ ix79.toInt = 0 := fun z9 => wx80 ((ti_eq rfl (by decide)).mpr z9)
            refine pb_iconst (pc := 230) (v := 5) d_Mod_entryFault_230 (by decide) ?_
            exact pb_iret (pc := 231) hQ d_Mod_entryFault_231 rfl rfl (5, ix14, v_bitAt, v_bitEnd, v_why, v_firstCount, v_secondCount, v_madeSize, a_count, a_nameSize, a_names, g_25, a_size, a_data, a_length, a_made) ⟨rfl, (show ms_I 17 (gx a_count 1) a_nameSize a_size a_names from (by first | exact I | exact P0)), (show gx a_count 0 = gx a_count 0 from (by first | rfl | exact P1)), (show ot_Z a_nameSize a_nameSize 17 from (by first | exact fun _ _ _ => rfl | exact P2)), (show ot_Z a_size a_size 17 from (by first | exact fun _ _ _ => rfl | exact P3)), (show ot_N a_names a_names 17 from (by first | exact fun _ _ _ => rfl | exact P4)), (show le_I a_length from (by first | exact LI | assumption)), (by (try dsimp only); first | done | assumption | omega (splitDisjunctions := false) | omega | decide), (by (try dsimp only); first | done | assumption | omega (splitDisjunctions := false) | omega | decide), (by (try dsimp only); first | done | assumption | omega (splitDisjunctions := false) | omega | decide), (by (try dsimp only); first | done | assumption | omega (splitDisjunctions := false) | omega | decide), F_a_names, fh27, F_a_data, F_a_made⟩ [9, 10, 5, 6, 7, 8, 0, 1, 2, 3, 4] (by decide) rfl rfl (by decide) (by decide)
          · have twx80 : ix79.toInt = 0 := (ti_eq rfl (by decide)).mp wx80
            refine pb_aload_n (pc := 214) d_Mod_entryFault_214 5 rfl rfl ?_
            refine pb_get (pc := 215) d_Mod_entryFault_215 9 25 rfl rfl (by decide) in_Mod k_1171 rfl ?_
            refine pb_iload (pc := 218) d_Mod_entryFault_218 3 rfl ?_
            refine pb_iload (pc := 220) d_Mod_entryFault_220 2 rfl ?_
            refine pb_callS (pc := 222) (I := i_Mod_entryFault) (nA := 3) (rest := []) (wr := [(m_size, .inl (G.2.2.1, 34, .inl a_size)), (m_data, .inl (G.2.1, 136000, .inl a_data)), (m_length, .inl (G.2.2.1, 420, .inl a_length)), (m_order, .inl (G.2.1, 19, .inl a_order)), (m_made, .inl (G.2.1, 4000, .inl a_made)), (m_count, .inl (G.2.2.1, 2, .inl a_count)), (m_nameSize, .inl (G.2.2.1, 34, .inl a_nameSize)), (m_names, .inl (G.2.1, 816, .inl a_names)), (m_looked, .inl (G.2.1, 40, .inl g_25)), (h, .inr (10, [.ref m_rels, .ref m_openRels, .ref m_closeRels, .ref m_openRel, .ref m_closeRel, .ref m_comment, .ref m_ends, .ref m_order, .int v_thrown, .int v_taped, .ref m_tape, .ref m_count, .ref m_nameSize, .ref m_names, .ref m_size, .ref m_data, .int ix14, .ref m_looked, .int v_fileSize, .ref m_file, .int v_directorySize, .ref m_directory, .int v_outSize, .ref m_out, .int v_rowSize, .ref m_row, .int v_bitAt, .int v_bitEnd, .int v_why, .int v_madeSize, .ref m_made, .ref m_length, .int v_firstCount, .int v_secondCount, .int v_heldBits, .int v_heldCount, .int v_pressedSize, .ref m_pressed, .int v_at, .int v_bad, .int v_markSize, .ref m_mark, .int v_relationCount, .ref m_idSize, .ref m_ids, .ref m_goalSize, .ref m_goals, .int v_valueSize, .ref m_value, .int v_faultCount, .ref m_faults, .ref m_reached]))]) d_Mod_entryFault_222 (g_Mod_sumOf hl G m_row 20000 a_row ix45 ix53 (by first | assumption | omega (splitDisjunctions := false) | omega | decide) (by first | assumption | omega (splitDisjunctions := false) | omega | decide) (by first | assumption | omega (splitDisjunctions := false) | omega | decide) (by first | assumption | omega (splitDisjunctions := false) | omega | decide) F_a_row) [10] [0, 1, 2, 3, 4, 5, 6, 7, 8, 9] (by decide) rfl rfl rfl (by decide) (by decide) k_1372 rfl k_128 k_1370 k_1371 hy_Mod_sumOf (by decide) rfl rfl (Nat.le_of_ble_eq_true rfl) (by decide) (fun v9 ux82 ch81 => ?_)
            obtain ⟨r_83, rfl⟩ : ∃ z9, z9 = ux82 := ⟨_, rfl⟩
            obtain ⟨ech81, ch81⟩ := ch81
            have ech81 : v9 = some (.int r_83) := ech81
            subst ech81
            have fh84 : r_83 = cr_n a_row ix45.toInt ix53.toInt.toNat ^^^ (-1) := ch81
            refine pb_eq (pc' := 225) (lo' := [(8, .int ix68), (6, .long r_57), (5, .int ix53), (4, .int ix45), (3, .int ix14), (0, .ref h), (1, .int e), (2, .int bg)]) (rest' := [.int r_83]) (ws' := [(m_size, .inl (G.2.2.1, 34, .inl a_size)), (m_data, .inl (G.2.1, 136000, .inl a_data)), (m_length, .inl (G.2.2.1, 420, .inl a_length)), (m_order, .inl (G.2.1, 19, .inl a_order)), (m_made, .inl (G.2.1, 4000, .inl a_made)), (m_count, .inl (G.2.2.1, 2, .inl a_count)), (m_nameSize, .inl (G.2.2.1, 34, .inl a_nameSize)), (m_names, .inl (G.2.1, 816, .inl a_names)), (m_looked, .inl (G.2.1, 40, .inl g_25)), (h, .inr (10, [.ref m_rels, .ref m_openRels, .ref m_closeRels, .ref m_openRel, .ref m_closeRel, .ref m_comment, .ref m_ends, .ref m_order, .int v_thrown, .int v_taped, .ref m_tape, .ref m_count, .ref m_nameSize, .ref m_names, .ref m_size, .ref m_data, .int ix14, .ref m_looked, .int v_fileSize, .ref m_file, .int v_directorySize, .ref m_directory, .int v_outSize, .ref m_out, .int v_rowSize, .ref m_row, .int v_bitAt, .int v_bitEnd, .int v_why, .int v_madeSize, .ref m_made, .ref m_length, .int v_firstCount, .int v_secondCount, .int v_heldBits, .int v_heldCount, .int v_pressedSize, .ref m_pressed, .int v_at, .int v_bad, .int v_markSize, .ref m_mark, .int v_relationCount, .ref m_idSize, .ref m_ids, .ref m_goalSize, .ref m_goals, .int v_valueSize, .ref m_value, .int v_faultCount, .ref m_faults, .ref m_reached])), (m_row, .inl (G.2.1, 20000, .inl a_row))]) ?_
            refine pb_iload (pc := 225) d_Mod_entryFault_225 0 rfl ?_
            refine pb_icmp_eq (pc := 227) (tgt := 232) d_Mod_entryFault_227 (by decide) (fun wx85 => ?_) (fun wx85 => ?_)
            · have twx85 : r_83.toInt = ix68.toInt := (ti_eq rfl rfl).mp wx85
              refine pb_aload_n (pc := 232) d_Mod_entryFault_232 5 rfl rfl ?_
              refine pb_iconst (pc := 233) (v := 1) d_Mod_entryFault_233 (by decide) ?_
              refine pb_iload (pc := 234) d_Mod_entryFault_234 2 rfl ?_
              refine pb_callV (pc := 236) (I := i_Mod_entryFault) (qb := 9) (ci := 10) (nA := 2) (rest := []) (wr := [(m_data, .inl (G.2.1, 136000, .inl a_data)), (m_length, .inl (G.2.2.1, 420, .inl a_length)), (m_order, .inl (G.2.1, 19, .inl a_order)), (m_made, .inl (G.2.1, 4000, .inl a_made)), (m_row, .inl (G.2.1, 20000, .inl a_row))]) d_Mod_entryFault_236 (g_Mod_isRoom hl G h m_rels m_openRels m_closeRels m_openRel m_closeRel m_comment m_ends m_order m_tape m_count m_nameSize m_names m_size m_data m_looked m_file m_directory m_out m_row m_made m_length m_pressed m_mark m_idSize m_ids m_goalSize m_goals m_value m_faults m_reached v_thrown v_taped ix14 v_fileSize v_directorySize v_outSize v_rowSize v_bitAt v_bitEnd v_why v_madeSize v_firstCount v_secondCount v_heldBits v_heldCount v_pressedSize v_at v_bad v_markSize v_relationCount v_valueSize v_faultCount a_count a_nameSize a_names g_25 a_size 1 ix53 (by first | assumption | omega (splitDisjunctions := false) | omega | decide) (by first | assumption | omega (splitDisjunctions := false) | omega | decide) (by simpa only [zl1, Int.mul_one] using I) (by first | assumption | omega (splitDisjunctions := false) | omega | decide) (by first | assumption | omega (splitDisjunctions := false) | omega | decide) (by first | assumption | omega (splitDisjunctions := false) | omega | decide) (by first | assumption | omega (splitDisjunctions := false) | omega | decide) F_a_names fh27) rfl rfl [9, 5, 6, 7, 8, 0] [1, 2, 3, 4, 10] (by decide) rfl rfl rfl (by decide) (by decide) k_1333 rfl k_128 k_1330 k_1332 k_54 ⟨rfl, hy_Mod_isRoom⟩ (by decide) rfl rfl (Nat.le_of_ble_eq_true rfl) (by decide) (fun v9 ux87 ch86 => ?_)
              obtain ⟨r_88, rfl⟩ : ∃ z9, z9 = ux87 := ⟨_, rfl⟩
              obtain ⟨ech86, ch86⟩ := ch86
              have ech86 : v9 = some (.int r_88) := ech86
              subst ech86
              obtain ⟨fh89, fh90⟩ : (r_88.toInt = 0 ∨ r_88.toInt = 1) ∧ (r_88.toInt = 1 → ix53.toInt ≤ 4000 ∧ (∀ i : Int, 0 ≤ i → i < gx a_count (1 : Int32).toInt → nl_eq a_nameSize a_names (17 * (1 : Int32).toInt + i) ix14.toInt g_25 → sm a_size (17 * (1 : Int32).toInt) (gx a_count (1 : Int32).toInt).toNat - gx a_size (17 * (1 : Int32).toInt + i) + ix53.toInt ≤ 12000) ∧ ((∀ i : Int, 0 ≤ i → i < gx a_count (1 : Int32).toInt → ¬ nl_eq a_nameSize a_names (17 * (1 : Int32).toInt + i) ix14.toInt g_25) → sm a_size (17 * (1 : Int32).toInt) (gx a_count (1 : Int32).toInt).toNat + ix53.toInt ≤ 12000 ∧ gx a_count (1 : Int32).toInt < 16)) := ch86
              have rmF := fh90
              refine pb_eq (pc' := 239) (lo' := [(8, .int ix68), (6, .long r_57), (5, .int ix53), (4, .int ix45), (3, .int ix14), (0, .ref h), (1, .int e), (2, .int bg)]) (rest' := [.int r_88]) (ws' := [(m_data, .inl (G.2.1, 136000, .inl a_data)), (m_length, .inl (G.2.2.1, 420, .inl a_length)), (m_order, .inl (G.2.1, 19, .inl a_order)), (m_made, .inl (G.2.1, 4000, .inl a_made)), (m_row, .inl (G.2.1, 20000, .inl a_row)), (h, .inr (10, [.ref m_rels, .ref m_openRels, .ref m_closeRels, .ref m_openRel, .ref m_closeRel, .ref m_comment, .ref m_ends, .ref m_order, .int v_thrown, .int v_taped, .ref m_tape, .ref m_count, .ref m_nameSize, .ref m_names, .ref m_size, .ref m_data, .int ix14, .ref m_looked, .int v_fileSize, .ref m_file, .int v_directorySize, .ref m_directory, .int v_outSize, .ref m_out, .int v_rowSize, .ref m_row, .int v_bitAt, .int v_bitEnd, .int v_why, .int v_madeSize, .ref m_made, .ref m_length, .int v_firstCount, .int v_secondCount, .int v_heldBits, .int v_heldCount, .int v_pressedSize, .ref m_pressed, .int v_at, .int v_bad, .int v_markSize, .ref m_mark, .int v_relationCount, .ref m_idSize, .ref m_ids, .ref m_goalSize, .ref m_goals, .int v_valueSize, .ref m_value, .int v_faultCount, .ref m_faults, .ref m_reached])), (m_count, .inl (G.2.2.1, 2, .inl a_count)), (m_nameSize, .inl (G.2.2.1, 34, .inl a_nameSize)), (m_names, .inl (G.2.1, 816, .inl a_names)), (m_looked, .inl (G.2.1, 40, .inl g_25)), (m_size, .inl (G.2.2.1, 34, .inl a_size))]) ?_
              refine pb_if_ne (pc := 239) (tgt := 245) d_Mod_entryFault_239 (by decide) (fun wx91 => ?_) (fun wx91 => ?_)
              · have twx91 : ¬ r_88.toInt = 0 := fun z9 => wx91 ((ti_eq rfl (by decide)).mpr z9)
                refine pb_aload_n (pc := 245) d_Mod_entryFault_245 5 rfl rfl ?_
                refine pb_iconst (pc := 246) (v := 1) d_Mod_entryFault_246 (by decide) ?_
                refine pb_aload_n (pc := 247) d_Mod_entryFault_247 5 rfl rfl ?_
                refine pb_get (pc := 248) d_Mod_entryFault_248 5 25 rfl rfl (by decide) in_Mod k_1171 rfl ?_
                refine pb_iload (pc := 251) d_Mod_entryFault_251 3 rfl ?_
                refine pb_iload (pc := 253) d_Mod_entryFault_253 2 rfl ?_
                refine pb_callV (pc := 255) (I := i_Mod_entryFault) (qb := 5) (ci := 10) (nA := 4) (rest := []) (wr := [(m_length, .inl (G.2.2.1, 420, .inl a_length)), (m_order, .inl (G.2.1, 19, .inl a_order)), (m_made, .inl (G.2.1, 4000, .inl a_made))]) d_Mod_entryFault_255 (g_Mod_put hl G h m_rels m_openRels m_closeRels m_openRel m_closeRel m_comment m_ends m_order m_tape m_count m_nameSize m_names m_size m_data m_looked m_file m_directory m_out m_row m_made m_length m_pressed m_mark m_idSize m_ids m_goalSize m_goals m_value m_faults m_reached v_thrown v_taped ix14 v_fileSize v_directorySize v_outSize v_rowSize v_bitAt v_bitEnd v_why v_madeSize v_firstCount v_secondCount v_heldBits v_heldCount v_pressedSize v_at v_bad v_markSize v_relationCount v_valueSize v_faultCount a_count a_nameSize a_names g_25 a_size a_data m_row 20000 a_row 1 ix45 ix53 (by first | assumption | omega (splitDisjunctions := false) | omega | decide) (by first | assumption | omega (splitDisjunctions := false) | omega | decide) (by simpa only [zl1, Int.mul_one] using I) (by first | assumption | omega (splitDisjunctions := false) | omega | decide) (by first | assumption | omega (splitDisjunctions := false) | omega | decide) (rmF (by omega)).1 (rmF (by omega)).2.1 (rmF (by omega)).2.2 (by first | assumption | omega (splitDisjunctions := false) | omega | decide) (by first | assumption | omega (splitDisjunctions := false) | omega | decide) (by first | assumption | omega (splitDisjunctions := false) | omega | decide) (by first | assumption | omega (splitDisjunctions := false) | omega | decide) F_a_names fh27 F_a_data F_a_row) rfl rfl [5, 6, 7, 8, 9, 10, 0, 4] [1, 2, 3] (by decide) rfl rfl rfl (by decide) (by decide) k_1349 rfl k_128 k_1346 k_1348 k_58 ⟨rfl, hy_Mod_put⟩ (by decide) rfl rfl (Nat.le_of_ble_eq_true rfl) (by decide) (fun v9 ux93 ch92 => ?_)
                obtain ⟨c_94, z_95, n_96, s_97, d_98⟩ := ux93
                obtain ⟨ech92, ch92⟩ := ch92
                have ech92 : v9 = none := ech92
                subst ech92
                obtain ⟨fh99, fh100, fh101, fh102, fh103, fh104, fh105⟩ : (ms_I (17 * (1 : Int32).toInt) (gx c_94 (1 : Int32).toInt) z_95 s_97 n_96) ∧ (∀ o : Int, 0 ≤ o → o ≠ (1 : Int32).toInt → gx c_94 o = gx a_count o) ∧ (ot_Z a_nameSize z_95 (17 * (1 : Int32).toInt)) ∧ (ot_Z a_size s_97 (17 * (1 : Int32).toInt)) ∧ (ot_N a_names n_96 (17 * (1 : Int32).toInt)) ∧ (sb_Fit n_96) ∧ (sb_Fit d_98) := ch92
                have P0 := fh99
                have P1 := fh100 0 (by omega) (by omega)
                have P2 := fh101
                have P3 := fh102
                have P4 := fh103
                simp only [zl1, Int.mul_one] at P0 P2 P3 P4
                refine pb_eq (pc' := 258) (lo' := [(8, .int ix68), (6, .long r_57), (5, .int ix53), (4, .int ix45), (3, .int ix14), (0, .ref h), (1, .int e), (2, .int bg)]) (rest' := []) (ws' := [(m_length, .inl (G.2.2.1, 420, .inl a_length)), (m_order, .inl (G.2.1, 19, .inl a_order)), (m_made, .inl (G.2.1, 4000, .inl a_made)), (h, .inr (10, [.ref m_rels, .ref m_openRels, .ref m_closeRels, .ref m_openRel, .ref m_closeRel, .ref m_comment, .ref m_ends, .ref m_order, .int v_thrown, .int v_taped, .ref m_tape, .ref m_count, .ref m_nameSize, .ref m_names, .ref m_size, .ref m_data, .int ix14, .ref m_looked, .int v_fileSize, .ref m_file, .int v_directorySize, .ref m_directory, .int v_outSize, .ref m_out, .int v_rowSize, .ref m_row, .int v_bitAt, .int v_bitEnd, .int v_why, .int v_madeSize, .ref m_made, .ref m_length, .int v_firstCount, .int v_secondCount, .int v_heldBits, .int v_heldCount, .int v_pressedSize, .ref m_pressed, .int v_at, .int v_bad, .int v_markSize, .ref m_mark, .int v_relationCount, .ref m_idSize, .ref m_ids, .ref m_goalSize, .ref m_goals, .int v_valueSize, .ref m_value, .int v_faultCount, .ref m_faults, .ref m_reached])), (m_count, .inl (G.2.2.1, 2, .inl c_94)), (m_nameSize, .inl (G.2.2.1, 34, .inl z_95)), (m_names, .inl (G.2.1, 816, .inl n_96)), (m_looked, .inl (G.2.1, 40, .inl g_25)), (m_size, .inl (G.2.2.1, 34, .inl s_97)), (m_data, .inl (G.2.1, 136000, .inl d_98)), (m_row, .inl (G.2.1, 20000, .inl a_row))]) ?_
                refine pb_iconst (pc := 258) (v := 0) d_Mod_entryFault_258 (by decide) ?_
                exact pb_iret (pc := 259) hQ d_Mod_entryFault_259 rfl rfl (0, ix14, v_bitAt, v_bitEnd, v_why, v_firstCount, v_secondCount, v_madeSize, c_94, z_95, n_96, g_25, s_97, d_98, a_length, a_made) ⟨rfl, (show ms_I 17 (gx c_94 1) z_95 s_97 n_96 from (by first | exact I | exact P0)), (show gx c_94 0 = gx a_count 0 from (by first | rfl | exact P1)), (show ot_Z a_nameSize z_95 17 from (by first | exact fun _ _ _ => rfl | exact P2)), (show ot_Z a_size s_97 17 from (by first | exact fun _ _ _ => rfl | exact P3)), (show ot_N a_names n_96 17 from (by first | exact fun _ _ _ => rfl | exact P4)), (show le_I a_length from (by first | exact LI | assumption)), (by (try dsimp only); first | done | assumption | omega (splitDisjunctions := false) | omega | decide), (by (try dsimp only); first | done | assumption | omega (splitDisjunctions := false) | omega | decide), (by (try dsimp only); first | done | assumption | omega (splitDisjunctions := false) | omega | decide), (by (try dsimp only); first | done | assumption | omega (splitDisjunctions := false) | omega | decide), fh104, fh27, fh105, F_a_made⟩ [3, 10, 4, 5, 6, 7, 8, 9, 0, 1, 2] (by decide) rfl rfl (by decide) (by decide)
              · have twx91 : r_88.toInt = 0 := (ti_eq rfl (by decide)).mp wx91
                refine pb_bipush (pc := 242) (v := 6) d_Mod_entryFault_242 (by decide) ?_
                exact pb_iret (pc := 244) hQ d_Mod_entryFault_244 rfl rfl (6, ix14, v_bitAt, v_bitEnd, v_why, v_firstCount, v_secondCount, v_madeSize, a_count, a_nameSize, a_names, g_25, a_size, a_data, a_length, a_made) ⟨rfl, (show ms_I 17 (gx a_count 1) a_nameSize a_size a_names from (by first | exact I | exact P0)), (show gx a_count 0 = gx a_count 0 from (by first | rfl | exact P1)), (show ot_Z a_nameSize a_nameSize 17 from (by first | exact fun _ _ _ => rfl | exact P2)), (show ot_Z a_size a_size 17 from (by first | exact fun _ _ _ => rfl | exact P3)), (show ot_N a_names a_names 17 from (by first | exact fun _ _ _ => rfl | exact P4)), (show le_I a_length from (by first | exact LI | assumption)), (by (try dsimp only); first | done | assumption | omega (splitDisjunctions := false) | omega | decide), (by (try dsimp only); first | done | assumption | omega (splitDisjunctions := false) | omega | decide), (by (try dsimp only); first | done | assumption | omega (splitDisjunctions := false) | omega | decide), (by (try dsimp only); first | done | assumption | omega (splitDisjunctions := false) | omega | decide), F_a_names, fh27, F_a_data, F_a_made⟩ [5, 4, 6, 7, 8, 9, 10, 0, 1, 2, 3] (by decide) rfl rfl (by decide) (by decide)
            · have twx85 : ¬ r_83.toInt = ix68.toInt := fun z9 => wx85 ((ti_eq rfl rfl).mpr z9)
              refine pb_iconst (pc := 230) (v := 5) d_Mod_entryFault_230 (by decide) ?_
              exact pb_iret (pc := 231) hQ d_Mod_entryFault_231 rfl rfl (5, ix14, v_bitAt, v_bitEnd, v_why, v_firstCount, v_secondCount, v_madeSize, a_count, a_nameSize, a_names, g_25, a_size, a_data, a_length, a_made) ⟨rfl, (show ms_I 17 (gx a_count 1) a_nameSize a_size a_names from (by first | exact I | exact P0)), (show gx a_count 0 = gx a_count 0 from (by first | rfl | exact P1)), (show ot_Z a_nameSize a_nameSize 17 from (by first | exact fun _ _ _ => rfl | exact P2)), (show ot_Z a_size a_size 17 from (by first | exact fun _ _ _ => rfl | exact P3)), (show ot_N a_names a_names 17 from (by first | exact fun _ _ _ => rfl | exact P4)), (show le_I a_length from (by first | exact LI | assumption)), (by (try dsimp only); first | done | assumption | omega (splitDisjunctions := false) | omega | decide), (by (try dsimp only); first | done | assumption | omega (splitDisjunctions := false) | omega | decide), (by (try dsimp only); first | done | assumption | omega (splitDisjunctions := false) | omega | decide), (by (try dsimp only); first | done | assumption | omega (splitDisjunctions := false) | omega | decide), F_a_names, fh27, F_a_data, F_a_made⟩ [9, 10, 5, 6, 7, 8, 0, 1, 2, 3, 4] (by decide) rfl rfl (by decide) (by decide)
        · have twx77 : ix76.toInt = 0 := (ti_eq rfl (by decide)).mp wx77
          refine pb_aload_n (pc := 130) d_Mod_entryFault_130 5 rfl rfl ?_
          refine pb_iload (pc := 131) d_Mod_entryFault_131 3 rfl ?_
          refine pb_iload (pc := 133) d_Mod_entryFault_133 3 rfl ?_
          refine pb_iload (pc := 135) d_Mod_entryFault_135 2 rfl ?_
          refine pb_iadd (pc := 137) d_Mod_entryFault_137 ?_
          refine pb_topi (fun ix106 eix106 => ?_)
          try have tix106 : ix106.toInt = ix45.toInt + ix53.toInt := t2_add eix106 rfl rfl (by omega)
          refine pb_callV (pc := 138) (I := i_Mod_entryFault) (qb := 9) (ci := 10) (nA := 2) (rest := []) (wr := [(m_size, .inl (G.2.2.1, 34, .inl a_size)), (m_data, .inl (G.2.1, 136000, .inl a_data)), (m_count, .inl (G.2.2.1, 2, .inl a_count)), (m_nameSize, .inl (G.2.2.1, 34, .inl a_nameSize)), (m_names, .inl (G.2.1, 816, .inl a_names)), (m_looked, .inl (G.2.1, 40, .inl g_25))]) d_Mod_entryFault_138 (g_Mod_expandRow hl G h m_rels m_openRels m_closeRels m_openRel m_closeRel m_comment m_ends m_order m_tape m_count m_nameSize m_names m_size m_data m_looked m_file m_directory m_out m_row m_made m_length m_pressed m_mark m_idSize m_ids m_goalSize m_goals m_value m_faults m_reached v_thrown v_taped ix14 v_fileSize v_directorySize v_outSize v_rowSize v_bitAt v_bitEnd v_why v_madeSize v_firstCount v_secondCount v_heldBits v_heldCount v_pressedSize v_at v_bad v_markSize v_relationCount v_valueSize v_faultCount a_row a_length a_order a_made ix45 ix106 (gr a_row) (by first | assumption | omega (splitDisjunctions := false) | omega | decide) (by first | assumption | omega (splitDisjunctions := false) | omega | decide) (by first | assumption | omega (splitDisjunctions := false) | omega | decide) (by first | assumption | decide | omega) (by first | assumption | decide | omega) (by first | assumption | decide | omega) (fun j _ _ => rfl) F_a_row F_a_order F_a_made) rfl rfl [9, 10, 2, 3, 4] [0, 1, 5, 6, 7, 8] (by decide) rfl rfl rfl (by decide) (by decide) k_1426 rfl k_128 k_1423 k_1425 k_68 ⟨rfl, hy_Mod_expandRow⟩ (by decide) rfl rfl (Nat.le_of_ble_eq_true rfl) (by decide) (fun v9 ux108 ch107 => ?_)
          obtain ⟨r_109, ba_110, be_111, w_112, fc_113, sc_114, ms_115, L_116, g_117⟩ := ux108
          obtain ⟨ech107, ch107⟩ := ch107
          have ech107 : v9 = some (.int r_109) := ech107
          subst ech107
          obtain ⟨fh118, fh119, fh120, fh121, fh122, fh123, fh124⟩ : (r_109.toInt = w_112.toInt) ∧ (0 ≤ w_112.toInt) ∧ (le_I L_116) ∧ (0 ≤ ms_115.toInt) ∧ (ms_115.toInt ≤ 4000) ∧ (ex_f (gr a_row) od_ ix45.toInt (ix106.toInt - ix45.toInt) = oz_ w_112.toInt ba_110.toInt ms_115.toInt (sq g_117 0 ms_115.toInt)) ∧ (sb_Fit g_117) := ch107
          refine pb_eq (pc' := 141) (lo' := [(8, .int ix68), (6, .long r_57), (5, .int ix53), (4, .int ix45), (3, .int ix14), (0, .ref h), (1, .int e), (2, .int bg)]) (rest' := [.int r_109]) (ws' := [(m_size, .inl (G.2.2.1, 34, .inl a_size)), (m_data, .inl (G.2.1, 136000, .inl a_data)), (m_count, .inl (G.2.2.1, 2, .inl a_count)), (m_nameSize, .inl (G.2.2.1, 34, .inl a_nameSize)), (m_names, .inl (G.2.1, 816, .inl a_names)), (m_looked, .inl (G.2.1, 40, .inl g_25)), (h, .inr (10, [.ref m_rels, .ref m_openRels, .ref m_closeRels, .ref m_openRel, .ref m_closeRel, .ref m_comment, .ref m_ends, .ref m_order, .int v_thrown, .int v_taped, .ref m_tape, .ref m_count, .ref m_nameSize, .ref m_names, .ref m_size, .ref m_data, .int ix14, .ref m_looked, .int v_fileSize, .ref m_file, .int v_directorySize, .ref m_directory, .int v_outSize, .ref m_out, .int v_rowSize, .ref m_row, .int ba_110, .int be_111, .int w_112, .int ms_115, .ref m_made, .ref m_length, .int fc_113, .int sc_114, .int v_heldBits, .int v_heldCount, .int v_pressedSize, .ref m_pressed, .int v_at, .int v_bad, .int v_markSize, .ref m_mark, .int v_relationCount, .ref m_idSize, .ref m_ids, .ref m_goalSize, .ref m_goals, .int v_valueSize, .ref m_value, .int v_faultCount, .ref m_faults, .ref m_reached])), (m_row, .inl (G.2.1, 20000, .inl a_row)), (m_length, .inl (G.2.2.1, 420, .inl L_116)), (m_order, .inl (G.2.1, 19, .inl a_order)), (m_made, .inl (G.2.1, 4000, .inl g_117))]) ?_
          refine pb_if_gt (pc := 141) (tgt := 172) d_Mod_entryFault_141 (by decide) (fun wx125 => ?_) (fun wx125 => ?_)
          · have twx125 : 0 < r_109.toInt := (ti_lt (by decide) rfl).mp wx125
            refine pb_iconst (pc := 172) (v := 5) d_Mod_entryFault_172 (by decide) ?_
            exact pb_iret (pc := 173) hQ d_Mod_entryFault_173 rfl rfl (5, ix14, ba_110, be_111, w_112, fc_113, sc_114, ms_115, a_count, a_nameSize, a_names, g_25, a_size, a_data, L_116, g_117) ⟨rfl, (show ms_I 17 (gx a_count 1) a_nameSize a_size a_names from (by first | exact I | exact P0)), (show gx a_count 0 = gx a_count 0 from (by first | rfl | exact P1)), (show ot_Z a_nameSize a_nameSize 17 from (by first | exact fun _ _ _ => rfl | exact P2)), (show ot_Z a_size a_size 17 from (by first | exact fun _ _ _ => rfl | exact P3)), (show ot_N a_names a_names 17 from (by first | exact fun _ _ _ => rfl | exact P4)), (show le_I L_116 from (by first | exact LI | assumption)), (by (try dsimp only); first | done | assumption | omega (splitDisjunctions := false) | omega | decide), (by (try dsimp only); first | done | assumption | omega (splitDisjunctions := false) | omega | decide), (by (try dsimp only); first | done | assumption | omega (splitDisjunctions := false) | omega | decide), (by (try dsimp only); first | done | assumption | omega (splitDisjunctions := false) | omega | decide), F_a_names, fh27, F_a_data, fh124⟩ [6, 7, 2, 3, 4, 5, 0, 1, 8, 9, 10] (by decide) rfl rfl (by decide) (by decide)
          · have twx125 : ¬ 0 < r_109.toInt := fun z9 => wx125 ((ti_lt (by decide) rfl).mpr z9)
            refine pb_aload_n (pc := 144) d_Mod_entryFault_144 5 rfl rfl ?_
            refine pb_get (pc := 145) d_Mod_entryFault_145 6 29 rfl rfl (by decide) in_Mod k_1175 rfl ?_
            refine pb_i2l (pc := 148) d_Mod_entryFault_148 rfl ?_
            refine pb_topl (fun jx126 ejx126 => ?_)
            have tjx126 : jx126.toInt = ms_115.toInt := tl_i2l ejx126 rfl
            refine pb_lload (pc := 149) d_Mod_entryFault_149 1 rfl ?_
            refine pb_lcmp (pc := 151) d_Mod_entryFault_151 ?_
            refine pb_topi (fun ix127 eix127 => ?_)
            have tix127 : (ix127.toInt < 0 ↔ jx126.toInt < r_57.toInt) ∧ (ix127.toInt = 0 ↔ jx126.toInt = r_57.toInt) ∧ (0 < ix127.toInt ↔ r_57.toInt < jx126.toInt) := tl_cmp eix127 rfl rfl
            refine pb_if_ne (pc := 152) (tgt := 172) d_Mod_entryFault_152 (by decide) (fun wx128 => ?_) (fun wx128 => ?_)
            · have twx128 : ¬ ix127.toInt = 0 := fun z9 => wx128 ((ti_eq rfl (by decide)).mpr z9)
              refine pb_iconst (pc := 172) (v := 5) d_Mod_entryFault_172 (by decide) ?_
              exact pb_iret (pc := 173) hQ d_Mod_entryFault_173 rfl rfl (5, ix14, ba_110, be_111, w_112, fc_113, sc_114, ms_115, a_count, a_nameSize, a_names, g_25, a_size, a_data, L_116, g_117) ⟨rfl, (show ms_I 17 (gx a_count 1) a_nameSize a_size a_names from (by first | exact I | exact P0)), (show gx a_count 0 = gx a_count 0 from (by first | rfl | exact P1)), (show ot_Z a_nameSize a_nameSize 17 from (by first | exact fun _ _ _ => rfl | exact P2)), (show ot_Z a_size a_size 17 from (by first | exact fun _ _ _ => rfl | exact P3)), (show ot_N a_names a_names 17 from (by first | exact fun _ _ _ => rfl | exact P4)), (show le_I L_116 from (by first | exact LI | assumption)), (by (try dsimp only); first | done | assumption | omega (splitDisjunctions := false) | omega | decide), (by (try dsimp only); first | done | assumption | omega (splitDisjunctions := false) | omega | decide), (by (try dsimp only); first | done | assumption | omega (splitDisjunctions := false) | omega | decide), (by (try dsimp only); first | done | assumption | omega (splitDisjunctions := false) | omega | decide), F_a_names, fh27, F_a_data, fh124⟩ [6, 7, 2, 3, 4, 5, 0, 1, 8, 9, 10] (by decide) rfl rfl (by decide) (by decide)
            · have twx128 : ix127.toInt = 0 := (ti_eq rfl (by decide)).mp wx128
              refine pb_aload_n (pc := 155) d_Mod_entryFault_155 5 rfl rfl ?_
              refine pb_get (pc := 156) d_Mod_entryFault_156 6 30 rfl rfl (by decide) in_Mod k_1176 rfl ?_
              refine pb_iconst (pc := 159) (v := 0) d_Mod_entryFault_159 (by decide) ?_
              refine pb_aload_n (pc := 160) d_Mod_entryFault_160 5 rfl rfl ?_
              refine pb_get (pc := 161) d_Mod_entryFault_161 6 29 rfl rfl (by decide) in_Mod k_1175 rfl ?_
              refine pb_callS (pc := 164) (I := i_Mod_entryFault) (nA := 3) (rest := []) (wr := [(m_size, .inl (G.2.2.1, 34, .inl a_size)), (m_data, .inl (G.2.1, 136000, .inl a_data)), (m_count, .inl (G.2.2.1, 2, .inl a_count)), (m_nameSize, .inl (G.2.2.1, 34, .inl a_nameSize)), (m_names, .inl (G.2.1, 816, .inl a_names)), (m_looked, .inl (G.2.1, 40, .inl g_25)), (h, .inr (10, [.ref m_rels, .ref m_openRels, .ref m_closeRels, .ref m_openRel, .ref m_closeRel, .ref m_comment, .ref m_ends, .ref m_order, .int v_thrown, .int v_taped, .ref m_tape, .ref m_count, .ref m_nameSize, .ref m_names, .ref m_size, .ref m_data, .int ix14, .ref m_looked, .int v_fileSize, .ref m_file, .int v_directorySize, .ref m_directory, .int v_outSize, .ref m_out, .int v_rowSize, .ref m_row, .int ba_110, .int be_111, .int w_112, .int ms_115, .ref m_made, .ref m_length, .int fc_113, .int sc_114, .int v_heldBits, .int v_heldCount, .int v_pressedSize, .ref m_pressed, .int v_at, .int v_bad, .int v_markSize, .ref m_mark, .int v_relationCount, .ref m_idSize, .ref m_ids, .ref m_goalSize, .ref m_goals, .int v_valueSize, .ref m_value, .int v_faultCount, .ref m_faults, .ref m_reached])), (m_row, .inl (G.2.1, 20000, .inl a_row)), (m_length, .inl (G.2.2.1, 420, .inl L_116)), (m_order, .inl (G.2.1, 19, .inl a_order))]) d_Mod_entryFault_164 (g_Mod_sumOf hl G m_made 4000 g_117 0 ms_115 (by first | assumption | omega (splitDisjunctions := false) | omega | decide) (by first | assumption | omega (splitDisjunctions := false) | omega | decide) (by first | assumption | omega (splitDisjunctions := false) | omega | decide) (by first | assumption | omega (splitDisjunctions := false) | omega | decide) fh124) [10] [0, 1, 2, 3, 4, 5, 6, 7, 8, 9] (by decide) rfl rfl rfl (by decide) (by decide) k_1372 rfl k_128 k_1370 k_1371 hy_Mod_sumOf (by decide) rfl rfl (Nat.le_of_ble_eq_true rfl) (by decide) (fun v9 ux130 ch129 => ?_)
              obtain ⟨r_131, rfl⟩ : ∃ z9, z9 = ux130 := ⟨_, rfl⟩
              obtain ⟨ech129, ch129⟩ := ch129
              have ech129 : v9 = some (.int r_131) := ech129
              subst ech129
              have fh132 : r_131 = cr_n g_117 (0 : Int32).toInt ms_115.toInt.toNat ^^^ (-1) := ch129
              refine pb_eq (pc' := 167) (lo' := [(8, .int ix68), (6, .long r_57), (5, .int ix53), (4, .int ix45), (3, .int ix14), (0, .ref h), (1, .int e), (2, .int bg)]) (rest' := [.int r_131]) (ws' := [(m_size, .inl (G.2.2.1, 34, .inl a_size)), (m_data, .inl (G.2.1, 136000, .inl a_data)), (m_count, .inl (G.2.2.1, 2, .inl a_count)), (m_nameSize, .inl (G.2.2.1, 34, .inl a_nameSize)), (m_names, .inl (G.2.1, 816, .inl a_names)), (m_looked, .inl (G.2.1, 40, .inl g_25)), (h, .inr (10, [.ref m_rels, .ref m_openRels, .ref m_closeRels, .ref m_openRel, .ref m_closeRel, .ref m_comment, .ref m_ends, .ref m_order, .int v_thrown, .int v_taped, .ref m_tape, .ref m_count, .ref m_nameSize, .ref m_names, .ref m_size, .ref m_data, .int ix14, .ref m_looked, .int v_fileSize, .ref m_file, .int v_directorySize, .ref m_directory, .int v_outSize, .ref m_out, .int v_rowSize, .ref m_row, .int ba_110, .int be_111, .int w_112, .int ms_115, .ref m_made, .ref m_length, .int fc_113, .int sc_114, .int v_heldBits, .int v_heldCount, .int v_pressedSize, .ref m_pressed, .int v_at, .int v_bad, .int v_markSize, .ref m_mark, .int v_relationCount, .ref m_idSize, .ref m_ids, .ref m_goalSize, .ref m_goals, .int v_valueSize, .ref m_value, .int v_faultCount, .ref m_faults, .ref m_reached])), (m_row, .inl (G.2.1, 20000, .inl a_row)), (m_length, .inl (G.2.2.1, 420, .inl L_116)), (m_order, .inl (G.2.1, 19, .inl a_order)), (m_made, .inl (G.2.1, 4000, .inl g_117))]) ?_
              refine pb_iload (pc := 167) d_Mod_entryFault_167 0 rfl ?_
              refine pb_icmp_eq (pc := 169) (tgt := 174) d_Mod_entryFault_169 (by decide) (fun wx133 => ?_) (fun wx133 => ?_)
              · have twx133 : r_131.toInt = ix68.toInt := (ti_eq rfl rfl).mp wx133
                refine pb_aload_n (pc := 174) d_Mod_entryFault_174 5 rfl rfl ?_
                refine pb_iconst (pc := 175) (v := 1) d_Mod_entryFault_175 (by decide) ?_
                refine pb_aload_n (pc := 176) d_Mod_entryFault_176 5 rfl rfl ?_
                refine pb_get (pc := 177) d_Mod_entryFault_177 6 29 rfl rfl (by decide) in_Mod k_1175 rfl ?_
                refine pb_callV (pc := 180) (I := i_Mod_entryFault) (qb := 6) (ci := 10) (nA := 2) (rest := []) (wr := [(m_data, .inl (G.2.1, 136000, .inl a_data)), (m_row, .inl (G.2.1, 20000, .inl a_row)), (m_length, .inl (G.2.2.1, 420, .inl L_116)), (m_order, .inl (G.2.1, 19, .inl a_order)), (m_made, .inl (G.2.1, 4000, .inl g_117))]) d_Mod_entryFault_180 (g_Mod_isRoom hl G h m_rels m_openRels m_closeRels m_openRel m_closeRel m_comment m_ends m_order m_tape m_count m_nameSize m_names m_size m_data m_looked m_file m_directory m_out m_row m_made m_length m_pressed m_mark m_idSize m_ids m_goalSize m_goals m_value m_faults m_reached v_thrown v_taped ix14 v_fileSize v_directorySize v_outSize v_rowSize ba_110 be_111 w_112 ms_115 fc_113 sc_114 v_heldBits v_heldCount v_pressedSize v_at v_bad v_markSize v_relationCount v_valueSize v_faultCount a_count a_nameSize a_names g_25 a_size 1 ms_115 (by first | assumption | omega (splitDisjunctions := false) | omega | decide) (by first | assumption | omega (splitDisjunctions := false) | omega | decide) (by simpa only [zl1, Int.mul_one] using I) (by first | assumption | omega (splitDisjunctions := false) | omega | decide) (by first | assumption | omega (splitDisjunctions := false) | omega | decide) (by first | assumption | omega (splitDisjunctions := false) | omega | decide) (by first | assumption | omega (splitDisjunctions := false) | omega | decide) F_a_names fh27) rfl rfl [6, 2, 3, 4, 5, 0] [1, 7, 8, 9, 10] (by decide) rfl rfl rfl (by decide) (by decide) k_1333 rfl k_128 k_1330 k_1332 k_54 ⟨rfl, hy_Mod_isRoom⟩ (by decide) rfl rfl (Nat.le_of_ble_eq_true rfl) (by decide) (fun v9 ux135 ch134 => ?_)
                obtain ⟨r_136, rfl⟩ : ∃ z9, z9 = ux135 := ⟨_, rfl⟩
                obtain ⟨ech134, ch134⟩ := ch134
                have ech134 : v9 = some (.int r_136) := ech134
                subst ech134
                obtain ⟨fh137, fh138⟩ : (r_136.toInt = 0 ∨ r_136.toInt = 1) ∧ (r_136.toInt = 1 → ms_115.toInt ≤ 4000 ∧ (∀ i : Int, 0 ≤ i → i < gx a_count (1 : Int32).toInt → nl_eq a_nameSize a_names (17 * (1 : Int32).toInt + i) ix14.toInt g_25 → sm a_size (17 * (1 : Int32).toInt) (gx a_count (1 : Int32).toInt).toNat - gx a_size (17 * (1 : Int32).toInt + i) + ms_115.toInt ≤ 12000) ∧ ((∀ i : Int, 0 ≤ i → i < gx a_count (1 : Int32).toInt → ¬ nl_eq a_nameSize a_names (17 * (1 : Int32).toInt + i) ix14.toInt g_25) → sm a_size (17 * (1 : Int32).toInt) (gx a_count (1 : Int32).toInt).toNat + ms_115.toInt ≤ 12000 ∧ gx a_count (1 : Int32).toInt < 16)) := ch134
                have rmF := fh138
                refine pb_eq (pc' := 183) (lo' := [(8, .int ix68), (6, .long r_57), (5, .int ix53), (4, .int ix45), (3, .int ix14), (0, .ref h), (1, .int e), (2, .int bg)]) (rest' := [.int r_136]) (ws' := [(m_data, .inl (G.2.1, 136000, .inl a_data)), (m_row, .inl (G.2.1, 20000, .inl a_row)), (m_length, .inl (G.2.2.1, 420, .inl L_116)), (m_order, .inl (G.2.1, 19, .inl a_order)), (m_made, .inl (G.2.1, 4000, .inl g_117)), (h, .inr (10, [.ref m_rels, .ref m_openRels, .ref m_closeRels, .ref m_openRel, .ref m_closeRel, .ref m_comment, .ref m_ends, .ref m_order, .int v_thrown, .int v_taped, .ref m_tape, .ref m_count, .ref m_nameSize, .ref m_names, .ref m_size, .ref m_data, .int ix14, .ref m_looked, .int v_fileSize, .ref m_file, .int v_directorySize, .ref m_directory, .int v_outSize, .ref m_out, .int v_rowSize, .ref m_row, .int ba_110, .int be_111, .int w_112, .int ms_115, .ref m_made, .ref m_length, .int fc_113, .int sc_114, .int v_heldBits, .int v_heldCount, .int v_pressedSize, .ref m_pressed, .int v_at, .int v_bad, .int v_markSize, .ref m_mark, .int v_relationCount, .ref m_idSize, .ref m_ids, .ref m_goalSize, .ref m_goals, .int v_valueSize, .ref m_value, .int v_faultCount, .ref m_faults, .ref m_reached])), (m_count, .inl (G.2.2.1, 2, .inl a_count)), (m_nameSize, .inl (G.2.2.1, 34, .inl a_nameSize)), (m_names, .inl (G.2.1, 816, .inl a_names)), (m_looked, .inl (G.2.1, 40, .inl g_25)), (m_size, .inl (G.2.2.1, 34, .inl a_size))]) ?_
                refine pb_if_ne (pc := 183) (tgt := 189) d_Mod_entryFault_183 (by decide) (fun wx139 => ?_) (fun wx139 => ?_)
                · have twx139 : ¬ r_136.toInt = 0 := fun z9 => wx139 ((ti_eq rfl (by decide)).mpr z9)
                  refine pb_aload_n (pc := 189) d_Mod_entryFault_189 5 rfl rfl ?_
                  refine pb_iconst (pc := 190) (v := 1) d_Mod_entryFault_190 (by decide) ?_
                  refine pb_aload_n (pc := 191) d_Mod_entryFault_191 5 rfl rfl ?_
                  refine pb_get (pc := 192) d_Mod_entryFault_192 5 30 rfl rfl (by decide) in_Mod k_1176 rfl ?_
                  refine pb_iconst (pc := 195) (v := 0) d_Mod_entryFault_195 (by decide) ?_
                  refine pb_aload_n (pc := 196) d_Mod_entryFault_196 5 rfl rfl ?_
                  refine pb_get (pc := 197) d_Mod_entryFault_197 5 29 rfl rfl (by decide) in_Mod k_1175 rfl ?_
                  refine pb_callV (pc := 200) (I := i_Mod_entryFault) (qb := 5) (ci := 10) (nA := 4) (rest := []) (wr := [(m_row, .inl (G.2.1, 20000, .inl a_row)), (m_length, .inl (G.2.2.1, 420, .inl L_116)), (m_order, .inl (G.2.1, 19, .inl a_order))]) d_Mod_entryFault_200 (g_Mod_put hl G h m_rels m_openRels m_closeRels m_openRel m_closeRel m_comment m_ends m_order m_tape m_count m_nameSize m_names m_size m_data m_looked m_file m_directory m_out m_row m_made m_length m_pressed m_mark m_idSize m_ids m_goalSize m_goals m_value m_faults m_reached v_thrown v_taped ix14 v_fileSize v_directorySize v_outSize v_rowSize ba_110 be_111 w_112 ms_115 fc_113 sc_114 v_heldBits v_heldCount v_pressedSize v_at v_bad v_markSize v_relationCount v_valueSize v_faultCount a_count a_nameSize a_names g_25 a_size a_data m_made 4000 g_117 1 0 ms_115 (by first | assumption | omega (splitDisjunctions := false) | omega | decide) (by first | assumption | omega (splitDisjunctions := false) | omega | decide) (by simpa only [zl1, Int.mul_one] using I) (by first | assumption | omega (splitDisjunctions := false) | omega | decide) (by first | assumption | omega (splitDisjunctions := false) | omega | decide) (rmF (by omega)).1 (rmF (by omega)).2.1 (rmF (by omega)).2.2 (by first | assumption | omega (splitDisjunctions := false) | omega | decide) (by first | assumption | omega (splitDisjunctions := false) | omega | decide) (by first | assumption | omega (splitDisjunctions := false) | omega | decide) (by first | assumption | omega (splitDisjunctions := false) | omega | decide) F_a_names fh27 F_a_data fh124) rfl rfl [5, 6, 7, 8, 9, 10, 0, 4] [1, 2, 3] (by decide) rfl rfl rfl (by decide) (by decide) k_1349 rfl k_128 k_1346 k_1348 k_58 ⟨rfl, hy_Mod_put⟩ (by decide) rfl rfl (Nat.le_of_ble_eq_true rfl) (by decide) (fun v9 ux141 ch140 => ?_)
                  obtain ⟨c_142, z_143, n_144, s_145, d_146⟩ := ux141
                  obtain ⟨ech140, ch140⟩ := ch140
                  have ech140 : v9 = none := ech140
                  subst ech140
                  obtain ⟨fh147, fh148, fh149, fh150, fh151, fh152, fh153⟩ : (ms_I (17 * (1 : Int32).toInt) (gx c_142 (1 : Int32).toInt) z_143 s_145 n_144) ∧ (∀ o : Int, 0 ≤ o → o ≠ (1 : Int32).toInt → gx c_142 o = gx a_count o) ∧ (ot_Z a_nameSize z_143 (17 * (1 : Int32).toInt)) ∧ (ot_Z a_size s_145 (17 * (1 : Int32).toInt)) ∧ (ot_N a_names n_144 (17 * (1 : Int32).toInt)) ∧ (sb_Fit n_144) ∧ (sb_Fit d_146) := ch140
                  have P0 := fh147
                  have P1 := fh148 0 (by omega) (by omega)
                  have P2 := fh149
                  have P3 := fh150
                  have P4 := fh151
                  simp only [zl1, Int.mul_one] at P0 P2 P3 P4
                  refine pb_eq (pc' := 203) (lo' := [(8, .int ix68), (6, .long r_57), (5, .int ix53), (4, .int ix45), (3, .int ix14), (0, .ref h), (1, .int e), (2, .int bg)]) (rest' := []) (ws' := [(m_row, .inl (G.2.1, 20000, .inl a_row)), (m_length, .inl (G.2.2.1, 420, .inl L_116)), (m_order, .inl (G.2.1, 19, .inl a_order)), (h, .inr (10, [.ref m_rels, .ref m_openRels, .ref m_closeRels, .ref m_openRel, .ref m_closeRel, .ref m_comment, .ref m_ends, .ref m_order, .int v_thrown, .int v_taped, .ref m_tape, .ref m_count, .ref m_nameSize, .ref m_names, .ref m_size, .ref m_data, .int ix14, .ref m_looked, .int v_fileSize, .ref m_file, .int v_directorySize, .ref m_directory, .int v_outSize, .ref m_out, .int v_rowSize, .ref m_row, .int ba_110, .int be_111, .int w_112, .int ms_115, .ref m_made, .ref m_length, .int fc_113, .int sc_114, .int v_heldBits, .int v_heldCount, .int v_pressedSize, .ref m_pressed, .int v_at, .int v_bad, .int v_markSize, .ref m_mark, .int v_relationCount, .ref m_idSize, .ref m_ids, .ref m_goalSize, .ref m_goals, .int v_valueSize, .ref m_value, .int v_faultCount, .ref m_faults, .ref m_reached])), (m_count, .inl (G.2.2.1, 2, .inl c_142)), (m_nameSize, .inl (G.2.2.1, 34, .inl z_143)), (m_names, .inl (G.2.1, 816, .inl n_144)), (m_looked, .inl (G.2.1, 40, .inl g_25)), (m_size, .inl (G.2.2.1, 34, .inl s_145)), (m_data, .inl (G.2.1, 136000, .inl d_146)), (m_made, .inl (G.2.1, 4000, .inl g_117))]) ?_
                  refine pb_iconst (pc := 203) (v := 0) d_Mod_entryFault_203 (by decide) ?_
                  exact pb_iret (pc := 204) hQ d_Mod_entryFault_204 rfl rfl (0, ix14, ba_110, be_111, w_112, fc_113, sc_114, ms_115, c_142, z_143, n_144, g_25, s_145, d_146, L_116, g_117) ⟨rfl, (show ms_I 17 (gx c_142 1) z_143 s_145 n_144 from (by first | exact I | exact P0)), (show gx c_142 0 = gx a_count 0 from (by first | rfl | exact P1)), (show ot_Z a_nameSize z_143 17 from (by first | exact fun _ _ _ => rfl | exact P2)), (show ot_Z a_size s_145 17 from (by first | exact fun _ _ _ => rfl | exact P3)), (show ot_N a_names n_144 17 from (by first | exact fun _ _ _ => rfl | exact P4)), (show le_I L_116 from (by first | exact LI | assumption)), (by (try dsimp only); first | done | assumption | omega (splitDisjunctions := false) | omega | decide), (by (try dsimp only); first | done | assumption | omega (splitDisjunctions := false) | omega | decide), (by (try dsimp only); first | done | assumption | omega (splitDisjunctions := false) | omega | decide), (by (try dsimp only); first | done | assumption | omega (splitDisjunctions := false) | omega | decide), fh152, fh27, fh153, fh124⟩ [3, 0, 4, 5, 6, 7, 8, 9, 1, 2, 10] (by decide) rfl rfl (by decide) (by decide)
                · have twx139 : r_136.toInt = 0 := (ti_eq rfl (by decide)).mp wx139
                  refine pb_bipush (pc := 186) (v := 6) d_Mod_entryFault_186 (by decide) ?_
                  exact pb_iret (pc := 188) hQ d_Mod_entryFault_188 rfl rfl (6, ix14, ba_110, be_111, w_112, fc_113, sc_114, ms_115, a_count, a_nameSize, a_names, g_25, a_size, a_data, L_116, g_117) ⟨rfl, (show ms_I 17 (gx a_count 1) a_nameSize a_size a_names from (by first | exact I | exact P0)), (show gx a_count 0 = gx a_count 0 from (by first | rfl | exact P1)), (show ot_Z a_nameSize a_nameSize 17 from (by first | exact fun _ _ _ => rfl | exact P2)), (show ot_Z a_size a_size 17 from (by first | exact fun _ _ _ => rfl | exact P3)), (show ot_N a_names a_names 17 from (by first | exact fun _ _ _ => rfl | exact P4)), (show le_I L_116 from (by first | exact LI | assumption)), (by (try dsimp only); first | done | assumption | omega (splitDisjunctions := false) | omega | decide), (by (try dsimp only); first | done | assumption | omega (splitDisjunctions := false) | omega | decide), (by (try dsimp only); first | done | assumption | omega (splitDisjunctions := false) | omega | decide), (by (try dsimp only); first | done | assumption | omega (splitDisjunctions := false) | omega | decide), F_a_names, fh27, F_a_data, fh124⟩ [5, 1, 6, 7, 8, 9, 10, 0, 2, 3, 4] (by decide) rfl rfl (by decide) (by decide)
              · have twx133 : ¬ r_131.toInt = ix68.toInt := fun z9 => wx133 ((ti_eq rfl rfl).mpr z9)
                refine pb_iconst (pc := 172) (v := 5) d_Mod_entryFault_172 (by decide) ?_
                exact pb_iret (pc := 173) hQ d_Mod_entryFault_173 rfl rfl (5, ix14, ba_110, be_111, w_112, fc_113, sc_114, ms_115, a_count, a_nameSize, a_names, g_25, a_size, a_data, L_116, g_117) ⟨rfl, (show ms_I 17 (gx a_count 1) a_nameSize a_size a_names from (by first | exact I | exact P0)), (show gx a_count 0 = gx a_count 0 from (by first | rfl | exact P1)), (show ot_Z a_nameSize a_nameSize 17 from (by first | exact fun _ _ _ => rfl | exact P2)), (show ot_Z a_size a_size 17 from (by first | exact fun _ _ _ => rfl | exact P3)), (show ot_N a_names a_names 17 from (by first | exact fun _ _ _ => rfl | exact P4)), (show le_I L_116 from (by first | exact LI | assumption)), (by (try dsimp only); first | done | assumption | omega (splitDisjunctions := false) | omega | decide), (by (try dsimp only); first | done | assumption | omega (splitDisjunctions := false) | omega | decide), (by (try dsimp only); first | done | assumption | omega (splitDisjunctions := false) | omega | decide), (by (try dsimp only); first | done | assumption | omega (splitDisjunctions := false) | omega | decide), F_a_names, fh27, F_a_data, fh124⟩ [6, 7, 2, 3, 4, 5, 0, 1, 8, 9, 10] (by decide) rfl rfl (by decide) (by decide)
      · have twx35 : ¬ r_30.toInt < 0 := fun z9 => wx35 ((ti_lt rfl (by decide)).mpr z9)
        refine pb_iconst (pc := 60) (v := 4) d_Mod_entryFault_60 (by decide) ?_
        exact pb_iret (pc := 61) hQ d_Mod_entryFault_61 rfl rfl (4, ix14, v_bitAt, v_bitEnd, v_why, v_firstCount, v_secondCount, v_madeSize, a_count, a_nameSize, a_names, g_25, a_size, a_data, a_length, a_made) ⟨rfl, (show ms_I 17 (gx a_count 1) a_nameSize a_size a_names from (by first | exact I | exact P0)), (show gx a_count 0 = gx a_count 0 from (by first | rfl | exact P1)), (show ot_Z a_nameSize a_nameSize 17 from (by first | exact fun _ _ _ => rfl | exact P2)), (show ot_Z a_size a_size 17 from (by first | exact fun _ _ _ => rfl | exact P3)), (show ot_N a_names a_names 17 from (by first | exact fun _ _ _ => rfl | exact P4)), (show le_I a_length from (by first | exact LI | assumption)), (by (try dsimp only); first | done | assumption | omega (splitDisjunctions := false) | omega | decide), (by (try dsimp only); first | done | assumption | omega (splitDisjunctions := false) | omega | decide), (by (try dsimp only); first | done | assumption | omega (splitDisjunctions := false) | omega | decide), (by (try dsimp only); first | done | assumption | omega (splitDisjunctions := false) | omega | decide), F_a_names, fh27, F_a_data, F_a_made⟩ [6, 5, 7, 8, 9, 10, 0, 1, 2, 3, 4] (by decide) rfl rfl (by decide) (by decide)
    · have twx21 : r_18.toInt = 0 := (ti_eq rfl (by decide)).mp wx21
      refine pb_iconst (pc := 37) (v := 4) d_Mod_entryFault_37 (by decide) ?_
      exact pb_iret (pc := 38) hQ d_Mod_entryFault_38 rfl rfl (4, v_lookedSize, v_bitAt, v_bitEnd, v_why, v_firstCount, v_secondCount, v_madeSize, a_count, a_nameSize, a_names, a_looked, a_size, a_data, a_length, a_made) ⟨rfl, (show ms_I 17 (gx a_count 1) a_nameSize a_size a_names from (by first | exact I | exact P0)), (show gx a_count 0 = gx a_count 0 from (by first | rfl | exact P1)), (show ot_Z a_nameSize a_nameSize 17 from (by first | exact fun _ _ _ => rfl | exact P2)), (show ot_Z a_size a_size 17 from (by first | exact fun _ _ _ => rfl | exact P3)), (show ot_N a_names a_names 17 from (by first | exact fun _ _ _ => rfl | exact P4)), (show le_I a_length from (by first | exact LI | assumption)), (by (try dsimp only); first | done | assumption | omega (splitDisjunctions := false) | omega | decide), (by (try dsimp only); first | done | assumption | omega (splitDisjunctions := false) | omega | decide), (by (try dsimp only); first | done | assumption | omega (splitDisjunctions := false) | omega | decide), (by (try dsimp only); first | done | assumption | omega (splitDisjunctions := false) | omega | decide), F_a_names, F_a_looked, F_a_data, F_a_made⟩ [9, 10, 0, 1, 2, 3, 4, 5, 6, 7, 8] (by decide) rfl rfl (by decide) (by decide)
  · have twx6 : r_3.toInt = 0 := (ti_eq rfl (by decide)).mp wx6
    refine pb_iconst (pc := 9) (v := 3) d_Mod_entryFault_9 (by decide) ?_
    exact pb_iret (pc := 10) hQ d_Mod_entryFault_10 rfl rfl (3, v_lookedSize, v_bitAt, v_bitEnd, v_why, v_firstCount, v_secondCount, v_madeSize, a_count, a_nameSize, a_names, a_looked, a_size, a_data, a_length, a_made) ⟨rfl, (show ms_I 17 (gx a_count 1) a_nameSize a_size a_names from (by first | exact I | exact P0)), (show gx a_count 0 = gx a_count 0 from (by first | rfl | exact P1)), (show ot_Z a_nameSize a_nameSize 17 from (by first | exact fun _ _ _ => rfl | exact P2)), (show ot_Z a_size a_size 17 from (by first | exact fun _ _ _ => rfl | exact P3)), (show ot_N a_names a_names 17 from (by first | exact fun _ _ _ => rfl | exact P4)), (show le_I a_length from (by first | exact LI | assumption)), (by (try dsimp only); first | done | assumption | omega (splitDisjunctions := false) | omega | decide), (by (try dsimp only); first | done | assumption | omega (splitDisjunctions := false) | omega | decide), (by (try dsimp only); first | done | assumption | omega (splitDisjunctions := false) | omega | decide), (by (try dsimp only); first | done | assumption | omega (splitDisjunctions := false) | omega | decide), F_a_names, F_a_looked, F_a_data, F_a_made⟩ [9, 10, 0, 1, 2, 3, 4, 5, 6, 7, 8] (by decide) rfl rfl (by decide) (by decide)
