theorem d_Mod_isRecord_0 : decode prog_12_method_56_code 0 = .ok (.aload_n 0, 1) := by decide +kernel
theorem d_Mod_isRecord_1 : decode prog_12_method_56_code 1 = .ok (.iload_n 1, 1) := by decide +kernel
theorem d_Mod_isRecord_2 : decode prog_12_method_56_code 2 = .ok (.bipush 42, 2) := by decide +kernel
theorem d_Mod_isRecord_4 : decode prog_12_method_56_code 4 = .ok (.iadd, 1) := by decide +kernel
theorem d_Mod_isRecord_5 : decode prog_12_method_56_code 5 = .ok (.iconst 4, 1) := by decide +kernel
theorem d_Mod_isRecord_6 : decode prog_12_method_56_code 6 = .ok (.invokevirtual 299, 3) := by decide +kernel
theorem d_Mod_isRecord_9 : decode prog_12_method_56_code 9 = .ok (.lstore_n 3, 1) := by decide +kernel
theorem d_Mod_isRecord_10 : decode prog_12_method_56_code 10 = .ok (.aload_n 0, 1) := by decide +kernel
theorem d_Mod_isRecord_11 : decode prog_12_method_56_code 11 = .ok (.iload_n 1, 1) := by decide +kernel
theorem d_Mod_isRecord_12 : decode prog_12_method_56_code 12 = .ok (.bipush 28, 2) := by decide +kernel
theorem d_Mod_isRecord_14 : decode prog_12_method_56_code 14 = .ok (.iadd, 1) := by decide +kernel
theorem d_Mod_isRecord_15 : decode prog_12_method_56_code 15 = .ok (.iconst 2, 1) := by decide +kernel
theorem d_Mod_isRecord_16 : decode prog_12_method_56_code 16 = .ok (.invokevirtual 299, 3) := by decide +kernel
theorem d_Mod_isRecord_19 : decode prog_12_method_56_code 19 = .ok (.l2i, 1) := by decide +kernel
theorem d_Mod_isRecord_20 : decode prog_12_method_56_code 20 = .ok (.istore 5, 2) := by decide +kernel
theorem d_Mod_isRecord_22 : decode prog_12_method_56_code 22 = .ok (.lload_n 3, 1) := by decide +kernel
theorem d_Mod_isRecord_23 : decode prog_12_method_56_code 23 = .ok (.ldc2_w 307, 3) := by decide +kernel
theorem k_1541 : (Jvm.Cond.constantLong "PackageBookModel" (307 : Nat) (30 : Int64)) ∈ uW := uW_of 1541 (by decide +kernel) (by decide +kernel)
theorem d_Mod_isRecord_26 : decode prog_12_method_56_code 26 = .ok (.ladd, 1) := by decide +kernel
theorem d_Mod_isRecord_27 : decode prog_12_method_56_code 27 = .ok (.iload 5, 2) := by decide +kernel
theorem d_Mod_isRecord_29 : decode prog_12_method_56_code 29 = .ok (.i2l, 1) := by decide +kernel
theorem d_Mod_isRecord_30 : decode prog_12_method_56_code 30 = .ok (.ladd, 1) := by decide +kernel
theorem d_Mod_isRecord_31 : decode prog_12_method_56_code 31 = .ok (.aload_n 0, 1) := by decide +kernel
theorem d_Mod_isRecord_32 : decode prog_12_method_56_code 32 = .ok (.iload_n 1, 1) := by decide +kernel
theorem d_Mod_isRecord_33 : decode prog_12_method_56_code 33 = .ok (.bipush 20, 2) := by decide +kernel
theorem d_Mod_isRecord_35 : decode prog_12_method_56_code 35 = .ok (.iadd, 1) := by decide +kernel
theorem d_Mod_isRecord_36 : decode prog_12_method_56_code 36 = .ok (.iconst 4, 1) := by decide +kernel
theorem d_Mod_isRecord_37 : decode prog_12_method_56_code 37 = .ok (.invokevirtual 299, 3) := by decide +kernel
theorem d_Mod_isRecord_40 : decode prog_12_method_56_code 40 = .ok (.ladd, 1) := by decide +kernel
theorem d_Mod_isRecord_41 : decode prog_12_method_56_code 41 = .ok (.iload_n 2, 1) := by decide +kernel
theorem d_Mod_isRecord_42 : decode prog_12_method_56_code 42 = .ok (.i2l, 1) := by decide +kernel
theorem d_Mod_isRecord_43 : decode prog_12_method_56_code 43 = .ok (.lcmp, 1) := by decide +kernel
theorem d_Mod_isRecord_44 : decode prog_12_method_56_code 44 = .ok (.ifCond .le 5, 3) := by decide +kernel
theorem d_Mod_isRecord_49 : decode prog_12_method_56_code 49 = .ok (.lload_n 3, 1) := by decide +kernel
theorem d_Mod_isRecord_50 : decode prog_12_method_56_code 50 = .ok (.l2i, 1) := by decide +kernel
theorem d_Mod_isRecord_51 : decode prog_12_method_56_code 51 = .ok (.istore 6, 2) := by decide +kernel
theorem d_Mod_isRecord_105 : decode prog_12_method_56_code 105 = .ok (.iconst 0, 1) := by decide +kernel
theorem d_Mod_isRecord_106 : decode prog_12_method_56_code 106 = .ok (.istore 8, 2) := by decide +kernel
theorem d_Mod_isRecord_108 : decode prog_12_method_56_code 108 = .ok (.iload 8, 2) := by decide +kernel
theorem d_Mod_isRecord_110 : decode prog_12_method_56_code 110 = .ok (.bipush 20, 2) := by decide +kernel
theorem d_Mod_isRecord_112 : decode prog_12_method_56_code 112 = .ok (.if_icmp .ge 49, 3) := by decide +kernel
theorem d_Mod_isRecord_161 : decode prog_12_method_56_code 161 = .ok (.iconst 0, 1) := by decide +kernel
theorem d_Mod_isRecord_162 : decode prog_12_method_56_code 162 = .ok (.istore 8, 2) := by decide +kernel
theorem d_Mod_isRecord_164 : decode prog_12_method_56_code 164 = .ok (.iload 8, 2) := by decide +kernel
theorem d_Mod_isRecord_166 : decode prog_12_method_56_code 166 = .ok (.iload 5, 2) := by decide +kernel
theorem d_Mod_isRecord_168 : decode prog_12_method_56_code 168 = .ok (.if_icmp .ge 49, 3) := by decide +kernel
theorem d_Mod_isRecord_217 : decode prog_12_method_56_code 217 = .ok (.iload 7, 2) := by decide +kernel
theorem d_Mod_isRecord_219 : decode prog_12_method_56_code 219 = .ok (.ireturn, 1) := by decide +kernel
theorem d_Mod_isRecord_171 : decode prog_12_method_56_code 171 = .ok (.iload 7, 2) := by decide +kernel
theorem d_Mod_isRecord_173 : decode prog_12_method_56_code 173 = .ok (.ifCond .eq 44, 3) := by decide +kernel
theorem d_Mod_isRecord_176 : decode prog_12_method_56_code 176 = .ok (.aload_n 0, 1) := by decide +kernel
theorem d_Mod_isRecord_177 : decode prog_12_method_56_code 177 = .ok (.getfield 66, 3) := by decide +kernel
theorem d_Mod_isRecord_180 : decode prog_12_method_56_code 180 = .ok (.iload 6, 2) := by decide +kernel
theorem d_Mod_isRecord_182 : decode prog_12_method_56_code 182 = .ok (.bipush 30, 2) := by decide +kernel
theorem d_Mod_isRecord_184 : decode prog_12_method_56_code 184 = .ok (.iadd, 1) := by decide +kernel
theorem d_Mod_isRecord_185 : decode prog_12_method_56_code 185 = .ok (.iload 8, 2) := by decide +kernel
theorem d_Mod_isRecord_187 : decode prog_12_method_56_code 187 = .ok (.iadd, 1) := by decide +kernel
theorem d_Mod_isRecord_188 : decode prog_12_method_56_code 188 = .ok (.baload, 1) := by decide +kernel
theorem d_Mod_isRecord_189 : decode prog_12_method_56_code 189 = .ok (.aload_n 0, 1) := by decide +kernel
theorem d_Mod_isRecord_190 : decode prog_12_method_56_code 190 = .ok (.getfield 66, 3) := by decide +kernel
theorem d_Mod_isRecord_193 : decode prog_12_method_56_code 193 = .ok (.iload_n 1, 1) := by decide +kernel
theorem d_Mod_isRecord_194 : decode prog_12_method_56_code 194 = .ok (.bipush 46, 2) := by decide +kernel
theorem d_Mod_isRecord_196 : decode prog_12_method_56_code 196 = .ok (.iadd, 1) := by decide +kernel
theorem d_Mod_isRecord_197 : decode prog_12_method_56_code 197 = .ok (.iload 8, 2) := by decide +kernel
theorem d_Mod_isRecord_199 : decode prog_12_method_56_code 199 = .ok (.iadd, 1) := by decide +kernel
theorem d_Mod_isRecord_200 : decode prog_12_method_56_code 200 = .ok (.baload, 1) := by decide +kernel
theorem d_Mod_isRecord_201 : decode prog_12_method_56_code 201 = .ok (.if_icmp .ne 7, 3) := by decide +kernel
theorem d_Mod_isRecord_208 : decode prog_12_method_56_code 208 = .ok (.iconst 0, 1) := by decide +kernel
theorem d_Mod_isRecord_209 : decode prog_12_method_56_code 209 = .ok (.istore 7, 2) := by decide +kernel
theorem d_Mod_isRecord_211 : decode prog_12_method_56_code 211 = .ok (.iinc 8 1, 3) := by decide +kernel
theorem d_Mod_isRecord_214 : decode prog_12_method_56_code 214 = .ok (.goto (-50), 3) := by decide +kernel
theorem d_Mod_isRecord_204 : decode prog_12_method_56_code 204 = .ok (.iconst 1, 1) := by decide +kernel
theorem d_Mod_isRecord_205 : decode prog_12_method_56_code 205 = .ok (.goto 4, 3) := by decide +kernel
theorem d_Mod_isRecord_115 : decode prog_12_method_56_code 115 = .ok (.iload 7, 2) := by decide +kernel
theorem d_Mod_isRecord_117 : decode prog_12_method_56_code 117 = .ok (.ifCond .eq 44, 3) := by decide +kernel
theorem d_Mod_isRecord_120 : decode prog_12_method_56_code 120 = .ok (.aload_n 0, 1) := by decide +kernel
theorem d_Mod_isRecord_121 : decode prog_12_method_56_code 121 = .ok (.getfield 66, 3) := by decide +kernel
theorem d_Mod_isRecord_124 : decode prog_12_method_56_code 124 = .ok (.iload 6, 2) := by decide +kernel
theorem d_Mod_isRecord_126 : decode prog_12_method_56_code 126 = .ok (.bipush 8, 2) := by decide +kernel
theorem d_Mod_isRecord_128 : decode prog_12_method_56_code 128 = .ok (.iadd, 1) := by decide +kernel
theorem d_Mod_isRecord_129 : decode prog_12_method_56_code 129 = .ok (.iload 8, 2) := by decide +kernel
theorem d_Mod_isRecord_131 : decode prog_12_method_56_code 131 = .ok (.iadd, 1) := by decide +kernel
theorem d_Mod_isRecord_132 : decode prog_12_method_56_code 132 = .ok (.baload, 1) := by decide +kernel
theorem d_Mod_isRecord_133 : decode prog_12_method_56_code 133 = .ok (.aload_n 0, 1) := by decide +kernel
theorem d_Mod_isRecord_134 : decode prog_12_method_56_code 134 = .ok (.getfield 66, 3) := by decide +kernel
theorem d_Mod_isRecord_137 : decode prog_12_method_56_code 137 = .ok (.iload_n 1, 1) := by decide +kernel
theorem d_Mod_isRecord_138 : decode prog_12_method_56_code 138 = .ok (.bipush 10, 2) := by decide +kernel
theorem d_Mod_isRecord_140 : decode prog_12_method_56_code 140 = .ok (.iadd, 1) := by decide +kernel
theorem d_Mod_isRecord_141 : decode prog_12_method_56_code 141 = .ok (.iload 8, 2) := by decide +kernel
theorem d_Mod_isRecord_143 : decode prog_12_method_56_code 143 = .ok (.iadd, 1) := by decide +kernel
theorem d_Mod_isRecord_144 : decode prog_12_method_56_code 144 = .ok (.baload, 1) := by decide +kernel
theorem d_Mod_isRecord_145 : decode prog_12_method_56_code 145 = .ok (.if_icmp .ne 7, 3) := by decide +kernel
theorem d_Mod_isRecord_152 : decode prog_12_method_56_code 152 = .ok (.iconst 0, 1) := by decide +kernel
theorem d_Mod_isRecord_153 : decode prog_12_method_56_code 153 = .ok (.istore 7, 2) := by decide +kernel
theorem d_Mod_isRecord_155 : decode prog_12_method_56_code 155 = .ok (.iinc 8 1, 3) := by decide +kernel
theorem d_Mod_isRecord_158 : decode prog_12_method_56_code 158 = .ok (.goto (-50), 3) := by decide +kernel
theorem d_Mod_isRecord_148 : decode prog_12_method_56_code 148 = .ok (.iconst 1, 1) := by decide +kernel
theorem d_Mod_isRecord_149 : decode prog_12_method_56_code 149 = .ok (.goto 4, 3) := by decide +kernel
theorem d_Mod_isRecord_53 : decode prog_12_method_56_code 53 = .ok (.aload_n 0, 1) := by decide +kernel
theorem d_Mod_isRecord_54 : decode prog_12_method_56_code 54 = .ok (.iload 6, 2) := by decide +kernel
theorem d_Mod_isRecord_56 : decode prog_12_method_56_code 56 = .ok (.iconst 4, 1) := by decide +kernel
theorem d_Mod_isRecord_57 : decode prog_12_method_56_code 57 = .ok (.invokevirtual 299, 3) := by decide +kernel
theorem d_Mod_isRecord_60 : decode prog_12_method_56_code 60 = .ok (.ldc2_w 275, 3) := by decide +kernel
theorem d_Mod_isRecord_63 : decode prog_12_method_56_code 63 = .ok (.lcmp, 1) := by decide +kernel
theorem d_Mod_isRecord_64 : decode prog_12_method_56_code 64 = .ok (.ifCond .ne 38, 3) := by decide +kernel
theorem d_Mod_isRecord_102 : decode prog_12_method_56_code 102 = .ok (.iconst 0, 1) := by decide +kernel
theorem d_Mod_isRecord_103 : decode prog_12_method_56_code 103 = .ok (.istore 7, 2) := by decide +kernel
theorem d_Mod_isRecord_67 : decode prog_12_method_56_code 67 = .ok (.aload_n 0, 1) := by decide +kernel
theorem d_Mod_isRecord_68 : decode prog_12_method_56_code 68 = .ok (.iload 6, 2) := by decide +kernel
theorem d_Mod_isRecord_70 : decode prog_12_method_56_code 70 = .ok (.iconst 4, 1) := by decide +kernel
theorem d_Mod_isRecord_71 : decode prog_12_method_56_code 71 = .ok (.iadd, 1) := by decide +kernel
theorem d_Mod_isRecord_72 : decode prog_12_method_56_code 72 = .ok (.iconst 4, 1) := by decide +kernel
theorem d_Mod_isRecord_73 : decode prog_12_method_56_code 73 = .ok (.invokevirtual 299, 3) := by decide +kernel
theorem d_Mod_isRecord_76 : decode prog_12_method_56_code 76 = .ok (.ldc2_w 281, 3) := by decide +kernel
theorem d_Mod_isRecord_79 : decode prog_12_method_56_code 79 = .ok (.lcmp, 1) := by decide +kernel
theorem d_Mod_isRecord_80 : decode prog_12_method_56_code 80 = .ok (.ifCond .ne 22, 3) := by decide +kernel
theorem d_Mod_isRecord_83 : decode prog_12_method_56_code 83 = .ok (.aload_n 0, 1) := by decide +kernel
theorem d_Mod_isRecord_84 : decode prog_12_method_56_code 84 = .ok (.iload 6, 2) := by decide +kernel
theorem d_Mod_isRecord_86 : decode prog_12_method_56_code 86 = .ok (.bipush 28, 2) := by decide +kernel
theorem d_Mod_isRecord_88 : decode prog_12_method_56_code 88 = .ok (.iadd, 1) := by decide +kernel
theorem d_Mod_isRecord_89 : decode prog_12_method_56_code 89 = .ok (.iconst 2, 1) := by decide +kernel
theorem d_Mod_isRecord_90 : decode prog_12_method_56_code 90 = .ok (.invokevirtual 299, 3) := by decide +kernel
theorem d_Mod_isRecord_93 : decode prog_12_method_56_code 93 = .ok (.lconst 0, 1) := by decide +kernel
theorem d_Mod_isRecord_94 : decode prog_12_method_56_code 94 = .ok (.lcmp, 1) := by decide +kernel
theorem d_Mod_isRecord_95 : decode prog_12_method_56_code 95 = .ok (.ifCond .ne 7, 3) := by decide +kernel
theorem d_Mod_isRecord_98 : decode prog_12_method_56_code 98 = .ok (.iconst 1, 1) := by decide +kernel
theorem d_Mod_isRecord_99 : decode prog_12_method_56_code 99 = .ok (.goto 4, 3) := by decide +kernel
theorem d_Mod_isRecord_47 : decode prog_12_method_56_code 47 = .ok (.iconst 0, 1) := by decide +kernel
theorem d_Mod_isRecord_48 : decode prog_12_method_56_code 48 = .ok (.ireturn, 1) := by decide +kernel
abbrev y_Mod_isRecord : MethodName := ⟨"PackageBookModel", "isRecord", "(II)Z"⟩
abbrev i_Mod_isRecord : pb_I := (y_Mod_isRecord, prog_12_method_56_code, 9, (some Jvm.ClassFile.FieldType.boolean), [], { frames := 1, cells := 0, slots := 0, locals := 25 })
set_option maxRecDepth 100000 in
set_option maxHeartbeats 4000000 in
theorem g_Mod_isRecord {l : Launch} (hl : l.stackTraces = false) (G : pb_G) (h : Nat) (m_rels : Nat) (m_openRels : Nat) (m_closeRels : Nat) (m_openRel : Nat) (m_closeRel : Nat) (m_comment : Nat) (m_ends : Nat) (m_order : Nat) (m_tape : Nat) (m_count : Nat) (m_nameSize : Nat) (m_names : Nat) (m_size : Nat) (m_data : Nat) (m_looked : Nat) (m_file : Nat) (m_directory : Nat) (m_out : Nat) (m_row : Nat) (m_made : Nat) (m_length : Nat) (m_pressed : Nat) (m_mark : Nat) (m_idSize : Nat) (m_ids : Nat) (m_goalSize : Nat) (m_goals : Nat) (m_value : Nat) (m_faults : Nat) (m_reached : Nat) (v_thrown : Int32) (v_taped : Int32) (v_lookedSize : Int32) (v_fileSize : Int32) (v_directorySize : Int32) (v_outSize : Int32) (v_rowSize : Int32) (v_bitAt : Int32) (v_bitEnd : Int32) (v_why : Int32) (v_madeSize : Int32) (v_firstCount : Int32) (v_secondCount : Int32) (v_heldBits : Int32) (v_heldCount : Int32) (v_pressedSize : Int32) (v_at : Int32) (v_bad : Int32) (v_markSize : Int32) (v_relationCount : Int32) (v_valueSize : Int32) (v_faultCount : Int32) (a_row : Nat → Int32) (e : Int32) (bg : Int32) (A : Int → Int32) (h0 : 0 ≤ e.toInt) (h1 : e.toInt + 46 + av a_row (e.toInt + 28) 2 ≤ 20000) (h2 : bg.toInt ≤ 20000) (hA : ∀ j : Int, 0 ≤ j → j < v_rowSize.toInt → A j = gr a_row j) (hB : ∀ j : Int, -128 ≤ (A j).toInt ∧ (A j).toInt ≤ 127) (hy5 : ey_ A e.toInt) (hZ : e.toInt + 46 + aw A (e.toInt + 28) 2 ≤ v_rowSize.toInt) (hZ2 : bg.toInt ≤ v_rowSize.toInt) (F_a_row : sb_Fit a_row) : Cn l G i_Mod_isRecord [.ref h, .int e, .int bg] [(h, .inr (10, [.ref m_rels, .ref m_openRels, .ref m_closeRels, .ref m_openRel, .ref m_closeRel, .ref m_comment, .ref m_ends, .ref m_order, .int v_thrown, .int v_taped, .ref m_tape, .ref m_count, .ref m_nameSize, .ref m_names, .ref m_size, .ref m_data, .int v_lookedSize, .ref m_looked, .int v_fileSize, .ref m_file, .int v_directorySize, .ref m_directory, .int v_outSize, .ref m_out, .int v_rowSize, .ref m_row, .int v_bitAt, .int v_bitEnd, .int v_why, .int v_madeSize, .ref m_made, .ref m_length, .int v_firstCount, .int v_secondCount, .int v_heldBits, .int v_heldCount, .int v_pressedSize, .ref m_pressed, .int v_at, .int v_bad, .int v_markSize, .ref m_mark, .int v_relationCount, .ref m_idSize, .ref m_ids, .ref m_goalSize, .ref m_goals, .int v_valueSize, .ref m_value, .int v_faultCount, .ref m_faults, .ref m_reached])), (m_row, .inl (G.2.1, 20000, .inl a_row))] (S := Int32) (fun rv_ u => rv_ = some (.int u) ∧ (u.toInt = 0 ∨ u.toInt = 1) ∧ (u.toInt = 1 → av a_row (e.toInt + 42) 4 + 30 + av a_row (e.toInt + 28) 2 + av a_row (e.toInt + 20) 4 ≤ bg.toInt) ∧ (u.toInt = 1 → rr_ A bg.toInt e.toInt) ∧ (u.toInt = 0 → ¬ rr_ A bg.toInt e.toInt)) (fun u => [(h, .inr (10, [.ref m_rels, .ref m_openRels, .ref m_closeRels, .ref m_openRel, .ref m_closeRel, .ref m_comment, .ref m_ends, .ref m_order, .int v_thrown, .int v_taped, .ref m_tape, .ref m_count, .ref m_nameSize, .ref m_names, .ref m_size, .ref m_data, .int v_lookedSize, .ref m_looked, .int v_fileSize, .ref m_file, .int v_directorySize, .ref m_directory, .int v_outSize, .ref m_out, .int v_rowSize, .ref m_row, .int v_bitAt, .int v_bitEnd, .int v_why, .int v_madeSize, .ref m_made, .ref m_length, .int v_firstCount, .int v_secondCount, .int v_heldBits, .int v_heldCount, .int v_pressedSize, .ref m_pressed, .int v_at, .int v_bad, .int v_markSize, .ref m_mark, .int v_relationCount, .ref m_idSize, .ref m_ids, .ref m_goalSize, .ref m_goals, .int v_valueSize, .ref m_value, .int v_faultCount, .ref m_faults, .ref m_reached])), (m_row, .inl (G.2.1, 20000, .inl a_row))]) := by
  refine Cn.of hl (by decide +kernel) rfl (Nat.le_of_ble_eq_true rfl) (fun M hQ => ?_)
  refine pb_eq (pc' := 0) (lo' := [(0, .ref h), (1, .int e), (2, .int bg)]) (rest' := []) (ws' := [(h, .inr (10, [.ref m_rels, .ref m_openRels, .ref m_closeRels, .ref m_openRel, .ref m_closeRel, .ref m_comment, .ref m_ends, .ref m_order, .int v_thrown, .int v_taped, .ref m_tape, .ref m_count, .ref m_nameSize, .ref m_names, .ref m_size, .ref m_data, .int v_lookedSize, .ref m_looked, .int v_fileSize, .ref m_file, .int v_directorySize, .ref m_directory, .int v_outSize, .ref m_out, .int v_rowSize, .ref m_row, .int v_bitAt, .int v_bitEnd, .int v_why, .int v_madeSize, .ref m_made, .ref m_length, .int v_firstCount, .int v_secondCount, .int v_heldBits, .int v_heldCount, .int v_pressedSize, .ref m_pressed, .int v_at, .int v_bad, .int v_markSize, .ref m_mark, .int v_relationCount, .ref m_idSize, .ref m_ids, .ref m_goalSize, .ref m_goals, .int v_valueSize, .ref m_value, .int v_faultCount, .ref m_faults, .ref m_reached])), (m_row, .inl (G.2.1, 20000, .inl a_row))]) ?_
  have zl0 : (0 : Int32).toInt = 0 := by decide
  have zl1 : (1 : Int32).toInt = 1 := by decide
  have zl2 : (2 : Int32).toInt = 2 := by decide
  have zl4 : (4 : Int32).toInt = 4 := by decide
  have n4 : (4 : Int32).toInt.toNat = 4 := by decide
  have n2 : (2 : Int32).toInt.toNat = 2 := by decide
  have v1 := av2 a_row (e.toInt + 28)
  have v2 := av4 a_row (e.toInt + 42)
  have v3 := av4 a_row (e.toInt + 20)
  have v4 := aw2 A (e.toInt + 28)
  have v5 := aw4 A (e.toInt + 42)
  have v6 := aw4 A (e.toInt + 20)
  refine pb_aload_n (pc := 0) d_Mod_isRecord_0 0 rfl rfl ?_
  refine pb_iload_n (pc := 1) d_Mod_isRecord_1 1 rfl rfl ?_
  refine pb_bipush (pc := 2) (v := 42) d_Mod_isRecord_2 (by decide) ?_
  refine pb_iadd (pc := 4) d_Mod_isRecord_4 ?_
  refine pb_topi (fun ix1 eix1 => ?_)
  try have tix1 : ix1.toInt = e.toInt + 42 := t2_add eix1 rfl (by decide) (by omega)
  refine pb_iconst (pc := 5) (v := 4) d_Mod_isRecord_5 (by decide) ?_
  refine pb_callV (pc := 6) (I := i_Mod_isRecord) (qb := 0) (ci := 10) (nA := 2) (rest := []) (wr := []) d_Mod_isRecord_6 (g_Mod_at hl G h m_rels m_openRels m_closeRels m_openRel m_closeRel m_comment m_ends m_order m_tape m_count m_nameSize m_names m_size m_data m_looked m_file m_directory m_out m_row m_made m_length m_pressed m_mark m_idSize m_ids m_goalSize m_goals m_value m_faults m_reached v_thrown v_taped v_lookedSize v_fileSize v_directorySize v_outSize v_rowSize v_bitAt v_bitEnd v_why v_madeSize v_firstCount v_secondCount v_heldBits v_heldCount v_pressedSize v_at v_bad v_markSize v_relationCount v_valueSize v_faultCount a_row ix1 4 (by first | (with_reducible assumption) | omega (splitDisjunctions := false) | assumption | omega | decide) (by first | (with_reducible assumption) | omega (splitDisjunctions := false) | assumption | omega | decide) (by first | (with_reducible assumption) | omega (splitDisjunctions := false) | assumption | omega | decide) (by first | (with_reducible assumption) | omega (splitDisjunctions := false) | assumption | omega | decide) F_a_row) rfl rfl [0, 1] [] (by decide) rfl rfl rfl (by decide) (by decide) k_1529 rfl k_128 k_1526 k_1528 k_88 ⟨rfl, hy_Mod_at⟩ (by decide) rfl rfl (Nat.le_of_ble_eq_true rfl) (by decide) (fun v9 ux3 ch2 => ?_)
  obtain ⟨r_4, rfl⟩ : ∃ z9, z9 = ux3 := ⟨_, rfl⟩
  obtain ⟨ech2, ch2⟩ := ch2
  have ech2 : v9 = some (.long r_4) := ech2
  subst ech2
  obtain ⟨fh5, fh6, fh7⟩ : (r_4.toInt = av a_row ix1.toInt (4 : Int32).toInt.toNat) ∧ (0 ≤ r_4.toInt) ∧ (r_4.toInt < 4294967296) := ch2
  have u42 : r_4.toInt = aw A (e.toInt + 42) 4 := by rw [fh5, n4, show ix1.toInt = e.toInt + 42 by omega]; exact av_A hA 4 (by omega) (by omega)
  rw [n4, show ix1.toInt = e.toInt + 42 by omega] at fh5
  refine pb_eq (pc' := 9) (lo' := [(0, .ref h), (1, .int e), (2, .int bg)]) (rest' := [.long r_4]) (ws' := [(h, .inr (10, [.ref m_rels, .ref m_openRels, .ref m_closeRels, .ref m_openRel, .ref m_closeRel, .ref m_comment, .ref m_ends, .ref m_order, .int v_thrown, .int v_taped, .ref m_tape, .ref m_count, .ref m_nameSize, .ref m_names, .ref m_size, .ref m_data, .int v_lookedSize, .ref m_looked, .int v_fileSize, .ref m_file, .int v_directorySize, .ref m_directory, .int v_outSize, .ref m_out, .int v_rowSize, .ref m_row, .int v_bitAt, .int v_bitEnd, .int v_why, .int v_madeSize, .ref m_made, .ref m_length, .int v_firstCount, .int v_secondCount, .int v_heldBits, .int v_heldCount, .int v_pressedSize, .ref m_pressed, .int v_at, .int v_bad, .int v_markSize, .ref m_mark, .int v_relationCount, .ref m_idSize, .ref m_ids, .ref m_goalSize, .ref m_goals, .int v_valueSize, .ref m_value, .int v_faultCount, .ref m_faults, .ref m_reached])), (m_row, .inl (G.2.1, 20000, .inl a_row))]) ?_
  refine pb_lstore_n (pc := 9) (lo' := [(3, .long r_4), (0, .ref h), (1, .int e), (2, .int bg)]) d_Mod_isRecord_9 rfl (by decide) rfl ?_
  refine pb_aload_n (pc := 10) d_Mod_isRecord_10 1 rfl rfl ?_
  refine pb_iload_n (pc := 11) d_Mod_isRecord_11 2 rfl rfl ?_
  refine pb_bipush (pc := 12) (v := 28) d_Mod_isRecord_12 (by decide) ?_
  refine pb_iadd (pc := 14) d_Mod_isRecord_14 ?_
  refine pb_topi (fun ix8 eix8 => ?_)
  try have tix8 : ix8.toInt = e.toInt + 28 := t2_add eix8 rfl (by decide) (by omega)
  refine pb_iconst (pc := 15) (v := 2) d_Mod_isRecord_15 (by decide) ?_
  refine pb_callV (pc := 16) (I := i_Mod_isRecord) (qb := 0) (ci := 10) (nA := 2) (rest := []) (wr := []) d_Mod_isRecord_16 (g_Mod_at hl G h m_rels m_openRels m_closeRels m_openRel m_closeRel m_comment m_ends m_order m_tape m_count m_nameSize m_names m_size m_data m_looked m_file m_directory m_out m_row m_made m_length m_pressed m_mark m_idSize m_ids m_goalSize m_goals m_value m_faults m_reached v_thrown v_taped v_lookedSize v_fileSize v_directorySize v_outSize v_rowSize v_bitAt v_bitEnd v_why v_madeSize v_firstCount v_secondCount v_heldBits v_heldCount v_pressedSize v_at v_bad v_markSize v_relationCount v_valueSize v_faultCount a_row ix8 2 (by first | (with_reducible assumption) | omega (splitDisjunctions := false) | assumption | omega | decide) (by first | (with_reducible assumption) | omega (splitDisjunctions := false) | assumption | omega | decide) (by first | (with_reducible assumption) | omega (splitDisjunctions := false) | assumption | omega | decide) (by first | (with_reducible assumption) | omega (splitDisjunctions := false) | assumption | omega | decide) F_a_row) rfl rfl [0, 1] [] (by decide) rfl rfl rfl (by decide) (by decide) k_1529 rfl k_128 k_1526 k_1528 k_88 ⟨rfl, hy_Mod_at⟩ (by decide) rfl rfl (Nat.le_of_ble_eq_true rfl) (by decide) (fun v9 ux10 ch9 => ?_)
  obtain ⟨r_11, rfl⟩ : ∃ z9, z9 = ux10 := ⟨_, rfl⟩
  obtain ⟨ech9, ch9⟩ := ch9
  have ech9 : v9 = some (.long r_11) := ech9
  subst ech9
  obtain ⟨fh12, fh13, fh14⟩ : (r_11.toInt = av a_row ix8.toInt (2 : Int32).toInt.toNat) ∧ (0 ≤ r_11.toInt) ∧ (r_11.toInt < 4294967296) := ch9
  have u28 : r_11.toInt = aw A (e.toInt + 28) 2 := by rw [fh12, n2, show ix8.toInt = e.toInt + 28 by omega]; exact av_A hA 2 (by omega) (by omega)
  rw [n2, show ix8.toInt = e.toInt + 28 by omega] at fh12
  refine pb_eq (pc' := 19) (lo' := [(3, .long r_4), (0, .ref h), (1, .int e), (2, .int bg)]) (rest' := [.long r_11]) (ws' := [(h, .inr (10, [.ref m_rels, .ref m_openRels, .ref m_closeRels, .ref m_openRel, .ref m_closeRel, .ref m_comment, .ref m_ends, .ref m_order, .int v_thrown, .int v_taped, .ref m_tape, .ref m_count, .ref m_nameSize, .ref m_names, .ref m_size, .ref m_data, .int v_lookedSize, .ref m_looked, .int v_fileSize, .ref m_file, .int v_directorySize, .ref m_directory, .int v_outSize, .ref m_out, .int v_rowSize, .ref m_row, .int v_bitAt, .int v_bitEnd, .int v_why, .int v_madeSize, .ref m_made, .ref m_length, .int v_firstCount, .int v_secondCount, .int v_heldBits, .int v_heldCount, .int v_pressedSize, .ref m_pressed, .int v_at, .int v_bad, .int v_markSize, .ref m_mark, .int v_relationCount, .ref m_idSize, .ref m_ids, .ref m_goalSize, .ref m_goals, .int v_valueSize, .ref m_value, .int v_faultCount, .ref m_faults, .ref m_reached])), (m_row, .inl (G.2.1, 20000, .inl a_row))]) ?_
  refine pb_l2i (pc := 19) d_Mod_isRecord_19 rfl ?_
  refine pb_topi (fun ix15 eix15 => ?_)
  try have tix15 : ix15.toInt = r_11.toInt := ti_l2i eix15 rfl (by omega) (by omega)
  refine pb_istore (pc := 20) (lo' := [(5, .int ix15), (3, .long r_4), (0, .ref h), (1, .int e), (2, .int bg)]) d_Mod_isRecord_20 (by decide) rfl ?_
  refine pb_lload_n (pc := 22) d_Mod_isRecord_22 1 rfl rfl ?_
  refine pb_ldc2 (pc := 23) (v := 30) d_Mod_isRecord_23 k_1541 ?_
  refine pb_ladd (pc := 26) d_Mod_isRecord_26 ?_
  refine pb_topl (fun jx16 ejx16 => ?_)
  try have tjx16 : jx16.toInt = r_4.toInt + 30 := tl_add ejx16 rfl (by decide) (by omega) (by omega)
  refine pb_iload (pc := 27) d_Mod_isRecord_27 0 rfl ?_
  refine pb_i2l (pc := 29) d_Mod_isRecord_29 rfl ?_
  refine pb_topl (fun jx17 ejx17 => ?_)
  have tjx17 : jx17.toInt = ix15.toInt := tl_i2l ejx17 rfl
  refine pb_ladd (pc := 30) d_Mod_isRecord_30 ?_
  refine pb_topl (fun jx18 ejx18 => ?_)
  try have tjx18 : jx18.toInt = jx16.toInt + jx17.toInt := tl_add ejx18 rfl rfl (by omega) (by omega)
  refine pb_aload_n (pc := 31) d_Mod_isRecord_31 2 rfl rfl ?_
  refine pb_iload_n (pc := 32) d_Mod_isRecord_32 3 rfl rfl ?_
  refine pb_bipush (pc := 33) (v := 20) d_Mod_isRecord_33 (by decide) ?_
  refine pb_iadd (pc := 35) d_Mod_isRecord_35 ?_
  refine pb_topi (fun ix19 eix19 => ?_)
  try have tix19 : ix19.toInt = e.toInt + 20 := t2_add eix19 rfl (by decide) (by omega)
  refine pb_iconst (pc := 36) (v := 4) d_Mod_isRecord_36 (by decide) ?_
  refine pb_callV (pc := 37) (I := i_Mod_isRecord) (qb := 0) (ci := 10) (nA := 2) (rest := [.long jx18]) (wr := []) d_Mod_isRecord_37 (g_Mod_at hl G h m_rels m_openRels m_closeRels m_openRel m_closeRel m_comment m_ends m_order m_tape m_count m_nameSize m_names m_size m_data m_looked m_file m_directory m_out m_row m_made m_length m_pressed m_mark m_idSize m_ids m_goalSize m_goals m_value m_faults m_reached v_thrown v_taped v_lookedSize v_fileSize v_directorySize v_outSize v_rowSize v_bitAt v_bitEnd v_why v_madeSize v_firstCount v_secondCount v_heldBits v_heldCount v_pressedSize v_at v_bad v_markSize v_relationCount v_valueSize v_faultCount a_row ix19 4 (by first | (with_reducible assumption) | omega (splitDisjunctions := false) | assumption | omega | decide) (by first | (with_reducible assumption) | omega (splitDisjunctions := false) | assumption | omega | decide) (by first | (with_reducible assumption) | omega (splitDisjunctions := false) | assumption | omega | decide) (by first | (with_reducible assumption) | omega (splitDisjunctions := false) | assumption | omega | decide) F_a_row) rfl rfl [0, 1] [] (by decide) rfl rfl rfl (by decide) (by decide) k_1529 rfl k_128 k_1526 k_1528 k_88 ⟨rfl, hy_Mod_at⟩ (by decide) rfl rfl (Nat.le_of_ble_eq_true rfl) (by decide) (fun v9 ux21 ch20 => ?_)
  obtain ⟨r_22, rfl⟩ : ∃ z9, z9 = ux21 := ⟨_, rfl⟩
  obtain ⟨ech20, ch20⟩ := ch20
  have ech20 : v9 = some (.long r_22) := ech20
  subst ech20
  obtain ⟨fh23, fh24, fh25⟩ : (r_22.toInt = av a_row ix19.toInt (4 : Int32).toInt.toNat) ∧ (0 ≤ r_22.toInt) ∧ (r_22.toInt < 4294967296) := ch20
  have u20 : r_22.toInt = aw A (e.toInt + 20) 4 := by rw [fh23, n4, show ix19.toInt = e.toInt + 20 by omega]; exact av_A hA 4 (by omega) (by omega)
  rw [n4, show ix19.toInt = e.toInt + 20 by omega] at fh23
  refine pb_eq (pc' := 40) (lo' := [(5, .int ix15), (3, .long r_4), (0, .ref h), (1, .int e), (2, .int bg)]) (rest' := [.long r_22, .long jx18]) (ws' := [(h, .inr (10, [.ref m_rels, .ref m_openRels, .ref m_closeRels, .ref m_openRel, .ref m_closeRel, .ref m_comment, .ref m_ends, .ref m_order, .int v_thrown, .int v_taped, .ref m_tape, .ref m_count, .ref m_nameSize, .ref m_names, .ref m_size, .ref m_data, .int v_lookedSize, .ref m_looked, .int v_fileSize, .ref m_file, .int v_directorySize, .ref m_directory, .int v_outSize, .ref m_out, .int v_rowSize, .ref m_row, .int v_bitAt, .int v_bitEnd, .int v_why, .int v_madeSize, .ref m_made, .ref m_length, .int v_firstCount, .int v_secondCount, .int v_heldBits, .int v_heldCount, .int v_pressedSize, .ref m_pressed, .int v_at, .int v_bad, .int v_markSize, .ref m_mark, .int v_relationCount, .ref m_idSize, .ref m_ids, .ref m_goalSize, .ref m_goals, .int v_valueSize, .ref m_value, .int v_faultCount, .ref m_faults, .ref m_reached])), (m_row, .inl (G.2.1, 20000, .inl a_row))]) ?_
  refine pb_ladd (pc := 40) d_Mod_isRecord_40 ?_
  refine pb_topl (fun jx26 ejx26 => ?_)
  try have tjx26 : jx26.toInt = jx18.toInt + r_22.toInt := tl_add ejx26 rfl rfl (by omega) (by omega)
  refine pb_iload_n (pc := 41) d_Mod_isRecord_41 4 rfl rfl ?_
  refine pb_i2l (pc := 42) d_Mod_isRecord_42 rfl ?_
  refine pb_topl (fun jx27 ejx27 => ?_)
  have tjx27 : jx27.toInt = bg.toInt := tl_i2l ejx27 rfl
  refine pb_lcmp (pc := 43) d_Mod_isRecord_43 ?_
  refine pb_topi (fun ix28 eix28 => ?_)
  have tix28 : (ix28.toInt < 0 ↔ jx26.toInt < jx27.toInt) ∧ (ix28.toInt = 0 ↔ jx26.toInt = jx27.toInt) ∧ (0 < ix28.toInt ↔ jx27.toInt < jx26.toInt) := tl_cmp eix28 rfl rfl
  refine pb_if_le (pc := 44) (tgt := 49) d_Mod_isRecord_44 (by decide) (fun wx29 => ?_) (fun wx29 => ?_)
  · have twx29 : ix28.toInt ≤ 0 := (ti_le rfl (by decide)).mp wx29
    have lwx29 : jx26.toInt ≤ jx27.toInt := Int.not_lt.mp (fun z9 => absurd (tix28.2.2.mpr z9) (Int.not_lt.mpr twx29))
    clear tix28 twx29
    refine pb_lload_n (pc := 49) d_Mod_isRecord_49 1 rfl rfl ?_
    refine pb_l2i (pc := 50) d_Mod_isRecord_50 rfl ?_
    refine pb_topi (fun ix30 eix30 => ?_)
    try have tix30 : ix30.toInt = r_4.toInt := ti_l2i eix30 rfl (by omega) (by omega)
    refine pb_istore (pc := 51) (lo' := [(6, .int ix30), (5, .int ix15), (3, .long r_4), (0, .ref h), (1, .int e), (2, .int bg)]) d_Mod_isRecord_51 (by decide) rfl ?_
    have hJ105_31 : ∀ (sm_ : Int32) (r6 : Int32) (n5 : Int32), (sm_.toInt = 0 ∨ sm_.toInt = 1) → (r6.toInt = av a_row (e.toInt + 42) 4) → (n5.toInt = av a_row (e.toInt + 28) 2) → (av a_row (e.toInt + 42) 4 + 30 + av a_row (e.toInt + 28) 2 + av a_row (e.toInt + 20) 4 ≤ bg.toInt) → (hid_ (sm_.toInt = 1 → (aw A (aw A (e.toInt + 42) 4) 4 = 67324752 ∧ aw A (aw A (e.toInt + 42) 4 + 4) 4 = 20 ∧ aw A (aw A (e.toInt + 42) 4 + 28) 2 = 0))) → (hid_ (sm_.toInt = 0 → ¬ (aw A (aw A (e.toInt + 42) 4) 4 = 67324752 ∧ aw A (aw A (e.toInt + 42) 4 + 4) 4 = 20 ∧ aw A (aw A (e.toInt + 42) 4 + 28) 2 = 0))) → (n5.toInt = aw A (e.toInt + 28) 2) → (r6.toInt = aw A (e.toInt + 42) 4) → (aw A (e.toInt + 42) 4 + 30 + aw A (e.toInt + 28) 2 + aw A (e.toInt + 20) 4 ≤ bg.toInt) → pb_P l G M i_Mod_isRecord 105 [(7, .int sm_), (6, .int r6), (5, .int n5), (0, .ref h), (1, .int e), (2, .int bg)] [] [(h, .inr (10, [.ref m_rels, .ref m_openRels, .ref m_closeRels, .ref m_openRel, .ref m_closeRel, .ref m_comment, .ref m_ends, .ref m_order, .int v_thrown, .int v_taped, .ref m_tape, .ref m_count, .ref m_nameSize, .ref m_names, .ref m_size, .ref m_data, .int v_lookedSize, .ref m_looked, .int v_fileSize, .ref m_file, .int v_directorySize, .ref m_directory, .int v_outSize, .ref m_out, .int v_rowSize, .ref m_row, .int v_bitAt, .int v_bitEnd, .int v_why, .int v_madeSize, .ref m_made, .ref m_length, .int v_firstCount, .int v_secondCount, .int v_heldBits, .int v_heldCount, .int v_pressedSize, .ref m_pressed, .int v_at, .int v_bad, .int v_markSize, .ref m_mark, .int v_relationCount, .ref m_idSize, .ref m_ids, .ref m_goalSize, .ref m_goals, .int v_valueSize, .ref m_value, .int v_faultCount, .ref m_faults, .ref m_reached])), (m_row, .inl (G.2.1, 20000, .inl a_row))] 0 0 := by
      intro sm_ r6 n5 j0 j1 j2 j3 j4 j5 j6 j7 j8
      refine pb_iconst (pc := 105) (v := 0) d_Mod_isRecord_105 (by decide) ?_
      refine pb_istore (pc := 106) (lo' := [(8, .int 0), (7, .int sm_), (6, .int r6), (5, .int n5), (0, .ref h), (1, .int e), (2, .int bg)]) d_Mod_isRecord_106 (by decide) rfl ?_
      have hL108_32 : ∀ (N9 : Nat) (s7 : Int32) (k8 : Int32), (0 ≤ k8.toInt) → (s7.toInt = 0 ∨ s7.toInt = 1) → (hid_ (s7.toInt = 1 → (aw A (aw A (e.toInt + 42) 4) 4 = 67324752 ∧ aw A (aw A (e.toInt + 42) 4 + 4) 4 = 20 ∧ aw A (aw A (e.toInt + 42) 4 + 28) 2 = 0) ∧ ∀ j : Int, 0 ≤ j → j < k8.toInt → A (aw A (e.toInt + 42) 4 + 8 + j) = A (e.toInt + 10 + j))) → (hid_ (s7.toInt = 0 → ¬ ((aw A (aw A (e.toInt + 42) 4) 4 = 67324752 ∧ aw A (aw A (e.toInt + 42) 4 + 4) 4 = 20 ∧ aw A (aw A (e.toInt + 42) 4 + 28) 2 = 0) ∧ ∀ j : Int, 0 ≤ j → j < 20 → A (aw A (e.toInt + 42) 4 + 8 + j) = A (e.toInt + 10 + j)))) → (k8.toInt ≤ 20) → ((20 - k8.toInt).toNat) < N9 → pb_P l G M i_Mod_isRecord 108 [(7, .int s7), (8, .int k8), (6, .int r6), (5, .int n5), (0, .ref h), (1, .int e), (2, .int bg)] [] [(h, .inr (10, [.ref m_rels, .ref m_openRels, .ref m_closeRels, .ref m_openRel, .ref m_closeRel, .ref m_comment, .ref m_ends, .ref m_order, .int v_thrown, .int v_taped, .ref m_tape, .ref m_count, .ref m_nameSize, .ref m_names, .ref m_size, .ref m_data, .int v_lookedSize, .ref m_looked, .int v_fileSize, .ref m_file, .int v_directorySize, .ref m_directory, .int v_outSize, .ref m_out, .int v_rowSize, .ref m_row, .int v_bitAt, .int v_bitEnd, .int v_why, .int v_madeSize, .ref m_made, .ref m_length, .int v_firstCount, .int v_secondCount, .int v_heldBits, .int v_heldCount, .int v_pressedSize, .ref m_pressed, .int v_at, .int v_bad, .int v_markSize, .ref m_mark, .int v_relationCount, .ref m_idSize, .ref m_ids, .ref m_goalSize, .ref m_goals, .int v_valueSize, .ref m_value, .int v_faultCount, .ref m_faults, .ref m_reached])), (m_row, .inl (G.2.1, 20000, .inl a_row))] 0 0 := by
        intro N9
        induction N9 with
        | zero => intro s7 k8 k0 k1 k2 k3 k4 hm9; exact absurd hm9 (Nat.not_lt_zero _)
        | succ N9 ih108 =>
          intro s7 k8 k0 k1 k2 k3 k4 hm9
          refine pb_iload (pc := 108) d_Mod_isRecord_108 1 rfl ?_
          refine pb_bipush (pc := 110) (v := 20) d_Mod_isRecord_110 (by decide) ?_
          refine pb_icmp_ge (pc := 112) (tgt := 161) d_Mod_isRecord_112 (by decide) (fun wx33 => ?_) (fun wx33 => ?_)
          · have twx33 : 20 ≤ k8.toInt := (ti_le (by decide) rfl).mp wx33
            refine pb_iconst (pc := 161) (v := 0) d_Mod_isRecord_161 (by decide) ?_
            refine pb_istore (pc := 162) (lo' := [(8, .int 0), (7, .int s7), (6, .int r6), (5, .int n5), (0, .ref h), (1, .int e), (2, .int bg)]) d_Mod_isRecord_162 (by decide) rfl ?_
            have hL164_34 : ∀ (N9 : Nat) (s9 : Int32) (k9 : Int32), (0 ≤ k9.toInt) → (s9.toInt = 0 ∨ s9.toInt = 1) → (hid_ (s9.toInt = 1 → ((aw A (aw A (e.toInt + 42) 4) 4 = 67324752 ∧ aw A (aw A (e.toInt + 42) 4 + 4) 4 = 20 ∧ aw A (aw A (e.toInt + 42) 4 + 28) 2 = 0) ∧ ∀ j : Int, 0 ≤ j → j < 20 → A (aw A (e.toInt + 42) 4 + 8 + j) = A (e.toInt + 10 + j)) ∧ ∀ j : Int, 0 ≤ j → j < k9.toInt → A (aw A (e.toInt + 42) 4 + 30 + j) = A (e.toInt + 46 + j))) → (hid_ (s9.toInt = 0 → ¬ (((aw A (aw A (e.toInt + 42) 4) 4 = 67324752 ∧ aw A (aw A (e.toInt + 42) 4 + 4) 4 = 20 ∧ aw A (aw A (e.toInt + 42) 4 + 28) 2 = 0) ∧ ∀ j : Int, 0 ≤ j → j < 20 → A (aw A (e.toInt + 42) 4 + 8 + j) = A (e.toInt + 10 + j)) ∧ ∀ j : Int, 0 ≤ j → j < aw A (e.toInt + 28) 2 → A (aw A (e.toInt + 42) 4 + 30 + j) = A (e.toInt + 46 + j)))) → (k9.toInt ≤ n5.toInt) → ((n5.toInt - k9.toInt).toNat) < N9 → pb_P l G M i_Mod_isRecord 164 [(7, .int s9), (8, .int k9), (6, .int r6), (5, .int n5), (0, .ref h), (1, .int e), (2, .int bg)] [] [(h, .inr (10, [.ref m_rels, .ref m_openRels, .ref m_closeRels, .ref m_openRel, .ref m_closeRel, .ref m_comment, .ref m_ends, .ref m_order, .int v_thrown, .int v_taped, .ref m_tape, .ref m_count, .ref m_nameSize, .ref m_names, .ref m_size, .ref m_data, .int v_lookedSize, .ref m_looked, .int v_fileSize, .ref m_file, .int v_directorySize, .ref m_directory, .int v_outSize, .ref m_out, .int v_rowSize, .ref m_row, .int v_bitAt, .int v_bitEnd, .int v_why, .int v_madeSize, .ref m_made, .ref m_length, .int v_firstCount, .int v_secondCount, .int v_heldBits, .int v_heldCount, .int v_pressedSize, .ref m_pressed, .int v_at, .int v_bad, .int v_markSize, .ref m_mark, .int v_relationCount, .ref m_idSize, .ref m_ids, .ref m_goalSize, .ref m_goals, .int v_valueSize, .ref m_value, .int v_faultCount, .ref m_faults, .ref m_reached])), (m_row, .inl (G.2.1, 20000, .inl a_row))] 0 0 := by
              intro N9
              induction N9 with
              | zero => intro s9 k9 m0 m1 m2 m3 m4 hm9; exact absurd hm9 (Nat.not_lt_zero _)
              | succ N9 ih164 =>
                intro s9 k9 m0 m1 m2 m3 m4 hm9
                refine pb_iload (pc := 164) d_Mod_isRecord_164 1 rfl ?_
                refine pb_iload (pc := 166) d_Mod_isRecord_166 3 rfl ?_
                refine pb_icmp_ge (pc := 168) (tgt := 217) d_Mod_isRecord_168 (by decide) (fun wx35 => ?_) (fun wx35 => ?_)
                · have twx35 : n5.toInt ≤ k9.toInt := (ti_le rfl rfl).mp wx35
                  refine pb_iload (pc := 217) d_Mod_isRecord_217 0 rfl ?_
                  exact pb_iret (pc := 219) hQ d_Mod_isRecord_219 rfl (nar_b (by omega)) (s9) ⟨rfl, (by (try dsimp only); first | done | (with_reducible assumption) | omega (splitDisjunctions := false) | assumption | omega | decide), (by (try dsimp only); first | done | (with_reducible assumption) | exact fun q9 => absurd q9 (by assumption) | exact fun q9 => absurd (by assumption) q9 | exact fun _ => (by omega (splitDisjunctions := false)) | omega (splitDisjunctions := false) | assumption | omega | decide), (show s9.toInt = 1 → rr_ A bg.toInt e.toInt from (fun q9 => rr_Y hB hy5 (by omega) ⟨(hid_o m2 q9).1, fun j h0 h1 => (hid_o m2 q9).2 j h0 (by omega)⟩)), (show s9.toInt = 0 → ¬ rr_ A bg.toInt e.toInt from (fun q9 => rr_X hB hy5 (hid_o m3 q9)))⟩ [0, 1] (by decide) rfl rfl (by decide) (by decide)
                · have twx35 : ¬ n5.toInt ≤ k9.toInt := fun z9 => wx35 ((ti_le rfl rfl).mpr z9)
                  refine pb_iload (pc := 171) d_Mod_isRecord_171 0 rfl ?_
                  refine pb_if_eq (pc := 173) (tgt := 217) d_Mod_isRecord_173 (by decide) (fun wx36 => ?_) (fun wx36 => ?_)
                  · have twx36 : s9.toInt = 0 := (ti_eq rfl (by decide)).mp wx36
                    refine pb_iload (pc := 217) d_Mod_isRecord_217 0 rfl ?_
                    exact pb_iret (pc := 219) hQ d_Mod_isRecord_219 rfl (nar_b (by omega)) (s9) ⟨rfl, (by (try dsimp only); first | done | (with_reducible assumption) | omega (splitDisjunctions := false) | assumption | omega | decide), (by (try dsimp only); first | done | (with_reducible assumption) | exact fun q9 => absurd q9 (by assumption) | exact fun q9 => absurd (by assumption) q9 | exact fun _ => (by omega (splitDisjunctions := false)) | omega (splitDisjunctions := false) | assumption | omega | decide), (show s9.toInt = 1 → rr_ A bg.toInt e.toInt from (fun q9 => rr_Y hB hy5 (by omega) ⟨(hid_o m2 q9).1, fun j h0 h1 => (hid_o m2 q9).2 j h0 (by omega)⟩)), (show s9.toInt = 0 → ¬ rr_ A bg.toInt e.toInt from (fun q9 => rr_X hB hy5 (hid_o m3 q9)))⟩ [0, 1] (by decide) rfl rfl (by decide) (by decide)
                  · have twx36 : ¬ s9.toInt = 0 := fun z9 => wx36 ((ti_eq rfl (by decide)).mpr z9)
                    refine pb_aload_n (pc := 176) d_Mod_isRecord_176 4 rfl rfl ?_
                    refine pb_get (pc := 177) d_Mod_isRecord_177 0 25 rfl rfl (by decide) in_Mod k_1171 rfl ?_
                    refine pb_iload (pc := 180) d_Mod_isRecord_180 2 rfl ?_
                    refine pb_bipush (pc := 182) (v := 30) d_Mod_isRecord_182 (by decide) ?_
                    refine pb_iadd (pc := 184) d_Mod_isRecord_184 ?_
                    refine pb_topi (fun ix37 eix37 => ?_)
                    try have tix37 : ix37.toInt = r6.toInt + 30 := t2_add eix37 rfl (by decide) (by omega)
                    refine pb_iload (pc := 185) d_Mod_isRecord_185 1 rfl ?_
                    refine pb_iadd (pc := 187) d_Mod_isRecord_187 ?_
                    refine pb_topi (fun ix38 eix38 => ?_)
                    try have tix38 : ix38.toInt = ix37.toInt + k9.toInt := t2_add eix38 rfl rfl (by omega)
                    refine pb_bald (pc := 188) d_Mod_isRecord_188 1 rfl (vp_in_iff.mpr (by omega)) ?_
                    refine pb_topi (fun ix39 eix39 => ?_)
                    have xix39 : ix39 = gr a_row (aw A (e.toInt + 42) 4 + 30 + k9.toInt) := gr_ld eix39 (by omega)
                    have yix39 : ix39.toInt = gx a_row (aw A (e.toInt + 42) 4 + 30 + k9.toInt) := congrArg Int32.toInt xix39
                    refine pb_aload_n (pc := 189) d_Mod_isRecord_189 4 rfl rfl ?_
                    refine pb_get (pc := 190) d_Mod_isRecord_190 0 25 rfl rfl (by decide) in_Mod k_1171 rfl ?_
                    refine pb_iload_n (pc := 193) d_Mod_isRecord_193 5 rfl rfl ?_
                    refine pb_bipush (pc := 194) (v := 46) d_Mod_isRecord_194 (by decide) ?_
                    refine pb_iadd (pc := 196) d_Mod_isRecord_196 ?_
                    refine pb_topi (fun ix40 eix40 => ?_)
                    try have tix40 : ix40.toInt = e.toInt + 46 := t2_add eix40 rfl (by decide) (by omega)
                    refine pb_iload (pc := 197) d_Mod_isRecord_197 1 rfl ?_
                    refine pb_iadd (pc := 199) d_Mod_isRecord_199 ?_
                    refine pb_topi (fun ix41 eix41 => ?_)
                    try have tix41 : ix41.toInt = ix40.toInt + k9.toInt := t2_add eix41 rfl rfl (by omega)
                    refine pb_bald (pc := 200) d_Mod_isRecord_200 1 rfl (vp_in_iff.mpr (by omega)) ?_
                    refine pb_topi (fun ix42 eix42 => ?_)
                    have xix42 : ix42 = gr a_row (e.toInt + 46 + k9.toInt) := gr_ld eix42 (by omega)
                    have yix42 : ix42.toInt = gx a_row (e.toInt + 46 + k9.toInt) := congrArg Int32.toInt xix42
                    have ya := xix39
                    have yb := xix42
                    refine pb_icmp_ne (pc := 201) (tgt := 208) d_Mod_isRecord_201 (by decide) (fun wx43 => ?_) (fun wx43 => ?_)
                    · have twx43 : ¬ ix39.toInt = ix42.toInt := fun z9 => wx43 ((ti_eq rfl rfl).mpr z9)
                      refine pb_iconst (pc := 208) (v := 0) d_Mod_isRecord_208 (by decide) ?_
                      refine pb_istore (pc := 209) (lo' := [(7, .int 0), (8, .int k9), (6, .int r6), (5, .int n5), (0, .ref h), (1, .int e), (2, .int bg)]) d_Mod_isRecord_209 (by decide) rfl ?_
                      refine pb_iincN (pc := 211) (c := 1) d_Mod_isRecord_211 1 rfl (by decide) (by decide) (fun ix44 eix44 => ?_)
                      have tix44 : ix44.toInt = k9.toInt + 1 := t2_add eix44 rfl (by decide) (by first | omega | (have r90 := ti_rng k9; have r91 := ti_rng ix44; have r92 := ti_rng r6; have r93 := ti_rng n5; have r94 := ti_rng e; have r95 := ti_rng bg; omega))
                      refine pb_eq (pc' := 214) (lo' := [(8, .int ix44), (7, .int 0), (6, .int r6), (5, .int n5), (0, .ref h), (1, .int e), (2, .int bg)]) (rest' := []) (ws' := [(h, .inr (10, [.ref m_rels, .ref m_openRels, .ref m_closeRels, .ref m_openRel, .ref m_closeRel, .ref m_comment, .ref m_ends, .ref m_order, .int v_thrown, .int v_taped, .ref m_tape, .ref m_count, .ref m_nameSize, .ref m_names, .ref m_size, .ref m_data, .int v_lookedSize, .ref m_looked, .int v_fileSize, .ref m_file, .int v_directorySize, .ref m_directory, .int v_outSize, .ref m_out, .int v_rowSize, .ref m_row, .int v_bitAt, .int v_bitEnd, .int v_why, .int v_madeSize, .ref m_made, .ref m_length, .int v_firstCount, .int v_secondCount, .int v_heldBits, .int v_heldCount, .int v_pressedSize, .ref m_pressed, .int v_at, .int v_bad, .int v_markSize, .ref m_mark, .int v_relationCount, .ref m_idSize, .ref m_ids, .ref m_goalSize, .ref m_goals, .int v_valueSize, .ref m_value, .int v_faultCount, .ref m_faults, .ref m_reached])), (m_row, .inl (G.2.1, 20000, .inl a_row))]) ?_
                      refine pb_goto (pc := 214) (tgt := 164) d_Mod_isRecord_214 (by decide) ?_
                      refine pb_re (ws' := [(h, .inr (10, [.ref m_rels, .ref m_openRels, .ref m_closeRels, .ref m_openRel, .ref m_closeRel, .ref m_comment, .ref m_ends, .ref m_order, .int v_thrown, .int v_taped, .ref m_tape, .ref m_count, .ref m_nameSize, .ref m_names, .ref m_size, .ref m_data, .int v_lookedSize, .ref m_looked, .int v_fileSize, .ref m_file, .int v_directorySize, .ref m_directory, .int v_outSize, .ref m_out, .int v_rowSize, .ref m_row, .int v_bitAt, .int v_bitEnd, .int v_why, .int v_madeSize, .ref m_made, .ref m_length, .int v_firstCount, .int v_secondCount, .int v_heldBits, .int v_heldCount, .int v_pressedSize, .ref m_pressed, .int v_at, .int v_bad, .int v_markSize, .ref m_mark, .int v_relationCount, .ref m_idSize, .ref m_ids, .ref m_goalSize, .ref m_goals, .int v_valueSize, .ref m_value, .int v_faultCount, .ref m_faults, .ref m_reached])), (m_row, .inl (G.2.1, 20000, .inl a_row))]) (lo' := [(7, .int 0), (8, .int ix44), (6, .int r6), (5, .int n5), (0, .ref h), (1, .int e), (2, .int bg)]) [0, 1] [1, 0, 2, 3, 4, 5, 6] (by decide) rfl rfl rfl ?_
                      exact ih164 0 ix44 (by first | (with_reducible assumption) | omega (splitDisjunctions := false) | assumption | omega | decide) (by first | (with_reducible assumption) | omega (splitDisjunctions := false) | assumption | omega | decide) (hid_i (by first | exact fun q9 => absurd q9 (by decide) | exact fun _ => ⟨(hid_o m2 (by omega)).1, ll_st (hid_o m2 (by omega)).2 (by omega) (ab_eq hA ya yb (by omega) (by omega) (by omega) (by omega) (by omega))⟩)) (hid_i (by first | exact fun q9 => absurd q9 (by decide) | exact fun _ q9 => ab_ne hA ya yb (by omega) (by omega) (by omega) (by omega) (by omega) (q9.2 k9.toInt (by omega) (by omega)))) (by first | (with_reducible assumption) | omega (splitDisjunctions := false) | assumption | omega | decide) (by omega)
                    · have twx43 : ix39.toInt = ix42.toInt := (ti_eq rfl rfl).mp wx43
                      refine pb_iconst (pc := 204) (v := 1) d_Mod_isRecord_204 (by decide) ?_
                      refine pb_goto (pc := 205) (tgt := 209) d_Mod_isRecord_205 (by decide) ?_
                      refine pb_istore (pc := 209) (lo' := [(7, .int 1), (8, .int k9), (6, .int r6), (5, .int n5), (0, .ref h), (1, .int e), (2, .int bg)]) d_Mod_isRecord_209 (by decide) rfl ?_
                      refine pb_iincN (pc := 211) (c := 1) d_Mod_isRecord_211 1 rfl (by decide) (by decide) (fun ix45 eix45 => ?_)
                      have tix45 : ix45.toInt = k9.toInt + 1 := t2_add eix45 rfl (by decide) (by first | omega | (have r90 := ti_rng k9; have r91 := ti_rng ix45; have r92 := ti_rng r6; have r93 := ti_rng n5; have r94 := ti_rng e; have r95 := ti_rng bg; omega))
                      refine pb_eq (pc' := 214) (lo' := [(8, .int ix45), (7, .int 1), (6, .int r6), (5, .int n5), (0, .ref h), (1, .int e), (2, .int bg)]) (rest' := []) (ws' := [(h, .inr (10, [.ref m_rels, .ref m_openRels, .ref m_closeRels, .ref m_openRel, .ref m_closeRel, .ref m_comment, .ref m_ends, .ref m_order, .int v_thrown, .int v_taped, .ref m_tape, .ref m_count, .ref m_nameSize, .ref m_names, .ref m_size, .ref m_data, .int v_lookedSize, .ref m_looked, .int v_fileSize, .ref m_file, .int v_directorySize, .ref m_directory, .int v_outSize, .ref m_out, .int v_rowSize, .ref m_row, .int v_bitAt, .int v_bitEnd, .int v_why, .int v_madeSize, .ref m_made, .ref m_length, .int v_firstCount, .int v_secondCount, .int v_heldBits, .int v_heldCount, .int v_pressedSize, .ref m_pressed, .int v_at, .int v_bad, .int v_markSize, .ref m_mark, .int v_relationCount, .ref m_idSize, .ref m_ids, .ref m_goalSize, .ref m_goals, .int v_valueSize, .ref m_value, .int v_faultCount, .ref m_faults, .ref m_reached])), (m_row, .inl (G.2.1, 20000, .inl a_row))]) ?_
                      refine pb_goto (pc := 214) (tgt := 164) d_Mod_isRecord_214 (by decide) ?_
                      refine pb_re (ws' := [(h, .inr (10, [.ref m_rels, .ref m_openRels, .ref m_closeRels, .ref m_openRel, .ref m_closeRel, .ref m_comment, .ref m_ends, .ref m_order, .int v_thrown, .int v_taped, .ref m_tape, .ref m_count, .ref m_nameSize, .ref m_names, .ref m_size, .ref m_data, .int v_lookedSize, .ref m_looked, .int v_fileSize, .ref m_file, .int v_directorySize, .ref m_directory, .int v_outSize, .ref m_out, .int v_rowSize, .ref m_row, .int v_bitAt, .int v_bitEnd, .int v_why, .int v_madeSize, .ref m_made, .ref m_length, .int v_firstCount, .int v_secondCount, .int v_heldBits, .int v_heldCount, .int v_pressedSize, .ref m_pressed, .int v_at, .int v_bad, .int v_markSize, .ref m_mark, .int v_relationCount, .ref m_idSize, .ref m_ids, .ref m_goalSize, .ref m_goals, .int v_valueSize, .ref m_value, .int v_faultCount, .ref m_faults, .ref m_reached])), (m_row, .inl (G.2.1, 20000, .inl a_row))]) (lo' := [(7, .int 1), (8, .int ix45), (6, .int r6), (5, .int n5), (0, .ref h), (1, .int e), (2, .int bg)]) [0, 1] [1, 0, 2, 3, 4, 5, 6] (by decide) rfl rfl rfl ?_
                      exact ih164 1 ix45 (by first | (with_reducible assumption) | omega (splitDisjunctions := false) | assumption | omega | decide) (by first | (with_reducible assumption) | omega (splitDisjunctions := false) | assumption | omega | decide) (hid_i (by first | exact fun q9 => absurd q9 (by decide) | exact fun _ => ⟨(hid_o m2 (by omega)).1, ll_st (hid_o m2 (by omega)).2 (by omega) (ab_eq hA ya yb (by omega) (by omega) (by omega) (by omega) (by omega))⟩)) (hid_i (by first | exact fun q9 => absurd q9 (by decide) | exact fun _ q9 => ab_ne hA ya yb (by omega) (by omega) (by omega) (by omega) (by omega) (q9.2 k9.toInt (by omega) (by omega)))) (by first | (with_reducible assumption) | omega (splitDisjunctions := false) | assumption | omega | decide) (by omega)
            refine pb_re (ws' := [(h, .inr (10, [.ref m_rels, .ref m_openRels, .ref m_closeRels, .ref m_openRel, .ref m_closeRel, .ref m_comment, .ref m_ends, .ref m_order, .int v_thrown, .int v_taped, .ref m_tape, .ref m_count, .ref m_nameSize, .ref m_names, .ref m_size, .ref m_data, .int v_lookedSize, .ref m_looked, .int v_fileSize, .ref m_file, .int v_directorySize, .ref m_directory, .int v_outSize, .ref m_out, .int v_rowSize, .ref m_row, .int v_bitAt, .int v_bitEnd, .int v_why, .int v_madeSize, .ref m_made, .ref m_length, .int v_firstCount, .int v_secondCount, .int v_heldBits, .int v_heldCount, .int v_pressedSize, .ref m_pressed, .int v_at, .int v_bad, .int v_markSize, .ref m_mark, .int v_relationCount, .ref m_idSize, .ref m_ids, .ref m_goalSize, .ref m_goals, .int v_valueSize, .ref m_value, .int v_faultCount, .ref m_faults, .ref m_reached])), (m_row, .inl (G.2.1, 20000, .inl a_row))]) (lo' := [(7, .int s7), (8, .int 0), (6, .int r6), (5, .int n5), (0, .ref h), (1, .int e), (2, .int bg)]) [0, 1] [1, 0, 2, 3, 4, 5, 6] (by decide) rfl rfl rfl ?_
            exact hL164_34 _ s7 0 (by first | (with_reducible assumption) | omega (splitDisjunctions := false) | assumption | omega | decide) (by first | (with_reducible assumption) | omega (splitDisjunctions := false) | assumption | omega | decide) (hid_i (fun q9 => ⟨⟨(hid_o k2 q9).1, fun j h0 h1 => (hid_o k2 q9).2 j h0 (by omega)⟩, fun j h0 h1 => absurd h1 (by omega)⟩)) (hid_i (fun q9 q8 => hid_o k3 q9 q8.1)) (by first | (with_reducible assumption) | omega (splitDisjunctions := false) | assumption | omega | decide) (Nat.lt_succ_self _)
          · have twx33 : ¬ 20 ≤ k8.toInt := fun z9 => wx33 ((ti_le (by decide) rfl).mpr z9)
            refine pb_iload (pc := 115) d_Mod_isRecord_115 0 rfl ?_
            refine pb_if_eq (pc := 117) (tgt := 161) d_Mod_isRecord_117 (by decide) (fun wx46 => ?_) (fun wx46 => ?_)
            · have twx46 : s7.toInt = 0 := (ti_eq rfl (by decide)).mp wx46
              refine pb_iconst (pc := 161) (v := 0) d_Mod_isRecord_161 (by decide) ?_
              refine pb_istore (pc := 162) (lo' := [(8, .int 0), (7, .int s7), (6, .int r6), (5, .int n5), (0, .ref h), (1, .int e), (2, .int bg)]) d_Mod_isRecord_162 (by decide) rfl ?_
              have hL164_47 : ∀ (N9 : Nat) (s9 : Int32) (k9 : Int32), (0 ≤ k9.toInt) → (s9.toInt = 0 ∨ s9.toInt = 1) → (hid_ (s9.toInt = 1 → ((aw A (aw A (e.toInt + 42) 4) 4 = 67324752 ∧ aw A (aw A (e.toInt + 42) 4 + 4) 4 = 20 ∧ aw A (aw A (e.toInt + 42) 4 + 28) 2 = 0) ∧ ∀ j : Int, 0 ≤ j → j < 20 → A (aw A (e.toInt + 42) 4 + 8 + j) = A (e.toInt + 10 + j)) ∧ ∀ j : Int, 0 ≤ j → j < k9.toInt → A (aw A (e.toInt + 42) 4 + 30 + j) = A (e.toInt + 46 + j))) → (hid_ (s9.toInt = 0 → ¬ (((aw A (aw A (e.toInt + 42) 4) 4 = 67324752 ∧ aw A (aw A (e.toInt + 42) 4 + 4) 4 = 20 ∧ aw A (aw A (e.toInt + 42) 4 + 28) 2 = 0) ∧ ∀ j : Int, 0 ≤ j → j < 20 → A (aw A (e.toInt + 42) 4 + 8 + j) = A (e.toInt + 10 + j)) ∧ ∀ j : Int, 0 ≤ j → j < aw A (e.toInt + 28) 2 → A (aw A (e.toInt + 42) 4 + 30 + j) = A (e.toInt + 46 + j)))) → (k9.toInt ≤ n5.toInt) → ((n5.toInt - k9.toInt).toNat) < N9 → pb_P l G M i_Mod_isRecord 164 [(7, .int s9), (8, .int k9), (6, .int r6), (5, .int n5), (0, .ref h), (1, .int e), (2, .int bg)] [] [(h, .inr (10, [.ref m_rels, .ref m_openRels, .ref m_closeRels, .ref m_openRel, .ref m_closeRel, .ref m_comment, .ref m_ends, .ref m_order, .int v_thrown, .int v_taped, .ref m_tape, .ref m_count, .ref m_nameSize, .ref m_names, .ref m_size, .ref m_data, .int v_lookedSize, .ref m_looked, .int v_fileSize, .ref m_file, .int v_directorySize, .ref m_directory, .int v_outSize, .ref m_out, .int v_rowSize, .ref m_row, .int v_bitAt, .int v_bitEnd, .int v_why, .int v_madeSize, .ref m_made, .ref m_length, .int v_firstCount, .int v_secondCount, .int v_heldBits, .int v_heldCount, .int v_pressedSize, .ref m_pressed, .int v_at, .int v_bad, .int v_markSize, .ref m_mark, .int v_relationCount, .ref m_idSize, .ref m_ids, .ref m_goalSize, .ref m_goals, .int v_valueSize, .ref m_value, .int v_faultCount, .ref m_faults, .ref m_reached])), (m_row, .inl (G.2.1, 20000, .inl a_row))] 0 0 := by
                intro N9
                induction N9 with
                | zero => intro s9 k9 m0 m1 m2 m3 m4 hm9; exact absurd hm9 (Nat.not_lt_zero _)
                | succ N9 ih164 =>
                  intro s9 k9 m0 m1 m2 m3 m4 hm9
                  refine pb_iload (pc := 164) d_Mod_isRecord_164 1 rfl ?_
                  refine pb_iload (pc := 166) d_Mod_isRecord_166 3 rfl ?_
                  refine pb_icmp_ge (pc := 168) (tgt := 217) d_Mod_isRecord_168 (by decide) (fun wx48 => ?_) (fun wx48 => ?_)
                  · have twx48 : n5.toInt ≤ k9.toInt := (ti_le rfl rfl).mp wx48
                    refine pb_iload (pc := 217) d_Mod_isRecord_217 0 rfl ?_
                    exact pb_iret (pc := 219) hQ d_Mod_isRecord_219 rfl (nar_b (by omega)) (s9) ⟨rfl, (by (try dsimp only); first | done | (with_reducible assumption) | omega (splitDisjunctions := false) | assumption | omega | decide), (by (try dsimp only); first | done | (with_reducible assumption) | exact fun q9 => absurd q9 (by assumption) | exact fun q9 => absurd (by assumption) q9 | exact fun _ => (by omega (splitDisjunctions := false)) | omega (splitDisjunctions := false) | assumption | omega | decide), (show s9.toInt = 1 → rr_ A bg.toInt e.toInt from (fun q9 => rr_Y hB hy5 (by omega) ⟨(hid_o m2 q9).1, fun j h0 h1 => (hid_o m2 q9).2 j h0 (by omega)⟩)), (show s9.toInt = 0 → ¬ rr_ A bg.toInt e.toInt from (fun q9 => rr_X hB hy5 (hid_o m3 q9)))⟩ [0, 1] (by decide) rfl rfl (by decide) (by decide)
                  · have twx48 : ¬ n5.toInt ≤ k9.toInt := fun z9 => wx48 ((ti_le rfl rfl).mpr z9)
                    refine pb_iload (pc := 171) d_Mod_isRecord_171 0 rfl ?_
                    refine pb_if_eq (pc := 173) (tgt := 217) d_Mod_isRecord_173 (by decide) (fun wx49 => ?_) (fun wx49 => ?_)
                    · have twx49 : s9.toInt = 0 := (ti_eq rfl (by decide)).mp wx49
                      refine pb_iload (pc := 217) d_Mod_isRecord_217 0 rfl ?_
                      exact pb_iret (pc := 219) hQ d_Mod_isRecord_219 rfl (nar_b (by omega)) (s9) ⟨rfl, (by (try dsimp only); first | done | (with_reducible assumption) | omega (splitDisjunctions := false) | assumption | omega | decide), (by (try dsimp only); first | done | (with_reducible assumption) | exact fun q9 => absurd q9 (by assumption) | exact fun q9 => absurd (by assumption) q9 | exact fun _ => (by omega (splitDisjunctions := false)) | omega (splitDisjunctions := false) | assumption | omega | decide), (show s9.toInt = 1 → rr_ A bg.toInt e.toInt from (fun q9 => rr_Y hB hy5 (by omega) ⟨(hid_o m2 q9).1, fun j h0 h1 => (hid_o m2 q9).2 j h0 (by omega)⟩)), (show s9.toInt = 0 → ¬ rr_ A bg.toInt e.toInt from (fun q9 => rr_X hB hy5 (hid_o m3 q9)))⟩ [0, 1] (by decide) rfl rfl (by decide) (by decide)
                    · have twx49 : ¬ s9.toInt = 0 := fun z9 => wx49 ((ti_eq rfl (by decide)).mpr z9)
                      refine pb_aload_n (pc := 176) d_Mod_isRecord_176 4 rfl rfl ?_
                      refine pb_get (pc := 177) d_Mod_isRecord_177 0 25 rfl rfl (by decide) in_Mod k_1171 rfl ?_
                      refine pb_iload (pc := 180) d_Mod_isRecord_180 2 rfl ?_
                      refine pb_bipush (pc := 182) (v := 30) d_Mod_isRecord_182 (by decide) ?_
                      refine pb_iadd (pc := 184) d_Mod_isRecord_184 ?_
                      refine pb_topi (fun ix50 eix50 => ?_)
                      try have tix50 : ix50.toInt = r6.toInt + 30 := t2_add eix50 rfl (by decide) (by omega)
                      refine pb_iload (pc := 185) d_Mod_isRecord_185 1 rfl ?_
                      refine pb_iadd (pc := 187) d_Mod_isRecord_187 ?_
                      refine pb_topi (fun ix51 eix51 => ?_)
                      try have tix51 : ix51.toInt = ix50.toInt + k9.toInt := t2_add eix51 rfl rfl (by omega)
                      refine pb_bald (pc := 188) d_Mod_isRecord_188 1 rfl (vp_in_iff.mpr (by omega)) ?_
                      refine pb_topi (fun ix52 eix52 => ?_)
                      have xix52 : ix52 = gr a_row (aw A (e.toInt + 42) 4 + 30 + k9.toInt) := gr_ld eix52 (by omega)
                      have yix52 : ix52.toInt = gx a_row (aw A (e.toInt + 42) 4 + 30 + k9.toInt) := congrArg Int32.toInt xix52
                      refine pb_aload_n (pc := 189) d_Mod_isRecord_189 4 rfl rfl ?_
                      refine pb_get (pc := 190) d_Mod_isRecord_190 0 25 rfl rfl (by decide) in_Mod k_1171 rfl ?_
                      refine pb_iload_n (pc := 193) d_Mod_isRecord_193 5 rfl rfl ?_
                      refine pb_bipush (pc := 194) (v := 46) d_Mod_isRecord_194 (by decide) ?_
                      refine pb_iadd (pc := 196) d_Mod_isRecord_196 ?_
                      refine pb_topi (fun ix53 eix53 => ?_)
                      try have tix53 : ix53.toInt = e.toInt + 46 := t2_add eix53 rfl (by decide) (by omega)
                      refine pb_iload (pc := 197) d_Mod_isRecord_197 1 rfl ?_
                      refine pb_iadd (pc := 199) d_Mod_isRecord_199 ?_
                      refine pb_topi (fun ix54 eix54 => ?_)
                      try have tix54 : ix54.toInt = ix53.toInt + k9.toInt := t2_add eix54 rfl rfl (by omega)
                      refine pb_bald (pc := 200) d_Mod_isRecord_200 1 rfl (vp_in_iff.mpr (by omega)) ?_
                      refine pb_topi (fun ix55 eix55 => ?_)
                      have xix55 : ix55 = gr a_row (e.toInt + 46 + k9.toInt) := gr_ld eix55 (by omega)
                      have yix55 : ix55.toInt = gx a_row (e.toInt + 46 + k9.toInt) := congrArg Int32.toInt xix55
                      have ya := xix52
                      have yb := xix55
                      refine pb_icmp_ne (pc := 201) (tgt := 208) d_Mod_isRecord_201 (by decide) (fun wx56 => ?_) (fun wx56 => ?_)
                      · have twx56 : ¬ ix52.toInt = ix55.toInt := fun z9 => wx56 ((ti_eq rfl rfl).mpr z9)
                        refine pb_iconst (pc := 208) (v := 0) d_Mod_isRecord_208 (by decide) ?_
                        refine pb_istore (pc := 209) (lo' := [(7, .int 0), (8, .int k9), (6, .int r6), (5, .int n5), (0, .ref h), (1, .int e), (2, .int bg)]) d_Mod_isRecord_209 (by decide) rfl ?_
                        refine pb_iincN (pc := 211) (c := 1) d_Mod_isRecord_211 1 rfl (by decide) (by decide) (fun ix57 eix57 => ?_)
                        have tix57 : ix57.toInt = k9.toInt + 1 := t2_add eix57 rfl (by decide) (by first | omega | (have r90 := ti_rng k9; have r91 := ti_rng ix57; have r92 := ti_rng r6; have r93 := ti_rng n5; have r94 := ti_rng e; have r95 := ti_rng bg; omega))
                        refine pb_eq (pc' := 214) (lo' := [(8, .int ix57), (7, .int 0), (6, .int r6), (5, .int n5), (0, .ref h), (1, .int e), (2, .int bg)]) (rest' := []) (ws' := [(h, .inr (10, [.ref m_rels, .ref m_openRels, .ref m_closeRels, .ref m_openRel, .ref m_closeRel, .ref m_comment, .ref m_ends, .ref m_order, .int v_thrown, .int v_taped, .ref m_tape, .ref m_count, .ref m_nameSize, .ref m_names, .ref m_size, .ref m_data, .int v_lookedSize, .ref m_looked, .int v_fileSize, .ref m_file, .int v_directorySize, .ref m_directory, .int v_outSize, .ref m_out, .int v_rowSize, .ref m_row, .int v_bitAt, .int v_bitEnd, .int v_why, .int v_madeSize, .ref m_made, .ref m_length, .int v_firstCount, .int v_secondCount, .int v_heldBits, .int v_heldCount, .int v_pressedSize, .ref m_pressed, .int v_at, .int v_bad, .int v_markSize, .ref m_mark, .int v_relationCount, .ref m_idSize, .ref m_ids, .ref m_goalSize, .ref m_goals, .int v_valueSize, .ref m_value, .int v_faultCount, .ref m_faults, .ref m_reached])), (m_row, .inl (G.2.1, 20000, .inl a_row))]) ?_
                        refine pb_goto (pc := 214) (tgt := 164) d_Mod_isRecord_214 (by decide) ?_
                        refine pb_re (ws' := [(h, .inr (10, [.ref m_rels, .ref m_openRels, .ref m_closeRels, .ref m_openRel, .ref m_closeRel, .ref m_comment, .ref m_ends, .ref m_order, .int v_thrown, .int v_taped, .ref m_tape, .ref m_count, .ref m_nameSize, .ref m_names, .ref m_size, .ref m_data, .int v_lookedSize, .ref m_looked, .int v_fileSize, .ref m_file, .int v_directorySize, .ref m_directory, .int v_outSize, .ref m_out, .int v_rowSize, .ref m_row, .int v_bitAt, .int v_bitEnd, .int v_why, .int v_madeSize, .ref m_made, .ref m_length, .int v_firstCount, .int v_secondCount, .int v_heldBits, .int v_heldCount, .int v_pressedSize, .ref m_pressed, .int v_at, .int v_bad, .int v_markSize, .ref m_mark, .int v_relationCount, .ref m_idSize, .ref m_ids, .ref m_goalSize, .ref m_goals, .int v_valueSize, .ref m_value, .int v_faultCount, .ref m_faults, .ref m_reached])), (m_row, .inl (G.2.1, 20000, .inl a_row))]) (lo' := [(7, .int 0), (8, .int ix57), (6, .int r6), (5, .int n5), (0, .ref h), (1, .int e), (2, .int bg)]) [0, 1] [1, 0, 2, 3, 4, 5, 6] (by decide) rfl rfl rfl ?_
                        exact ih164 0 ix57 (by first | (with_reducible assumption) | omega (splitDisjunctions := false) | assumption | omega | decide) (by first | (with_reducible assumption) | omega (splitDisjunctions := false) | assumption | omega | decide) (hid_i (by first | exact fun q9 => absurd q9 (by decide) | exact fun _ => ⟨(hid_o m2 (by omega)).1, ll_st (hid_o m2 (by omega)).2 (by omega) (ab_eq hA ya yb (by omega) (by omega) (by omega) (by omega) (by omega))⟩)) (hid_i (by first | exact fun q9 => absurd q9 (by decide) | exact fun _ q9 => ab_ne hA ya yb (by omega) (by omega) (by omega) (by omega) (by omega) (q9.2 k9.toInt (by omega) (by omega)))) (by first | (with_reducible assumption) | omega (splitDisjunctions := false) | assumption | omega | decide) (by omega)
                      · have twx56 : ix52.toInt = ix55.toInt := (ti_eq rfl rfl).mp wx56
                        refine pb_iconst (pc := 204) (v := 1) d_Mod_isRecord_204 (by decide) ?_
                        refine pb_goto (pc := 205) (tgt := 209) d_Mod_isRecord_205 (by decide) ?_
                        refine pb_istore (pc := 209) (lo' := [(7, .int 1), (8, .int k9), (6, .int r6), (5, .int n5), (0, .ref h), (1, .int e), (2, .int bg)]) d_Mod_isRecord_209 (by decide) rfl ?_
                        refine pb_iincN (pc := 211) (c := 1) d_Mod_isRecord_211 1 rfl (by decide) (by decide) (fun ix58 eix58 => ?_)
                        have tix58 : ix58.toInt = k9.toInt + 1 := t2_add eix58 rfl (by decide) (by first | omega | (have r90 := ti_rng k9; have r91 := ti_rng ix58; have r92 := ti_rng r6; have r93 := ti_rng n5; have r94 := ti_rng e; have r95 := ti_rng bg; omega))
                        refine pb_eq (pc' := 214) (lo' := [(8, .int ix58), (7, .int 1), (6, .int r6), (5, .int n5), (0, .ref h), (1, .int e), (2, .int bg)]) (rest' := []) (ws' := [(h, .inr (10, [.ref m_rels, .ref m_openRels, .ref m_closeRels, .ref m_openRel, .ref m_closeRel, .ref m_comment, .ref m_ends, .ref m_order, .int v_thrown, .int v_taped, .ref m_tape, .ref m_count, .ref m_nameSize, .ref m_names, .ref m_size, .ref m_data, .int v_lookedSize, .ref m_looked, .int v_fileSize, .ref m_file, .int v_directorySize, .ref m_directory, .int v_outSize, .ref m_out, .int v_rowSize, .ref m_row, .int v_bitAt, .int v_bitEnd, .int v_why, .int v_madeSize, .ref m_made, .ref m_length, .int v_firstCount, .int v_secondCount, .int v_heldBits, .int v_heldCount, .int v_pressedSize, .ref m_pressed, .int v_at, .int v_bad, .int v_markSize, .ref m_mark, .int v_relationCount, .ref m_idSize, .ref m_ids, .ref m_goalSize, .ref m_goals, .int v_valueSize, .ref m_value, .int v_faultCount, .ref m_faults, .ref m_reached])), (m_row, .inl (G.2.1, 20000, .inl a_row))]) ?_
                        refine pb_goto (pc := 214) (tgt := 164) d_Mod_isRecord_214 (by decide) ?_
                        refine pb_re (ws' := [(h, .inr (10, [.ref m_rels, .ref m_openRels, .ref m_closeRels, .ref m_openRel, .ref m_closeRel, .ref m_comment, .ref m_ends, .ref m_order, .int v_thrown, .int v_taped, .ref m_tape, .ref m_count, .ref m_nameSize, .ref m_names, .ref m_size, .ref m_data, .int v_lookedSize, .ref m_looked, .int v_fileSize, .ref m_file, .int v_directorySize, .ref m_directory, .int v_outSize, .ref m_out, .int v_rowSize, .ref m_row, .int v_bitAt, .int v_bitEnd, .int v_why, .int v_madeSize, .ref m_made, .ref m_length, .int v_firstCount, .int v_secondCount, .int v_heldBits, .int v_heldCount, .int v_pressedSize, .ref m_pressed, .int v_at, .int v_bad, .int v_markSize, .ref m_mark, .int v_relationCount, .ref m_idSize, .ref m_ids, .ref m_goalSize, .ref m_goals, .int v_valueSize, .ref m_value, .int v_faultCount, .ref m_faults, .ref m_reached])), (m_row, .inl (G.2.1, 20000, .inl a_row))]) (lo' := [(7, .int 1), (8, .int ix58), (6, .int r6), (5, .int n5), (0, .ref h), (1, .int e), (2, .int bg)]) [0, 1] [1, 0, 2, 3, 4, 5, 6] (by decide) rfl rfl rfl ?_
                        exact ih164 1 ix58 (by first | (with_reducible assumption) | omega (splitDisjunctions := false) | assumption | omega | decide) (by first | (with_reducible assumption) | omega (splitDisjunctions := false) | assumption | omega | decide) (hid_i (by first | exact fun q9 => absurd q9 (by decide) | exact fun _ => ⟨(hid_o m2 (by omega)).1, ll_st (hid_o m2 (by omega)).2 (by omega) (ab_eq hA ya yb (by omega) (by omega) (by omega) (by omega) (by omega))⟩)) (hid_i (by first | exact fun q9 => absurd q9 (by decide) | exact fun _ q9 => ab_ne hA ya yb (by omega) (by omega) (by omega) (by omega) (by omega) (q9.2 k9.toInt (by omega) (by omega)))) (by first | (with_reducible assumption) | omega (splitDisjunctions := false) | assumption | omega | decide) (by omega)
              refine pb_re (ws' := [(h, .inr (10, [.ref m_rels, .ref m_openRels, .ref m_closeRels, .ref m_openRel, .ref m_closeRel, .ref m_comment, .ref m_ends, .ref m_order, .int v_thrown, .int v_taped, .ref m_tape, .ref m_count, .ref m_nameSize, .ref m_names, .ref m_size, .ref m_data, .int v_lookedSize, .ref m_looked, .int v_fileSize, .ref m_file, .int v_directorySize, .ref m_directory, .int v_outSize, .ref m_out, .int v_rowSize, .ref m_row, .int v_bitAt, .int v_bitEnd, .int v_why, .int v_madeSize, .ref m_made, .ref m_length, .int v_firstCount, .int v_secondCount, .int v_heldBits, .int v_heldCount, .int v_pressedSize, .ref m_pressed, .int v_at, .int v_bad, .int v_markSize, .ref m_mark, .int v_relationCount, .ref m_idSize, .ref m_ids, .ref m_goalSize, .ref m_goals, .int v_valueSize, .ref m_value, .int v_faultCount, .ref m_faults, .ref m_reached])), (m_row, .inl (G.2.1, 20000, .inl a_row))]) (lo' := [(7, .int s7), (8, .int 0), (6, .int r6), (5, .int n5), (0, .ref h), (1, .int e), (2, .int bg)]) [0, 1] [1, 0, 2, 3, 4, 5, 6] (by decide) rfl rfl rfl ?_
              exact hL164_47 _ s7 0 (by first | (with_reducible assumption) | omega (splitDisjunctions := false) | assumption | omega | decide) (by first | (with_reducible assumption) | omega (splitDisjunctions := false) | assumption | omega | decide) (hid_i (fun q9 => ⟨⟨(hid_o k2 q9).1, fun j h0 h1 => (hid_o k2 q9).2 j h0 (by omega)⟩, fun j h0 h1 => absurd h1 (by omega)⟩)) (hid_i (fun q9 q8 => hid_o k3 q9 q8.1)) (by first | (with_reducible assumption) | omega (splitDisjunctions := false) | assumption | omega | decide) (Nat.lt_succ_self _)
            · have twx46 : ¬ s7.toInt = 0 := fun z9 => wx46 ((ti_eq rfl (by decide)).mpr z9)
              refine pb_aload_n (pc := 120) d_Mod_isRecord_120 4 rfl rfl ?_
              refine pb_get (pc := 121) d_Mod_isRecord_121 0 25 rfl rfl (by decide) in_Mod k_1171 rfl ?_
              refine pb_iload (pc := 124) d_Mod_isRecord_124 2 rfl ?_
              refine pb_bipush (pc := 126) (v := 8) d_Mod_isRecord_126 (by decide) ?_
              refine pb_iadd (pc := 128) d_Mod_isRecord_128 ?_
              refine pb_topi (fun ix59 eix59 => ?_)
              try have tix59 : ix59.toInt = r6.toInt + 8 := t2_add eix59 rfl (by decide) (by omega)
              refine pb_iload (pc := 129) d_Mod_isRecord_129 1 rfl ?_
              refine pb_iadd (pc := 131) d_Mod_isRecord_131 ?_
              refine pb_topi (fun ix60 eix60 => ?_)
              try have tix60 : ix60.toInt = ix59.toInt + k8.toInt := t2_add eix60 rfl rfl (by omega)
              refine pb_bald (pc := 132) d_Mod_isRecord_132 1 rfl (vp_in_iff.mpr (by omega)) ?_
              refine pb_topi (fun ix61 eix61 => ?_)
              have xix61 : ix61 = gr a_row (aw A (e.toInt + 42) 4 + 8 + k8.toInt) := gr_ld eix61 (by omega)
              have yix61 : ix61.toInt = gx a_row (aw A (e.toInt + 42) 4 + 8 + k8.toInt) := congrArg Int32.toInt xix61
              refine pb_aload_n (pc := 133) d_Mod_isRecord_133 4 rfl rfl ?_
              refine pb_get (pc := 134) d_Mod_isRecord_134 0 25 rfl rfl (by decide) in_Mod k_1171 rfl ?_
              refine pb_iload_n (pc := 137) d_Mod_isRecord_137 5 rfl rfl ?_
              refine pb_bipush (pc := 138) (v := 10) d_Mod_isRecord_138 (by decide) ?_
              refine pb_iadd (pc := 140) d_Mod_isRecord_140 ?_
              refine pb_topi (fun ix62 eix62 => ?_)
              try have tix62 : ix62.toInt = e.toInt + 10 := t2_add eix62 rfl (by decide) (by omega)
              refine pb_iload (pc := 141) d_Mod_isRecord_141 1 rfl ?_
              refine pb_iadd (pc := 143) d_Mod_isRecord_143 ?_
              refine pb_topi (fun ix63 eix63 => ?_)
              try have tix63 : ix63.toInt = ix62.toInt + k8.toInt := t2_add eix63 rfl rfl (by omega)
              refine pb_bald (pc := 144) d_Mod_isRecord_144 1 rfl (vp_in_iff.mpr (by omega)) ?_
              refine pb_topi (fun ix64 eix64 => ?_)
              have xix64 : ix64 = gr a_row (e.toInt + 10 + k8.toInt) := gr_ld eix64 (by omega)
              have yix64 : ix64.toInt = gx a_row (e.toInt + 10 + k8.toInt) := congrArg Int32.toInt xix64
              have xa := xix61
              have xb := xix64
              refine pb_icmp_ne (pc := 145) (tgt := 152) d_Mod_isRecord_145 (by decide) (fun wx65 => ?_) (fun wx65 => ?_)
              · have twx65 : ¬ ix61.toInt = ix64.toInt := fun z9 => wx65 ((ti_eq rfl rfl).mpr z9)
                refine pb_iconst (pc := 152) (v := 0) d_Mod_isRecord_152 (by decide) ?_
                refine pb_istore (pc := 153) (lo' := [(7, .int 0), (8, .int k8), (6, .int r6), (5, .int n5), (0, .ref h), (1, .int e), (2, .int bg)]) d_Mod_isRecord_153 (by decide) rfl ?_
                refine pb_iincN (pc := 155) (c := 1) d_Mod_isRecord_155 1 rfl (by decide) (by decide) (fun ix66 eix66 => ?_)
                have tix66 : ix66.toInt = k8.toInt + 1 := t2_add eix66 rfl (by decide) (by first | omega | (have r90 := ti_rng k8; have r91 := ti_rng ix66; have r92 := ti_rng r6; have r93 := ti_rng n5; have r94 := ti_rng e; have r95 := ti_rng bg; omega))
                refine pb_eq (pc' := 158) (lo' := [(8, .int ix66), (7, .int 0), (6, .int r6), (5, .int n5), (0, .ref h), (1, .int e), (2, .int bg)]) (rest' := []) (ws' := [(h, .inr (10, [.ref m_rels, .ref m_openRels, .ref m_closeRels, .ref m_openRel, .ref m_closeRel, .ref m_comment, .ref m_ends, .ref m_order, .int v_thrown, .int v_taped, .ref m_tape, .ref m_count, .ref m_nameSize, .ref m_names, .ref m_size, .ref m_data, .int v_lookedSize, .ref m_looked, .int v_fileSize, .ref m_file, .int v_directorySize, .ref m_directory, .int v_outSize, .ref m_out, .int v_rowSize, .ref m_row, .int v_bitAt, .int v_bitEnd, .int v_why, .int v_madeSize, .ref m_made, .ref m_length, .int v_firstCount, .int v_secondCount, .int v_heldBits, .int v_heldCount, .int v_pressedSize, .ref m_pressed, .int v_at, .int v_bad, .int v_markSize, .ref m_mark, .int v_relationCount, .ref m_idSize, .ref m_ids, .ref m_goalSize, .ref m_goals, .int v_valueSize, .ref m_value, .int v_faultCount, .ref m_faults, .ref m_reached])), (m_row, .inl (G.2.1, 20000, .inl a_row))]) ?_
                refine pb_goto (pc := 158) (tgt := 108) d_Mod_isRecord_158 (by decide) ?_
                refine pb_re (ws' := [(h, .inr (10, [.ref m_rels, .ref m_openRels, .ref m_closeRels, .ref m_openRel, .ref m_closeRel, .ref m_comment, .ref m_ends, .ref m_order, .int v_thrown, .int v_taped, .ref m_tape, .ref m_count, .ref m_nameSize, .ref m_names, .ref m_size, .ref m_data, .int v_lookedSize, .ref m_looked, .int v_fileSize, .ref m_file, .int v_directorySize, .ref m_directory, .int v_outSize, .ref m_out, .int v_rowSize, .ref m_row, .int v_bitAt, .int v_bitEnd, .int v_why, .int v_madeSize, .ref m_made, .ref m_length, .int v_firstCount, .int v_secondCount, .int v_heldBits, .int v_heldCount, .int v_pressedSize, .ref m_pressed, .int v_at, .int v_bad, .int v_markSize, .ref m_mark, .int v_relationCount, .ref m_idSize, .ref m_ids, .ref m_goalSize, .ref m_goals, .int v_valueSize, .ref m_value, .int v_faultCount, .ref m_faults, .ref m_reached])), (m_row, .inl (G.2.1, 20000, .inl a_row))]) (lo' := [(7, .int 0), (8, .int ix66), (6, .int r6), (5, .int n5), (0, .ref h), (1, .int e), (2, .int bg)]) [0, 1] [1, 0, 2, 3, 4, 5, 6] (by decide) rfl rfl rfl ?_
                exact ih108 0 ix66 (by first | (with_reducible assumption) | omega (splitDisjunctions := false) | assumption | omega | decide) (by first | (with_reducible assumption) | omega (splitDisjunctions := false) | assumption | omega | decide) (hid_i (by first | exact fun q9 => absurd q9 (by decide) | exact fun _ => ⟨(hid_o k2 (by omega)).1, ll_st (hid_o k2 (by omega)).2 (by omega) (ab_eq hA xa xb (by omega) (by omega) (by omega) (by omega) (by omega))⟩)) (hid_i (by first | exact fun q9 => absurd q9 (by decide) | exact fun _ q9 => ab_ne hA xa xb (by omega) (by omega) (by omega) (by omega) (by omega) (q9.2 k8.toInt (by omega) (by omega)))) (by first | (with_reducible assumption) | omega (splitDisjunctions := false) | assumption | omega | decide) (by omega)
              · have twx65 : ix61.toInt = ix64.toInt := (ti_eq rfl rfl).mp wx65
                refine pb_iconst (pc := 148) (v := 1) d_Mod_isRecord_148 (by decide) ?_
                refine pb_goto (pc := 149) (tgt := 153) d_Mod_isRecord_149 (by decide) ?_
                refine pb_istore (pc := 153) (lo' := [(7, .int 1), (8, .int k8), (6, .int r6), (5, .int n5), (0, .ref h), (1, .int e), (2, .int bg)]) d_Mod_isRecord_153 (by decide) rfl ?_
                refine pb_iincN (pc := 155) (c := 1) d_Mod_isRecord_155 1 rfl (by decide) (by decide) (fun ix67 eix67 => ?_)
                have tix67 : ix67.toInt = k8.toInt + 1 := t2_add eix67 rfl (by decide) (by first | omega | (have r90 := ti_rng k8; have r91 := ti_rng ix67; have r92 := ti_rng r6; have r93 := ti_rng n5; have r94 := ti_rng e; have r95 := ti_rng bg; omega))
                refine pb_eq (pc' := 158) (lo' := [(8, .int ix67), (7, .int 1), (6, .int r6), (5, .int n5), (0, .ref h), (1, .int e), (2, .int bg)]) (rest' := []) (ws' := [(h, .inr (10, [.ref m_rels, .ref m_openRels, .ref m_closeRels, .ref m_openRel, .ref m_closeRel, .ref m_comment, .ref m_ends, .ref m_order, .int v_thrown, .int v_taped, .ref m_tape, .ref m_count, .ref m_nameSize, .ref m_names, .ref m_size, .ref m_data, .int v_lookedSize, .ref m_looked, .int v_fileSize, .ref m_file, .int v_directorySize, .ref m_directory, .int v_outSize, .ref m_out, .int v_rowSize, .ref m_row, .int v_bitAt, .int v_bitEnd, .int v_why, .int v_madeSize, .ref m_made, .ref m_length, .int v_firstCount, .int v_secondCount, .int v_heldBits, .int v_heldCount, .int v_pressedSize, .ref m_pressed, .int v_at, .int v_bad, .int v_markSize, .ref m_mark, .int v_relationCount, .ref m_idSize, .ref m_ids, .ref m_goalSize, .ref m_goals, .int v_valueSize, .ref m_value, .int v_faultCount, .ref m_faults, .ref m_reached])), (m_row, .inl (G.2.1, 20000, .inl a_row))]) ?_
                refine pb_goto (pc := 158) (tgt := 108) d_Mod_isRecord_158 (by decide) ?_
                refine pb_re (ws' := [(h, .inr (10, [.ref m_rels, .ref m_openRels, .ref m_closeRels, .ref m_openRel, .ref m_closeRel, .ref m_comment, .ref m_ends, .ref m_order, .int v_thrown, .int v_taped, .ref m_tape, .ref m_count, .ref m_nameSize, .ref m_names, .ref m_size, .ref m_data, .int v_lookedSize, .ref m_looked, .int v_fileSize, .ref m_file, .int v_directorySize, .ref m_directory, .int v_outSize, .ref m_out, .int v_rowSize, .ref m_row, .int v_bitAt, .int v_bitEnd, .int v_why, .int v_madeSize, .ref m_made, .ref m_length, .int v_firstCount, .int v_secondCount, .int v_heldBits, .int v_heldCount, .int v_pressedSize, .ref m_pressed, .int v_at, .int v_bad, .int v_markSize, .ref m_mark, .int v_relationCount, .ref m_idSize, .ref m_ids, .ref m_goalSize, .ref m_goals, .int v_valueSize, .ref m_value, .int v_faultCount, .ref m_faults, .ref m_reached])), (m_row, .inl (G.2.1, 20000, .inl a_row))]) (lo' := [(7, .int 1), (8, .int ix67), (6, .int r6), (5, .int n5), (0, .ref h), (1, .int e), (2, .int bg)]) [0, 1] [1, 0, 2, 3, 4, 5, 6] (by decide) rfl rfl rfl ?_
                exact ih108 1 ix67 (by first | (with_reducible assumption) | omega (splitDisjunctions := false) | assumption | omega | decide) (by first | (with_reducible assumption) | omega (splitDisjunctions := false) | assumption | omega | decide) (hid_i (by first | exact fun q9 => absurd q9 (by decide) | exact fun _ => ⟨(hid_o k2 (by omega)).1, ll_st (hid_o k2 (by omega)).2 (by omega) (ab_eq hA xa xb (by omega) (by omega) (by omega) (by omega) (by omega))⟩)) (hid_i (by first | exact fun q9 => absurd q9 (by decide) | exact fun _ q9 => ab_ne hA xa xb (by omega) (by omega) (by omega) (by omega) (by omega) (q9.2 k8.toInt (by omega) (by omega)))) (by first | (with_reducible assumption) | omega (splitDisjunctions := false) | assumption | omega | decide) (by omega)
      refine pb_re (ws' := [(h, .inr (10, [.ref m_rels, .ref m_openRels, .ref m_closeRels, .ref m_openRel, .ref m_closeRel, .ref m_comment, .ref m_ends, .ref m_order, .int v_thrown, .int v_taped, .ref m_tape, .ref m_count, .ref m_nameSize, .ref m_names, .ref m_size, .ref m_data, .int v_lookedSize, .ref m_looked, .int v_fileSize, .ref m_file, .int v_directorySize, .ref m_directory, .int v_outSize, .ref m_out, .int v_rowSize, .ref m_row, .int v_bitAt, .int v_bitEnd, .int v_why, .int v_madeSize, .ref m_made, .ref m_length, .int v_firstCount, .int v_secondCount, .int v_heldBits, .int v_heldCount, .int v_pressedSize, .ref m_pressed, .int v_at, .int v_bad, .int v_markSize, .ref m_mark, .int v_relationCount, .ref m_idSize, .ref m_ids, .ref m_goalSize, .ref m_goals, .int v_valueSize, .ref m_value, .int v_faultCount, .ref m_faults, .ref m_reached])), (m_row, .inl (G.2.1, 20000, .inl a_row))]) (lo' := [(7, .int sm_), (8, .int 0), (6, .int r6), (5, .int n5), (0, .ref h), (1, .int e), (2, .int bg)]) [0, 1] [1, 0, 2, 3, 4, 5, 6] (by decide) rfl rfl rfl ?_
      exact hL108_32 _ sm_ 0 (by first | (with_reducible assumption) | omega (splitDisjunctions := false) | assumption | omega | decide) (by first | (with_reducible assumption) | omega (splitDisjunctions := false) | assumption | omega | decide) (hid_i (fun q9 => ⟨hid_o j4 q9, fun j h0 h1 => absurd h1 (by omega)⟩)) (hid_i (fun q9 q8 => hid_o j5 q9 q8.1)) (by first | (with_reducible assumption) | omega (splitDisjunctions := false) | assumption | omega | decide) (Nat.lt_succ_self _)
    refine pb_aload_n (pc := 53) d_Mod_isRecord_53 3 rfl rfl ?_
    refine pb_iload (pc := 54) d_Mod_isRecord_54 0 rfl ?_
    refine pb_iconst (pc := 56) (v := 4) d_Mod_isRecord_56 (by decide) ?_
    refine pb_callV (pc := 57) (I := i_Mod_isRecord) (qb := 0) (ci := 10) (nA := 2) (rest := []) (wr := []) d_Mod_isRecord_57 (g_Mod_at hl G h m_rels m_openRels m_closeRels m_openRel m_closeRel m_comment m_ends m_order m_tape m_count m_nameSize m_names m_size m_data m_looked m_file m_directory m_out m_row m_made m_length m_pressed m_mark m_idSize m_ids m_goalSize m_goals m_value m_faults m_reached v_thrown v_taped v_lookedSize v_fileSize v_directorySize v_outSize v_rowSize v_bitAt v_bitEnd v_why v_madeSize v_firstCount v_secondCount v_heldBits v_heldCount v_pressedSize v_at v_bad v_markSize v_relationCount v_valueSize v_faultCount a_row ix30 4 (by first | (with_reducible assumption) | omega (splitDisjunctions := false) | assumption | omega | decide) (by first | (with_reducible assumption) | omega (splitDisjunctions := false) | assumption | omega | decide) (by first | (with_reducible assumption) | omega (splitDisjunctions := false) | assumption | omega | decide) (by first | (with_reducible assumption) | omega (splitDisjunctions := false) | assumption | omega | decide) F_a_row) rfl rfl [0, 1] [] (by decide) rfl rfl rfl (by decide) (by decide) k_1529 rfl k_128 k_1526 k_1528 k_88 ⟨rfl, hy_Mod_at⟩ (by decide) rfl rfl (Nat.le_of_ble_eq_true rfl) (by decide) (fun v9 ux69 ch68 => ?_)
    obtain ⟨r_70, rfl⟩ : ∃ z9, z9 = ux69 := ⟨_, rfl⟩
    obtain ⟨ech68, ch68⟩ := ch68
    have ech68 : v9 = some (.long r_70) := ech68
    subst ech68
    obtain ⟨fh71, fh72, fh73⟩ : (r_70.toInt = av a_row ix30.toInt (4 : Int32).toInt.toNat) ∧ (0 ≤ r_70.toInt) ∧ (r_70.toInt < 4294967296) := ch68
    have w0 : r_70.toInt = aw A (aw A (e.toInt + 42) 4) 4 := by rw [fh71, n4, show ix30.toInt = aw A (e.toInt + 42) 4 by omega]; exact av_A hA 4 (by omega) (by omega)
    refine pb_eq (pc' := 60) (lo' := [(6, .int ix30), (5, .int ix15), (3, .long r_4), (0, .ref h), (1, .int e), (2, .int bg)]) (rest' := [.long r_70]) (ws' := [(h, .inr (10, [.ref m_rels, .ref m_openRels, .ref m_closeRels, .ref m_openRel, .ref m_closeRel, .ref m_comment, .ref m_ends, .ref m_order, .int v_thrown, .int v_taped, .ref m_tape, .ref m_count, .ref m_nameSize, .ref m_names, .ref m_size, .ref m_data, .int v_lookedSize, .ref m_looked, .int v_fileSize, .ref m_file, .int v_directorySize, .ref m_directory, .int v_outSize, .ref m_out, .int v_rowSize, .ref m_row, .int v_bitAt, .int v_bitEnd, .int v_why, .int v_madeSize, .ref m_made, .ref m_length, .int v_firstCount, .int v_secondCount, .int v_heldBits, .int v_heldCount, .int v_pressedSize, .ref m_pressed, .int v_at, .int v_bad, .int v_markSize, .ref m_mark, .int v_relationCount, .ref m_idSize, .ref m_ids, .ref m_goalSize, .ref m_goals, .int v_valueSize, .ref m_value, .int v_faultCount, .ref m_faults, .ref m_reached])), (m_row, .inl (G.2.1, 20000, .inl a_row))]) ?_
    refine pb_ldc2 (pc := 60) (v := 67324752) d_Mod_isRecord_60 k_1496 ?_
    refine pb_lcmp (pc := 63) d_Mod_isRecord_63 ?_
    refine pb_topi (fun ix74 eix74 => ?_)
    have tix74 : (ix74.toInt < 0 ↔ r_70.toInt < 67324752) ∧ (ix74.toInt = 0 ↔ r_70.toInt = 67324752) ∧ (0 < ix74.toInt ↔ 67324752 < r_70.toInt) := tl_cmp eix74 rfl (by decide)
    refine pb_if_ne (pc := 64) (tgt := 102) d_Mod_isRecord_64 (by decide) (fun wx75 => ?_) (fun wx75 => ?_)
    · have twx75 : ¬ ix74.toInt = 0 := fun z9 => wx75 ((ti_eq rfl (by decide)).mpr z9)
      have lwx75 : ¬ r_70.toInt = 67324752 := fun z9 => twx75 (tix74.2.1.mpr z9)
      clear tix74 twx75
      refine pb_iconst (pc := 102) (v := 0) d_Mod_isRecord_102 (by decide) ?_
      refine pb_istore (pc := 103) (lo' := [(7, .int 0), (6, .int ix30), (5, .int ix15), (3, .long r_4), (0, .ref h), (1, .int e), (2, .int bg)]) d_Mod_isRecord_103 (by decide) rfl ?_
      refine pb_re (ws' := [(h, .inr (10, [.ref m_rels, .ref m_openRels, .ref m_closeRels, .ref m_openRel, .ref m_closeRel, .ref m_comment, .ref m_ends, .ref m_order, .int v_thrown, .int v_taped, .ref m_tape, .ref m_count, .ref m_nameSize, .ref m_names, .ref m_size, .ref m_data, .int v_lookedSize, .ref m_looked, .int v_fileSize, .ref m_file, .int v_directorySize, .ref m_directory, .int v_outSize, .ref m_out, .int v_rowSize, .ref m_row, .int v_bitAt, .int v_bitEnd, .int v_why, .int v_madeSize, .ref m_made, .ref m_length, .int v_firstCount, .int v_secondCount, .int v_heldBits, .int v_heldCount, .int v_pressedSize, .ref m_pressed, .int v_at, .int v_bad, .int v_markSize, .ref m_mark, .int v_relationCount, .ref m_idSize, .ref m_ids, .ref m_goalSize, .ref m_goals, .int v_valueSize, .ref m_value, .int v_faultCount, .ref m_faults, .ref m_reached])), (m_row, .inl (G.2.1, 20000, .inl a_row))]) (lo' := [(7, .int 0), (6, .int ix30), (5, .int ix15), (0, .ref h), (1, .int e), (2, .int bg)]) [0, 1] [0, 1, 2, 4, 5, 6] (by decide) rfl rfl rfl ?_
      exact hJ105_31 0 ix30 ix15 (by first | (with_reducible assumption) | omega (splitDisjunctions := false) | assumption | omega | decide) (by first | (with_reducible assumption) | omega (splitDisjunctions := false) | assumption | omega | decide) (by first | (with_reducible assumption) | omega (splitDisjunctions := false) | assumption | omega | decide) (by first | (with_reducible assumption) | omega (splitDisjunctions := false) | assumption | omega | decide) (hid_i (by first | exact fun q9 => absurd q9 (by decide) | exact fun _ => ⟨by omega, by omega, by omega⟩)) (hid_i (by first | exact fun q9 => absurd q9 (by decide) | exact fun _ q9 => (by obtain ⟨y1, y2, y3⟩ := q9; omega))) (by first | (with_reducible assumption) | omega (splitDisjunctions := false) | assumption | omega | decide) (by first | (with_reducible assumption) | omega (splitDisjunctions := false) | assumption | omega | decide) (by first | (with_reducible assumption) | omega (splitDisjunctions := false) | assumption | omega | decide)
    · have twx75 : ix74.toInt = 0 := (ti_eq rfl (by decide)).mp wx75
      have lwx75 : r_70.toInt = 67324752 := tix74.2.1.mp twx75
      clear tix74 twx75
      refine pb_aload_n (pc := 67) d_Mod_isRecord_67 3 rfl rfl ?_
      refine pb_iload (pc := 68) d_Mod_isRecord_68 0 rfl ?_
      refine pb_iconst (pc := 70) (v := 4) d_Mod_isRecord_70 (by decide) ?_
      refine pb_iadd (pc := 71) d_Mod_isRecord_71 ?_
      refine pb_topi (fun ix76 eix76 => ?_)
      try have tix76 : ix76.toInt = ix30.toInt + 4 := t2_add eix76 rfl (by decide) (by omega)
      refine pb_iconst (pc := 72) (v := 4) d_Mod_isRecord_72 (by decide) ?_
      refine pb_callV (pc := 73) (I := i_Mod_isRecord) (qb := 0) (ci := 10) (nA := 2) (rest := []) (wr := []) d_Mod_isRecord_73 (g_Mod_at hl G h m_rels m_openRels m_closeRels m_openRel m_closeRel m_comment m_ends m_order m_tape m_count m_nameSize m_names m_size m_data m_looked m_file m_directory m_out m_row m_made m_length m_pressed m_mark m_idSize m_ids m_goalSize m_goals m_value m_faults m_reached v_thrown v_taped v_lookedSize v_fileSize v_directorySize v_outSize v_rowSize v_bitAt v_bitEnd v_why v_madeSize v_firstCount v_secondCount v_heldBits v_heldCount v_pressedSize v_at v_bad v_markSize v_relationCount v_valueSize v_faultCount a_row ix76 4 (by first | (with_reducible assumption) | omega (splitDisjunctions := false) | assumption | omega | decide) (by first | (with_reducible assumption) | omega (splitDisjunctions := false) | assumption | omega | decide) (by first | (with_reducible assumption) | omega (splitDisjunctions := false) | assumption | omega | decide) (by first | (with_reducible assumption) | omega (splitDisjunctions := false) | assumption | omega | decide) F_a_row) rfl rfl [0, 1] [] (by decide) rfl rfl rfl (by decide) (by decide) k_1529 rfl k_128 k_1526 k_1528 k_88 ⟨rfl, hy_Mod_at⟩ (by decide) rfl rfl (Nat.le_of_ble_eq_true rfl) (by decide) (fun v9 ux78 ch77 => ?_)
      obtain ⟨r_79, rfl⟩ : ∃ z9, z9 = ux78 := ⟨_, rfl⟩
      obtain ⟨ech77, ch77⟩ := ch77
      have ech77 : v9 = some (.long r_79) := ech77
      subst ech77
      obtain ⟨fh80, fh81, fh82⟩ : (r_79.toInt = av a_row ix76.toInt (4 : Int32).toInt.toNat) ∧ (0 ≤ r_79.toInt) ∧ (r_79.toInt < 4294967296) := ch77
      have w4 : r_79.toInt = aw A (aw A (e.toInt + 42) 4 + 4) 4 := by rw [fh80, n4, show ix76.toInt = aw A (e.toInt + 42) 4 + 4 by omega]; exact av_A hA 4 (by omega) (by omega)
      refine pb_eq (pc' := 76) (lo' := [(6, .int ix30), (5, .int ix15), (3, .long r_4), (0, .ref h), (1, .int e), (2, .int bg)]) (rest' := [.long r_79]) (ws' := [(h, .inr (10, [.ref m_rels, .ref m_openRels, .ref m_closeRels, .ref m_openRel, .ref m_closeRel, .ref m_comment, .ref m_ends, .ref m_order, .int v_thrown, .int v_taped, .ref m_tape, .ref m_count, .ref m_nameSize, .ref m_names, .ref m_size, .ref m_data, .int v_lookedSize, .ref m_looked, .int v_fileSize, .ref m_file, .int v_directorySize, .ref m_directory, .int v_outSize, .ref m_out, .int v_rowSize, .ref m_row, .int v_bitAt, .int v_bitEnd, .int v_why, .int v_madeSize, .ref m_made, .ref m_length, .int v_firstCount, .int v_secondCount, .int v_heldBits, .int v_heldCount, .int v_pressedSize, .ref m_pressed, .int v_at, .int v_bad, .int v_markSize, .ref m_mark, .int v_relationCount, .ref m_idSize, .ref m_ids, .ref m_goalSize, .ref m_goals, .int v_valueSize, .ref m_value, .int v_faultCount, .ref m_faults, .ref m_reached])), (m_row, .inl (G.2.1, 20000, .inl a_row))]) ?_
      refine pb_ldc2 (pc := 76) (v := 20) d_Mod_isRecord_76 k_1501 ?_
      refine pb_lcmp (pc := 79) d_Mod_isRecord_79 ?_
      refine pb_topi (fun ix83 eix83 => ?_)
      have tix83 : (ix83.toInt < 0 ↔ r_79.toInt < 20) ∧ (ix83.toInt = 0 ↔ r_79.toInt = 20) ∧ (0 < ix83.toInt ↔ 20 < r_79.toInt) := tl_cmp eix83 rfl (by decide)
      refine pb_if_ne (pc := 80) (tgt := 102) d_Mod_isRecord_80 (by decide) (fun wx84 => ?_) (fun wx84 => ?_)
      · have twx84 : ¬ ix83.toInt = 0 := fun z9 => wx84 ((ti_eq rfl (by decide)).mpr z9)
        have lwx84 : ¬ r_79.toInt = 20 := fun z9 => twx84 (tix83.2.1.mpr z9)
        clear tix83 twx84
        refine pb_iconst (pc := 102) (v := 0) d_Mod_isRecord_102 (by decide) ?_
        refine pb_istore (pc := 103) (lo' := [(7, .int 0), (6, .int ix30), (5, .int ix15), (3, .long r_4), (0, .ref h), (1, .int e), (2, .int bg)]) d_Mod_isRecord_103 (by decide) rfl ?_
        refine pb_re (ws' := [(h, .inr (10, [.ref m_rels, .ref m_openRels, .ref m_closeRels, .ref m_openRel, .ref m_closeRel, .ref m_comment, .ref m_ends, .ref m_order, .int v_thrown, .int v_taped, .ref m_tape, .ref m_count, .ref m_nameSize, .ref m_names, .ref m_size, .ref m_data, .int v_lookedSize, .ref m_looked, .int v_fileSize, .ref m_file, .int v_directorySize, .ref m_directory, .int v_outSize, .ref m_out, .int v_rowSize, .ref m_row, .int v_bitAt, .int v_bitEnd, .int v_why, .int v_madeSize, .ref m_made, .ref m_length, .int v_firstCount, .int v_secondCount, .int v_heldBits, .int v_heldCount, .int v_pressedSize, .ref m_pressed, .int v_at, .int v_bad, .int v_markSize, .ref m_mark, .int v_relationCount, .ref m_idSize, .ref m_ids, .ref m_goalSize, .ref m_goals, .int v_valueSize, .ref m_value, .int v_faultCount, .ref m_faults, .ref m_reached])), (m_row, .inl (G.2.1, 20000, .inl a_row))]) (lo' := [(7, .int 0), (6, .int ix30), (5, .int ix15), (0, .ref h), (1, .int e), (2, .int bg)]) [0, 1] [0, 1, 2, 4, 5, 6] (by decide) rfl rfl rfl ?_
        exact hJ105_31 0 ix30 ix15 (by first | (with_reducible assumption) | omega (splitDisjunctions := false) | assumption | omega | decide) (by first | (with_reducible assumption) | omega (splitDisjunctions := false) | assumption | omega | decide) (by first | (with_reducible assumption) | omega (splitDisjunctions := false) | assumption | omega | decide) (by first | (with_reducible assumption) | omega (splitDisjunctions := false) | assumption | omega | decide) (hid_i (by first | exact fun q9 => absurd q9 (by decide) | exact fun _ => ⟨by omega, by omega, by omega⟩)) (hid_i (by first | exact fun q9 => absurd q9 (by decide) | exact fun _ q9 => (by obtain ⟨y1, y2, y3⟩ := q9; omega))) (by first | (with_reducible assumption) | omega (splitDisjunctions := false) | assumption | omega | decide) (by first | (with_reducible assumption) | omega (splitDisjunctions := false) | assumption | omega | decide) (by first | (with_reducible assumption) | omega (splitDisjunctions := false) | assumption | omega | decide)
      · have twx84 : ix83.toInt = 0 := (ti_eq rfl (by decide)).mp wx84
        have lwx84 : r_79.toInt = 20 := tix83.2.1.mp twx84
        clear tix83 twx84
        refine pb_aload_n (pc := 83) d_Mod_isRecord_83 3 rfl rfl ?_
        refine pb_iload (pc := 84) d_Mod_isRecord_84 0 rfl ?_
        refine pb_bipush (pc := 86) (v := 28) d_Mod_isRecord_86 (by decide) ?_
        refine pb_iadd (pc := 88) d_Mod_isRecord_88 ?_
        refine pb_topi (fun ix85 eix85 => ?_)
        try have tix85 : ix85.toInt = ix30.toInt + 28 := t2_add eix85 rfl (by decide) (by omega)
        refine pb_iconst (pc := 89) (v := 2) d_Mod_isRecord_89 (by decide) ?_
        refine pb_callV (pc := 90) (I := i_Mod_isRecord) (qb := 0) (ci := 10) (nA := 2) (rest := []) (wr := []) d_Mod_isRecord_90 (g_Mod_at hl G h m_rels m_openRels m_closeRels m_openRel m_closeRel m_comment m_ends m_order m_tape m_count m_nameSize m_names m_size m_data m_looked m_file m_directory m_out m_row m_made m_length m_pressed m_mark m_idSize m_ids m_goalSize m_goals m_value m_faults m_reached v_thrown v_taped v_lookedSize v_fileSize v_directorySize v_outSize v_rowSize v_bitAt v_bitEnd v_why v_madeSize v_firstCount v_secondCount v_heldBits v_heldCount v_pressedSize v_at v_bad v_markSize v_relationCount v_valueSize v_faultCount a_row ix85 2 (by first | (with_reducible assumption) | omega (splitDisjunctions := false) | assumption | omega | decide) (by first | (with_reducible assumption) | omega (splitDisjunctions := false) | assumption | omega | decide) (by first | (with_reducible assumption) | omega (splitDisjunctions := false) | assumption | omega | decide) (by first | (with_reducible assumption) | omega (splitDisjunctions := false) | assumption | omega | decide) F_a_row) rfl rfl [0, 1] [] (by decide) rfl rfl rfl (by decide) (by decide) k_1529 rfl k_128 k_1526 k_1528 k_88 ⟨rfl, hy_Mod_at⟩ (by decide) rfl rfl (Nat.le_of_ble_eq_true rfl) (by decide) (fun v9 ux87 ch86 => ?_)
        obtain ⟨r_88, rfl⟩ : ∃ z9, z9 = ux87 := ⟨_, rfl⟩
        obtain ⟨ech86, ch86⟩ := ch86
        have ech86 : v9 = some (.long r_88) := ech86
        subst ech86
        obtain ⟨fh89, fh90, fh91⟩ : (r_88.toInt = av a_row ix85.toInt (2 : Int32).toInt.toNat) ∧ (0 ≤ r_88.toInt) ∧ (r_88.toInt < 4294967296) := ch86
        have w28 : r_88.toInt = aw A (aw A (e.toInt + 42) 4 + 28) 2 := by rw [fh89, n2, show ix85.toInt = aw A (e.toInt + 42) 4 + 28 by omega]; exact av_A hA 2 (by omega) (by omega)
        refine pb_eq (pc' := 93) (lo' := [(6, .int ix30), (5, .int ix15), (3, .long r_4), (0, .ref h), (1, .int e), (2, .int bg)]) (rest' := [.long r_88]) (ws' := [(h, .inr (10, [.ref m_rels, .ref m_openRels, .ref m_closeRels, .ref m_openRel, .ref m_closeRel, .ref m_comment, .ref m_ends, .ref m_order, .int v_thrown, .int v_taped, .ref m_tape, .ref m_count, .ref m_nameSize, .ref m_names, .ref m_size, .ref m_data, .int v_lookedSize, .ref m_looked, .int v_fileSize, .ref m_file, .int v_directorySize, .ref m_directory, .int v_outSize, .ref m_out, .int v_rowSize, .ref m_row, .int v_bitAt, .int v_bitEnd, .int v_why, .int v_madeSize, .ref m_made, .ref m_length, .int v_firstCount, .int v_secondCount, .int v_heldBits, .int v_heldCount, .int v_pressedSize, .ref m_pressed, .int v_at, .int v_bad, .int v_markSize, .ref m_mark, .int v_relationCount, .ref m_idSize, .ref m_ids, .ref m_goalSize, .ref m_goals, .int v_valueSize, .ref m_value, .int v_faultCount, .ref m_faults, .ref m_reached])), (m_row, .inl (G.2.1, 20000, .inl a_row))]) ?_
        refine pb_lconst (pc := 93) (v := 0) d_Mod_isRecord_93 (by decide) ?_
        refine pb_lcmp (pc := 94) d_Mod_isRecord_94 ?_
        refine pb_topi (fun ix92 eix92 => ?_)
        have tix92 : (ix92.toInt < 0 ↔ r_88.toInt < 0) ∧ (ix92.toInt = 0 ↔ r_88.toInt = 0) ∧ (0 < ix92.toInt ↔ 0 < r_88.toInt) := tl_cmp eix92 rfl (by decide)
        refine pb_if_ne (pc := 95) (tgt := 102) d_Mod_isRecord_95 (by decide) (fun wx93 => ?_) (fun wx93 => ?_)
        · have twx93 : ¬ ix92.toInt = 0 := fun z9 => wx93 ((ti_eq rfl (by decide)).mpr z9)
          have lwx93 : ¬ r_88.toInt = 0 := fun z9 => twx93 (tix92.2.1.mpr z9)
          clear tix92 twx93
          refine pb_iconst (pc := 102) (v := 0) d_Mod_isRecord_102 (by decide) ?_
          refine pb_istore (pc := 103) (lo' := [(7, .int 0), (6, .int ix30), (5, .int ix15), (3, .long r_4), (0, .ref h), (1, .int e), (2, .int bg)]) d_Mod_isRecord_103 (by decide) rfl ?_
          refine pb_re (ws' := [(h, .inr (10, [.ref m_rels, .ref m_openRels, .ref m_closeRels, .ref m_openRel, .ref m_closeRel, .ref m_comment, .ref m_ends, .ref m_order, .int v_thrown, .int v_taped, .ref m_tape, .ref m_count, .ref m_nameSize, .ref m_names, .ref m_size, .ref m_data, .int v_lookedSize, .ref m_looked, .int v_fileSize, .ref m_file, .int v_directorySize, .ref m_directory, .int v_outSize, .ref m_out, .int v_rowSize, .ref m_row, .int v_bitAt, .int v_bitEnd, .int v_why, .int v_madeSize, .ref m_made, .ref m_length, .int v_firstCount, .int v_secondCount, .int v_heldBits, .int v_heldCount, .int v_pressedSize, .ref m_pressed, .int v_at, .int v_bad, .int v_markSize, .ref m_mark, .int v_relationCount, .ref m_idSize, .ref m_ids, .ref m_goalSize, .ref m_goals, .int v_valueSize, .ref m_value, .int v_faultCount, .ref m_faults, .ref m_reached])), (m_row, .inl (G.2.1, 20000, .inl a_row))]) (lo' := [(7, .int 0), (6, .int ix30), (5, .int ix15), (0, .ref h), (1, .int e), (2, .int bg)]) [0, 1] [0, 1, 2, 4, 5, 6] (by decide) rfl rfl rfl ?_
          exact hJ105_31 0 ix30 ix15 (by first | (with_reducible assumption) | omega (splitDisjunctions := false) | assumption | omega | decide) (by first | (with_reducible assumption) | omega (splitDisjunctions := false) | assumption | omega | decide) (by first | (with_reducible assumption) | omega (splitDisjunctions := false) | assumption | omega | decide) (by first | (with_reducible assumption) | omega (splitDisjunctions := false) | assumption | omega | decide) (hid_i (by first | exact fun q9 => absurd q9 (by decide) | exact fun _ => ⟨by omega, by omega, by omega⟩)) (hid_i (by first | exact fun q9 => absurd q9 (by decide) | exact fun _ q9 => (by obtain ⟨y1, y2, y3⟩ := q9; omega))) (by first | (with_reducible assumption) | omega (splitDisjunctions := false) | assumption | omega | decide) (by first | (with_reducible assumption) | omega (splitDisjunctions := false) | assumption | omega | decide) (by first | (with_reducible assumption) | omega (splitDisjunctions := false) | assumption | omega | decide)
        · have twx93 : ix92.toInt = 0 := (ti_eq rfl (by decide)).mp wx93
          have lwx93 : r_88.toInt = 0 := tix92.2.1.mp twx93
          clear tix92 twx93
          refine pb_iconst (pc := 98) (v := 1) d_Mod_isRecord_98 (by decide) ?_
          refine pb_goto (pc := 99) (tgt := 103) d_Mod_isRecord_99 (by decide) ?_
          refine pb_istore (pc := 103) (lo' := [(7, .int 1), (6, .int ix30), (5, .int ix15), (3, .long r_4), (0, .ref h), (1, .int e), (2, .int bg)]) d_Mod_isRecord_103 (by decide) rfl ?_
          refine pb_re (ws' := [(h, .inr (10, [.ref m_rels, .ref m_openRels, .ref m_closeRels, .ref m_openRel, .ref m_closeRel, .ref m_comment, .ref m_ends, .ref m_order, .int v_thrown, .int v_taped, .ref m_tape, .ref m_count, .ref m_nameSize, .ref m_names, .ref m_size, .ref m_data, .int v_lookedSize, .ref m_looked, .int v_fileSize, .ref m_file, .int v_directorySize, .ref m_directory, .int v_outSize, .ref m_out, .int v_rowSize, .ref m_row, .int v_bitAt, .int v_bitEnd, .int v_why, .int v_madeSize, .ref m_made, .ref m_length, .int v_firstCount, .int v_secondCount, .int v_heldBits, .int v_heldCount, .int v_pressedSize, .ref m_pressed, .int v_at, .int v_bad, .int v_markSize, .ref m_mark, .int v_relationCount, .ref m_idSize, .ref m_ids, .ref m_goalSize, .ref m_goals, .int v_valueSize, .ref m_value, .int v_faultCount, .ref m_faults, .ref m_reached])), (m_row, .inl (G.2.1, 20000, .inl a_row))]) (lo' := [(7, .int 1), (6, .int ix30), (5, .int ix15), (0, .ref h), (1, .int e), (2, .int bg)]) [0, 1] [0, 1, 2, 4, 5, 6] (by decide) rfl rfl rfl ?_
          exact hJ105_31 1 ix30 ix15 (by first | (with_reducible assumption) | omega (splitDisjunctions := false) | assumption | omega | decide) (by first | (with_reducible assumption) | omega (splitDisjunctions := false) | assumption | omega | decide) (by first | (with_reducible assumption) | omega (splitDisjunctions := false) | assumption | omega | decide) (by first | (with_reducible assumption) | omega (splitDisjunctions := false) | assumption | omega | decide) (hid_i (by first | exact fun q9 => absurd q9 (by decide) | exact fun _ => ⟨by omega, by omega, by omega⟩)) (hid_i (by first | exact fun q9 => absurd q9 (by decide) | exact fun _ q9 => (by obtain ⟨y1, y2, y3⟩ := q9; omega))) (by first | (with_reducible assumption) | omega (splitDisjunctions := false) | assumption | omega | decide) (by first | (with_reducible assumption) | omega (splitDisjunctions := false) | assumption | omega | decide) (by first | (with_reducible assumption) | omega (splitDisjunctions := false) | assumption | omega | decide)
  · have twx29 : ¬ ix28.toInt ≤ 0 := fun z9 => wx29 ((ti_le rfl (by decide)).mpr z9)
    have lwx29 : jx27.toInt < jx26.toInt := tix28.2.2.mp (Int.not_le.mp twx29)
    clear tix28 twx29
    refine pb_iconst (pc := 47) (v := 0) d_Mod_isRecord_47 (by decide) ?_
    exact pb_iret (pc := 48) hQ d_Mod_isRecord_48 rfl rfl (0) ⟨rfl, (by (try dsimp only); first | done | (with_reducible assumption) | omega (splitDisjunctions := false) | assumption | omega | decide), (by (try dsimp only); first | done | (with_reducible assumption) | exact fun q9 => absurd q9 (by assumption) | exact fun q9 => absurd (by assumption) q9 | exact fun _ => (by omega (splitDisjunctions := false)) | omega (splitDisjunctions := false) | assumption | omega | decide), (show (0 : Int32).toInt = 1 → rr_ A bg.toInt e.toInt from (fun q9 => absurd q9 (by omega))), (show (0 : Int32).toInt = 0 → ¬ rr_ A bg.toInt e.toInt from (fun _ => rr_n1 (by omega)))⟩ [0, 1] (by decide) rfl rfl (by decide) (by decide)
