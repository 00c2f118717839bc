theorem d_Law_law_124 : decode code 124 = .ok (.aload_n 1, 1) := by decide +kernel
theorem d_Law_law_125 : decode code 125 = .ok (.aload_n 0, 1) := by decide +kernel
theorem d_Law_law_126 : decode code 126 = .ok (.iload 4, 2) := by decide +kernel
theorem d_Law_law_128 : decode code 128 = .ok (.iconst 1, 1) := by decide +kernel
theorem d_Law_law_129 : decode code 129 = .ok (.iadd, 1) := by decide +kernel
theorem d_Law_law_130 : decode code 130 = .ok (.iaload, 1) := by decide +kernel
theorem d_Law_law_131 : decode code 131 = .ok (.i2l, 1) := by decide +kernel
theorem d_Law_law_132 : decode code 132 = .ok (.bipush 32, 2) := by decide +kernel
theorem d_Law_law_134 : decode code 134 = .ok (.lshl, 1) := by decide +kernel
theorem d_Law_law_135 : decode code 135 = .ok (.aload_n 0, 1) := by decide +kernel
theorem d_Law_law_136 : decode code 136 = .ok (.iload 4, 2) := by decide +kernel
theorem d_Law_law_138 : decode code 138 = .ok (.iconst 2, 1) := by decide +kernel
theorem d_Law_law_139 : decode code 139 = .ok (.iadd, 1) := by decide +kernel
theorem d_Law_law_140 : decode code 140 = .ok (.iaload, 1) := by decide +kernel
theorem d_Law_law_141 : decode code 141 = .ok (.i2l, 1) := by decide +kernel
theorem d_Law_law_142 : decode code 142 = .ok (.ldc2_w 59, 3) := by decide +kernel
theorem k_1676 : (Jvm.Cond.constantLong "PackageBookLaw" (59 : Nat) (4294967295 : Int64)) ∈ uW := uW_of 1676 (by decide +kernel) (by decide +kernel)
theorem d_Law_law_145 : decode code 145 = .ok (.land, 1) := by decide +kernel
theorem d_Law_law_146 : decode code 146 = .ok (.lor, 1) := by decide +kernel
theorem d_Law_law_147 : decode code 147 = .ok (.aload_n 0, 1) := by decide +kernel
theorem d_Law_law_148 : decode code 148 = .ok (.iload 4, 2) := by decide +kernel
theorem d_Law_law_150 : decode code 150 = .ok (.iconst 3, 1) := by decide +kernel
theorem d_Law_law_151 : decode code 151 = .ok (.iadd, 1) := by decide +kernel
theorem d_Law_law_152 : decode code 152 = .ok (.iaload, 1) := by decide +kernel
theorem d_Law_law_153 : decode code 153 = .ok (.aload_n 3, 1) := by decide +kernel
theorem d_Law_law_154 : decode code 154 = .ok (.invokestatic 61, 3) := by decide +kernel
theorem k_931 : (Jvm.Cond.methodLink "PackageBookLaw" (61 : Nat) ({ cls := "PackageBookLaw", name := "type", desc := "(LPackageBook;JI[J)I" } : Jvm.MethodName)) ∈ uW := uW_of 931 (by decide +kernel) (by decide +kernel)
theorem k_933 : (Jvm.Cond.codeWith ({ cls := "PackageBookLaw", name := "type", desc := "(LPackageBook;JI[J)I" } : Jvm.MethodName) method_3_code (6 : Nat) (Option.some Jvm.ClassFile.FieldType.int) [((0 : Nat), (11 : Nat), (14 : Nat), (13 : Nat)), ((0 : Nat), (11 : Nat), (18 : Nat), (15 : Nat))]) ∈ uW := uW_of 933 (by decide +kernel) (by decide +kernel)
theorem k_932 : (Jvm.Cond.static ({ cls := "PackageBookLaw", name := "type", desc := "(LPackageBook;JI[J)I" } : Jvm.MethodName)) ∈ uW := uW_of 932 (by decide +kernel) (by decide +kernel)
theorem d_Law_law_157 : decode code 157 = .ok (.istore 5, 2) := by decide +kernel
theorem d_Law_law_159 : decode code 159 = .ok (.aload_n 2, 1) := by decide +kernel
theorem d_Law_law_160 : decode code 160 = .ok (.aload_n 0, 1) := by decide +kernel
theorem d_Law_law_161 : decode code 161 = .ok (.iload 4, 2) := by decide +kernel
theorem d_Law_law_163 : decode code 163 = .ok (.iconst 1, 1) := by decide +kernel
theorem d_Law_law_164 : decode code 164 = .ok (.iadd, 1) := by decide +kernel
theorem d_Law_law_165 : decode code 165 = .ok (.iaload, 1) := by decide +kernel
theorem d_Law_law_166 : decode code 166 = .ok (.i2l, 1) := by decide +kernel
theorem d_Law_law_167 : decode code 167 = .ok (.bipush 32, 2) := by decide +kernel
theorem d_Law_law_169 : decode code 169 = .ok (.lshl, 1) := by decide +kernel
theorem d_Law_law_170 : decode code 170 = .ok (.aload_n 0, 1) := by decide +kernel
theorem d_Law_law_171 : decode code 171 = .ok (.iload 4, 2) := by decide +kernel
theorem d_Law_law_173 : decode code 173 = .ok (.iconst 2, 1) := by decide +kernel
theorem d_Law_law_174 : decode code 174 = .ok (.iadd, 1) := by decide +kernel
theorem d_Law_law_175 : decode code 175 = .ok (.iaload, 1) := by decide +kernel
theorem d_Law_law_176 : decode code 176 = .ok (.i2l, 1) := by decide +kernel
theorem d_Law_law_177 : decode code 177 = .ok (.ldc2_w 59, 3) := by decide +kernel
theorem d_Law_law_180 : decode code 180 = .ok (.land, 1) := by decide +kernel
theorem d_Law_law_181 : decode code 181 = .ok (.lor, 1) := by decide +kernel
theorem d_Law_law_182 : decode code 182 = .ok (.aload_n 0, 1) := by decide +kernel
theorem d_Law_law_183 : decode code 183 = .ok (.iload 4, 2) := by decide +kernel
theorem d_Law_law_185 : decode code 185 = .ok (.iconst 3, 1) := by decide +kernel
theorem d_Law_law_186 : decode code 186 = .ok (.iadd, 1) := by decide +kernel
theorem d_Law_law_187 : decode code 187 = .ok (.iaload, 1) := by decide +kernel
theorem d_Law_law_188 : decode code 188 = .ok (.invokevirtual 66, 3) := by decide +kernel
theorem k_1308 : (Jvm.Cond.methodLink "PackageBookLaw" (66 : Nat) ({ cls := "PackageBookModel", name := "type", desc := "(JI)I" } : Jvm.MethodName)) ∈ uW := uW_of 1308 (by decide +kernel) (by decide +kernel)
theorem k_1311 : (Jvm.Cond.code ({ cls := "PackageBookModel", name := "type", desc := "(JI)I" } : Jvm.MethodName) prog_12_method_3_code (5 : Nat) (Option.some Jvm.ClassFile.FieldType.int)) ∈ uW := uW_of 1311 (by decide +kernel) (by decide +kernel)
theorem k_1309 : (Jvm.Cond.instanceMethod ({ cls := "PackageBookModel", name := "type", desc := "(JI)I" } : Jvm.MethodName)) ∈ uW := uW_of 1309 (by decide +kernel) (by decide +kernel)
theorem k_1310 : (Jvm.Cond.selects "PackageBookModel" ({ cls := "PackageBookModel", name := "type", desc := "(JI)I" } : Jvm.MethodName) ({ cls := "PackageBookModel", name := "type", desc := "(JI)I" } : Jvm.MethodName)) ∈ uW := uW_of 1310 (by decide +kernel) (by decide +kernel)
theorem d_Law_law_191 : decode code 191 = .ok (.istore 6, 2) := by decide +kernel
theorem d_Law_law_193 : decode code 193 = .ok (.aload_n 2, 1) := by decide +kernel
theorem d_Law_law_194 : decode code 194 = .ok (.invokevirtual 67, 3) := by decide +kernel
theorem d_Law_law_197 : decode code 197 = .ok (.iload 5, 2) := by decide +kernel
theorem d_Law_law_199 : decode code 199 = .ok (.if_icmp .eq 5, 3) := by decide +kernel
theorem d_Law_law_204 : decode code 204 = .ok (.iload 5, 2) := by decide +kernel
theorem d_Law_law_206 : decode code 206 = .ok (.ifCond .ne 15, 3) := by decide +kernel
theorem d_Law_law_221 : decode code 221 = .ok (.goto 745, 3) := by decide +kernel
set_option maxRecDepth 100000 in
set_option maxHeartbeats 4000000 in
theorem law_0I {l : Launch} (hl : l.stackTraces = false) (G : pb_G) {M : pb_M} {b : Nat} {xs : Nat → Int32} (hQ : law_Q M b) (hX : va_X b 4 xs (pm_s M) (pm_s M).heap) (hbl : b < (pm_s M).heap.size) (hbA : ¬ pm_A M b) (x : Nat) (ta : Nat) (tb : Nat) (ca : Nat) (ps : Nat) (ex_ : Nat) (mk : Nat) (rd : Nat) (mu : Nat) (fi : Nat) (go : Nat) (sp : Nat) (ss : Nat) (m : Nat) (m_rels : Nat) (m_openRels : Nat) (m_closeRels : Nat) (m_openRel : Nat) (m_closeRel : Nat) (m_comment : Nat) (m_ends : Nat) (m_order : Nat) (m_tape : Nat) (m_count : Nat) (m_nameSize : Nat) (m_names : Nat) (m_size : Nat) (m_data : Nat) (m_looked : Nat) (m_file : Nat) (m_directory : Nat) (m_out : Nat) (m_row : Nat) (m_made : Nat) (m_length : Nat) (m_pressed : Nat) (m_mark : Nat) (m_idSize : Nat) (m_ids : Nat) (m_goalSize : Nat) (m_goals : Nat) (m_value : Nat) (m_faults : Nat) (m_reached : Nat) (o : Nat) (hv : ¬ (1 ≤ (xs 3).toInt ∧ (xs 3).toInt ≤ 8)) : pb_P l G M i_Law_law 124 [(4, .int 0), (3, .ref o), (2, .ref m), (1, .ref x), (0, .ref b)] [] [(x, .inr (9, [.ref ta, .ref ca, .ref ps, .ref ex_, .ref mk, .ref rd, .ref mu, .ref fi, .ref go, .ref sp, .ref ss])), (ta, .inr (0, [.ref tb, .int 0])), (tb, .inl (G.2.1, 8000, .inl (fun _ => 0))), (m, .inr (10, [.ref m_rels, .ref m_openRels, .ref m_closeRels, .ref m_openRel, .ref m_closeRel, .ref m_comment, .ref m_ends, .ref m_order, .int 0, .int 0, .ref m_tape, .ref m_count, .ref m_nameSize, .ref m_names, .ref m_size, .ref m_data, .int 0, .ref m_looked, .int 0, .ref m_file, .int 0, .ref m_directory, .int 0, .ref m_out, .int 0, .ref m_row, .int 0, .int 0, .int 0, .int 0, .ref m_made, .ref m_length, .int 0, .int 0, .int 0, .int 0, .int 0, .ref m_pressed, .int 0, .int 0, .int 0, .ref m_mark, .int 0, .ref m_idSize, .ref m_ids, .ref m_goalSize, .ref m_goals, .int 0, .ref m_value, .int 0, .ref m_faults, .ref m_reached])), (o, .inl (G.2.2.2.1, 1, .inr (.inl (fun _ => 0))))] 90 333577 := by
  have z0 : (0 : Int32).toInt = 0 := by decide
  have z1 : (1 : Int32).toInt = 1 := by decide
  have z2 : (0 : Int32).toNatClampNeg = 0 := by decide
  refine pb_aload_n (pc := 124) d_Law_law_124 3 rfl rfl ?_
  refine pb_aload_n (pc := 125) d_Law_law_125 4 rfl rfl ?_
  refine pb_iload (pc := 126) d_Law_law_126 0 rfl ?_
  refine pb_iconst (pc := 128) (v := 1) d_Law_law_128 (by decide) ?_
  refine pb_iadd (pc := 129) d_Law_law_129 ?_
  refine pb_asi (y := 1) (by decide) ?_
  refine pb_sld (pc := 130) hX hbl hbA (by unfold vp_in; decide) d_Law_law_130 ?_
  refine pb_asi (y := xs 1) (congrArg xs (by decide)) ?_
  refine pb_i2l (pc := 131) d_Law_law_131 rfl ?_
  refine pb_topl (fun j1 ej1 => ?_)
  refine pb_bipush (pc := 132) (v := 32) d_Law_law_132 (by decide) ?_
  refine pb_lshl (pc := 134) d_Law_law_134 rfl ?_
  refine pb_topl (fun j2 ej2 => ?_)
  refine pb_aload_n (pc := 135) d_Law_law_135 4 rfl rfl ?_
  refine pb_iload (pc := 136) d_Law_law_136 0 rfl ?_
  refine pb_iconst (pc := 138) (v := 2) d_Law_law_138 (by decide) ?_
  refine pb_iadd (pc := 139) d_Law_law_139 ?_
  refine pb_asi (y := 2) (by decide) ?_
  refine pb_sld (pc := 140) hX hbl hbA (by unfold vp_in; decide) d_Law_law_140 ?_
  refine pb_asi (y := xs 2) (congrArg xs (by decide)) ?_
  refine pb_i2l (pc := 141) d_Law_law_141 rfl ?_
  refine pb_topl (fun j3 ej3 => ?_)
  refine pb_ldc2 (pc := 142) (v := 4294967295) d_Law_law_142 k_1676 ?_
  refine pb_land (pc := 145) d_Law_law_145 ?_
  refine pb_topl (fun j4 ej4 => ?_)
  refine pb_lor (pc := 146) d_Law_law_146 ?_
  refine pb_topl (fun j5 ej5 => ?_)
  refine pb_aload_n (pc := 147) d_Law_law_147 4 rfl rfl ?_
  refine pb_iload (pc := 148) d_Law_law_148 0 rfl ?_
  refine pb_iconst (pc := 150) (v := 3) d_Law_law_150 (by decide) ?_
  refine pb_iadd (pc := 151) d_Law_law_151 ?_
  refine pb_asi (y := 3) (by decide) ?_
  refine pb_sld (pc := 152) hX hbl hbA (by unfold vp_in; decide) d_Law_law_152 ?_
  refine pb_asi (y := xs 3) (congrArg xs (by decide)) ?_
  refine pb_aload_n (pc := 153) d_Law_law_153 1 rfl rfl ?_
  refine pb_callSW (pc := 154) (nA := 4) (rest := []) (wr := [(m, .inr (10, [.ref m_rels, .ref m_openRels, .ref m_closeRels, .ref m_openRel, .ref m_closeRel, .ref m_comment, .ref m_ends, .ref m_order, .int 0, .int 0, .ref m_tape, .ref m_count, .ref m_nameSize, .ref m_names, .ref m_size, .ref m_data, .int 0, .ref m_looked, .int 0, .ref m_file, .int 0, .ref m_directory, .int 0, .ref m_out, .int 0, .ref m_row, .int 0, .int 0, .int 0, .int 0, .ref m_made, .ref m_length, .int 0, .int 0, .int 0, .int 0, .int 0, .ref m_pressed, .int 0, .int 0, .int 0, .ref m_mark, .int 0, .ref m_idSize, .ref m_ids, .ref m_goalSize, .ref m_goals, .int 0, .ref m_value, .int 0, .ref m_faults, .ref m_reached]))]) d_Law_law_154 (c_Law_typeI hl G x ta ca ps ex_ mk rd mu fi go sp ss tb (fun _ => 0) j5 (xs 3) o (fun _ => 0) (by assumption)) [0, 1, 2, 4] [3] (by decide) rfl rfl rfl (by decide) (by decide) k_933 rfl k_117 k_931 k_932 (by decide +kernel) (by decide) rfl rfl (Nat.le_of_ble_eq_true rfl) (by decide) (fun v9 u7 h6 => ?_)
  have eh6 := h6
  have eh6 : v9 = some (.int 1) := eh6
  subst eh6
  refine pb_eq (pc' := 157) (lo' := [(4, .int 0), (3, .ref o), (2, .ref m), (1, .ref x), (0, .ref b)]) (rest' := [.int 1]) (ws' := [(m, .inr (10, [.ref m_rels, .ref m_openRels, .ref m_closeRels, .ref m_openRel, .ref m_closeRel, .ref m_comment, .ref m_ends, .ref m_order, .int 0, .int 0, .ref m_tape, .ref m_count, .ref m_nameSize, .ref m_names, .ref m_size, .ref m_data, .int 0, .ref m_looked, .int 0, .ref m_file, .int 0, .ref m_directory, .int 0, .ref m_out, .int 0, .ref m_row, .int 0, .int 0, .int 0, .int 0, .ref m_made, .ref m_length, .int 0, .int 0, .int 0, .int 0, .int 0, .ref m_pressed, .int 0, .int 0, .int 0, .ref m_mark, .int 0, .ref m_idSize, .ref m_ids, .ref m_goalSize, .ref m_goals, .int 0, .ref m_value, .int 0, .ref m_faults, .ref m_reached])), (o, .inl (G.2.2.2.1, 1, .inr (.inl (fun _ => 0))))]) ?_
  refine pb_istore (pc := 157) (lo' := [(5, .int 1), (4, .int 0), (3, .ref o), (2, .ref m), (1, .ref x), (0, .ref b)]) d_Law_law_157 (by decide) rfl ?_
  refine pb_aload_n (pc := 159) d_Law_law_159 3 rfl rfl ?_
  refine pb_aload_n (pc := 160) d_Law_law_160 5 rfl rfl ?_
  refine pb_iload (pc := 161) d_Law_law_161 1 rfl ?_
  refine pb_iconst (pc := 163) (v := 1) d_Law_law_163 (by decide) ?_
  refine pb_iadd (pc := 164) d_Law_law_164 ?_
  refine pb_asi (y := 1) (by decide) ?_
  refine pb_sld (pc := 165) hX hbl hbA (by unfold vp_in; decide) d_Law_law_165 ?_
  refine pb_asi (y := xs 1) (congrArg xs (by decide)) ?_
  refine pb_i2l (pc := 166) d_Law_law_166 rfl ?_
  refine pb_topl (fun j8 ej8 => ?_)
  refine pb_bipush (pc := 167) (v := 32) d_Law_law_167 (by decide) ?_
  refine pb_lshl (pc := 169) d_Law_law_169 rfl ?_
  refine pb_topl (fun j9 ej9 => ?_)
  refine pb_aload_n (pc := 170) d_Law_law_170 5 rfl rfl ?_
  refine pb_iload (pc := 171) d_Law_law_171 1 rfl ?_
  refine pb_iconst (pc := 173) (v := 2) d_Law_law_173 (by decide) ?_
  refine pb_iadd (pc := 174) d_Law_law_174 ?_
  refine pb_asi (y := 2) (by decide) ?_
  refine pb_sld (pc := 175) hX hbl hbA (by unfold vp_in; decide) d_Law_law_175 ?_
  refine pb_asi (y := xs 2) (congrArg xs (by decide)) ?_
  refine pb_i2l (pc := 176) d_Law_law_176 rfl ?_
  refine pb_topl (fun j10 ej10 => ?_)
  refine pb_ldc2 (pc := 177) (v := 4294967295) d_Law_law_177 k_1676 ?_
  refine pb_land (pc := 180) d_Law_law_180 ?_
  refine pb_topl (fun j11 ej11 => ?_)
  refine pb_lor (pc := 181) d_Law_law_181 ?_
  refine pb_topl (fun j12 ej12 => ?_)
  refine pb_aload_n (pc := 182) d_Law_law_182 5 rfl rfl ?_
  refine pb_iload (pc := 183) d_Law_law_183 1 rfl ?_
  refine pb_iconst (pc := 185) (v := 3) d_Law_law_185 (by decide) ?_
  refine pb_iadd (pc := 186) d_Law_law_186 ?_
  refine pb_asi (y := 3) (by decide) ?_
  refine pb_sld (pc := 187) hX hbl hbA (by unfold vp_in; decide) d_Law_law_187 ?_
  refine pb_asi (y := xs 3) (congrArg xs (by decide)) ?_
  refine pb_callV (pc := 188) (qb := 0) (ci := 10) (nA := 2) (rest := []) (wr := [(o, .inl (G.2.2.2.1, 1, .inr (.inl (fun _ => 0))))]) d_Law_law_188 (c_Mod_typeI hl G m m_rels m_openRels m_closeRels m_openRel m_closeRel m_comment m_ends m_order m_tape m_count m_nameSize m_names m_size m_data m_looked m_file m_directory m_out m_row m_made m_length m_pressed m_mark m_idSize m_ids m_goalSize m_goals m_value m_faults m_reached j12 (xs 3) (by assumption)) rfl rfl [0] [1] (by decide) rfl rfl rfl (by decide) (by decide) k_1311 rfl k_128 k_1308 k_1309 k_1310 (by decide +kernel) (by decide) rfl rfl (Nat.le_of_ble_eq_true rfl) (by decide) (fun v9 u14 h13 => ?_)
  have eh13 := h13
  have eh13 : v9 = some (.int 0) := eh13
  subst eh13
  refine pb_eq (pc' := 191) (lo' := [(5, .int 1), (4, .int 0), (3, .ref o), (2, .ref m), (1, .ref x), (0, .ref b)]) (rest' := [.int 0]) (ws' := [(o, .inl (G.2.2.2.1, 1, .inr (.inl (fun _ => 0)))), (m, .inr (10, [.ref m_rels, .ref m_openRels, .ref m_closeRels, .ref m_openRel, .ref m_closeRel, .ref m_comment, .ref m_ends, .ref m_order, .int 1, .int 0, .ref m_tape, .ref m_count, .ref m_nameSize, .ref m_names, .ref m_size, .ref m_data, .int 0, .ref m_looked, .int 0, .ref m_file, .int 0, .ref m_directory, .int 0, .ref m_out, .int 0, .ref m_row, .int 0, .int 0, .int 0, .int 0, .ref m_made, .ref m_length, .int 0, .int 0, .int 0, .int 0, .int 0, .ref m_pressed, .int 0, .int 0, .int 0, .ref m_mark, .int 0, .ref m_idSize, .ref m_ids, .ref m_goalSize, .ref m_goals, .int 0, .ref m_value, .int 0, .ref m_faults, .ref m_reached]))]) ?_
  refine pb_istore (pc := 191) (lo' := [(6, .int 0), (5, .int 1), (4, .int 0), (3, .ref o), (2, .ref m), (1, .ref x), (0, .ref b)]) d_Law_law_191 (by decide) rfl ?_
  refine pb_aload_n (pc := 193) d_Law_law_193 4 rfl rfl ?_
  refine pb_callV (pc := 194) (qb := 1) (ci := 10) (nA := 0) (rest := []) (wr := [(o, .inl (G.2.2.2.1, 1, .inr (.inl (fun _ => 0))))]) d_Law_law_194 (c_Mod_thrown hl G m m_rels m_openRels m_closeRels m_openRel m_closeRel m_comment m_ends m_order m_tape m_count m_nameSize m_names m_size m_data m_looked m_file m_directory m_out m_row m_made m_length m_pressed m_mark m_idSize m_ids m_goalSize m_goals m_value m_faults m_reached 1 0 0 0 0 0 0 0 0 0 0 0 0 0 0 0 0 0 0 0 0 0) rfl rfl [1] [0] (by decide) rfl rfl rfl (by decide) (by decide) k_1307 rfl k_128 k_1304 k_1305 k_1306 (by decide +kernel) (by decide) rfl rfl (Nat.le_of_ble_eq_true rfl) (by decide) (fun v9 u16 h15 => ?_)
  have eh15 := h15
  have eh15 : v9 = some (.int 1) := eh15
  subst eh15
  refine pb_eq (pc' := 197) (lo' := [(6, .int 0), (5, .int 1), (4, .int 0), (3, .ref o), (2, .ref m), (1, .ref x), (0, .ref b)]) (rest' := [.int 1]) (ws' := [(o, .inl (G.2.2.2.1, 1, .inr (.inl (fun _ => 0))))]) ?_
  refine pb_iload (pc := 197) d_Law_law_197 1 rfl ?_
  refine pb_icmp_eq (pc := 199) (tgt := 204) d_Law_law_199 (by decide) (fun _ => ?_) (fun h9 => absurd h9 (by decide))
  refine pb_iload (pc := 204) d_Law_law_204 1 rfl ?_
  refine pb_if_ne (pc := 206) (tgt := 221) d_Law_law_206 (by decide) (fun _ => ?_) (fun h9 => absurd h9 (by decide))
  refine pb_goto (pc := 221) (tgt := 966) d_Law_law_221 (by decide) ?_
  refine pb_re (ws' := []) (lo' := [(4, .int 0), (0, .ref b)]) [] [2, 6] (by decide) rfl rfl rfl ?_
  exact law_tail hQ hX hbl hbA (by decide) (by decide)

theorem d_Law_law_209 : decode code 209 = .ok (.aload_n 3, 1) := by decide +kernel
theorem d_Law_law_210 : decode code 210 = .ok (.iconst 0, 1) := by decide +kernel
theorem d_Law_law_211 : decode code 211 = .ok (.laload, 1) := by decide +kernel
theorem d_Law_law_212 : decode code 212 = .ok (.iload 6, 2) := by decide +kernel
theorem d_Law_law_214 : decode code 214 = .ok (.i2l, 1) := by decide +kernel
theorem d_Law_law_215 : decode code 215 = .ok (.lcmp, 1) := by decide +kernel
theorem d_Law_law_216 : decode code 216 = .ok (.ifCond .eq 5, 3) := by decide +kernel
set_option maxRecDepth 100000 in
set_option maxHeartbeats 4000000 in
theorem law_0V {l : Launch} (hl : l.stackTraces = false) (G : pb_G) {M : pb_M} {b : Nat} {xs : Nat → Int32} (hQ : law_Q M b) (hX : va_X b 4 xs (pm_s M) (pm_s M).heap) (hbl : b < (pm_s M).heap.size) (hbA : ¬ pm_A M b) (x : Nat) (ta : Nat) (tb : Nat) (ca : Nat) (ps : Nat) (ex_ : Nat) (mk : Nat) (rd : Nat) (mu : Nat) (fi : Nat) (go : Nat) (sp : Nat) (ss : Nat) (m : Nat) (m_rels : Nat) (m_openRels : Nat) (m_closeRels : Nat) (m_openRel : Nat) (m_closeRel : Nat) (m_comment : Nat) (m_ends : Nat) (m_order : Nat) (m_tape : Nat) (m_count : Nat) (m_nameSize : Nat) (m_names : Nat) (m_size : Nat) (m_data : Nat) (m_looked : Nat) (m_file : Nat) (m_directory : Nat) (m_out : Nat) (m_row : Nat) (m_made : Nat) (m_length : Nat) (m_pressed : Nat) (m_mark : Nat) (m_idSize : Nat) (m_ids : Nat) (m_goalSize : Nat) (m_goals : Nat) (m_value : Nat) (m_faults : Nat) (m_reached : Nat) (o : Nat) (hv : 1 ≤ (xs 3).toInt ∧ (xs 3).toInt ≤ 8) : pb_P l G M i_Law_law 124 [(4, .int 0), (3, .ref o), (2, .ref m), (1, .ref x), (0, .ref b)] [] [(x, .inr (9, [.ref ta, .ref ca, .ref ps, .ref ex_, .ref mk, .ref rd, .ref mu, .ref fi, .ref go, .ref sp, .ref ss])), (ta, .inr (0, [.ref tb, .int 0])), (tb, .inl (G.2.1, 8000, .inl (fun _ => 0))), (m, .inr (10, [.ref m_rels, .ref m_openRels, .ref m_closeRels, .ref m_openRel, .ref m_closeRel, .ref m_comment, .ref m_ends, .ref m_order, .int 0, .int 0, .ref m_tape, .ref m_count, .ref m_nameSize, .ref m_names, .ref m_size, .ref m_data, .int 0, .ref m_looked, .int 0, .ref m_file, .int 0, .ref m_directory, .int 0, .ref m_out, .int 0, .ref m_row, .int 0, .int 0, .int 0, .int 0, .ref m_made, .ref m_length, .int 0, .int 0, .int 0, .int 0, .int 0, .ref m_pressed, .int 0, .int 0, .int 0, .ref m_mark, .int 0, .ref m_idSize, .ref m_ids, .ref m_goalSize, .ref m_goals, .int 0, .ref m_value, .int 0, .ref m_faults, .ref m_reached])), (m_tape, .inl (G.2.1, 8000, .inl (fun _ => 0))), (o, .inl (G.2.2.2.1, 1, .inr (.inl (fun _ => 0))))] 90 333577 := by
  have z0 : (0 : Int32).toInt = 0 := by decide
  have z1 : (1 : Int32).toInt = 1 := by decide
  have z2 : (0 : Int32).toNatClampNeg = 0 := by decide
  refine pb_aload_n (pc := 124) d_Law_law_124 3 rfl rfl ?_
  refine pb_aload_n (pc := 125) d_Law_law_125 4 rfl rfl ?_
  refine pb_iload (pc := 126) d_Law_law_126 0 rfl ?_
  refine pb_iconst (pc := 128) (v := 1) d_Law_law_128 (by decide) ?_
  refine pb_iadd (pc := 129) d_Law_law_129 ?_
  refine pb_asi (y := 1) (by decide) ?_
  refine pb_sld (pc := 130) hX hbl hbA (by unfold vp_in; decide) d_Law_law_130 ?_
  refine pb_asi (y := xs 1) (congrArg xs (by decide)) ?_
  refine pb_i2l (pc := 131) d_Law_law_131 rfl ?_
  refine pb_topl (fun j1 ej1 => ?_)
  refine pb_bipush (pc := 132) (v := 32) d_Law_law_132 (by decide) ?_
  refine pb_lshl (pc := 134) d_Law_law_134 rfl ?_
  refine pb_topl (fun j2 ej2 => ?_)
  refine pb_aload_n (pc := 135) d_Law_law_135 4 rfl rfl ?_
  refine pb_iload (pc := 136) d_Law_law_136 0 rfl ?_
  refine pb_iconst (pc := 138) (v := 2) d_Law_law_138 (by decide) ?_
  refine pb_iadd (pc := 139) d_Law_law_139 ?_
  refine pb_asi (y := 2) (by decide) ?_
  refine pb_sld (pc := 140) hX hbl hbA (by unfold vp_in; decide) d_Law_law_140 ?_
  refine pb_asi (y := xs 2) (congrArg xs (by decide)) ?_
  refine pb_i2l (pc := 141) d_Law_law_141 rfl ?_
  refine pb_topl (fun j3 ej3 => ?_)
  refine pb_ldc2 (pc := 142) (v := 4294967295) d_Law_law_142 k_1676 ?_
  refine pb_land (pc := 145) d_Law_law_145 ?_
  refine pb_topl (fun j4 ej4 => ?_)
  refine pb_lor (pc := 146) d_Law_law_146 ?_
  refine pb_topl (fun j5 ej5 => ?_)
  refine pb_aload_n (pc := 147) d_Law_law_147 4 rfl rfl ?_
  refine pb_iload (pc := 148) d_Law_law_148 0 rfl ?_
  refine pb_iconst (pc := 150) (v := 3) d_Law_law_150 (by decide) ?_
  refine pb_iadd (pc := 151) d_Law_law_151 ?_
  refine pb_asi (y := 3) (by decide) ?_
  refine pb_sld (pc := 152) hX hbl hbA (by unfold vp_in; decide) d_Law_law_152 ?_
  refine pb_asi (y := xs 3) (congrArg xs (by decide)) ?_
  refine pb_aload_n (pc := 153) d_Law_law_153 1 rfl rfl ?_
  refine pb_callSW (pc := 154) (nA := 4) (rest := []) (wr := [(m, .inr (10, [.ref m_rels, .ref m_openRels, .ref m_closeRels, .ref m_openRel, .ref m_closeRel, .ref m_comment, .ref m_ends, .ref m_order, .int 0, .int 0, .ref m_tape, .ref m_count, .ref m_nameSize, .ref m_names, .ref m_size, .ref m_data, .int 0, .ref m_looked, .int 0, .ref m_file, .int 0, .ref m_directory, .int 0, .ref m_out, .int 0, .ref m_row, .int 0, .int 0, .int 0, .int 0, .ref m_made, .ref m_length, .int 0, .int 0, .int 0, .int 0, .int 0, .ref m_pressed, .int 0, .int 0, .int 0, .ref m_mark, .int 0, .ref m_idSize, .ref m_ids, .ref m_goalSize, .ref m_goals, .int 0, .ref m_value, .int 0, .ref m_faults, .ref m_reached])), (m_tape, .inl (G.2.1, 8000, .inl (fun _ => 0)))]) d_Law_law_154 (c_Law_typeV hl G x ta ca ps ex_ mk rd mu fi go sp ss tb (fun _ => 0) j5 (xs 3) o (fun _ => 0) (by assumption)) [0, 1, 2, 5] [3, 4] (by decide) rfl rfl rfl (by decide) (by decide) k_933 rfl k_117 k_931 k_932 (by decide +kernel) (by decide) rfl rfl (Nat.le_of_ble_eq_true rfl) (by decide) (fun v9 u7 h6 => ?_)
  obtain ⟨f_8, rfl⟩ : ∃ z9, z9 = u7 := ⟨_, rfl⟩
  obtain ⟨eh6, h6⟩ := h6
  have eh6 : v9 = some (.int 0) := eh6
  subst eh6
  have h9 : f_8 0 = (xs 3).toInt64 := h6
  refine pb_eq (pc' := 157) (lo' := [(4, .int 0), (3, .ref o), (2, .ref m), (1, .ref x), (0, .ref b)]) (rest' := [.int 0]) (ws' := [(m, .inr (10, [.ref m_rels, .ref m_openRels, .ref m_closeRels, .ref m_openRel, .ref m_closeRel, .ref m_comment, .ref m_ends, .ref m_order, .int 0, .int 0, .ref m_tape, .ref m_count, .ref m_nameSize, .ref m_names, .ref m_size, .ref m_data, .int 0, .ref m_looked, .int 0, .ref m_file, .int 0, .ref m_directory, .int 0, .ref m_out, .int 0, .ref m_row, .int 0, .int 0, .int 0, .int 0, .ref m_made, .ref m_length, .int 0, .int 0, .int 0, .int 0, .int 0, .ref m_pressed, .int 0, .int 0, .int 0, .ref m_mark, .int 0, .ref m_idSize, .ref m_ids, .ref m_goalSize, .ref m_goals, .int 0, .ref m_value, .int 0, .ref m_faults, .ref m_reached])), (m_tape, .inl (G.2.1, 8000, .inl (fun _ => 0))), (o, .inl (G.2.2.2.1, 1, .inr (.inl f_8)))]) ?_
  refine pb_istore (pc := 157) (lo' := [(5, .int 0), (4, .int 0), (3, .ref o), (2, .ref m), (1, .ref x), (0, .ref b)]) d_Law_law_157 (by decide) rfl ?_
  refine pb_aload_n (pc := 159) d_Law_law_159 3 rfl rfl ?_
  refine pb_aload_n (pc := 160) d_Law_law_160 5 rfl rfl ?_
  refine pb_iload (pc := 161) d_Law_law_161 1 rfl ?_
  refine pb_iconst (pc := 163) (v := 1) d_Law_law_163 (by decide) ?_
  refine pb_iadd (pc := 164) d_Law_law_164 ?_
  refine pb_asi (y := 1) (by decide) ?_
  refine pb_sld (pc := 165) hX hbl hbA (by unfold vp_in; decide) d_Law_law_165 ?_
  refine pb_asi (y := xs 1) (congrArg xs (by decide)) ?_
  refine pb_i2l (pc := 166) d_Law_law_166 rfl ?_
  refine pb_topl (fun j10 ej10 => ?_)
  refine pb_bipush (pc := 167) (v := 32) d_Law_law_167 (by decide) ?_
  refine pb_lshl (pc := 169) d_Law_law_169 rfl ?_
  refine pb_topl (fun j11 ej11 => ?_)
  refine pb_aload_n (pc := 170) d_Law_law_170 5 rfl rfl ?_
  refine pb_iload (pc := 171) d_Law_law_171 1 rfl ?_
  refine pb_iconst (pc := 173) (v := 2) d_Law_law_173 (by decide) ?_
  refine pb_iadd (pc := 174) d_Law_law_174 ?_
  refine pb_asi (y := 2) (by decide) ?_
  refine pb_sld (pc := 175) hX hbl hbA (by unfold vp_in; decide) d_Law_law_175 ?_
  refine pb_asi (y := xs 2) (congrArg xs (by decide)) ?_
  refine pb_i2l (pc := 176) d_Law_law_176 rfl ?_
  refine pb_topl (fun j12 ej12 => ?_)
  refine pb_ldc2 (pc := 177) (v := 4294967295) d_Law_law_177 k_1676 ?_
  refine pb_land (pc := 180) d_Law_law_180 ?_
  refine pb_topl (fun j13 ej13 => ?_)
  refine pb_lor (pc := 181) d_Law_law_181 ?_
  refine pb_topl (fun j14 ej14 => ?_)
  refine pb_aload_n (pc := 182) d_Law_law_182 5 rfl rfl ?_
  refine pb_iload (pc := 183) d_Law_law_183 1 rfl ?_
  refine pb_iconst (pc := 185) (v := 3) d_Law_law_185 (by decide) ?_
  refine pb_iadd (pc := 186) d_Law_law_186 ?_
  refine pb_asi (y := 3) (by decide) ?_
  refine pb_sld (pc := 187) hX hbl hbA (by unfold vp_in; decide) d_Law_law_187 ?_
  refine pb_asi (y := xs 3) (congrArg xs (by decide)) ?_
  refine pb_callV (pc := 188) (qb := 0) (ci := 10) (nA := 2) (rest := []) (wr := [(o, .inl (G.2.2.2.1, 1, .inr (.inl f_8)))]) d_Law_law_188 (c_Mod_typeV hl G m m_rels m_openRels m_closeRels m_openRel m_closeRel m_comment m_ends m_order m_tape m_count m_nameSize m_names m_size m_data m_looked m_file m_directory m_out m_row m_made m_length m_pressed m_mark m_idSize m_ids m_goalSize m_goals m_value m_faults m_reached j14 (xs 3) (fun _ => 0) (by assumption)) rfl rfl [0, 1] [2] (by decide) rfl rfl rfl (by decide) (by decide) k_1311 rfl k_128 k_1308 k_1309 k_1310 (by decide +kernel) (by decide) rfl rfl (Nat.le_of_ble_eq_true rfl) (by decide) (fun v9 u16 h15 => ?_)
  obtain ⟨r_17, tp_18⟩ := u16
  obtain ⟨eh15, h15⟩ := h15
  have eh15 : v9 = some (.int r_17) := eh15
  subst eh15
  have h19 : r_17 = (xs 3) := h15
  refine pb_eq (pc' := 191) (lo' := [(5, .int 0), (4, .int 0), (3, .ref o), (2, .ref m), (1, .ref x), (0, .ref b)]) (rest' := [.int r_17]) (ws' := [(o, .inl (G.2.2.2.1, 1, .inr (.inl f_8))), (m, .inr (10, [.ref m_rels, .ref m_openRels, .ref m_closeRels, .ref m_openRel, .ref m_closeRel, .ref m_comment, .ref m_ends, .ref m_order, .int 0, .int tp_18, .ref m_tape, .ref m_count, .ref m_nameSize, .ref m_names, .ref m_size, .ref m_data, .int 0, .ref m_looked, .int 0, .ref m_file, .int 0, .ref m_directory, .int 0, .ref m_out, .int 0, .ref m_row, .int 0, .int 0, .int 0, .int 0, .ref m_made, .ref m_length, .int 0, .int 0, .int 0, .int 0, .int 0, .ref m_pressed, .int 0, .int 0, .int 0, .ref m_mark, .int 0, .ref m_idSize, .ref m_ids, .ref m_goalSize, .ref m_goals, .int 0, .ref m_value, .int 0, .ref m_faults, .ref m_reached]))]) ?_
  refine pb_istore (pc := 191) (lo' := [(6, .int r_17), (5, .int 0), (4, .int 0), (3, .ref o), (2, .ref m), (1, .ref x), (0, .ref b)]) d_Law_law_191 (by decide) rfl ?_
  refine pb_aload_n (pc := 193) d_Law_law_193 4 rfl rfl ?_
  refine pb_callV (pc := 194) (qb := 1) (ci := 10) (nA := 0) (rest := []) (wr := [(o, .inl (G.2.2.2.1, 1, .inr (.inl f_8)))]) d_Law_law_194 (c_Mod_thrown hl G m m_rels m_openRels m_closeRels m_openRel m_closeRel m_comment m_ends m_order m_tape m_count m_nameSize m_names m_size m_data m_looked m_file m_directory m_out m_row m_made m_length m_pressed m_mark m_idSize m_ids m_goalSize m_goals m_value m_faults m_reached 0 tp_18 0 0 0 0 0 0 0 0 0 0 0 0 0 0 0 0 0 0 0 0) rfl rfl [1] [0] (by decide) rfl rfl rfl (by decide) (by decide) k_1307 rfl k_128 k_1304 k_1305 k_1306 (by decide +kernel) (by decide) rfl rfl (Nat.le_of_ble_eq_true rfl) (by decide) (fun v9 u21 h20 => ?_)
  have eh20 := h20
  have eh20 : v9 = some (.int 0) := eh20
  subst eh20
  refine pb_eq (pc' := 197) (lo' := [(6, .int r_17), (5, .int 0), (4, .int 0), (3, .ref o), (2, .ref m), (1, .ref x), (0, .ref b)]) (rest' := [.int 0]) (ws' := [(o, .inl (G.2.2.2.1, 1, .inr (.inl f_8)))]) ?_
  refine pb_iload (pc := 197) d_Law_law_197 1 rfl ?_
  refine pb_icmp_eq (pc := 199) (tgt := 204) d_Law_law_199 (by decide) (fun _ => ?_) (fun h9 => absurd h9 (by decide))
  refine pb_iload (pc := 204) d_Law_law_204 1 rfl ?_
  refine pb_if_ne (pc := 206) (tgt := 221) d_Law_law_206 (by decide) (fun h9 => absurd h9 (by decide)) (fun _ => ?_)
  refine pb_aload_n (pc := 209) d_Law_law_209 3 rfl rfl ?_
  refine pb_iconst (pc := 210) (v := 0) d_Law_law_210 (by decide) ?_
  refine pb_lald (pc := 211) d_Law_law_211 0 rfl (by unfold vp_in; decide) ?_
  refine pb_topl (fun j24 ej24 => ?_)
  refine pb_iload (pc := 212) d_Law_law_212 0 rfl ?_
  refine pb_i2l (pc := 214) d_Law_law_214 rfl ?_
  refine pb_topl (fun j25 ej25 => ?_)
  refine pb_lcmp (pc := 215) d_Law_law_215 ?_
  refine pb_asi (y := 0) (lg_cmp0.mpr (by rw [ej24, ej25, z2, h9, h19])) ?_
  refine pb_if_eq (pc := 216) (tgt := 221) d_Law_law_216 (by decide) (fun _ => ?_) (fun h9 => absurd h9 (by decide))
  refine pb_goto (pc := 221) (tgt := 966) d_Law_law_221 (by decide) ?_
  refine pb_re (ws' := []) (lo' := [(4, .int 0), (0, .ref b)]) [] [2, 6] (by decide) rfl rfl rfl ?_
  exact law_tail hQ hX hbl hbA (by decide) (by decide)

theorem d_Law_law_224 : decode code 224 = .ok (.aload_n 1, 1) := by decide +kernel
theorem d_Law_law_225 : decode code 225 = .ok (.aload_n 0, 1) := by decide +kernel
theorem d_Law_law_226 : decode code 226 = .ok (.iload 4, 2) := by decide +kernel
theorem d_Law_law_228 : decode code 228 = .ok (.iconst 1, 1) := by decide +kernel
theorem d_Law_law_229 : decode code 229 = .ok (.iadd, 1) := by decide +kernel
theorem d_Law_law_230 : decode code 230 = .ok (.iaload, 1) := by decide +kernel
theorem d_Law_law_231 : decode code 231 = .ok (.aload_n 3, 1) := by decide +kernel
theorem d_Law_law_232 : decode code 232 = .ok (.invokestatic 70, 3) := by decide +kernel
theorem k_1024 : (Jvm.Cond.methodLink "PackageBookLaw" (70 : Nat) ({ cls := "PackageBookLaw", name := "again", desc := "(LPackageBook;I[J)I" } : Jvm.MethodName)) ∈ uW := uW_of 1024 (by decide +kernel) (by decide +kernel)
theorem k_1026 : (Jvm.Cond.codeWith ({ cls := "PackageBookLaw", name := "again", desc := "(LPackageBook;I[J)I" } : Jvm.MethodName) method_4_code (4 : Nat) (Option.some Jvm.ClassFile.FieldType.int) [((0 : Nat), (9 : Nat), (12 : Nat), (13 : Nat)), ((0 : Nat), (9 : Nat), (15 : Nat), (15 : Nat))]) ∈ uW := uW_of 1026 (by decide +kernel) (by decide +kernel)
theorem k_1025 : (Jvm.Cond.static ({ cls := "PackageBookLaw", name := "again", desc := "(LPackageBook;I[J)I" } : Jvm.MethodName)) ∈ uW := uW_of 1025 (by decide +kernel) (by decide +kernel)
theorem d_Law_law_235 : decode code 235 = .ok (.istore 5, 2) := by decide +kernel
theorem d_Law_law_237 : decode code 237 = .ok (.aload_n 2, 1) := by decide +kernel
theorem d_Law_law_238 : decode code 238 = .ok (.aload_n 0, 1) := by decide +kernel
theorem d_Law_law_239 : decode code 239 = .ok (.iload 4, 2) := by decide +kernel
theorem d_Law_law_241 : decode code 241 = .ok (.iconst 1, 1) := by decide +kernel
theorem d_Law_law_242 : decode code 242 = .ok (.iadd, 1) := by decide +kernel
theorem d_Law_law_243 : decode code 243 = .ok (.iaload, 1) := by decide +kernel
theorem d_Law_law_244 : decode code 244 = .ok (.invokevirtual 73, 3) := by decide +kernel
theorem k_1312 : (Jvm.Cond.methodLink "PackageBookLaw" (73 : Nat) ({ cls := "PackageBookModel", name := "again", desc := "(I)I" } : Jvm.MethodName)) ∈ uW := uW_of 1312 (by decide +kernel) (by decide +kernel)
theorem k_1315 : (Jvm.Cond.code ({ cls := "PackageBookModel", name := "again", desc := "(I)I" } : Jvm.MethodName) prog_12_method_4_code (3 : Nat) (Option.some Jvm.ClassFile.FieldType.int)) ∈ uW := uW_of 1315 (by decide +kernel) (by decide +kernel)
theorem k_1313 : (Jvm.Cond.instanceMethod ({ cls := "PackageBookModel", name := "again", desc := "(I)I" } : Jvm.MethodName)) ∈ uW := uW_of 1313 (by decide +kernel) (by decide +kernel)
theorem k_1314 : (Jvm.Cond.selects "PackageBookModel" ({ cls := "PackageBookModel", name := "again", desc := "(I)I" } : Jvm.MethodName) ({ cls := "PackageBookModel", name := "again", desc := "(I)I" } : Jvm.MethodName)) ∈ uW := uW_of 1314 (by decide +kernel) (by decide +kernel)
theorem d_Law_law_247 : decode code 247 = .ok (.istore 6, 2) := by decide +kernel
theorem d_Law_law_249 : decode code 249 = .ok (.aload_n 2, 1) := by decide +kernel
theorem d_Law_law_250 : decode code 250 = .ok (.invokevirtual 67, 3) := by decide +kernel
theorem d_Law_law_253 : decode code 253 = .ok (.iload 5, 2) := by decide +kernel
theorem d_Law_law_255 : decode code 255 = .ok (.if_icmp .eq 5, 3) := by decide +kernel
theorem d_Law_law_260 : decode code 260 = .ok (.iload 5, 2) := by decide +kernel
theorem d_Law_law_262 : decode code 262 = .ok (.ifCond .ne 15, 3) := by decide +kernel
theorem d_Law_law_277 : decode code 277 = .ok (.goto 689, 3) := by decide +kernel
set_option maxRecDepth 100000 in
set_option maxHeartbeats 4000000 in
theorem law_1I {l : Launch} (hl : l.stackTraces = false) (G : pb_G) {M : pb_M} {b : Nat} {xs : Nat → Int32} (hQ : law_Q M b) (hX : va_X b 4 xs (pm_s M) (pm_s M).heap) (hbl : b < (pm_s M).heap.size) (hbA : ¬ pm_A M b) (x : Nat) (ta : Nat) (tb : Nat) (ca : Nat) (ps : Nat) (ex_ : Nat) (mk : Nat) (rd : Nat) (mu : Nat) (fi : Nat) (go : Nat) (sp : Nat) (ss : Nat) (m : Nat) (m_rels : Nat) (m_openRels : Nat) (m_closeRels : Nat) (m_openRel : Nat) (m_closeRel : Nat) (m_comment : Nat) (m_ends : Nat) (m_order : Nat) (m_tape : Nat) (m_count : Nat) (m_nameSize : Nat) (m_names : Nat) (m_size : Nat) (m_data : Nat) (m_looked : Nat) (m_file : Nat) (m_directory : Nat) (m_out : Nat) (m_row : Nat) (m_made : Nat) (m_length : Nat) (m_pressed : Nat) (m_mark : Nat) (m_idSize : Nat) (m_ids : Nat) (m_goalSize : Nat) (m_goals : Nat) (m_value : Nat) (m_faults : Nat) (m_reached : Nat) (o : Nat) (hv : ¬ ((xs 1).toInt = 0)) : pb_P l G M i_Law_law 224 [(4, .int 0), (3, .ref o), (2, .ref m), (1, .ref x), (0, .ref b)] [] [(x, .inr (9, [.ref ta, .ref ca, .ref ps, .ref ex_, .ref mk, .ref rd, .ref mu, .ref fi, .ref go, .ref sp, .ref ss])), (ta, .inr (0, [.ref tb, .int 0])), (tb, .inl (G.2.1, 8000, .inl (fun _ => 0))), (m, .inr (10, [.ref m_rels, .ref m_openRels, .ref m_closeRels, .ref m_openRel, .ref m_closeRel, .ref m_comment, .ref m_ends, .ref m_order, .int 0, .int 0, .ref m_tape, .ref m_count, .ref m_nameSize, .ref m_names, .ref m_size, .ref m_data, .int 0, .ref m_looked, .int 0, .ref m_file, .int 0, .ref m_directory, .int 0, .ref m_out, .int 0, .ref m_row, .int 0, .int 0, .int 0, .int 0, .ref m_made, .ref m_length, .int 0, .int 0, .int 0, .int 0, .int 0, .ref m_pressed, .int 0, .int 0, .int 0, .ref m_mark, .int 0, .ref m_idSize, .ref m_ids, .ref m_goalSize, .ref m_goals, .int 0, .ref m_value, .int 0, .ref m_faults, .ref m_reached])), (o, .inl (G.2.2.2.1, 1, .inr (.inl (fun _ => 0))))] 90 333577 := by
  have z0 : (0 : Int32).toInt = 0 := by decide
  have z1 : (1 : Int32).toInt = 1 := by decide
  have z2 : (0 : Int32).toNatClampNeg = 0 := by decide
  refine pb_aload_n (pc := 224) d_Law_law_224 3 rfl rfl ?_
  refine pb_aload_n (pc := 225) d_Law_law_225 4 rfl rfl ?_
  refine pb_iload (pc := 226) d_Law_law_226 0 rfl ?_
  refine pb_iconst (pc := 228) (v := 1) d_Law_law_228 (by decide) ?_
  refine pb_iadd (pc := 229) d_Law_law_229 ?_
  refine pb_asi (y := 1) (by decide) ?_
  refine pb_sld (pc := 230) hX hbl hbA (by unfold vp_in; decide) d_Law_law_230 ?_
  refine pb_asi (y := xs 1) (congrArg xs (by decide)) ?_
  refine pb_aload_n (pc := 231) d_Law_law_231 1 rfl rfl ?_
  refine pb_callSW (pc := 232) (nA := 3) (rest := []) (wr := [(m, .inr (10, [.ref m_rels, .ref m_openRels, .ref m_closeRels, .ref m_openRel, .ref m_closeRel, .ref m_comment, .ref m_ends, .ref m_order, .int 0, .int 0, .ref m_tape, .ref m_count, .ref m_nameSize, .ref m_names, .ref m_size, .ref m_data, .int 0, .ref m_looked, .int 0, .ref m_file, .int 0, .ref m_directory, .int 0, .ref m_out, .int 0, .ref m_row, .int 0, .int 0, .int 0, .int 0, .ref m_made, .ref m_length, .int 0, .int 0, .int 0, .int 0, .int 0, .ref m_pressed, .int 0, .int 0, .int 0, .ref m_mark, .int 0, .ref m_idSize, .ref m_ids, .ref m_goalSize, .ref m_goals, .int 0, .ref m_value, .int 0, .ref m_faults, .ref m_reached]))]) d_Law_law_232 (c_Law_againI hl G x ta ca ps ex_ mk rd mu fi go sp ss tb (fun _ => 0) (xs 1) o (fun _ => 0) (by assumption)) [0, 1, 2, 4] [3] (by decide) rfl rfl rfl (by decide) (by decide) k_1026 rfl k_117 k_1024 k_1025 (by decide +kernel) (by decide) rfl rfl (Nat.le_of_ble_eq_true rfl) (by decide) (fun v9 u2 h1 => ?_)
  have eh1 := h1
  have eh1 : v9 = some (.int 1) := eh1
  subst eh1
  refine pb_eq (pc' := 235) (lo' := [(4, .int 0), (3, .ref o), (2, .ref m), (1, .ref x), (0, .ref b)]) (rest' := [.int 1]) (ws' := [(m, .inr (10, [.ref m_rels, .ref m_openRels, .ref m_closeRels, .ref m_openRel, .ref m_closeRel, .ref m_comment, .ref m_ends, .ref m_order, .int 0, .int 0, .ref m_tape, .ref m_count, .ref m_nameSize, .ref m_names, .ref m_size, .ref m_data, .int 0, .ref m_looked, .int 0, .ref m_file, .int 0, .ref m_directory, .int 0, .ref m_out, .int 0, .ref m_row, .int 0, .int 0, .int 0, .int 0, .ref m_made, .ref m_length, .int 0, .int 0, .int 0, .int 0, .int 0, .ref m_pressed, .int 0, .int 0, .int 0, .ref m_mark, .int 0, .ref m_idSize, .ref m_ids, .ref m_goalSize, .ref m_goals, .int 0, .ref m_value, .int 0, .ref m_faults, .ref m_reached])), (o, .inl (G.2.2.2.1, 1, .inr (.inl (fun _ => 0))))]) ?_
  refine pb_istore (pc := 235) (lo' := [(5, .int 1), (4, .int 0), (3, .ref o), (2, .ref m), (1, .ref x), (0, .ref b)]) d_Law_law_235 (by decide) rfl ?_
  refine pb_aload_n (pc := 237) d_Law_law_237 3 rfl rfl ?_
  refine pb_aload_n (pc := 238) d_Law_law_238 5 rfl rfl ?_
  refine pb_iload (pc := 239) d_Law_law_239 1 rfl ?_
  refine pb_iconst (pc := 241) (v := 1) d_Law_law_241 (by decide) ?_
  refine pb_iadd (pc := 242) d_Law_law_242 ?_
  refine pb_asi (y := 1) (by decide) ?_
  refine pb_sld (pc := 243) hX hbl hbA (by unfold vp_in; decide) d_Law_law_243 ?_
  refine pb_asi (y := xs 1) (congrArg xs (by decide)) ?_
  refine pb_callV (pc := 244) (qb := 0) (ci := 10) (nA := 1) (rest := []) (wr := [(o, .inl (G.2.2.2.1, 1, .inr (.inl (fun _ => 0))))]) d_Law_law_244 (c_Mod_againI hl G m m_rels m_openRels m_closeRels m_openRel m_closeRel m_comment m_ends m_order m_tape m_count m_nameSize m_names m_size m_data m_looked m_file m_directory m_out m_row m_made m_length m_pressed m_mark m_idSize m_ids m_goalSize m_goals m_value m_faults m_reached (xs 1) (by assumption)) rfl rfl [0] [1] (by decide) rfl rfl rfl (by decide) (by decide) k_1315 rfl k_128 k_1312 k_1313 k_1314 (by decide +kernel) (by decide) rfl rfl (Nat.le_of_ble_eq_true rfl) (by decide) (fun v9 u4 h3 => ?_)
  have eh3 := h3
  have eh3 : v9 = some (.int 0) := eh3
  subst eh3
  refine pb_eq (pc' := 247) (lo' := [(5, .int 1), (4, .int 0), (3, .ref o), (2, .ref m), (1, .ref x), (0, .ref b)]) (rest' := [.int 0]) (ws' := [(o, .inl (G.2.2.2.1, 1, .inr (.inl (fun _ => 0)))), (m, .inr (10, [.ref m_rels, .ref m_openRels, .ref m_closeRels, .ref m_openRel, .ref m_closeRel, .ref m_comment, .ref m_ends, .ref m_order, .int 1, .int 0, .ref m_tape, .ref m_count, .ref m_nameSize, .ref m_names, .ref m_size, .ref m_data, .int 0, .ref m_looked, .int 0, .ref m_file, .int 0, .ref m_directory, .int 0, .ref m_out, .int 0, .ref m_row, .int 0, .int 0, .int 0, .int 0, .ref m_made, .ref m_length, .int 0, .int 0, .int 0, .int 0, .int 0, .ref m_pressed, .int 0, .int 0, .int 0, .ref m_mark, .int 0, .ref m_idSize, .ref m_ids, .ref m_goalSize, .ref m_goals, .int 0, .ref m_value, .int 0, .ref m_faults, .ref m_reached]))]) ?_
  refine pb_istore (pc := 247) (lo' := [(6, .int 0), (5, .int 1), (4, .int 0), (3, .ref o), (2, .ref m), (1, .ref x), (0, .ref b)]) d_Law_law_247 (by decide) rfl ?_
  refine pb_aload_n (pc := 249) d_Law_law_249 4 rfl rfl ?_
  refine pb_callV (pc := 250) (qb := 1) (ci := 10) (nA := 0) (rest := []) (wr := [(o, .inl (G.2.2.2.1, 1, .inr (.inl (fun _ => 0))))]) d_Law_law_250 (c_Mod_thrown hl G m m_rels m_openRels m_closeRels m_openRel m_closeRel m_comment m_ends m_order m_tape m_count m_nameSize m_names m_size m_data m_looked m_file m_directory m_out m_row m_made m_length m_pressed m_mark m_idSize m_ids m_goalSize m_goals m_value m_faults m_reached 1 0 0 0 0 0 0 0 0 0 0 0 0 0 0 0 0 0 0 0 0 0) rfl rfl [1] [0] (by decide) rfl rfl rfl (by decide) (by decide) k_1307 rfl k_128 k_1304 k_1305 k_1306 (by decide +kernel) (by decide) rfl rfl (Nat.le_of_ble_eq_true rfl) (by decide) (fun v9 u6 h5 => ?_)
  have eh5 := h5
  have eh5 : v9 = some (.int 1) := eh5
  subst eh5
  refine pb_eq (pc' := 253) (lo' := [(6, .int 0), (5, .int 1), (4, .int 0), (3, .ref o), (2, .ref m), (1, .ref x), (0, .ref b)]) (rest' := [.int 1]) (ws' := [(o, .inl (G.2.2.2.1, 1, .inr (.inl (fun _ => 0))))]) ?_
  refine pb_iload (pc := 253) d_Law_law_253 1 rfl ?_
  refine pb_icmp_eq (pc := 255) (tgt := 260) d_Law_law_255 (by decide) (fun _ => ?_) (fun h9 => absurd h9 (by decide))
  refine pb_iload (pc := 260) d_Law_law_260 1 rfl ?_
  refine pb_if_ne (pc := 262) (tgt := 277) d_Law_law_262 (by decide) (fun _ => ?_) (fun h9 => absurd h9 (by decide))
  refine pb_goto (pc := 277) (tgt := 966) d_Law_law_277 (by decide) ?_
  refine pb_re (ws' := []) (lo' := [(4, .int 0), (0, .ref b)]) [] [2, 6] (by decide) rfl rfl rfl ?_
  exact law_tail hQ hX hbl hbA (by decide) (by decide)

theorem d_Law_law_265 : decode code 265 = .ok (.aload_n 3, 1) := by decide +kernel
theorem d_Law_law_266 : decode code 266 = .ok (.iconst 0, 1) := by decide +kernel
theorem d_Law_law_267 : decode code 267 = .ok (.laload, 1) := by decide +kernel
theorem d_Law_law_268 : decode code 268 = .ok (.iload 6, 2) := by decide +kernel
theorem d_Law_law_270 : decode code 270 = .ok (.i2l, 1) := by decide +kernel
theorem d_Law_law_271 : decode code 271 = .ok (.lcmp, 1) := by decide +kernel
theorem d_Law_law_272 : decode code 272 = .ok (.ifCond .eq 5, 3) := by decide +kernel
set_option maxRecDepth 100000 in
set_option maxHeartbeats 4000000 in
theorem law_1V {l : Launch} (hl : l.stackTraces = false) (G : pb_G) {M : pb_M} {b : Nat} {xs : Nat → Int32} (hQ : law_Q M b) (hX : va_X b 4 xs (pm_s M) (pm_s M).heap) (hbl : b < (pm_s M).heap.size) (hbA : ¬ pm_A M b) (x : Nat) (ta : Nat) (tb : Nat) (ca : Nat) (ps : Nat) (ex_ : Nat) (mk : Nat) (rd : Nat) (mu : Nat) (fi : Nat) (go : Nat) (sp : Nat) (ss : Nat) (m : Nat) (m_rels : Nat) (m_openRels : Nat) (m_closeRels : Nat) (m_openRel : Nat) (m_closeRel : Nat) (m_comment : Nat) (m_ends : Nat) (m_order : Nat) (m_tape : Nat) (m_count : Nat) (m_nameSize : Nat) (m_names : Nat) (m_size : Nat) (m_data : Nat) (m_looked : Nat) (m_file : Nat) (m_directory : Nat) (m_out : Nat) (m_row : Nat) (m_made : Nat) (m_length : Nat) (m_pressed : Nat) (m_mark : Nat) (m_idSize : Nat) (m_ids : Nat) (m_goalSize : Nat) (m_goals : Nat) (m_value : Nat) (m_faults : Nat) (m_reached : Nat) (o : Nat) (hv : (xs 1).toInt = 0) : pb_P l G M i_Law_law 224 [(4, .int 0), (3, .ref o), (2, .ref m), (1, .ref x), (0, .ref b)] [] [(x, .inr (9, [.ref ta, .ref ca, .ref ps, .ref ex_, .ref mk, .ref rd, .ref mu, .ref fi, .ref go, .ref sp, .ref ss])), (ta, .inr (0, [.ref tb, .int 0])), (tb, .inl (G.2.1, 8000, .inl (fun _ => 0))), (m, .inr (10, [.ref m_rels, .ref m_openRels, .ref m_closeRels, .ref m_openRel, .ref m_closeRel, .ref m_comment, .ref m_ends, .ref m_order, .int 0, .int 0, .ref m_tape, .ref m_count, .ref m_nameSize, .ref m_names, .ref m_size, .ref m_data, .int 0, .ref m_looked, .int 0, .ref m_file, .int 0, .ref m_directory, .int 0, .ref m_out, .int 0, .ref m_row, .int 0, .int 0, .int 0, .int 0, .ref m_made, .ref m_length, .int 0, .int 0, .int 0, .int 0, .int 0, .ref m_pressed, .int 0, .int 0, .int 0, .ref m_mark, .int 0, .ref m_idSize, .ref m_ids, .ref m_goalSize, .ref m_goals, .int 0, .ref m_value, .int 0, .ref m_faults, .ref m_reached])), (o, .inl (G.2.2.2.1, 1, .inr (.inl (fun _ => 0))))] 90 333577 := by
  have z0 : (0 : Int32).toInt = 0 := by decide
  have z1 : (1 : Int32).toInt = 1 := by decide
  have z2 : (0 : Int32).toNatClampNeg = 0 := by decide
  refine pb_aload_n (pc := 224) d_Law_law_224 3 rfl rfl ?_
  refine pb_aload_n (pc := 225) d_Law_law_225 4 rfl rfl ?_
  refine pb_iload (pc := 226) d_Law_law_226 0 rfl ?_
  refine pb_iconst (pc := 228) (v := 1) d_Law_law_228 (by decide) ?_
  refine pb_iadd (pc := 229) d_Law_law_229 ?_
  refine pb_asi (y := 1) (by decide) ?_
  refine pb_sld (pc := 230) hX hbl hbA (by unfold vp_in; decide) d_Law_law_230 ?_
  refine pb_asi (y := xs 1) (congrArg xs (by decide)) ?_
  refine pb_aload_n (pc := 231) d_Law_law_231 1 rfl rfl ?_
  refine pb_callSW (pc := 232) (nA := 3) (rest := []) (wr := [(m, .inr (10, [.ref m_rels, .ref m_openRels, .ref m_closeRels, .ref m_openRel, .ref m_closeRel, .ref m_comment, .ref m_ends, .ref m_order, .int 0, .int 0, .ref m_tape, .ref m_count, .ref m_nameSize, .ref m_names, .ref m_size, .ref m_data, .int 0, .ref m_looked, .int 0, .ref m_file, .int 0, .ref m_directory, .int 0, .ref m_out, .int 0, .ref m_row, .int 0, .int 0, .int 0, .int 0, .ref m_made, .ref m_length, .int 0, .int 0, .int 0, .int 0, .int 0, .ref m_pressed, .int 0, .int 0, .int 0, .ref m_mark, .int 0, .ref m_idSize, .ref m_ids, .ref m_goalSize, .ref m_goals, .int 0, .ref m_value, .int 0, .ref m_faults, .ref m_reached]))]) d_Law_law_232 (c_Law_againV hl G x ta ca ps ex_ mk rd mu fi go sp ss tb (fun _ => 0) (xs 1) o (fun _ => 0) (by assumption)) [0, 1, 2, 4] [3] (by decide) rfl rfl rfl (by decide) (by decide) k_1026 rfl k_117 k_1024 k_1025 (by decide +kernel) (by decide) rfl rfl (Nat.le_of_ble_eq_true rfl) (by decide) (fun v9 u2 h1 => ?_)
  obtain ⟨f_3, rfl⟩ : ∃ z9, z9 = u2 := ⟨_, rfl⟩
  obtain ⟨eh1, h1⟩ := h1
  have eh1 : v9 = some (.int 0) := eh1
  subst eh1
  have h4 : f_3 0 = 0 := h1
  refine pb_eq (pc' := 235) (lo' := [(4, .int 0), (3, .ref o), (2, .ref m), (1, .ref x), (0, .ref b)]) (rest' := [.int 0]) (ws' := [(m, .inr (10, [.ref m_rels, .ref m_openRels, .ref m_closeRels, .ref m_openRel, .ref m_closeRel, .ref m_comment, .ref m_ends, .ref m_order, .int 0, .int 0, .ref m_tape, .ref m_count, .ref m_nameSize, .ref m_names, .ref m_size, .ref m_data, .int 0, .ref m_looked, .int 0, .ref m_file, .int 0, .ref m_directory, .int 0, .ref m_out, .int 0, .ref m_row, .int 0, .int 0, .int 0, .int 0, .ref m_made, .ref m_length, .int 0, .int 0, .int 0, .int 0, .int 0, .ref m_pressed, .int 0, .int 0, .int 0, .ref m_mark, .int 0, .ref m_idSize, .ref m_ids, .ref m_goalSize, .ref m_goals, .int 0, .ref m_value, .int 0, .ref m_faults, .ref m_reached])), (o, .inl (G.2.2.2.1, 1, .inr (.inl f_3)))]) ?_
  refine pb_istore (pc := 235) (lo' := [(5, .int 0), (4, .int 0), (3, .ref o), (2, .ref m), (1, .ref x), (0, .ref b)]) d_Law_law_235 (by decide) rfl ?_
  refine pb_aload_n (pc := 237) d_Law_law_237 3 rfl rfl ?_
  refine pb_aload_n (pc := 238) d_Law_law_238 5 rfl rfl ?_
  refine pb_iload (pc := 239) d_Law_law_239 1 rfl ?_
  refine pb_iconst (pc := 241) (v := 1) d_Law_law_241 (by decide) ?_
  refine pb_iadd (pc := 242) d_Law_law_242 ?_
  refine pb_asi (y := 1) (by decide) ?_
  refine pb_sld (pc := 243) hX hbl hbA (by unfold vp_in; decide) d_Law_law_243 ?_
  refine pb_asi (y := xs 1) (congrArg xs (by decide)) ?_
  refine pb_callV (pc := 244) (qb := 0) (ci := 10) (nA := 1) (rest := []) (wr := [(o, .inl (G.2.2.2.1, 1, .inr (.inl f_3)))]) d_Law_law_244 (c_Mod_againV hl G m m_rels m_openRels m_closeRels m_openRel m_closeRel m_comment m_ends m_order m_tape m_count m_nameSize m_names m_size m_data m_looked m_file m_directory m_out m_row m_made m_length m_pressed m_mark m_idSize m_ids m_goalSize m_goals m_value m_faults m_reached (xs 1) (by assumption)) rfl rfl [0] [1] (by decide) rfl rfl rfl (by decide) (by decide) k_1315 rfl k_128 k_1312 k_1313 k_1314 (by decide +kernel) (by decide) rfl rfl (Nat.le_of_ble_eq_true rfl) (by decide) (fun v9 u6 h5 => ?_)
  have eh5 := h5
  have eh5 : v9 = some (.int 0) := eh5
  subst eh5
  refine pb_eq (pc' := 247) (lo' := [(5, .int 0), (4, .int 0), (3, .ref o), (2, .ref m), (1, .ref x), (0, .ref b)]) (rest' := [.int 0]) (ws' := [(o, .inl (G.2.2.2.1, 1, .inr (.inl f_3))), (m, .inr (10, [.ref m_rels, .ref m_openRels, .ref m_closeRels, .ref m_openRel, .ref m_closeRel, .ref m_comment, .ref m_ends, .ref m_order, .int 0, .int 0, .ref m_tape, .ref m_count, .ref m_nameSize, .ref m_names, .ref m_size, .ref m_data, .int 0, .ref m_looked, .int 0, .ref m_file, .int 0, .ref m_directory, .int 0, .ref m_out, .int 0, .ref m_row, .int 0, .int 0, .int 0, .int 0, .ref m_made, .ref m_length, .int 0, .int 0, .int 0, .int 0, .int 0, .ref m_pressed, .int 0, .int 0, .int 0, .ref m_mark, .int 0, .ref m_idSize, .ref m_ids, .ref m_goalSize, .ref m_goals, .int 0, .ref m_value, .int 0, .ref m_faults, .ref m_reached]))]) ?_
  refine pb_istore (pc := 247) (lo' := [(6, .int 0), (5, .int 0), (4, .int 0), (3, .ref o), (2, .ref m), (1, .ref x), (0, .ref b)]) d_Law_law_247 (by decide) rfl ?_
  refine pb_aload_n (pc := 249) d_Law_law_249 4 rfl rfl ?_
  refine pb_callV (pc := 250) (qb := 1) (ci := 10) (nA := 0) (rest := []) (wr := [(o, .inl (G.2.2.2.1, 1, .inr (.inl f_3)))]) d_Law_law_250 (c_Mod_thrown hl G m m_rels m_openRels m_closeRels m_openRel m_closeRel m_comment m_ends m_order m_tape m_count m_nameSize m_names m_size m_data m_looked m_file m_directory m_out m_row m_made m_length m_pressed m_mark m_idSize m_ids m_goalSize m_goals m_value m_faults m_reached 0 0 0 0 0 0 0 0 0 0 0 0 0 0 0 0 0 0 0 0 0 0) rfl rfl [1] [0] (by decide) rfl rfl rfl (by decide) (by decide) k_1307 rfl k_128 k_1304 k_1305 k_1306 (by decide +kernel) (by decide) rfl rfl (Nat.le_of_ble_eq_true rfl) (by decide) (fun v9 u8 h7 => ?_)
  have eh7 := h7
  have eh7 : v9 = some (.int 0) := eh7
  subst eh7
  refine pb_eq (pc' := 253) (lo' := [(6, .int 0), (5, .int 0), (4, .int 0), (3, .ref o), (2, .ref m), (1, .ref x), (0, .ref b)]) (rest' := [.int 0]) (ws' := [(o, .inl (G.2.2.2.1, 1, .inr (.inl f_3)))]) ?_
  refine pb_iload (pc := 253) d_Law_law_253 1 rfl ?_
  refine pb_icmp_eq (pc := 255) (tgt := 260) d_Law_law_255 (by decide) (fun _ => ?_) (fun h9 => absurd h9 (by decide))
  refine pb_iload (pc := 260) d_Law_law_260 1 rfl ?_
  refine pb_if_ne (pc := 262) (tgt := 277) d_Law_law_262 (by decide) (fun h9 => absurd h9 (by decide)) (fun _ => ?_)
  refine pb_aload_n (pc := 265) d_Law_law_265 3 rfl rfl ?_
  refine pb_iconst (pc := 266) (v := 0) d_Law_law_266 (by decide) ?_
  refine pb_lald (pc := 267) d_Law_law_267 0 rfl (by unfold vp_in; decide) ?_
  refine pb_topl (fun j11 ej11 => ?_)
  refine pb_iload (pc := 268) d_Law_law_268 0 rfl ?_
  refine pb_i2l (pc := 270) (v := 0) d_Law_law_270 (by decide) ?_
  refine pb_lcmp (pc := 271) d_Law_law_271 ?_
  refine pb_asi (y := 0) (lg_cmp0.mpr (by rw [ej11, z2, h4])) ?_
  refine pb_if_eq (pc := 272) (tgt := 277) d_Law_law_272 (by decide) (fun _ => ?_) (fun h9 => absurd h9 (by decide))
  refine pb_goto (pc := 277) (tgt := 966) d_Law_law_277 (by decide) ?_
  refine pb_re (ws' := []) (lo' := [(4, .int 0), (0, .ref b)]) [] [2, 6] (by decide) rfl rfl rfl ?_
  exact law_tail hQ hX hbl hbA (by decide) (by decide)

theorem d_Law_law_349 : decode code 349 = .ok (.aload_n 1, 1) := by decide +kernel
theorem d_Law_law_350 : decode code 350 = .ok (.aload_n 0, 1) := by decide +kernel
theorem d_Law_law_351 : decode code 351 = .ok (.iload 4, 2) := by decide +kernel
theorem d_Law_law_353 : decode code 353 = .ok (.iconst 1, 1) := by decide +kernel
theorem d_Law_law_354 : decode code 354 = .ok (.iadd, 1) := by decide +kernel
theorem d_Law_law_355 : decode code 355 = .ok (.iaload, 1) := by decide +kernel
theorem d_Law_law_356 : decode code 356 = .ok (.aload_n 0, 1) := by decide +kernel
theorem d_Law_law_357 : decode code 357 = .ok (.iload 4, 2) := by decide +kernel
theorem d_Law_law_359 : decode code 359 = .ok (.iconst 2, 1) := by decide +kernel
theorem d_Law_law_360 : decode code 360 = .ok (.iadd, 1) := by decide +kernel
theorem d_Law_law_361 : decode code 361 = .ok (.iaload, 1) := by decide +kernel
theorem d_Law_law_362 : decode code 362 = .ok (.aload_n 3, 1) := by decide +kernel
theorem d_Law_law_363 : decode code 363 = .ok (.invokestatic 82, 3) := by decide +kernel
theorem k_1045 : (Jvm.Cond.methodLink "PackageBookLaw" (82 : Nat) ({ cls := "PackageBookLaw", name := "about", desc := "(LPackageBook;II[J)I" } : Jvm.MethodName)) ∈ uW := uW_of 1045 (by decide +kernel) (by decide +kernel)
theorem k_1047 : (Jvm.Cond.codeWith ({ cls := "PackageBookLaw", name := "about", desc := "(LPackageBook;II[J)I" } : Jvm.MethodName) method_6_code (5 : Nat) (Option.some Jvm.ClassFile.FieldType.int) [((0 : Nat), (10 : Nat), (13 : Nat), (28 : Nat))]) ∈ uW := uW_of 1047 (by decide +kernel) (by decide +kernel)
theorem k_1046 : (Jvm.Cond.static ({ cls := "PackageBookLaw", name := "about", desc := "(LPackageBook;II[J)I" } : Jvm.MethodName)) ∈ uW := uW_of 1046 (by decide +kernel) (by decide +kernel)
theorem d_Law_law_366 : decode code 366 = .ok (.istore 5, 2) := by decide +kernel
theorem d_Law_law_368 : decode code 368 = .ok (.aload_n 2, 1) := by decide +kernel
theorem d_Law_law_369 : decode code 369 = .ok (.aload_n 0, 1) := by decide +kernel
theorem d_Law_law_370 : decode code 370 = .ok (.iload 4, 2) := by decide +kernel
theorem d_Law_law_372 : decode code 372 = .ok (.iconst 1, 1) := by decide +kernel
theorem d_Law_law_373 : decode code 373 = .ok (.iadd, 1) := by decide +kernel
theorem d_Law_law_374 : decode code 374 = .ok (.iaload, 1) := by decide +kernel
theorem d_Law_law_375 : decode code 375 = .ok (.aload_n 0, 1) := by decide +kernel
theorem d_Law_law_376 : decode code 376 = .ok (.iload 4, 2) := by decide +kernel
theorem d_Law_law_378 : decode code 378 = .ok (.iconst 2, 1) := by decide +kernel
theorem d_Law_law_379 : decode code 379 = .ok (.iadd, 1) := by decide +kernel
theorem d_Law_law_380 : decode code 380 = .ok (.iaload, 1) := by decide +kernel
theorem d_Law_law_381 : decode code 381 = .ok (.invokevirtual 85, 3) := by decide +kernel
theorem k_1358 : (Jvm.Cond.methodLink "PackageBookLaw" (85 : Nat) ({ cls := "PackageBookModel", name := "about", desc := "(II)I" } : Jvm.MethodName)) ∈ uW := uW_of 1358 (by decide +kernel) (by decide +kernel)
theorem k_1361 : (Jvm.Cond.code ({ cls := "PackageBookModel", name := "about", desc := "(II)I" } : Jvm.MethodName) prog_12_method_16_code (4 : Nat) (Option.some Jvm.ClassFile.FieldType.int)) ∈ uW := uW_of 1361 (by decide +kernel) (by decide +kernel)
theorem k_1359 : (Jvm.Cond.instanceMethod ({ cls := "PackageBookModel", name := "about", desc := "(II)I" } : Jvm.MethodName)) ∈ uW := uW_of 1359 (by decide +kernel) (by decide +kernel)
theorem k_1360 : (Jvm.Cond.selects "PackageBookModel" ({ cls := "PackageBookModel", name := "about", desc := "(II)I" } : Jvm.MethodName) ({ cls := "PackageBookModel", name := "about", desc := "(II)I" } : Jvm.MethodName)) ∈ uW := uW_of 1360 (by decide +kernel) (by decide +kernel)
theorem d_Law_law_384 : decode code 384 = .ok (.istore 6, 2) := by decide +kernel
theorem d_Law_law_386 : decode code 386 = .ok (.aload_n 2, 1) := by decide +kernel
theorem d_Law_law_387 : decode code 387 = .ok (.invokevirtual 67, 3) := by decide +kernel
theorem d_Law_law_390 : decode code 390 = .ok (.iload 5, 2) := by decide +kernel
theorem d_Law_law_392 : decode code 392 = .ok (.if_icmp .eq 5, 3) := by decide +kernel
theorem d_Law_law_397 : decode code 397 = .ok (.iload 5, 2) := by decide +kernel
theorem d_Law_law_399 : decode code 399 = .ok (.ifCond .ne 15, 3) := by decide +kernel
theorem d_Law_law_414 : decode code 414 = .ok (.goto 552, 3) := by decide +kernel
set_option maxRecDepth 100000 in
set_option maxHeartbeats 4000000 in
theorem law_4I {l : Launch} (hl : l.stackTraces = false) (G : pb_G) {M : pb_M} {b : Nat} {xs : Nat → Int32} (hQ : law_Q M b) (hX : va_X b 4 xs (pm_s M) (pm_s M).heap) (hbl : b < (pm_s M).heap.size) (hbA : ¬ pm_A M b) (x : Nat) (ta : Nat) (ca : Nat) (ps : Nat) (ex_ : Nat) (mk : Nat) (rd : Nat) (mu : Nat) (fi : Nat) (go : Nat) (sp : Nat) (spn : Nat) (spz : Nat) (spb : Nat) (spg : Nat) (ss : Nat) (m : Nat) (m_rels : Nat) (m_openRels : Nat) (m_closeRels : Nat) (m_openRel : Nat) (m_closeRel : Nat) (m_comment : Nat) (m_ends : Nat) (m_order : Nat) (m_tape : Nat) (m_count : Nat) (m_nameSize : Nat) (m_names : Nat) (m_size : Nat) (m_data : Nat) (m_looked : Nat) (m_file : Nat) (m_directory : Nat) (m_out : Nat) (m_row : Nat) (m_made : Nat) (m_length : Nat) (m_pressed : Nat) (m_mark : Nat) (m_idSize : Nat) (m_ids : Nat) (m_goalSize : Nat) (m_goals : Nat) (m_value : Nat) (m_faults : Nat) (m_reached : Nat) (o : Nat) (hv : ¬ ((xs 1).toInt = 0 ∨ (xs 1).toInt = 3)) : pb_P l G M i_Law_law 349 [(4, .int 0), (3, .ref o), (2, .ref m), (1, .ref x), (0, .ref b)] [] [(x, .inr (9, [.ref ta, .ref ca, .ref ps, .ref ex_, .ref mk, .ref rd, .ref mu, .ref fi, .ref go, .ref sp, .ref ss])), (sp, .inr (3, [.ref spn, .ref spz, .ref spb, .ref spg, .int 0])), (spg, .inl (G.2.2.1, 17, .inl (fun _ => 0))), (m, .inr (10, [.ref m_rels, .ref m_openRels, .ref m_closeRels, .ref m_openRel, .ref m_closeRel, .ref m_comment, .ref m_ends, .ref m_order, .int 0, .int 0, .ref m_tape, .ref m_count, .ref m_nameSize, .ref m_names, .ref m_size, .ref m_data, .int 0, .ref m_looked, .int 0, .ref m_file, .int 0, .ref m_directory, .int 0, .ref m_out, .int 0, .ref m_row, .int 0, .int 0, .int 0, .int 0, .ref m_made, .ref m_length, .int 0, .int 0, .int 0, .int 0, .int 0, .ref m_pressed, .int 0, .int 0, .int 0, .ref m_mark, .int 0, .ref m_idSize, .ref m_ids, .ref m_goalSize, .ref m_goals, .int 0, .ref m_value, .int 0, .ref m_faults, .ref m_reached])), (m_count, .inl (G.2.2.1, 2, .inl (fun _ => 0))), (o, .inl (G.2.2.2.1, 1, .inr (.inl (fun _ => 0))))] 90 333577 := by
  have z0 : (0 : Int32).toInt = 0 := by decide
  have z1 : (1 : Int32).toInt = 1 := by decide
  have z2 : (0 : Int32).toNatClampNeg = 0 := by decide
  refine pb_aload_n (pc := 349) d_Law_law_349 3 rfl rfl ?_
  refine pb_aload_n (pc := 350) d_Law_law_350 4 rfl rfl ?_
  refine pb_iload (pc := 351) d_Law_law_351 0 rfl ?_
  refine pb_iconst (pc := 353) (v := 1) d_Law_law_353 (by decide) ?_
  refine pb_iadd (pc := 354) d_Law_law_354 ?_
  refine pb_asi (y := 1) (by decide) ?_
  refine pb_sld (pc := 355) hX hbl hbA (by unfold vp_in; decide) d_Law_law_355 ?_
  refine pb_asi (y := xs 1) (congrArg xs (by decide)) ?_
  refine pb_aload_n (pc := 356) d_Law_law_356 4 rfl rfl ?_
  refine pb_iload (pc := 357) d_Law_law_357 0 rfl ?_
  refine pb_iconst (pc := 359) (v := 2) d_Law_law_359 (by decide) ?_
  refine pb_iadd (pc := 360) d_Law_law_360 ?_
  refine pb_asi (y := 2) (by decide) ?_
  refine pb_sld (pc := 361) hX hbl hbA (by unfold vp_in; decide) d_Law_law_361 ?_
  refine pb_asi (y := xs 2) (congrArg xs (by decide)) ?_
  refine pb_aload_n (pc := 362) d_Law_law_362 1 rfl rfl ?_
  refine pb_callSW (pc := 363) (nA := 4) (rest := []) (wr := [(m, .inr (10, [.ref m_rels, .ref m_openRels, .ref m_closeRels, .ref m_openRel, .ref m_closeRel, .ref m_comment, .ref m_ends, .ref m_order, .int 0, .int 0, .ref m_tape, .ref m_count, .ref m_nameSize, .ref m_names, .ref m_size, .ref m_data, .int 0, .ref m_looked, .int 0, .ref m_file, .int 0, .ref m_directory, .int 0, .ref m_out, .int 0, .ref m_row, .int 0, .int 0, .int 0, .int 0, .ref m_made, .ref m_length, .int 0, .int 0, .int 0, .int 0, .int 0, .ref m_pressed, .int 0, .int 0, .int 0, .ref m_mark, .int 0, .ref m_idSize, .ref m_ids, .ref m_goalSize, .ref m_goals, .int 0, .ref m_value, .int 0, .ref m_faults, .ref m_reached])), (m_count, .inl (G.2.2.1, 2, .inl (fun _ => 0)))]) d_Law_law_363 (c_Law_aboutI hl G x ta ca ps ex_ mk rd mu fi go sp ss spn spz spb spg (xs 1) (xs 2) o (fun _ => 0) (by assumption)) [0, 1, 2, 5] [3, 4] (by decide) rfl rfl rfl (by decide) (by decide) k_1047 rfl k_117 k_1045 k_1046 (by decide +kernel) (by decide) rfl rfl (Nat.le_of_ble_eq_true rfl) (by decide) (fun v9 u2 h1 => ?_)
  have eh1 := h1
  have eh1 : v9 = some (.int 1) := eh1
  subst eh1
  refine pb_eq (pc' := 366) (lo' := [(4, .int 0), (3, .ref o), (2, .ref m), (1, .ref x), (0, .ref b)]) (rest' := [.int 1]) (ws' := [(m, .inr (10, [.ref m_rels, .ref m_openRels, .ref m_closeRels, .ref m_openRel, .ref m_closeRel, .ref m_comment, .ref m_ends, .ref m_order, .int 0, .int 0, .ref m_tape, .ref m_count, .ref m_nameSize, .ref m_names, .ref m_size, .ref m_data, .int 0, .ref m_looked, .int 0, .ref m_file, .int 0, .ref m_directory, .int 0, .ref m_out, .int 0, .ref m_row, .int 0, .int 0, .int 0, .int 0, .ref m_made, .ref m_length, .int 0, .int 0, .int 0, .int 0, .int 0, .ref m_pressed, .int 0, .int 0, .int 0, .ref m_mark, .int 0, .ref m_idSize, .ref m_ids, .ref m_goalSize, .ref m_goals, .int 0, .ref m_value, .int 0, .ref m_faults, .ref m_reached])), (m_count, .inl (G.2.2.1, 2, .inl (fun _ => 0))), (o, .inl (G.2.2.2.1, 1, .inr (.inl (fun _ => 0))))]) ?_
  refine pb_istore (pc := 366) (lo' := [(5, .int 1), (4, .int 0), (3, .ref o), (2, .ref m), (1, .ref x), (0, .ref b)]) d_Law_law_366 (by decide) rfl ?_
  refine pb_aload_n (pc := 368) d_Law_law_368 3 rfl rfl ?_
  refine pb_aload_n (pc := 369) d_Law_law_369 5 rfl rfl ?_
  refine pb_iload (pc := 370) d_Law_law_370 1 rfl ?_
  refine pb_iconst (pc := 372) (v := 1) d_Law_law_372 (by decide) ?_
  refine pb_iadd (pc := 373) d_Law_law_373 ?_
  refine pb_asi (y := 1) (by decide) ?_
  refine pb_sld (pc := 374) hX hbl hbA (by unfold vp_in; decide) d_Law_law_374 ?_
  refine pb_asi (y := xs 1) (congrArg xs (by decide)) ?_
  refine pb_aload_n (pc := 375) d_Law_law_375 5 rfl rfl ?_
  refine pb_iload (pc := 376) d_Law_law_376 1 rfl ?_
  refine pb_iconst (pc := 378) (v := 2) d_Law_law_378 (by decide) ?_
  refine pb_iadd (pc := 379) d_Law_law_379 ?_
  refine pb_asi (y := 2) (by decide) ?_
  refine pb_sld (pc := 380) hX hbl hbA (by unfold vp_in; decide) d_Law_law_380 ?_
  refine pb_asi (y := xs 2) (congrArg xs (by decide)) ?_
  refine pb_callV (pc := 381) (qb := 0) (ci := 10) (nA := 2) (rest := []) (wr := [(o, .inl (G.2.2.2.1, 1, .inr (.inl (fun _ => 0))))]) d_Law_law_381 (c_Mod_aboutI hl G m m_rels m_openRels m_closeRels m_openRel m_closeRel m_comment m_ends m_order m_tape m_count m_nameSize m_names m_size m_data m_looked m_file m_directory m_out m_row m_made m_length m_pressed m_mark m_idSize m_ids m_goalSize m_goals m_value m_faults m_reached (xs 1) (xs 2) (by assumption)) rfl rfl [0, 1] [2] (by decide) rfl rfl rfl (by decide) (by decide) k_1361 rfl k_128 k_1358 k_1359 k_1360 (by decide +kernel) (by decide) rfl rfl (Nat.le_of_ble_eq_true rfl) (by decide) (fun v9 u4 h3 => ?_)
  have eh3 := h3
  have eh3 : v9 = some (.int 0) := eh3
  subst eh3
  refine pb_eq (pc' := 384) (lo' := [(5, .int 1), (4, .int 0), (3, .ref o), (2, .ref m), (1, .ref x), (0, .ref b)]) (rest' := [.int 0]) (ws' := [(o, .inl (G.2.2.2.1, 1, .inr (.inl (fun _ => 0)))), (m, .inr (10, [.ref m_rels, .ref m_openRels, .ref m_closeRels, .ref m_openRel, .ref m_closeRel, .ref m_comment, .ref m_ends, .ref m_order, .int 1, .int 0, .ref m_tape, .ref m_count, .ref m_nameSize, .ref m_names, .ref m_size, .ref m_data, .int 0, .ref m_looked, .int 0, .ref m_file, .int 0, .ref m_directory, .int 0, .ref m_out, .int 0, .ref m_row, .int 0, .int 0, .int 0, .int 0, .ref m_made, .ref m_length, .int 0, .int 0, .int 0, .int 0, .int 0, .ref m_pressed, .int 0, .int 0, .int 0, .ref m_mark, .int 0, .ref m_idSize, .ref m_ids, .ref m_goalSize, .ref m_goals, .int 0, .ref m_value, .int 0, .ref m_faults, .ref m_reached]))]) ?_
  refine pb_istore (pc := 384) (lo' := [(6, .int 0), (5, .int 1), (4, .int 0), (3, .ref o), (2, .ref m), (1, .ref x), (0, .ref b)]) d_Law_law_384 (by decide) rfl ?_
  refine pb_aload_n (pc := 386) d_Law_law_386 4 rfl rfl ?_
  refine pb_callV (pc := 387) (qb := 1) (ci := 10) (nA := 0) (rest := []) (wr := [(o, .inl (G.2.2.2.1, 1, .inr (.inl (fun _ => 0))))]) d_Law_law_387 (c_Mod_thrown hl G m m_rels m_openRels m_closeRels m_openRel m_closeRel m_comment m_ends m_order m_tape m_count m_nameSize m_names m_size m_data m_looked m_file m_directory m_out m_row m_made m_length m_pressed m_mark m_idSize m_ids m_goalSize m_goals m_value m_faults m_reached 1 0 0 0 0 0 0 0 0 0 0 0 0 0 0 0 0 0 0 0 0 0) rfl rfl [1] [0] (by decide) rfl rfl rfl (by decide) (by decide) k_1307 rfl k_128 k_1304 k_1305 k_1306 (by decide +kernel) (by decide) rfl rfl (Nat.le_of_ble_eq_true rfl) (by decide) (fun v9 u6 h5 => ?_)
  have eh5 := h5
  have eh5 : v9 = some (.int 1) := eh5
  subst eh5
  refine pb_eq (pc' := 390) (lo' := [(6, .int 0), (5, .int 1), (4, .int 0), (3, .ref o), (2, .ref m), (1, .ref x), (0, .ref b)]) (rest' := [.int 1]) (ws' := [(o, .inl (G.2.2.2.1, 1, .inr (.inl (fun _ => 0))))]) ?_
  refine pb_iload (pc := 390) d_Law_law_390 1 rfl ?_
  refine pb_icmp_eq (pc := 392) (tgt := 397) d_Law_law_392 (by decide) (fun _ => ?_) (fun h9 => absurd h9 (by decide))
  refine pb_iload (pc := 397) d_Law_law_397 1 rfl ?_
  refine pb_if_ne (pc := 399) (tgt := 414) d_Law_law_399 (by decide) (fun _ => ?_) (fun h9 => absurd h9 (by decide))
  refine pb_goto (pc := 414) (tgt := 966) d_Law_law_414 (by decide) ?_
  refine pb_re (ws' := []) (lo' := [(4, .int 0), (0, .ref b)]) [] [2, 6] (by decide) rfl rfl rfl ?_
  exact law_tail hQ hX hbl hbA (by decide) (by decide)

theorem d_Law_law_402 : decode code 402 = .ok (.aload_n 3, 1) := by decide +kernel
theorem d_Law_law_403 : decode code 403 = .ok (.iconst 0, 1) := by decide +kernel
theorem d_Law_law_404 : decode code 404 = .ok (.laload, 1) := by decide +kernel
theorem d_Law_law_405 : decode code 405 = .ok (.iload 6, 2) := by decide +kernel
theorem d_Law_law_407 : decode code 407 = .ok (.i2l, 1) := by decide +kernel
theorem d_Law_law_408 : decode code 408 = .ok (.lcmp, 1) := by decide +kernel
theorem d_Law_law_409 : decode code 409 = .ok (.ifCond .eq 5, 3) := by decide +kernel
set_option maxRecDepth 100000 in
set_option maxHeartbeats 4000000 in
theorem law_4V {l : Launch} (hl : l.stackTraces = false) (G : pb_G) {M : pb_M} {b : Nat} {xs : Nat → Int32} (hQ : law_Q M b) (hX : va_X b 4 xs (pm_s M) (pm_s M).heap) (hbl : b < (pm_s M).heap.size) (hbA : ¬ pm_A M b) (x : Nat) (ta : Nat) (ca : Nat) (ps : Nat) (ex_ : Nat) (mk : Nat) (rd : Nat) (mu : Nat) (fi : Nat) (go : Nat) (sp : Nat) (spn : Nat) (spz : Nat) (spb : Nat) (spg : Nat) (ss : Nat) (m : Nat) (m_rels : Nat) (m_openRels : Nat) (m_closeRels : Nat) (m_openRel : Nat) (m_closeRel : Nat) (m_comment : Nat) (m_ends : Nat) (m_order : Nat) (m_tape : Nat) (m_count : Nat) (m_nameSize : Nat) (m_names : Nat) (m_size : Nat) (m_data : Nat) (m_looked : Nat) (m_file : Nat) (m_directory : Nat) (m_out : Nat) (m_row : Nat) (m_made : Nat) (m_length : Nat) (m_pressed : Nat) (m_mark : Nat) (m_idSize : Nat) (m_ids : Nat) (m_goalSize : Nat) (m_goals : Nat) (m_value : Nat) (m_faults : Nat) (m_reached : Nat) (o : Nat) (hv : (xs 1).toInt = 0 ∨ (xs 1).toInt = 3) : pb_P l G M i_Law_law 349 [(4, .int 0), (3, .ref o), (2, .ref m), (1, .ref x), (0, .ref b)] [] [(x, .inr (9, [.ref ta, .ref ca, .ref ps, .ref ex_, .ref mk, .ref rd, .ref mu, .ref fi, .ref go, .ref sp, .ref ss])), (sp, .inr (3, [.ref spn, .ref spz, .ref spb, .ref spg, .int 0])), (spg, .inl (G.2.2.1, 17, .inl (fun _ => 0))), (m, .inr (10, [.ref m_rels, .ref m_openRels, .ref m_closeRels, .ref m_openRel, .ref m_closeRel, .ref m_comment, .ref m_ends, .ref m_order, .int 0, .int 0, .ref m_tape, .ref m_count, .ref m_nameSize, .ref m_names, .ref m_size, .ref m_data, .int 0, .ref m_looked, .int 0, .ref m_file, .int 0, .ref m_directory, .int 0, .ref m_out, .int 0, .ref m_row, .int 0, .int 0, .int 0, .int 0, .ref m_made, .ref m_length, .int 0, .int 0, .int 0, .int 0, .int 0, .ref m_pressed, .int 0, .int 0, .int 0, .ref m_mark, .int 0, .ref m_idSize, .ref m_ids, .ref m_goalSize, .ref m_goals, .int 0, .ref m_value, .int 0, .ref m_faults, .ref m_reached])), (m_count, .inl (G.2.2.1, 2, .inl (fun _ => 0))), (o, .inl (G.2.2.2.1, 1, .inr (.inl (fun _ => 0))))] 90 333577 := by
  have z0 : (0 : Int32).toInt = 0 := by decide
  have z1 : (1 : Int32).toInt = 1 := by decide
  have z2 : (0 : Int32).toNatClampNeg = 0 := by decide
  refine pb_aload_n (pc := 349) d_Law_law_349 3 rfl rfl ?_
  refine pb_aload_n (pc := 350) d_Law_law_350 4 rfl rfl ?_
  refine pb_iload (pc := 351) d_Law_law_351 0 rfl ?_
  refine pb_iconst (pc := 353) (v := 1) d_Law_law_353 (by decide) ?_
  refine pb_iadd (pc := 354) d_Law_law_354 ?_
  refine pb_asi (y := 1) (by decide) ?_
  refine pb_sld (pc := 355) hX hbl hbA (by unfold vp_in; decide) d_Law_law_355 ?_
  refine pb_asi (y := xs 1) (congrArg xs (by decide)) ?_
  refine pb_aload_n (pc := 356) d_Law_law_356 4 rfl rfl ?_
  refine pb_iload (pc := 357) d_Law_law_357 0 rfl ?_
  refine pb_iconst (pc := 359) (v := 2) d_Law_law_359 (by decide) ?_
  refine pb_iadd (pc := 360) d_Law_law_360 ?_
  refine pb_asi (y := 2) (by decide) ?_
  refine pb_sld (pc := 361) hX hbl hbA (by unfold vp_in; decide) d_Law_law_361 ?_
  refine pb_asi (y := xs 2) (congrArg xs (by decide)) ?_
  refine pb_aload_n (pc := 362) d_Law_law_362 1 rfl rfl ?_
  refine pb_callSW (pc := 363) (nA := 4) (rest := []) (wr := [(m, .inr (10, [.ref m_rels, .ref m_openRels, .ref m_closeRels, .ref m_openRel, .ref m_closeRel, .ref m_comment, .ref m_ends, .ref m_order, .int 0, .int 0, .ref m_tape, .ref m_count, .ref m_nameSize, .ref m_names, .ref m_size, .ref m_data, .int 0, .ref m_looked, .int 0, .ref m_file, .int 0, .ref m_directory, .int 0, .ref m_out, .int 0, .ref m_row, .int 0, .int 0, .int 0, .int 0, .ref m_made, .ref m_length, .int 0, .int 0, .int 0, .int 0, .int 0, .ref m_pressed, .int 0, .int 0, .int 0, .ref m_mark, .int 0, .ref m_idSize, .ref m_ids, .ref m_goalSize, .ref m_goals, .int 0, .ref m_value, .int 0, .ref m_faults, .ref m_reached])), (m_count, .inl (G.2.2.1, 2, .inl (fun _ => 0)))]) d_Law_law_363 (c_Law_aboutV hl G x ta ca ps ex_ mk rd mu fi go sp ss spn spz spb spg (xs 1) (xs 2) o (fun _ => 0) (by assumption)) [0, 1, 2, 5] [3, 4] (by decide) rfl rfl rfl (by decide) (by decide) k_1047 rfl k_117 k_1045 k_1046 (by decide +kernel) (by decide) rfl rfl (Nat.le_of_ble_eq_true rfl) (by decide) (fun v9 u2 h1 => ?_)
  obtain ⟨f_3, rfl⟩ : ∃ z9, z9 = u2 := ⟨_, rfl⟩
  obtain ⟨eh1, h1⟩ := h1
  have eh1 : v9 = some (.int 0) := eh1
  subst eh1
  have h4 : f_3 0 = 0 := h1
  refine pb_eq (pc' := 366) (lo' := [(4, .int 0), (3, .ref o), (2, .ref m), (1, .ref x), (0, .ref b)]) (rest' := [.int 0]) (ws' := [(m, .inr (10, [.ref m_rels, .ref m_openRels, .ref m_closeRels, .ref m_openRel, .ref m_closeRel, .ref m_comment, .ref m_ends, .ref m_order, .int 0, .int 0, .ref m_tape, .ref m_count, .ref m_nameSize, .ref m_names, .ref m_size, .ref m_data, .int 0, .ref m_looked, .int 0, .ref m_file, .int 0, .ref m_directory, .int 0, .ref m_out, .int 0, .ref m_row, .int 0, .int 0, .int 0, .int 0, .ref m_made, .ref m_length, .int 0, .int 0, .int 0, .int 0, .int 0, .ref m_pressed, .int 0, .int 0, .int 0, .ref m_mark, .int 0, .ref m_idSize, .ref m_ids, .ref m_goalSize, .ref m_goals, .int 0, .ref m_value, .int 0, .ref m_faults, .ref m_reached])), (m_count, .inl (G.2.2.1, 2, .inl (fun _ => 0))), (o, .inl (G.2.2.2.1, 1, .inr (.inl f_3)))]) ?_
  refine pb_istore (pc := 366) (lo' := [(5, .int 0), (4, .int 0), (3, .ref o), (2, .ref m), (1, .ref x), (0, .ref b)]) d_Law_law_366 (by decide) rfl ?_
  refine pb_aload_n (pc := 368) d_Law_law_368 3 rfl rfl ?_
  refine pb_aload_n (pc := 369) d_Law_law_369 5 rfl rfl ?_
  refine pb_iload (pc := 370) d_Law_law_370 1 rfl ?_
  refine pb_iconst (pc := 372) (v := 1) d_Law_law_372 (by decide) ?_
  refine pb_iadd (pc := 373) d_Law_law_373 ?_
  refine pb_asi (y := 1) (by decide) ?_
  refine pb_sld (pc := 374) hX hbl hbA (by unfold vp_in; decide) d_Law_law_374 ?_
  refine pb_asi (y := xs 1) (congrArg xs (by decide)) ?_
  refine pb_aload_n (pc := 375) d_Law_law_375 5 rfl rfl ?_
  refine pb_iload (pc := 376) d_Law_law_376 1 rfl ?_
  refine pb_iconst (pc := 378) (v := 2) d_Law_law_378 (by decide) ?_
  refine pb_iadd (pc := 379) d_Law_law_379 ?_
  refine pb_asi (y := 2) (by decide) ?_
  refine pb_sld (pc := 380) hX hbl hbA (by unfold vp_in; decide) d_Law_law_380 ?_
  refine pb_asi (y := xs 2) (congrArg xs (by decide)) ?_
  refine pb_callV (pc := 381) (qb := 0) (ci := 10) (nA := 2) (rest := []) (wr := [(o, .inl (G.2.2.2.1, 1, .inr (.inl f_3)))]) d_Law_law_381 (c_Mod_aboutV hl G m m_rels m_openRels m_closeRels m_openRel m_closeRel m_comment m_ends m_order m_tape m_count m_nameSize m_names m_size m_data m_looked m_file m_directory m_out m_row m_made m_length m_pressed m_mark m_idSize m_ids m_goalSize m_goals m_value m_faults m_reached (xs 1) (xs 2) (by assumption)) rfl rfl [0, 1] [2] (by decide) rfl rfl rfl (by decide) (by decide) k_1361 rfl k_128 k_1358 k_1359 k_1360 (by decide +kernel) (by decide) rfl rfl (Nat.le_of_ble_eq_true rfl) (by decide) (fun v9 u6 h5 => ?_)
  have eh5 := h5
  have eh5 : v9 = some (.int 0) := eh5
  subst eh5
  refine pb_eq (pc' := 384) (lo' := [(5, .int 0), (4, .int 0), (3, .ref o), (2, .ref m), (1, .ref x), (0, .ref b)]) (rest' := [.int 0]) (ws' := [(o, .inl (G.2.2.2.1, 1, .inr (.inl f_3))), (m, .inr (10, [.ref m_rels, .ref m_openRels, .ref m_closeRels, .ref m_openRel, .ref m_closeRel, .ref m_comment, .ref m_ends, .ref m_order, .int 0, .int 0, .ref m_tape, .ref m_count, .ref m_nameSize, .ref m_names, .ref m_size, .ref m_data, .int 0, .ref m_looked, .int 0, .ref m_file, .int 0, .ref m_directory, .int 0, .ref m_out, .int 0, .ref m_row, .int 0, .int 0, .int 0, .int 0, .ref m_made, .ref m_length, .int 0, .int 0, .int 0, .int 0, .int 0, .ref m_pressed, .int 0, .int 0, .int 0, .ref m_mark, .int 0, .ref m_idSize, .ref m_ids, .ref m_goalSize, .ref m_goals, .int 0, .ref m_value, .int 0, .ref m_faults, .ref m_reached]))]) ?_
  refine pb_istore (pc := 384) (lo' := [(6, .int 0), (5, .int 0), (4, .int 0), (3, .ref o), (2, .ref m), (1, .ref x), (0, .ref b)]) d_Law_law_384 (by decide) rfl ?_
  refine pb_aload_n (pc := 386) d_Law_law_386 4 rfl rfl ?_
  refine pb_callV (pc := 387) (qb := 1) (ci := 10) (nA := 0) (rest := []) (wr := [(o, .inl (G.2.2.2.1, 1, .inr (.inl f_3)))]) d_Law_law_387 (c_Mod_thrown hl G m m_rels m_openRels m_closeRels m_openRel m_closeRel m_comment m_ends m_order m_tape m_count m_nameSize m_names m_size m_data m_looked m_file m_directory m_out m_row m_made m_length m_pressed m_mark m_idSize m_ids m_goalSize m_goals m_value m_faults m_reached 0 0 0 0 0 0 0 0 0 0 0 0 0 0 0 0 0 0 0 0 0 0) rfl rfl [1] [0] (by decide) rfl rfl rfl (by decide) (by decide) k_1307 rfl k_128 k_1304 k_1305 k_1306 (by decide +kernel) (by decide) rfl rfl (Nat.le_of_ble_eq_true rfl) (by decide) (fun v9 u8 h7 => ?_)
  have eh7 := h7
  have eh7 : v9 = some (.int 0) := eh7
  subst eh7
  refine pb_eq (pc' := 390) (lo' := [(6, .int 0), (5, .int 0), (4, .int 0), (3, .ref o), (2, .ref m), (1, .ref x), (0, .ref b)]) (rest' := [.int 0]) (ws' := [(o, .inl (G.2.2.2.1, 1, .inr (.inl f_3)))]) ?_
  refine pb_iload (pc := 390) d_Law_law_390 1 rfl ?_
  refine pb_icmp_eq (pc := 392) (tgt := 397) d_Law_law_392 (by decide) (fun _ => ?_) (fun h9 => absurd h9 (by decide))
  refine pb_iload (pc := 397) d_Law_law_397 1 rfl ?_
  refine pb_if_ne (pc := 399) (tgt := 414) d_Law_law_399 (by decide) (fun h9 => absurd h9 (by decide)) (fun _ => ?_)
  refine pb_aload_n (pc := 402) d_Law_law_402 3 rfl rfl ?_
  refine pb_iconst (pc := 403) (v := 0) d_Law_law_403 (by decide) ?_
  refine pb_lald (pc := 404) d_Law_law_404 0 rfl (by unfold vp_in; decide) ?_
  refine pb_topl (fun j11 ej11 => ?_)
  refine pb_iload (pc := 405) d_Law_law_405 0 rfl ?_
  refine pb_i2l (pc := 407) (v := 0) d_Law_law_407 (by decide) ?_
  refine pb_lcmp (pc := 408) d_Law_law_408 ?_
  refine pb_asi (y := 0) (lg_cmp0.mpr (by rw [ej11, z2, h4])) ?_
  refine pb_if_eq (pc := 409) (tgt := 414) d_Law_law_409 (by decide) (fun _ => ?_) (fun h9 => absurd h9 (by decide))
  refine pb_goto (pc := 414) (tgt := 966) d_Law_law_414 (by decide) ?_
  refine pb_re (ws' := []) (lo' := [(4, .int 0), (0, .ref b)]) [] [2, 6] (by decide) rfl rfl rfl ?_
  exact law_tail hQ hX hbl hbA (by decide) (by decide)

theorem d_Law_law_635 : decode code 635 = .ok (.aload_n 1, 1) := by decide +kernel
theorem d_Law_law_636 : decode code 636 = .ok (.aload_n 3, 1) := by decide +kernel
theorem d_Law_law_637 : decode code 637 = .ok (.invokestatic 103, 3) := by decide +kernel
theorem k_1099 : (Jvm.Cond.methodLink "PackageBookLaw" (103 : Nat) ({ cls := "PackageBookLaw", name := "press", desc := "(LPackageBook;[J)I" } : Jvm.MethodName)) ∈ uW := uW_of 1099 (by decide +kernel) (by decide +kernel)
theorem k_1101 : (Jvm.Cond.codeWith ({ cls := "PackageBookLaw", name := "press", desc := "(LPackageBook;[J)I" } : Jvm.MethodName) method_10_code (3 : Nat) (Option.some Jvm.ClassFile.FieldType.int) [((0 : Nat), (8 : Nat), (11 : Nat), (15 : Nat))]) ∈ uW := uW_of 1101 (by decide +kernel) (by decide +kernel)
theorem k_1100 : (Jvm.Cond.static ({ cls := "PackageBookLaw", name := "press", desc := "(LPackageBook;[J)I" } : Jvm.MethodName)) ∈ uW := uW_of 1100 (by decide +kernel) (by decide +kernel)
theorem d_Law_law_640 : decode code 640 = .ok (.istore 5, 2) := by decide +kernel
theorem d_Law_law_642 : decode code 642 = .ok (.aload_n 2, 1) := by decide +kernel
theorem d_Law_law_643 : decode code 643 = .ok (.invokevirtual 106, 3) := by decide +kernel
theorem k_1374 : (Jvm.Cond.methodLink "PackageBookLaw" (106 : Nat) ({ cls := "PackageBookModel", name := "press", desc := "()I" } : Jvm.MethodName)) ∈ uW := uW_of 1374 (by decide +kernel) (by decide +kernel)
theorem k_1377 : (Jvm.Cond.code ({ cls := "PackageBookModel", name := "press", desc := "()I" } : Jvm.MethodName) prog_12_method_30_code (3 : Nat) (Option.some Jvm.ClassFile.FieldType.int)) ∈ uW := uW_of 1377 (by decide +kernel) (by decide +kernel)
theorem k_1375 : (Jvm.Cond.instanceMethod ({ cls := "PackageBookModel", name := "press", desc := "()I" } : Jvm.MethodName)) ∈ uW := uW_of 1375 (by decide +kernel) (by decide +kernel)
theorem k_1376 : (Jvm.Cond.selects "PackageBookModel" ({ cls := "PackageBookModel", name := "press", desc := "()I" } : Jvm.MethodName) ({ cls := "PackageBookModel", name := "press", desc := "()I" } : Jvm.MethodName)) ∈ uW := uW_of 1376 (by decide +kernel) (by decide +kernel)
theorem d_Law_law_646 : decode code 646 = .ok (.istore 6, 2) := by decide +kernel
theorem d_Law_law_648 : decode code 648 = .ok (.aload_n 2, 1) := by decide +kernel
theorem d_Law_law_649 : decode code 649 = .ok (.invokevirtual 67, 3) := by decide +kernel
theorem d_Law_law_652 : decode code 652 = .ok (.iload 5, 2) := by decide +kernel
theorem d_Law_law_654 : decode code 654 = .ok (.if_icmp .eq 5, 3) := by decide +kernel
theorem d_Law_law_659 : decode code 659 = .ok (.iload 5, 2) := by decide +kernel
theorem d_Law_law_661 : decode code 661 = .ok (.ifCond .ne 15, 3) := by decide +kernel
theorem d_Law_law_664 : decode code 664 = .ok (.aload_n 3, 1) := by decide +kernel
theorem d_Law_law_665 : decode code 665 = .ok (.iconst 0, 1) := by decide +kernel
theorem d_Law_law_666 : decode code 666 = .ok (.laload, 1) := by decide +kernel
theorem d_Law_law_667 : decode code 667 = .ok (.iload 6, 2) := by decide +kernel
theorem d_Law_law_669 : decode code 669 = .ok (.i2l, 1) := by decide +kernel
theorem d_Law_law_670 : decode code 670 = .ok (.lcmp, 1) := by decide +kernel
theorem d_Law_law_671 : decode code 671 = .ok (.ifCond .eq 5, 3) := by decide +kernel
theorem d_Law_law_676 : decode code 676 = .ok (.goto 290, 3) := by decide +kernel
set_option maxRecDepth 100000 in
set_option maxHeartbeats 4000000 in
theorem law_10 {l : Launch} (hl : l.stackTraces = false) (G : pb_G) {M : pb_M} {b : Nat} {xs : Nat → Int32} (hQ : law_Q M b) (hX : va_X b 4 xs (pm_s M) (pm_s M).heap) (hbl : b < (pm_s M).heap.size) (hbA : ¬ pm_A M b) (x : Nat) (ta : Nat) (tb : Nat) (ca : Nat) (cb : Nat) (ps : Nat) (pp : Nat) (pb : Nat) (pl : Nat) (pe : Nat) (pr : Nat) (ex_ : Nat) (mk : Nat) (rd : Nat) (mu : Nat) (fi : Nat) (go : Nat) (sp : Nat) (ss : Nat) (m : Nat) (m_rels : Nat) (m_openRels : Nat) (m_closeRels : Nat) (m_openRel : Nat) (m_closeRel : Nat) (m_comment : Nat) (m_ends : Nat) (m_order : Nat) (m_tape : Nat) (m_count : Nat) (m_nameSize : Nat) (m_names : Nat) (m_size : Nat) (m_data : Nat) (m_looked : Nat) (m_file : Nat) (m_directory : Nat) (m_out : Nat) (m_row : Nat) (m_made : Nat) (m_length : Nat) (m_pressed : Nat) (m_mark : Nat) (m_idSize : Nat) (m_ids : Nat) (m_goalSize : Nat) (m_goals : Nat) (m_value : Nat) (m_faults : Nat) (m_reached : Nat) (o : Nat) : pb_P l G M i_Law_law 635 [(4, .int 0), (3, .ref o), (2, .ref m), (1, .ref x), (0, .ref b)] [] [(x, .inr (9, [.ref ta, .ref ca, .ref ps, .ref ex_, .ref mk, .ref rd, .ref mu, .ref fi, .ref go, .ref sp, .ref ss])), (ta, .inr (0, [.ref tb, .int 0])), (ps, .inr (4, [.ref pp, .ref pl, .ref pe, .ref pr, .int 0, .int 0, .int 0, .int 0, .int 0])), (pp, .inr (0, [.ref pb, .int 0])), (pb, .inl (G.2.1, 4502, .inl (fun _ => 0))), (pl, .inl (G.2.2.1, 1024, .inl (fun _ => 0))), (ca, .inr (0, [.ref cb, .int 0])), (cb, .inl (G.2.1, 4502, .inl (fun _ => 0))), (m, .inr (10, [.ref m_rels, .ref m_openRels, .ref m_closeRels, .ref m_openRel, .ref m_closeRel, .ref m_comment, .ref m_ends, .ref m_order, .int 0, .int 0, .ref m_tape, .ref m_count, .ref m_nameSize, .ref m_names, .ref m_size, .ref m_data, .int 0, .ref m_looked, .int 0, .ref m_file, .int 0, .ref m_directory, .int 0, .ref m_out, .int 0, .ref m_row, .int 0, .int 0, .int 0, .int 0, .ref m_made, .ref m_length, .int 0, .int 0, .int 0, .int 0, .int 0, .ref m_pressed, .int 0, .int 0, .int 0, .ref m_mark, .int 0, .ref m_idSize, .ref m_ids, .ref m_goalSize, .ref m_goals, .int 0, .ref m_value, .int 0, .ref m_faults, .ref m_reached])), (m_pressed, .inl (G.2.1, 5000, .inl (fun _ => 0))), (m_out, .inl (G.2.1, 5000, .inl (fun _ => 0))), (o, .inl (G.2.2.2.1, 1, .inr (.inl (fun _ => 0))))] 90 333577 := by
  have z0 : (0 : Int32).toInt = 0 := by decide
  have z1 : (1 : Int32).toInt = 1 := by decide
  have z2 : (0 : Int32).toNatClampNeg = 0 := by decide
  refine pb_aload_n (pc := 635) d_Law_law_635 3 rfl rfl ?_
  refine pb_aload_n (pc := 636) d_Law_law_636 1 rfl rfl ?_
  refine pb_callSW (pc := 637) (nA := 2) (rest := []) (wr := [(m, .inr (10, [.ref m_rels, .ref m_openRels, .ref m_closeRels, .ref m_openRel, .ref m_closeRel, .ref m_comment, .ref m_ends, .ref m_order, .int 0, .int 0, .ref m_tape, .ref m_count, .ref m_nameSize, .ref m_names, .ref m_size, .ref m_data, .int 0, .ref m_looked, .int 0, .ref m_file, .int 0, .ref m_directory, .int 0, .ref m_out, .int 0, .ref m_row, .int 0, .int 0, .int 0, .int 0, .ref m_made, .ref m_length, .int 0, .int 0, .int 0, .int 0, .int 0, .ref m_pressed, .int 0, .int 0, .int 0, .ref m_mark, .int 0, .ref m_idSize, .ref m_ids, .ref m_goalSize, .ref m_goals, .int 0, .ref m_value, .int 0, .ref m_faults, .ref m_reached])), (m_pressed, .inl (G.2.1, 5000, .inl (fun _ => 0))), (m_out, .inl (G.2.1, 5000, .inl (fun _ => 0)))]) d_Law_law_637 (c_Law_press hl G x ta ca ps ex_ mk rd mu fi go sp ss tb pp pl pe pr pb cb (fun _ => 0) (fun _ => 0) (fun _ => 0) 0 0 o (fun _ => 0) (by exact sb_fit0)) [0, 1, 2, 3, 4, 5, 6, 7, 11] [8, 9, 10] (by decide) rfl rfl rfl (by decide) (by decide) k_1101 rfl k_117 k_1099 k_1100 (by decide +kernel) (by decide) rfl rfl (Nat.le_of_ble_eq_true rfl) (by decide) (fun v9 u2 h1 => ?_)
  obtain ⟨f_3, rfl⟩ : ∃ z9, z9 = u2 := ⟨_, rfl⟩
  obtain ⟨eh1, h1⟩ := h1
  have eh1 : v9 = some (.int 0) := eh1
  subst eh1
  have h4 : f_3 0 = 2 := h1
  refine pb_eq (pc' := 640) (lo' := [(4, .int 0), (3, .ref o), (2, .ref m), (1, .ref x), (0, .ref b)]) (rest' := [.int 0]) (ws' := [(m, .inr (10, [.ref m_rels, .ref m_openRels, .ref m_closeRels, .ref m_openRel, .ref m_closeRel, .ref m_comment, .ref m_ends, .ref m_order, .int 0, .int 0, .ref m_tape, .ref m_count, .ref m_nameSize, .ref m_names, .ref m_size, .ref m_data, .int 0, .ref m_looked, .int 0, .ref m_file, .int 0, .ref m_directory, .int 0, .ref m_out, .int 0, .ref m_row, .int 0, .int 0, .int 0, .int 0, .ref m_made, .ref m_length, .int 0, .int 0, .int 0, .int 0, .int 0, .ref m_pressed, .int 0, .int 0, .int 0, .ref m_mark, .int 0, .ref m_idSize, .ref m_ids, .ref m_goalSize, .ref m_goals, .int 0, .ref m_value, .int 0, .ref m_faults, .ref m_reached])), (m_pressed, .inl (G.2.1, 5000, .inl (fun _ => 0))), (m_out, .inl (G.2.1, 5000, .inl (fun _ => 0))), (o, .inl (G.2.2.2.1, 1, .inr (.inl f_3)))]) ?_
  refine pb_istore (pc := 640) (lo' := [(5, .int 0), (4, .int 0), (3, .ref o), (2, .ref m), (1, .ref x), (0, .ref b)]) d_Law_law_640 (by decide) rfl ?_
  refine pb_aload_n (pc := 642) d_Law_law_642 3 rfl rfl ?_
  refine pb_callV (pc := 643) (qb := 0) (ci := 10) (nA := 0) (rest := []) (wr := [(o, .inl (G.2.2.2.1, 1, .inr (.inl f_3)))]) d_Law_law_643 (c_Mod_press hl G m m_rels m_openRels m_closeRels m_openRel m_closeRel m_comment m_ends m_order m_tape m_count m_nameSize m_names m_size m_data m_looked m_file m_directory m_out m_row m_made m_length m_pressed m_mark m_idSize m_ids m_goalSize m_goals m_value m_faults m_reached (fun _ => 0) (fun _ => 0)) rfl rfl [0, 1, 2] [3] (by decide) rfl rfl rfl (by decide) (by decide) k_1377 rfl k_128 k_1374 k_1375 k_1376 (by decide +kernel) (by decide) rfl rfl (Nat.le_of_ble_eq_true rfl) (by decide) (fun v9 u6 h5 => ?_)
  obtain ⟨hb_7, rfl⟩ : ∃ z9, z9 = u6 := ⟨_, rfl⟩
  have eh5 := h5
  have eh5 : v9 = some (.int 2) := eh5
  subst eh5
  refine pb_eq (pc' := 646) (lo' := [(5, .int 0), (4, .int 0), (3, .ref o), (2, .ref m), (1, .ref x), (0, .ref b)]) (rest' := [.int 2]) (ws' := [(o, .inl (G.2.2.2.1, 1, .inr (.inl f_3))), (m, .inr (10, [.ref m_rels, .ref m_openRels, .ref m_closeRels, .ref m_openRel, .ref m_closeRel, .ref m_comment, .ref m_ends, .ref m_order, .int 0, .int 0, .ref m_tape, .ref m_count, .ref m_nameSize, .ref m_names, .ref m_size, .ref m_data, .int 0, .ref m_looked, .int 0, .ref m_file, .int 0, .ref m_directory, .int 2, .ref m_out, .int 0, .ref m_row, .int 0, .int 0, .int 0, .int 0, .ref m_made, .ref m_length, .int 0, .int 0, .int hb_7, .int 0, .int 2, .ref m_pressed, .int 0, .int 0, .int 0, .ref m_mark, .int 0, .ref m_idSize, .ref m_ids, .ref m_goalSize, .ref m_goals, .int 0, .ref m_value, .int 0, .ref m_faults, .ref m_reached]))]) ?_
  refine pb_istore (pc := 646) (lo' := [(6, .int 2), (5, .int 0), (4, .int 0), (3, .ref o), (2, .ref m), (1, .ref x), (0, .ref b)]) d_Law_law_646 (by decide) rfl ?_
  refine pb_aload_n (pc := 648) d_Law_law_648 4 rfl rfl ?_
  refine pb_callV (pc := 649) (qb := 1) (ci := 10) (nA := 0) (rest := []) (wr := [(o, .inl (G.2.2.2.1, 1, .inr (.inl f_3)))]) d_Law_law_649 (c_Mod_thrown hl G m m_rels m_openRels m_closeRels m_openRel m_closeRel m_comment m_ends m_order m_tape m_count m_nameSize m_names m_size m_data m_looked m_file m_directory m_out m_row m_made m_length m_pressed m_mark m_idSize m_ids m_goalSize m_goals m_value m_faults m_reached 0 0 0 0 0 2 0 0 0 0 0 0 0 hb_7 0 2 0 0 0 0 0 0) rfl rfl [1] [0] (by decide) rfl rfl rfl (by decide) (by decide) k_1307 rfl k_128 k_1304 k_1305 k_1306 (by decide +kernel) (by decide) rfl rfl (Nat.le_of_ble_eq_true rfl) (by decide) (fun v9 u9 h8 => ?_)
  have eh8 := h8
  have eh8 : v9 = some (.int 0) := eh8
  subst eh8
  refine pb_eq (pc' := 652) (lo' := [(6, .int 2), (5, .int 0), (4, .int 0), (3, .ref o), (2, .ref m), (1, .ref x), (0, .ref b)]) (rest' := [.int 0]) (ws' := [(o, .inl (G.2.2.2.1, 1, .inr (.inl f_3)))]) ?_
  refine pb_iload (pc := 652) d_Law_law_652 1 rfl ?_
  refine pb_icmp_eq (pc := 654) (tgt := 659) d_Law_law_654 (by decide) (fun _ => ?_) (fun h9 => absurd h9 (by decide))
  refine pb_iload (pc := 659) d_Law_law_659 1 rfl ?_
  refine pb_if_ne (pc := 661) (tgt := 676) d_Law_law_661 (by decide) (fun h9 => absurd h9 (by decide)) (fun _ => ?_)
  refine pb_aload_n (pc := 664) d_Law_law_664 3 rfl rfl ?_
  refine pb_iconst (pc := 665) (v := 0) d_Law_law_665 (by decide) ?_
  refine pb_lald (pc := 666) d_Law_law_666 0 rfl (by unfold vp_in; decide) ?_
  refine pb_topl (fun j12 ej12 => ?_)
  refine pb_iload (pc := 667) d_Law_law_667 0 rfl ?_
  refine pb_i2l (pc := 669) (v := 2) d_Law_law_669 (by decide) ?_
  refine pb_lcmp (pc := 670) d_Law_law_670 ?_
  refine pb_asi (y := 0) (lg_cmp0.mpr (by rw [ej12, z2, h4])) ?_
  refine pb_if_eq (pc := 671) (tgt := 676) d_Law_law_671 (by decide) (fun _ => ?_) (fun h9 => absurd h9 (by decide))
  refine pb_goto (pc := 676) (tgt := 966) d_Law_law_676 (by decide) ?_
  refine pb_re (ws' := []) (lo' := [(4, .int 0), (0, .ref b)]) [] [2, 6] (by decide) rfl rfl rfl ?_
  exact law_tail hQ hX hbl hbA (by decide) (by decide)
