theorem d_Law_law_280 : decode code 280 = .ok (.aload_n 1, 1) := by decide +kernel
theorem d_Law_law_281 : decode code 281 = .ok (.aload_n 0, 1) := by decide +kernel
theorem d_Law_law_282 : decode code 282 = .ok (.iload 4, 2) := by decide +kernel
theorem d_Law_law_284 : decode code 284 = .ok (.iconst 1, 1) := by decide +kernel
theorem d_Law_law_285 : decode code 285 = .ok (.iadd, 1) := by decide +kernel
theorem d_Law_law_286 : decode code 286 = .ok (.iaload, 1) := by decide +kernel
theorem d_Law_law_287 : decode code 287 = .ok (.aload_n 3, 1) := by decide +kernel
theorem d_Law_law_288 : decode code 288 = .ok (.invokestatic 74, 3) := by decide +kernel
theorem k_1033 : (Jvm.Cond.methodLink "PackageBookLaw" (74 : Nat) ({ cls := "PackageBookLaw", name := "add", desc := "(LPackageBook;I[J)I" } : Jvm.MethodName)) ∈ uW := uW_of 1033 (by decide +kernel) (by decide +kernel)
theorem k_117 : (Jvm.Cond.initialized "PackageBookLaw") ∈ uW := uW_of 117 (by decide +kernel) (by decide +kernel)
theorem k_1035 : (Jvm.Cond.codeWith ({ cls := "PackageBookLaw", name := "add", desc := "(LPackageBook;I[J)I" } : Jvm.MethodName) method_5_code (4 : Nat) (Option.some Jvm.ClassFile.FieldType.int) [((0 : Nat), (9 : Nat), (12 : Nat), (13 : Nat)), ((0 : Nat), (9 : Nat), (15 : Nat), (15 : Nat))]) ∈ uW := uW_of 1035 (by decide +kernel) (by decide +kernel)
theorem k_1034 : (Jvm.Cond.static ({ cls := "PackageBookLaw", name := "add", desc := "(LPackageBook;I[J)I" } : Jvm.MethodName)) ∈ uW := uW_of 1034 (by decide +kernel) (by decide +kernel)
theorem d_Law_law_291 : decode code 291 = .ok (.istore 5, 2) := by decide +kernel
theorem d_Law_law_293 : decode code 293 = .ok (.aload_n 2, 1) := by decide +kernel
theorem d_Law_law_294 : decode code 294 = .ok (.aload_n 0, 1) := by decide +kernel
theorem d_Law_law_295 : decode code 295 = .ok (.iload 4, 2) := by decide +kernel
theorem d_Law_law_297 : decode code 297 = .ok (.iconst 1, 1) := by decide +kernel
theorem d_Law_law_298 : decode code 298 = .ok (.iadd, 1) := by decide +kernel
theorem d_Law_law_299 : decode code 299 = .ok (.iaload, 1) := by decide +kernel
theorem d_Law_law_300 : decode code 300 = .ok (.invokevirtual 76, 3) := by decide +kernel
theorem k_1316 : (Jvm.Cond.methodLink "PackageBookLaw" (76 : Nat) ({ cls := "PackageBookModel", name := "add", desc := "(I)I" } : Jvm.MethodName)) ∈ uW := uW_of 1316 (by decide +kernel) (by decide +kernel)
theorem k_1319 : (Jvm.Cond.code ({ cls := "PackageBookModel", name := "add", desc := "(I)I" } : Jvm.MethodName) prog_12_method_14_code (4 : Nat) (Option.some Jvm.ClassFile.FieldType.int)) ∈ uW := uW_of 1319 (by decide +kernel) (by decide +kernel)
theorem k_1317 : (Jvm.Cond.instanceMethod ({ cls := "PackageBookModel", name := "add", desc := "(I)I" } : Jvm.MethodName)) ∈ uW := uW_of 1317 (by decide +kernel) (by decide +kernel)
theorem k_1318 : (Jvm.Cond.selects "PackageBookModel" ({ cls := "PackageBookModel", name := "add", desc := "(I)I" } : Jvm.MethodName) ({ cls := "PackageBookModel", name := "add", desc := "(I)I" } : Jvm.MethodName)) ∈ uW := uW_of 1318 (by decide +kernel) (by decide +kernel)
theorem d_Law_law_303 : decode code 303 = .ok (.istore 6, 2) := by decide +kernel
theorem d_Law_law_305 : decode code 305 = .ok (.aload_n 2, 1) := by decide +kernel
theorem d_Law_law_306 : decode code 306 = .ok (.invokevirtual 67, 3) := by decide +kernel
theorem k_1304 : (Jvm.Cond.methodLink "PackageBookLaw" (67 : Nat) ({ cls := "PackageBookModel", name := "thrown", desc := "()I" } : Jvm.MethodName)) ∈ uW := uW_of 1304 (by decide +kernel) (by decide +kernel)
theorem k_1307 : (Jvm.Cond.code ({ cls := "PackageBookModel", name := "thrown", desc := "()I" } : Jvm.MethodName) prog_12_method_2_code (1 : Nat) (Option.some Jvm.ClassFile.FieldType.int)) ∈ uW := uW_of 1307 (by decide +kernel) (by decide +kernel)
theorem k_1305 : (Jvm.Cond.instanceMethod ({ cls := "PackageBookModel", name := "thrown", desc := "()I" } : Jvm.MethodName)) ∈ uW := uW_of 1305 (by decide +kernel) (by decide +kernel)
theorem k_1306 : (Jvm.Cond.selects "PackageBookModel" ({ cls := "PackageBookModel", name := "thrown", desc := "()I" } : Jvm.MethodName) ({ cls := "PackageBookModel", name := "thrown", desc := "()I" } : Jvm.MethodName)) ∈ uW := uW_of 1306 (by decide +kernel) (by decide +kernel)
theorem d_Law_law_309 : decode code 309 = .ok (.iload 5, 2) := by decide +kernel
theorem d_Law_law_311 : decode code 311 = .ok (.if_icmp .eq 5, 3) := by decide +kernel
theorem d_Law_law_316 : decode code 316 = .ok (.iload 5, 2) := by decide +kernel
theorem d_Law_law_318 : decode code 318 = .ok (.ifCond .ne 15, 3) := by decide +kernel
theorem d_Law_law_333 : decode code 333 = .ok (.goto 633, 3) := by decide +kernel
set_option maxRecDepth 100000 in
set_option maxHeartbeats 4000000 in
theorem law_2 {l : Launch} (hl : l.stackTraces = false) (G : pb_G) {M : pb_M} {b : Nat} {xs : Nat → Int32} (hQ : law_Q M b) (hX : va_X b 4 xs (pm_s M) (pm_s M).heap) (hbl : b < (pm_s M).heap.size) (hbA : ¬ pm_A M b) (x : Nat) (ta : Nat) (tb : Nat) (ca : Nat) (ps : Nat) (ex_ : Nat) (mk : Nat) (rd : Nat) (mu : Nat) (fi : Nat) (go : Nat) (sp : Nat) (ss : Nat) (m : Nat) (m_rels : Nat) (m_openRels : Nat) (m_closeRels : Nat) (m_openRel : Nat) (m_closeRel : Nat) (m_comment : Nat) (m_ends : Nat) (m_order : Nat) (m_tape : Nat) (m_count : Nat) (m_nameSize : Nat) (m_names : Nat) (m_size : Nat) (m_data : Nat) (m_looked : Nat) (m_file : Nat) (m_directory : Nat) (m_out : Nat) (m_row : Nat) (m_made : Nat) (m_length : Nat) (m_pressed : Nat) (m_mark : Nat) (m_idSize : Nat) (m_ids : Nat) (m_goalSize : Nat) (m_goals : Nat) (m_value : Nat) (m_faults : Nat) (m_reached : Nat) (o : Nat) : pb_P l G M i_Law_law 280 [(4, .int 0), (3, .ref o), (2, .ref m), (1, .ref x), (0, .ref b)] [] [(x, .inr (9, [.ref ta, .ref ca, .ref ps, .ref ex_, .ref mk, .ref rd, .ref mu, .ref fi, .ref go, .ref sp, .ref ss])), (ta, .inr (0, [.ref tb, .int 0])), (m, .inr (10, [.ref m_rels, .ref m_openRels, .ref m_closeRels, .ref m_openRel, .ref m_closeRel, .ref m_comment, .ref m_ends, .ref m_order, .int 0, .int 0, .ref m_tape, .ref m_count, .ref m_nameSize, .ref m_names, .ref m_size, .ref m_data, .int 0, .ref m_looked, .int 0, .ref m_file, .int 0, .ref m_directory, .int 0, .ref m_out, .int 0, .ref m_row, .int 0, .int 0, .int 0, .int 0, .ref m_made, .ref m_length, .int 0, .int 0, .int 0, .int 0, .int 0, .ref m_pressed, .int 0, .int 0, .int 0, .ref m_mark, .int 0, .ref m_idSize, .ref m_ids, .ref m_goalSize, .ref m_goals, .int 0, .ref m_value, .int 0, .ref m_faults, .ref m_reached])), (o, .inl (G.2.2.2.1, 1, .inr (.inl (fun _ => 0))))] 90 333577 := by
  have z0 : (0 : Int32).toInt = 0 := by decide
  have z1 : (1 : Int32).toInt = 1 := by decide
  have z2 : (0 : Int32).toNatClampNeg = 0 := by decide
  refine pb_aload_n (pc := 280) d_Law_law_280 3 rfl rfl ?_
  refine pb_aload_n (pc := 281) d_Law_law_281 4 rfl rfl ?_
  refine pb_iload (pc := 282) d_Law_law_282 0 rfl ?_
  refine pb_iconst (pc := 284) (v := 1) d_Law_law_284 (by decide) ?_
  refine pb_iadd (pc := 285) d_Law_law_285 ?_
  refine pb_asi (y := 1) (by decide) ?_
  refine pb_sld (pc := 286) hX hbl hbA (by unfold vp_in; decide) d_Law_law_286 ?_
  refine pb_asi (y := xs 1) (congrArg xs (by decide)) ?_
  refine pb_aload_n (pc := 287) d_Law_law_287 1 rfl rfl ?_
  refine pb_callSW (pc := 288) (nA := 3) (rest := []) (wr := [(m, .inr (10, [.ref m_rels, .ref m_openRels, .ref m_closeRels, .ref m_openRel, .ref m_closeRel, .ref m_comment, .ref m_ends, .ref m_order, .int 0, .int 0, .ref m_tape, .ref m_count, .ref m_nameSize, .ref m_names, .ref m_size, .ref m_data, .int 0, .ref m_looked, .int 0, .ref m_file, .int 0, .ref m_directory, .int 0, .ref m_out, .int 0, .ref m_row, .int 0, .int 0, .int 0, .int 0, .ref m_made, .ref m_length, .int 0, .int 0, .int 0, .int 0, .int 0, .ref m_pressed, .int 0, .int 0, .int 0, .ref m_mark, .int 0, .ref m_idSize, .ref m_ids, .ref m_goalSize, .ref m_goals, .int 0, .ref m_value, .int 0, .ref m_faults, .ref m_reached]))]) d_Law_law_288 (c_Law_add hl G x ta ca ps ex_ mk rd mu fi go sp ss tb (xs 1) o (fun _ => 0)) [0, 1, 3] [2] (by decide) rfl rfl rfl (by decide) (by decide) k_1035 rfl k_117 k_1033 k_1034 (by decide +kernel) (by decide) rfl rfl (Nat.le_of_ble_eq_true rfl) (by decide) (fun v9 u2 h1 => ?_)
  have eh1 := h1
  have eh1 : v9 = some (.int 1) := eh1
  subst eh1
  refine pb_eq (pc' := 291) (lo' := [(4, .int 0), (3, .ref o), (2, .ref m), (1, .ref x), (0, .ref b)]) (rest' := [.int 1]) (ws' := [(m, .inr (10, [.ref m_rels, .ref m_openRels, .ref m_closeRels, .ref m_openRel, .ref m_closeRel, .ref m_comment, .ref m_ends, .ref m_order, .int 0, .int 0, .ref m_tape, .ref m_count, .ref m_nameSize, .ref m_names, .ref m_size, .ref m_data, .int 0, .ref m_looked, .int 0, .ref m_file, .int 0, .ref m_directory, .int 0, .ref m_out, .int 0, .ref m_row, .int 0, .int 0, .int 0, .int 0, .ref m_made, .ref m_length, .int 0, .int 0, .int 0, .int 0, .int 0, .ref m_pressed, .int 0, .int 0, .int 0, .ref m_mark, .int 0, .ref m_idSize, .ref m_ids, .ref m_goalSize, .ref m_goals, .int 0, .ref m_value, .int 0, .ref m_faults, .ref m_reached])), (o, .inl (G.2.2.2.1, 1, .inr (.inl (fun _ => 0))))]) ?_
  refine pb_istore (pc := 291) (lo' := [(5, .int 1), (4, .int 0), (3, .ref o), (2, .ref m), (1, .ref x), (0, .ref b)]) d_Law_law_291 (by decide) rfl ?_
  refine pb_aload_n (pc := 293) d_Law_law_293 3 rfl rfl ?_
  refine pb_aload_n (pc := 294) d_Law_law_294 5 rfl rfl ?_
  refine pb_iload (pc := 295) d_Law_law_295 1 rfl ?_
  refine pb_iconst (pc := 297) (v := 1) d_Law_law_297 (by decide) ?_
  refine pb_iadd (pc := 298) d_Law_law_298 ?_
  refine pb_asi (y := 1) (by decide) ?_
  refine pb_sld (pc := 299) hX hbl hbA (by unfold vp_in; decide) d_Law_law_299 ?_
  refine pb_asi (y := xs 1) (congrArg xs (by decide)) ?_
  refine pb_callV (pc := 300) (qb := 0) (ci := 10) (nA := 1) (rest := []) (wr := [(o, .inl (G.2.2.2.1, 1, .inr (.inl (fun _ => 0))))]) d_Law_law_300 (c_Mod_add hl G m m_rels m_openRels m_closeRels m_openRel m_closeRel m_comment m_ends m_order m_tape m_count m_nameSize m_names m_size m_data m_looked m_file m_directory m_out m_row m_made m_length m_pressed m_mark m_idSize m_ids m_goalSize m_goals m_value m_faults m_reached (xs 1)) rfl rfl [0] [1] (by decide) rfl rfl rfl (by decide) (by decide) k_1319 rfl k_128 k_1316 k_1317 k_1318 (by decide +kernel) (by decide) rfl rfl (Nat.le_of_ble_eq_true rfl) (by decide) (fun v9 u4 h3 => ?_)
  have eh3 := h3
  have eh3 : v9 = some (.int 0) := eh3
  subst eh3
  refine pb_eq (pc' := 303) (lo' := [(5, .int 1), (4, .int 0), (3, .ref o), (2, .ref m), (1, .ref x), (0, .ref b)]) (rest' := [.int 0]) (ws' := [(o, .inl (G.2.2.2.1, 1, .inr (.inl (fun _ => 0)))), (m, .inr (10, [.ref m_rels, .ref m_openRels, .ref m_closeRels, .ref m_openRel, .ref m_closeRel, .ref m_comment, .ref m_ends, .ref m_order, .int 1, .int 0, .ref m_tape, .ref m_count, .ref m_nameSize, .ref m_names, .ref m_size, .ref m_data, .int 0, .ref m_looked, .int 0, .ref m_file, .int 0, .ref m_directory, .int 0, .ref m_out, .int 0, .ref m_row, .int 0, .int 0, .int 0, .int 0, .ref m_made, .ref m_length, .int 0, .int 0, .int 0, .int 0, .int 0, .ref m_pressed, .int 0, .int 0, .int 0, .ref m_mark, .int 0, .ref m_idSize, .ref m_ids, .ref m_goalSize, .ref m_goals, .int 0, .ref m_value, .int 0, .ref m_faults, .ref m_reached]))]) ?_
  refine pb_istore (pc := 303) (lo' := [(6, .int 0), (5, .int 1), (4, .int 0), (3, .ref o), (2, .ref m), (1, .ref x), (0, .ref b)]) d_Law_law_303 (by decide) rfl ?_
  refine pb_aload_n (pc := 305) d_Law_law_305 4 rfl rfl ?_
  refine pb_callV (pc := 306) (qb := 1) (ci := 10) (nA := 0) (rest := []) (wr := [(o, .inl (G.2.2.2.1, 1, .inr (.inl (fun _ => 0))))]) d_Law_law_306 (c_Mod_thrown hl G m m_rels m_openRels m_closeRels m_openRel m_closeRel m_comment m_ends m_order m_tape m_count m_nameSize m_names m_size m_data m_looked m_file m_directory m_out m_row m_made m_length m_pressed m_mark m_idSize m_ids m_goalSize m_goals m_value m_faults m_reached 1 0 0 0 0 0 0 0 0 0 0 0 0 0 0 0 0 0 0 0 0 0) rfl rfl [1] [0] (by decide) rfl rfl rfl (by decide) (by decide) k_1307 rfl k_128 k_1304 k_1305 k_1306 (by decide +kernel) (by decide) rfl rfl (Nat.le_of_ble_eq_true rfl) (by decide) (fun v9 u6 h5 => ?_)
  have eh5 := h5
  have eh5 : v9 = some (.int 1) := eh5
  subst eh5
  refine pb_eq (pc' := 309) (lo' := [(6, .int 0), (5, .int 1), (4, .int 0), (3, .ref o), (2, .ref m), (1, .ref x), (0, .ref b)]) (rest' := [.int 1]) (ws' := [(o, .inl (G.2.2.2.1, 1, .inr (.inl (fun _ => 0))))]) ?_
  refine pb_iload (pc := 309) d_Law_law_309 1 rfl ?_
  refine pb_icmp_eq (pc := 311) (tgt := 316) d_Law_law_311 (by decide) (fun _ => ?_) (fun h9 => absurd h9 (by decide))
  refine pb_iload (pc := 316) d_Law_law_316 1 rfl ?_
  refine pb_if_ne (pc := 318) (tgt := 333) d_Law_law_318 (by decide) (fun _ => ?_) (fun h9 => absurd h9 (by decide))
  refine pb_goto (pc := 333) (tgt := 966) d_Law_law_333 (by decide) ?_
  refine pb_re (ws' := []) (lo' := [(4, .int 0), (0, .ref b)]) [] [2, 6] (by decide) rfl rfl rfl ?_
  exact law_tail hQ hX hbl hbA (by decide) (by decide)

theorem d_Law_law_336 : decode code 336 = .ok (.aload_n 1, 1) := by decide +kernel
theorem d_Law_law_337 : decode code 337 = .ok (.invokevirtual 77, 3) := by decide +kernel
theorem k_451 : (Jvm.Cond.methodLink "PackageBookLaw" (77 : Nat) ({ cls := "PackageBook", name := "remove", desc := "()Z" } : Jvm.MethodName)) ∈ uW := uW_of 451 (by decide +kernel) (by decide +kernel)
theorem k_454 : (Jvm.Cond.code ({ cls := "PackageBook", name := "remove", desc := "()Z" } : Jvm.MethodName) prog_1_method_5_code (3 : Nat) (Option.some Jvm.ClassFile.FieldType.boolean)) ∈ uW := uW_of 454 (by decide +kernel) (by decide +kernel)
theorem k_452 : (Jvm.Cond.instanceMethod ({ cls := "PackageBook", name := "remove", desc := "()Z" } : Jvm.MethodName)) ∈ uW := uW_of 452 (by decide +kernel) (by decide +kernel)
theorem k_453 : (Jvm.Cond.selects "PackageBook" ({ cls := "PackageBook", name := "remove", desc := "()Z" } : Jvm.MethodName) ({ cls := "PackageBook", name := "remove", desc := "()Z" } : Jvm.MethodName)) ∈ uW := uW_of 453 (by decide +kernel) (by decide +kernel)
theorem d_Law_law_340 : decode code 340 = .ok (.aload_n 2, 1) := by decide +kernel
theorem d_Law_law_341 : decode code 341 = .ok (.invokevirtual 81, 3) := by decide +kernel
theorem k_1354 : (Jvm.Cond.methodLink "PackageBookLaw" (81 : Nat) ({ cls := "PackageBookModel", name := "remove", desc := "()Z" } : Jvm.MethodName)) ∈ uW := uW_of 1354 (by decide +kernel) (by decide +kernel)
theorem k_1357 : (Jvm.Cond.code ({ cls := "PackageBookModel", name := "remove", desc := "()Z" } : Jvm.MethodName) prog_12_method_15_code (3 : Nat) (Option.some Jvm.ClassFile.FieldType.boolean)) ∈ uW := uW_of 1357 (by decide +kernel) (by decide +kernel)
theorem k_1355 : (Jvm.Cond.instanceMethod ({ cls := "PackageBookModel", name := "remove", desc := "()Z" } : Jvm.MethodName)) ∈ uW := uW_of 1355 (by decide +kernel) (by decide +kernel)
theorem k_1356 : (Jvm.Cond.selects "PackageBookModel" ({ cls := "PackageBookModel", name := "remove", desc := "()Z" } : Jvm.MethodName) ({ cls := "PackageBookModel", name := "remove", desc := "()Z" } : Jvm.MethodName)) ∈ uW := uW_of 1356 (by decide +kernel) (by decide +kernel)
theorem d_Law_law_344 : decode code 344 = .ok (.if_icmp .eq 622, 3) := by decide +kernel
set_option maxRecDepth 100000 in
set_option maxHeartbeats 4000000 in
theorem law_3 {l : Launch} (hl : l.stackTraces = false) (G : pb_G) {M : pb_M} {b : Nat} {xs : Nat → Int32} (hQ : law_Q M b) (hX : va_X b 4 xs (pm_s M) (pm_s M).heap) (hbl : b < (pm_s M).heap.size) (hbA : ¬ pm_A M b) (x : Nat) (ta : Nat) (tb : Nat) (ca : Nat) (ps : Nat) (ex_ : Nat) (mk : Nat) (rd : Nat) (mu : Nat) (fi : Nat) (go : Nat) (sp : Nat) (spn : Nat) (spz : Nat) (spb : Nat) (spg : Nat) (ss : Nat) (m : Nat) (m_rels : Nat) (m_openRels : Nat) (m_closeRels : Nat) (m_openRel : Nat) (m_closeRel : Nat) (m_comment : Nat) (m_ends : Nat) (m_order : Nat) (m_tape : Nat) (m_count : Nat) (m_nameSize : Nat) (m_names : Nat) (m_size : Nat) (m_data : Nat) (m_looked : Nat) (m_file : Nat) (m_directory : Nat) (m_out : Nat) (m_row : Nat) (m_made : Nat) (m_length : Nat) (m_pressed : Nat) (m_mark : Nat) (m_idSize : Nat) (m_ids : Nat) (m_goalSize : Nat) (m_goals : Nat) (m_value : Nat) (m_faults : Nat) (m_reached : Nat) (o : Nat) : pb_P l G M i_Law_law 336 [(4, .int 0), (3, .ref o), (2, .ref m), (1, .ref x), (0, .ref b)] [] [(x, .inr (9, [.ref ta, .ref ca, .ref ps, .ref ex_, .ref mk, .ref rd, .ref mu, .ref fi, .ref go, .ref sp, .ref ss])), (ta, .inr (0, [.ref tb, .int 0])), (sp, .inr (3, [.ref spn, .ref spz, .ref spb, .ref spg, .int 0])), (m, .inr (10, [.ref m_rels, .ref m_openRels, .ref m_closeRels, .ref m_openRel, .ref m_closeRel, .ref m_comment, .ref m_ends, .ref m_order, .int 0, .int 0, .ref m_tape, .ref m_count, .ref m_nameSize, .ref m_names, .ref m_size, .ref m_data, .int 0, .ref m_looked, .int 0, .ref m_file, .int 0, .ref m_directory, .int 0, .ref m_out, .int 0, .ref m_row, .int 0, .int 0, .int 0, .int 0, .ref m_made, .ref m_length, .int 0, .int 0, .int 0, .int 0, .int 0, .ref m_pressed, .int 0, .int 0, .int 0, .ref m_mark, .int 0, .ref m_idSize, .ref m_ids, .ref m_goalSize, .ref m_goals, .int 0, .ref m_value, .int 0, .ref m_faults, .ref m_reached])), (m_count, .inl (G.2.2.1, 2, .inl (fun _ => 0)))] 90 333577 := by
  have z0 : (0 : Int32).toInt = 0 := by decide
  have z1 : (1 : Int32).toInt = 1 := by decide
  have z2 : (0 : Int32).toNatClampNeg = 0 := by decide
  refine pb_aload_n (pc := 336) d_Law_law_336 3 rfl rfl ?_
  refine pb_callV (pc := 337) (qb := 0) (ci := 9) (nA := 0) (rest := []) (wr := [(m, .inr (10, [.ref m_rels, .ref m_openRels, .ref m_closeRels, .ref m_openRel, .ref m_closeRel, .ref m_comment, .ref m_ends, .ref m_order, .int 0, .int 0, .ref m_tape, .ref m_count, .ref m_nameSize, .ref m_names, .ref m_size, .ref m_data, .int 0, .ref m_looked, .int 0, .ref m_file, .int 0, .ref m_directory, .int 0, .ref m_out, .int 0, .ref m_row, .int 0, .int 0, .int 0, .int 0, .ref m_made, .ref m_length, .int 0, .int 0, .int 0, .int 0, .int 0, .ref m_pressed, .int 0, .int 0, .int 0, .ref m_mark, .int 0, .ref m_idSize, .ref m_ids, .ref m_goalSize, .ref m_goals, .int 0, .ref m_value, .int 0, .ref m_faults, .ref m_reached])), (m_count, .inl (G.2.2.1, 2, .inl (fun _ => 0)))]) d_Law_law_337 (c_Book_remove hl G x ta ca ps ex_ mk rd mu fi go sp ss tb spn spz spb spg) rfl rfl [0, 1, 2] [3, 4] (by decide) rfl rfl rfl (by decide) (by decide) k_454 rfl k_118 k_451 k_452 k_453 (by decide +kernel) (by decide) rfl rfl (Nat.le_of_ble_eq_true rfl) (by decide) (fun v9 u2 h1 => ?_)
  have eh1 := h1
  have eh1 : v9 = some (.int 0) := eh1
  subst eh1
  refine pb_eq (pc' := 340) (lo' := [(4, .int 0), (3, .ref o), (2, .ref m), (1, .ref x), (0, .ref b)]) (rest' := [.int 0]) (ws' := [(m, .inr (10, [.ref m_rels, .ref m_openRels, .ref m_closeRels, .ref m_openRel, .ref m_closeRel, .ref m_comment, .ref m_ends, .ref m_order, .int 0, .int 0, .ref m_tape, .ref m_count, .ref m_nameSize, .ref m_names, .ref m_size, .ref m_data, .int 0, .ref m_looked, .int 0, .ref m_file, .int 0, .ref m_directory, .int 0, .ref m_out, .int 0, .ref m_row, .int 0, .int 0, .int 0, .int 0, .ref m_made, .ref m_length, .int 0, .int 0, .int 0, .int 0, .int 0, .ref m_pressed, .int 0, .int 0, .int 0, .ref m_mark, .int 0, .ref m_idSize, .ref m_ids, .ref m_goalSize, .ref m_goals, .int 0, .ref m_value, .int 0, .ref m_faults, .ref m_reached])), (m_count, .inl (G.2.2.1, 2, .inl (fun _ => 0)))]) ?_
  refine pb_aload_n (pc := 340) d_Law_law_340 2 rfl rfl ?_
  refine pb_callV (pc := 341) (qb := 0) (ci := 10) (nA := 0) (rest := [.int 0]) (wr := []) d_Law_law_341 (c_Mod_remove hl G m m_rels m_openRels m_closeRels m_openRel m_closeRel m_comment m_ends m_order m_tape m_count m_nameSize m_names m_size m_data m_looked m_file m_directory m_out m_row m_made m_length m_pressed m_mark m_idSize m_ids m_goalSize m_goals m_value m_faults m_reached) rfl rfl [0, 1] [] (by decide) rfl rfl rfl (by decide) (by decide) k_1357 rfl k_128 k_1354 k_1355 k_1356 (by decide +kernel) (by decide) rfl rfl (Nat.le_of_ble_eq_true rfl) (by decide) (fun v9 u4 h3 => ?_)
  have eh3 := h3
  have eh3 : v9 = some (.int 0) := eh3
  subst eh3
  refine pb_eq (pc' := 344) (lo' := [(4, .int 0), (3, .ref o), (2, .ref m), (1, .ref x), (0, .ref b)]) (rest' := [.int 0, .int 0]) (ws' := []) ?_
  refine pb_icmp_eq (pc := 344) (tgt := 966) d_Law_law_344 (by decide) (fun _ => ?_) (fun h9 => absurd h9 (by decide))
  refine pb_re (ws' := []) (lo' := [(4, .int 0), (0, .ref b)]) [] [0, 4] (by decide) rfl rfl rfl ?_
  exact law_tail hQ hX hbl hbA (by decide) (by decide)

theorem d_Law_law_417 : decode code 417 = .ok (.aload_n 1, 1) := by decide +kernel
theorem d_Law_law_418 : decode code 418 = .ok (.aload_n 0, 1) := by decide +kernel
theorem d_Law_law_419 : decode code 419 = .ok (.iload 4, 2) := by decide +kernel
theorem d_Law_law_421 : decode code 421 = .ok (.iconst 1, 1) := by decide +kernel
theorem d_Law_law_422 : decode code 422 = .ok (.iadd, 1) := by decide +kernel
theorem d_Law_law_423 : decode code 423 = .ok (.iaload, 1) := by decide +kernel
theorem d_Law_law_424 : decode code 424 = .ok (.aload_n 0, 1) := by decide +kernel
theorem d_Law_law_425 : decode code 425 = .ok (.iload 4, 2) := by decide +kernel
theorem d_Law_law_427 : decode code 427 = .ok (.iconst 2, 1) := by decide +kernel
theorem d_Law_law_428 : decode code 428 = .ok (.iadd, 1) := by decide +kernel
theorem d_Law_law_429 : decode code 429 = .ok (.iaload, 1) := by decide +kernel
theorem d_Law_law_430 : decode code 430 = .ok (.aload_n 3, 1) := by decide +kernel
theorem d_Law_law_431 : decode code 431 = .ok (.invokestatic 86, 3) := by decide +kernel
theorem k_1072 : (Jvm.Cond.methodLink "PackageBookLaw" (86 : Nat) ({ cls := "PackageBookLaw", name := "byteOf", desc := "(LPackageBook;II[J)I" } : Jvm.MethodName)) ∈ uW := uW_of 1072 (by decide +kernel) (by decide +kernel)
theorem k_1074 : (Jvm.Cond.codeWith ({ cls := "PackageBookLaw", name := "byteOf", desc := "(LPackageBook;II[J)I" } : Jvm.MethodName) method_7_code (5 : Nat) (Option.some Jvm.ClassFile.FieldType.int) [((0 : Nat), (10 : Nat), (13 : Nat), (28 : Nat))]) ∈ uW := uW_of 1074 (by decide +kernel) (by decide +kernel)
theorem k_1073 : (Jvm.Cond.static ({ cls := "PackageBookLaw", name := "byteOf", desc := "(LPackageBook;II[J)I" } : Jvm.MethodName)) ∈ uW := uW_of 1073 (by decide +kernel) (by decide +kernel)
theorem d_Law_law_434 : decode code 434 = .ok (.istore 5, 2) := by decide +kernel
theorem d_Law_law_436 : decode code 436 = .ok (.aload_n 2, 1) := by decide +kernel
theorem d_Law_law_437 : decode code 437 = .ok (.aload_n 0, 1) := by decide +kernel
theorem d_Law_law_438 : decode code 438 = .ok (.iload 4, 2) := by decide +kernel
theorem d_Law_law_440 : decode code 440 = .ok (.iconst 1, 1) := by decide +kernel
theorem d_Law_law_441 : decode code 441 = .ok (.iadd, 1) := by decide +kernel
theorem d_Law_law_442 : decode code 442 = .ok (.iaload, 1) := by decide +kernel
theorem d_Law_law_443 : decode code 443 = .ok (.aload_n 0, 1) := by decide +kernel
theorem d_Law_law_444 : decode code 444 = .ok (.iload 4, 2) := by decide +kernel
theorem d_Law_law_446 : decode code 446 = .ok (.iconst 2, 1) := by decide +kernel
theorem d_Law_law_447 : decode code 447 = .ok (.iadd, 1) := by decide +kernel
theorem d_Law_law_448 : decode code 448 = .ok (.iaload, 1) := by decide +kernel
theorem d_Law_law_449 : decode code 449 = .ok (.invokevirtual 88, 3) := by decide +kernel
theorem k_1362 : (Jvm.Cond.methodLink "PackageBookLaw" (88 : Nat) ({ cls := "PackageBookModel", name := "byteOf", desc := "(II)I" } : Jvm.MethodName)) ∈ uW := uW_of 1362 (by decide +kernel) (by decide +kernel)
theorem k_1365 : (Jvm.Cond.code ({ cls := "PackageBookModel", name := "byteOf", desc := "(II)I" } : Jvm.MethodName) prog_12_method_17_code (3 : Nat) (Option.some Jvm.ClassFile.FieldType.int)) ∈ uW := uW_of 1365 (by decide +kernel) (by decide +kernel)
theorem k_1363 : (Jvm.Cond.instanceMethod ({ cls := "PackageBookModel", name := "byteOf", desc := "(II)I" } : Jvm.MethodName)) ∈ uW := uW_of 1363 (by decide +kernel) (by decide +kernel)
theorem k_1364 : (Jvm.Cond.selects "PackageBookModel" ({ cls := "PackageBookModel", name := "byteOf", desc := "(II)I" } : Jvm.MethodName) ({ cls := "PackageBookModel", name := "byteOf", desc := "(II)I" } : Jvm.MethodName)) ∈ uW := uW_of 1364 (by decide +kernel) (by decide +kernel)
theorem d_Law_law_452 : decode code 452 = .ok (.istore 6, 2) := by decide +kernel
theorem d_Law_law_454 : decode code 454 = .ok (.aload_n 2, 1) := by decide +kernel
theorem d_Law_law_455 : decode code 455 = .ok (.invokevirtual 67, 3) := by decide +kernel
theorem d_Law_law_458 : decode code 458 = .ok (.iload 5, 2) := by decide +kernel
theorem d_Law_law_460 : decode code 460 = .ok (.if_icmp .eq 5, 3) := by decide +kernel
theorem d_Law_law_465 : decode code 465 = .ok (.iload 5, 2) := by decide +kernel
theorem d_Law_law_467 : decode code 467 = .ok (.ifCond .ne 15, 3) := by decide +kernel
theorem d_Law_law_482 : decode code 482 = .ok (.goto 484, 3) := by decide +kernel
set_option maxRecDepth 100000 in
set_option maxHeartbeats 4000000 in
theorem law_5 {l : Launch} (hl : l.stackTraces = false) (G : pb_G) {M : pb_M} {b : Nat} {xs : Nat → Int32} (hQ : law_Q M b) (hX : va_X b 4 xs (pm_s M) (pm_s M).heap) (hbl : b < (pm_s M).heap.size) (hbA : ¬ pm_A M b) (x : Nat) (ta : Nat) (ca : Nat) (ps : Nat) (ex_ : Nat) (mk : Nat) (rd : Nat) (mu : Nat) (fi : Nat) (go : Nat) (sp : Nat) (spn : Nat) (spz : Nat) (spb : Nat) (spg : Nat) (ss : Nat) (m : Nat) (m_rels : Nat) (m_openRels : Nat) (m_closeRels : Nat) (m_openRel : Nat) (m_closeRel : Nat) (m_comment : Nat) (m_ends : Nat) (m_order : Nat) (m_tape : Nat) (m_count : Nat) (m_nameSize : Nat) (m_names : Nat) (m_size : Nat) (m_data : Nat) (m_looked : Nat) (m_file : Nat) (m_directory : Nat) (m_out : Nat) (m_row : Nat) (m_made : Nat) (m_length : Nat) (m_pressed : Nat) (m_mark : Nat) (m_idSize : Nat) (m_ids : Nat) (m_goalSize : Nat) (m_goals : Nat) (m_value : Nat) (m_faults : Nat) (m_reached : Nat) (o : Nat) : pb_P l G M i_Law_law 417 [(4, .int 0), (3, .ref o), (2, .ref m), (1, .ref x), (0, .ref b)] [] [(x, .inr (9, [.ref ta, .ref ca, .ref ps, .ref ex_, .ref mk, .ref rd, .ref mu, .ref fi, .ref go, .ref sp, .ref ss])), (sp, .inr (3, [.ref spn, .ref spz, .ref spb, .ref spg, .int 0])), (m, .inr (10, [.ref m_rels, .ref m_openRels, .ref m_closeRels, .ref m_openRel, .ref m_closeRel, .ref m_comment, .ref m_ends, .ref m_order, .int 0, .int 0, .ref m_tape, .ref m_count, .ref m_nameSize, .ref m_names, .ref m_size, .ref m_data, .int 0, .ref m_looked, .int 0, .ref m_file, .int 0, .ref m_directory, .int 0, .ref m_out, .int 0, .ref m_row, .int 0, .int 0, .int 0, .int 0, .ref m_made, .ref m_length, .int 0, .int 0, .int 0, .int 0, .int 0, .ref m_pressed, .int 0, .int 0, .int 0, .ref m_mark, .int 0, .ref m_idSize, .ref m_ids, .ref m_goalSize, .ref m_goals, .int 0, .ref m_value, .int 0, .ref m_faults, .ref m_reached])), (m_count, .inl (G.2.2.1, 2, .inl (fun _ => 0))), (o, .inl (G.2.2.2.1, 1, .inr (.inl (fun _ => 0))))] 90 333577 := by
  have z0 : (0 : Int32).toInt = 0 := by decide
  have z1 : (1 : Int32).toInt = 1 := by decide
  have z2 : (0 : Int32).toNatClampNeg = 0 := by decide
  refine pb_aload_n (pc := 417) d_Law_law_417 3 rfl rfl ?_
  refine pb_aload_n (pc := 418) d_Law_law_418 4 rfl rfl ?_
  refine pb_iload (pc := 419) d_Law_law_419 0 rfl ?_
  refine pb_iconst (pc := 421) (v := 1) d_Law_law_421 (by decide) ?_
  refine pb_iadd (pc := 422) d_Law_law_422 ?_
  refine pb_asi (y := 1) (by decide) ?_
  refine pb_sld (pc := 423) hX hbl hbA (by unfold vp_in; decide) d_Law_law_423 ?_
  refine pb_asi (y := xs 1) (congrArg xs (by decide)) ?_
  refine pb_aload_n (pc := 424) d_Law_law_424 4 rfl rfl ?_
  refine pb_iload (pc := 425) d_Law_law_425 0 rfl ?_
  refine pb_iconst (pc := 427) (v := 2) d_Law_law_427 (by decide) ?_
  refine pb_iadd (pc := 428) d_Law_law_428 ?_
  refine pb_asi (y := 2) (by decide) ?_
  refine pb_sld (pc := 429) hX hbl hbA (by unfold vp_in; decide) d_Law_law_429 ?_
  refine pb_asi (y := xs 2) (congrArg xs (by decide)) ?_
  refine pb_aload_n (pc := 430) d_Law_law_430 1 rfl rfl ?_
  refine pb_callSW (pc := 431) (nA := 4) (rest := []) (wr := [(m, .inr (10, [.ref m_rels, .ref m_openRels, .ref m_closeRels, .ref m_openRel, .ref m_closeRel, .ref m_comment, .ref m_ends, .ref m_order, .int 0, .int 0, .ref m_tape, .ref m_count, .ref m_nameSize, .ref m_names, .ref m_size, .ref m_data, .int 0, .ref m_looked, .int 0, .ref m_file, .int 0, .ref m_directory, .int 0, .ref m_out, .int 0, .ref m_row, .int 0, .int 0, .int 0, .int 0, .ref m_made, .ref m_length, .int 0, .int 0, .int 0, .int 0, .int 0, .ref m_pressed, .int 0, .int 0, .int 0, .ref m_mark, .int 0, .ref m_idSize, .ref m_ids, .ref m_goalSize, .ref m_goals, .int 0, .ref m_value, .int 0, .ref m_faults, .ref m_reached])), (m_count, .inl (G.2.2.1, 2, .inl (fun _ => 0)))]) d_Law_law_431 (c_Law_byteOf hl G x ta ca ps ex_ mk rd mu fi go sp ss spn spz spb spg (xs 1) (xs 2) o (fun _ => 0)) [0, 1, 4] [2, 3] (by decide) rfl rfl rfl (by decide) (by decide) k_1074 rfl k_117 k_1072 k_1073 (by decide +kernel) (by decide) rfl rfl (Nat.le_of_ble_eq_true rfl) (by decide) (fun v9 u2 h1 => ?_)
  have eh1 := h1
  have eh1 : v9 = some (.int 1) := eh1
  subst eh1
  refine pb_eq (pc' := 434) (lo' := [(4, .int 0), (3, .ref o), (2, .ref m), (1, .ref x), (0, .ref b)]) (rest' := [.int 1]) (ws' := [(m, .inr (10, [.ref m_rels, .ref m_openRels, .ref m_closeRels, .ref m_openRel, .ref m_closeRel, .ref m_comment, .ref m_ends, .ref m_order, .int 0, .int 0, .ref m_tape, .ref m_count, .ref m_nameSize, .ref m_names, .ref m_size, .ref m_data, .int 0, .ref m_looked, .int 0, .ref m_file, .int 0, .ref m_directory, .int 0, .ref m_out, .int 0, .ref m_row, .int 0, .int 0, .int 0, .int 0, .ref m_made, .ref m_length, .int 0, .int 0, .int 0, .int 0, .int 0, .ref m_pressed, .int 0, .int 0, .int 0, .ref m_mark, .int 0, .ref m_idSize, .ref m_ids, .ref m_goalSize, .ref m_goals, .int 0, .ref m_value, .int 0, .ref m_faults, .ref m_reached])), (m_count, .inl (G.2.2.1, 2, .inl (fun _ => 0))), (o, .inl (G.2.2.2.1, 1, .inr (.inl (fun _ => 0))))]) ?_
  refine pb_istore (pc := 434) (lo' := [(5, .int 1), (4, .int 0), (3, .ref o), (2, .ref m), (1, .ref x), (0, .ref b)]) d_Law_law_434 (by decide) rfl ?_
  refine pb_aload_n (pc := 436) d_Law_law_436 3 rfl rfl ?_
  refine pb_aload_n (pc := 437) d_Law_law_437 5 rfl rfl ?_
  refine pb_iload (pc := 438) d_Law_law_438 1 rfl ?_
  refine pb_iconst (pc := 440) (v := 1) d_Law_law_440 (by decide) ?_
  refine pb_iadd (pc := 441) d_Law_law_441 ?_
  refine pb_asi (y := 1) (by decide) ?_
  refine pb_sld (pc := 442) hX hbl hbA (by unfold vp_in; decide) d_Law_law_442 ?_
  refine pb_asi (y := xs 1) (congrArg xs (by decide)) ?_
  refine pb_aload_n (pc := 443) d_Law_law_443 5 rfl rfl ?_
  refine pb_iload (pc := 444) d_Law_law_444 1 rfl ?_
  refine pb_iconst (pc := 446) (v := 2) d_Law_law_446 (by decide) ?_
  refine pb_iadd (pc := 447) d_Law_law_447 ?_
  refine pb_asi (y := 2) (by decide) ?_
  refine pb_sld (pc := 448) hX hbl hbA (by unfold vp_in; decide) d_Law_law_448 ?_
  refine pb_asi (y := xs 2) (congrArg xs (by decide)) ?_
  refine pb_callV (pc := 449) (qb := 0) (ci := 10) (nA := 2) (rest := []) (wr := [(o, .inl (G.2.2.2.1, 1, .inr (.inl (fun _ => 0))))]) d_Law_law_449 (c_Mod_byteOf hl G m m_rels m_openRels m_closeRels m_openRel m_closeRel m_comment m_ends m_order m_tape m_count m_nameSize m_names m_size m_data m_looked m_file m_directory m_out m_row m_made m_length m_pressed m_mark m_idSize m_ids m_goalSize m_goals m_value m_faults m_reached (xs 1) (xs 2)) rfl rfl [0, 1] [2] (by decide) rfl rfl rfl (by decide) (by decide) k_1365 rfl k_128 k_1362 k_1363 k_1364 (by decide +kernel) (by decide) rfl rfl (Nat.le_of_ble_eq_true rfl) (by decide) (fun v9 u4 h3 => ?_)
  have eh3 := h3
  have eh3 : v9 = some (.int 0) := eh3
  subst eh3
  refine pb_eq (pc' := 452) (lo' := [(5, .int 1), (4, .int 0), (3, .ref o), (2, .ref m), (1, .ref x), (0, .ref b)]) (rest' := [.int 0]) (ws' := [(o, .inl (G.2.2.2.1, 1, .inr (.inl (fun _ => 0)))), (m, .inr (10, [.ref m_rels, .ref m_openRels, .ref m_closeRels, .ref m_openRel, .ref m_closeRel, .ref m_comment, .ref m_ends, .ref m_order, .int 1, .int 0, .ref m_tape, .ref m_count, .ref m_nameSize, .ref m_names, .ref m_size, .ref m_data, .int 0, .ref m_looked, .int 0, .ref m_file, .int 0, .ref m_directory, .int 0, .ref m_out, .int 0, .ref m_row, .int 0, .int 0, .int 0, .int 0, .ref m_made, .ref m_length, .int 0, .int 0, .int 0, .int 0, .int 0, .ref m_pressed, .int 0, .int 0, .int 0, .ref m_mark, .int 0, .ref m_idSize, .ref m_ids, .ref m_goalSize, .ref m_goals, .int 0, .ref m_value, .int 0, .ref m_faults, .ref m_reached]))]) ?_
  refine pb_istore (pc := 452) (lo' := [(6, .int 0), (5, .int 1), (4, .int 0), (3, .ref o), (2, .ref m), (1, .ref x), (0, .ref b)]) d_Law_law_452 (by decide) rfl ?_
  refine pb_aload_n (pc := 454) d_Law_law_454 4 rfl rfl ?_
  refine pb_callV (pc := 455) (qb := 1) (ci := 10) (nA := 0) (rest := []) (wr := [(o, .inl (G.2.2.2.1, 1, .inr (.inl (fun _ => 0))))]) d_Law_law_455 (c_Mod_thrown hl G m m_rels m_openRels m_closeRels m_openRel m_closeRel m_comment m_ends m_order m_tape m_count m_nameSize m_names m_size m_data m_looked m_file m_directory m_out m_row m_made m_length m_pressed m_mark m_idSize m_ids m_goalSize m_goals m_value m_faults m_reached 1 0 0 0 0 0 0 0 0 0 0 0 0 0 0 0 0 0 0 0 0 0) rfl rfl [1] [0] (by decide) rfl rfl rfl (by decide) (by decide) k_1307 rfl k_128 k_1304 k_1305 k_1306 (by decide +kernel) (by decide) rfl rfl (Nat.le_of_ble_eq_true rfl) (by decide) (fun v9 u6 h5 => ?_)
  have eh5 := h5
  have eh5 : v9 = some (.int 1) := eh5
  subst eh5
  refine pb_eq (pc' := 458) (lo' := [(6, .int 0), (5, .int 1), (4, .int 0), (3, .ref o), (2, .ref m), (1, .ref x), (0, .ref b)]) (rest' := [.int 1]) (ws' := [(o, .inl (G.2.2.2.1, 1, .inr (.inl (fun _ => 0))))]) ?_
  refine pb_iload (pc := 458) d_Law_law_458 1 rfl ?_
  refine pb_icmp_eq (pc := 460) (tgt := 465) d_Law_law_460 (by decide) (fun _ => ?_) (fun h9 => absurd h9 (by decide))
  refine pb_iload (pc := 465) d_Law_law_465 1 rfl ?_
  refine pb_if_ne (pc := 467) (tgt := 482) d_Law_law_467 (by decide) (fun _ => ?_) (fun h9 => absurd h9 (by decide))
  refine pb_goto (pc := 482) (tgt := 966) d_Law_law_482 (by decide) ?_
  refine pb_re (ws' := []) (lo' := [(4, .int 0), (0, .ref b)]) [] [2, 6] (by decide) rfl rfl rfl ?_
  exact law_tail hQ hX hbl hbA (by decide) (by decide)

theorem d_Law_law_485 : decode code 485 = .ok (.aload_n 1, 1) := by decide +kernel
theorem d_Law_law_486 : decode code 486 = .ok (.invokevirtual 89, 3) := by decide +kernel
theorem k_485 : (Jvm.Cond.methodLink "PackageBookLaw" (89 : Nat) ({ cls := "PackageBook", name := "write", desc := "()I" } : Jvm.MethodName)) ∈ uW := uW_of 485 (by decide +kernel) (by decide +kernel)
theorem k_488 : (Jvm.Cond.code ({ cls := "PackageBook", name := "write", desc := "()I" } : Jvm.MethodName) prog_1_method_8_code (1 : Nat) (Option.some Jvm.ClassFile.FieldType.int)) ∈ uW := uW_of 488 (by decide +kernel) (by decide +kernel)
theorem k_486 : (Jvm.Cond.instanceMethod ({ cls := "PackageBook", name := "write", desc := "()I" } : Jvm.MethodName)) ∈ uW := uW_of 486 (by decide +kernel) (by decide +kernel)
theorem k_487 : (Jvm.Cond.selects "PackageBook" ({ cls := "PackageBook", name := "write", desc := "()I" } : Jvm.MethodName) ({ cls := "PackageBook", name := "write", desc := "()I" } : Jvm.MethodName)) ∈ uW := uW_of 487 (by decide +kernel) (by decide +kernel)
theorem d_Law_law_489 : decode code 489 = .ok (.aload_n 2, 1) := by decide +kernel
theorem d_Law_law_490 : decode code 490 = .ok (.invokevirtual 92, 3) := by decide +kernel
theorem k_1488 : (Jvm.Cond.methodLink "PackageBookLaw" (92 : Nat) ({ cls := "PackageBookModel", name := "write", desc := "()I" } : Jvm.MethodName)) ∈ uW := uW_of 1488 (by decide +kernel) (by decide +kernel)
theorem k_1491 : (Jvm.Cond.code ({ cls := "PackageBookModel", name := "write", desc := "()I" } : Jvm.MethodName) prog_12_method_52_code (3 : Nat) (Option.some Jvm.ClassFile.FieldType.int)) ∈ uW := uW_of 1491 (by decide +kernel) (by decide +kernel)
theorem k_1489 : (Jvm.Cond.instanceMethod ({ cls := "PackageBookModel", name := "write", desc := "()I" } : Jvm.MethodName)) ∈ uW := uW_of 1489 (by decide +kernel) (by decide +kernel)
theorem k_1490 : (Jvm.Cond.selects "PackageBookModel" ({ cls := "PackageBookModel", name := "write", desc := "()I" } : Jvm.MethodName) ({ cls := "PackageBookModel", name := "write", desc := "()I" } : Jvm.MethodName)) ∈ uW := uW_of 1490 (by decide +kernel) (by decide +kernel)
theorem d_Law_law_493 : decode code 493 = .ok (.if_icmp .eq 473, 3) := by decide +kernel
set_option maxRecDepth 100000 in
set_option maxHeartbeats 4000000 in
theorem law_6 {l : Launch} (hl : l.stackTraces = false) (G : pb_G) {M : pb_M} {b : Nat} {xs : Nat → Int32} (hQ : law_Q M b) (hX : va_X b 4 xs (pm_s M) (pm_s M).heap) (hbl : b < (pm_s M).heap.size) (hbA : ¬ pm_A M b) (x : Nat) (ta : Nat) (ca : Nat) (ps : Nat) (ex_ : Nat) (mk : Nat) (mm : Nat) (mb : Nat) (mr : Nat) (rd : Nat) (mu : Nat) (fi : Nat) (go : Nat) (sp : Nat) (spn : Nat) (spz : Nat) (spb : Nat) (spg : Nat) (ss : Nat) (m : Nat) (m_rels : Nat) (m_openRels : Nat) (m_closeRels : Nat) (m_openRel : Nat) (m_closeRel : Nat) (m_comment : Nat) (m_ends : Nat) (m_order : Nat) (m_tape : Nat) (m_count : Nat) (m_nameSize : Nat) (m_names : Nat) (m_size : Nat) (m_data : Nat) (m_looked : Nat) (m_file : Nat) (m_directory : Nat) (m_out : Nat) (m_row : Nat) (m_made : Nat) (m_length : Nat) (m_pressed : Nat) (m_mark : Nat) (m_idSize : Nat) (m_ids : Nat) (m_goalSize : Nat) (m_goals : Nat) (m_value : Nat) (m_faults : Nat) (m_reached : Nat) (o : Nat) : pb_P l G M i_Law_law 485 [(4, .int 0), (3, .ref o), (2, .ref m), (1, .ref x), (0, .ref b)] [] [(x, .inr (9, [.ref ta, .ref ca, .ref ps, .ref ex_, .ref mk, .ref rd, .ref mu, .ref fi, .ref go, .ref sp, .ref ss])), (mk, .inr (6, [.ref mm, .ref mr])), (mm, .inr (0, [.ref mb, .int 0])), (mb, .inl (G.2.1, 14006, .inl (fun _ => 0))), (sp, .inr (3, [.ref spn, .ref spz, .ref spb, .ref spg, .int 0])), (m, .inr (10, [.ref m_rels, .ref m_openRels, .ref m_closeRels, .ref m_openRel, .ref m_closeRel, .ref m_comment, .ref m_ends, .ref m_order, .int 0, .int 0, .ref m_tape, .ref m_count, .ref m_nameSize, .ref m_names, .ref m_size, .ref m_data, .int 0, .ref m_looked, .int 0, .ref m_file, .int 0, .ref m_directory, .int 0, .ref m_out, .int 0, .ref m_row, .int 0, .int 0, .int 0, .int 0, .ref m_made, .ref m_length, .int 0, .int 0, .int 0, .int 0, .int 0, .ref m_pressed, .int 0, .int 0, .int 0, .ref m_mark, .int 0, .ref m_idSize, .ref m_ids, .ref m_goalSize, .ref m_goals, .int 0, .ref m_value, .int 0, .ref m_faults, .ref m_reached])), (m_count, .inl (G.2.2.1, 2, .inl (fun _ => 0))), (m_file, .inl (G.2.1, 20000, .inl (fun _ => 0)))] 90 333577 := by
  have z0 : (0 : Int32).toInt = 0 := by decide
  have z1 : (1 : Int32).toInt = 1 := by decide
  have z2 : (0 : Int32).toNatClampNeg = 0 := by decide
  refine pb_aload_n (pc := 485) d_Law_law_485 3 rfl rfl ?_
  refine pb_callV (pc := 486) (qb := 0) (ci := 9) (nA := 0) (rest := []) (wr := [(m, .inr (10, [.ref m_rels, .ref m_openRels, .ref m_closeRels, .ref m_openRel, .ref m_closeRel, .ref m_comment, .ref m_ends, .ref m_order, .int 0, .int 0, .ref m_tape, .ref m_count, .ref m_nameSize, .ref m_names, .ref m_size, .ref m_data, .int 0, .ref m_looked, .int 0, .ref m_file, .int 0, .ref m_directory, .int 0, .ref m_out, .int 0, .ref m_row, .int 0, .int 0, .int 0, .int 0, .ref m_made, .ref m_length, .int 0, .int 0, .int 0, .int 0, .int 0, .ref m_pressed, .int 0, .int 0, .int 0, .ref m_mark, .int 0, .ref m_idSize, .ref m_ids, .ref m_goalSize, .ref m_goals, .int 0, .ref m_value, .int 0, .ref m_faults, .ref m_reached])), (m_count, .inl (G.2.2.1, 2, .inl (fun _ => 0))), (m_file, .inl (G.2.1, 20000, .inl (fun _ => 0)))]) d_Law_law_486 (c_Book_write hl G x ta ca ps ex_ mk rd mu fi go sp ss spn spz spb spg mm mr mb (fun _ => 0)) rfl rfl [0, 1, 2, 3, 4] [5, 6, 7] (by decide) rfl rfl rfl (by decide) (by decide) k_488 rfl k_118 k_485 k_486 k_487 (by decide +kernel) (by decide) rfl rfl (Nat.le_of_ble_eq_true rfl) (by decide) (fun v9 u2 h1 => ?_)
  obtain ⟨r_3, rfl⟩ : ∃ z9, z9 = u2 := ⟨_, rfl⟩
  obtain ⟨eh1, h1⟩ := h1
  have eh1 : v9 = some (.int r_3) := eh1
  subst eh1
  have h4 : r_3.toInt = 22 := h1
  refine pb_eq (pc' := 489) (lo' := [(4, .int 0), (3, .ref o), (2, .ref m), (1, .ref x), (0, .ref b)]) (rest' := [.int r_3]) (ws' := [(m, .inr (10, [.ref m_rels, .ref m_openRels, .ref m_closeRels, .ref m_openRel, .ref m_closeRel, .ref m_comment, .ref m_ends, .ref m_order, .int 0, .int 0, .ref m_tape, .ref m_count, .ref m_nameSize, .ref m_names, .ref m_size, .ref m_data, .int 0, .ref m_looked, .int 0, .ref m_file, .int 0, .ref m_directory, .int 0, .ref m_out, .int 0, .ref m_row, .int 0, .int 0, .int 0, .int 0, .ref m_made, .ref m_length, .int 0, .int 0, .int 0, .int 0, .int 0, .ref m_pressed, .int 0, .int 0, .int 0, .ref m_mark, .int 0, .ref m_idSize, .ref m_ids, .ref m_goalSize, .ref m_goals, .int 0, .ref m_value, .int 0, .ref m_faults, .ref m_reached])), (m_count, .inl (G.2.2.1, 2, .inl (fun _ => 0))), (m_file, .inl (G.2.1, 20000, .inl (fun _ => 0)))]) ?_
  refine pb_aload_n (pc := 489) d_Law_law_489 2 rfl rfl ?_
  refine pb_callV (pc := 490) (qb := 0) (ci := 10) (nA := 0) (rest := [.int r_3]) (wr := []) d_Law_law_490 (c_Mod_write hl G m m_rels m_openRels m_closeRels m_openRel m_closeRel m_comment m_ends m_order m_tape m_count m_nameSize m_names m_size m_data m_looked m_file m_directory m_out m_row m_made m_length m_pressed m_mark m_idSize m_ids m_goalSize m_goals m_value m_faults m_reached (fun _ => 0)) rfl rfl [0, 1, 2] [] (by decide) rfl rfl rfl (by decide) (by decide) k_1491 rfl k_128 k_1488 k_1489 k_1490 (by decide +kernel) (by decide) rfl rfl (Nat.le_of_ble_eq_true rfl) (by decide) (fun v9 u6 h5 => ?_)
  obtain ⟨r_7, rfl⟩ : ∃ z9, z9 = u6 := ⟨_, rfl⟩
  obtain ⟨eh5, h5⟩ := h5
  have eh5 : v9 = some (.int r_7) := eh5
  subst eh5
  have h8 : r_7.toInt = 22 := h5
  refine pb_eq (pc' := 493) (lo' := [(4, .int 0), (3, .ref o), (2, .ref m), (1, .ref x), (0, .ref b)]) (rest' := [.int r_7, .int r_3]) (ws' := []) ?_
  refine pb_icmp_eq (pc := 493) (tgt := 966) d_Law_law_493 (by decide) (fun w9 => ?_) (fun h9 => False.elim (by have t9 : ¬ r_3.toInt = r_7.toInt := fun z9 => h9 ((ti_eq rfl rfl).mpr z9); omega))
  have tw9 : r_3.toInt = r_7.toInt := (ti_eq rfl rfl).mp w9
  refine pb_re (ws' := []) (lo' := [(4, .int 0), (0, .ref b)]) [] [0, 4] (by decide) rfl rfl rfl ?_
  exact law_tail hQ hX hbl hbA (by decide) (by decide)

theorem d_Law_law_498 : decode code 498 = .ok (.aload_n 1, 1) := by decide +kernel
theorem d_Law_law_499 : decode code 499 = .ok (.aload_n 0, 1) := by decide +kernel
theorem d_Law_law_500 : decode code 500 = .ok (.iload 4, 2) := by decide +kernel
theorem d_Law_law_502 : decode code 502 = .ok (.iconst 1, 1) := by decide +kernel
theorem d_Law_law_503 : decode code 503 = .ok (.iadd, 1) := by decide +kernel
theorem d_Law_law_504 : decode code 504 = .ok (.iaload, 1) := by decide +kernel
theorem d_Law_law_505 : decode code 505 = .ok (.aload_n 3, 1) := by decide +kernel
theorem d_Law_law_506 : decode code 506 = .ok (.invokestatic 93, 3) := by decide +kernel
theorem k_1080 : (Jvm.Cond.methodLink "PackageBookLaw" (93 : Nat) ({ cls := "PackageBookLaw", name := "file", desc := "(LPackageBook;I[J)I" } : Jvm.MethodName)) ∈ uW := uW_of 1080 (by decide +kernel) (by decide +kernel)
theorem k_1082 : (Jvm.Cond.codeWith ({ cls := "PackageBookLaw", name := "file", desc := "(LPackageBook;I[J)I" } : Jvm.MethodName) method_8_code (4 : Nat) (Option.some Jvm.ClassFile.FieldType.int) [((0 : Nat), (9 : Nat), (12 : Nat), (28 : Nat))]) ∈ uW := uW_of 1082 (by decide +kernel) (by decide +kernel)
theorem k_1081 : (Jvm.Cond.static ({ cls := "PackageBookLaw", name := "file", desc := "(LPackageBook;I[J)I" } : Jvm.MethodName)) ∈ uW := uW_of 1081 (by decide +kernel) (by decide +kernel)
theorem d_Law_law_509 : decode code 509 = .ok (.istore 5, 2) := by decide +kernel
theorem d_Law_law_511 : decode code 511 = .ok (.aload_n 2, 1) := by decide +kernel
theorem d_Law_law_512 : decode code 512 = .ok (.aload_n 0, 1) := by decide +kernel
theorem d_Law_law_513 : decode code 513 = .ok (.iload 4, 2) := by decide +kernel
theorem d_Law_law_515 : decode code 515 = .ok (.iconst 1, 1) := by decide +kernel
theorem d_Law_law_516 : decode code 516 = .ok (.iadd, 1) := by decide +kernel
theorem d_Law_law_517 : decode code 517 = .ok (.iaload, 1) := by decide +kernel
theorem d_Law_law_518 : decode code 518 = .ok (.invokevirtual 95, 3) := by decide +kernel
theorem k_1510 : (Jvm.Cond.methodLink "PackageBookLaw" (95 : Nat) ({ cls := "PackageBookModel", name := "file", desc := "(I)I" } : Jvm.MethodName)) ∈ uW := uW_of 1510 (by decide +kernel) (by decide +kernel)
theorem k_1513 : (Jvm.Cond.code ({ cls := "PackageBookModel", name := "file", desc := "(I)I" } : Jvm.MethodName) prog_12_method_53_code (2 : Nat) (Option.some Jvm.ClassFile.FieldType.int)) ∈ uW := uW_of 1513 (by decide +kernel) (by decide +kernel)
theorem k_1511 : (Jvm.Cond.instanceMethod ({ cls := "PackageBookModel", name := "file", desc := "(I)I" } : Jvm.MethodName)) ∈ uW := uW_of 1511 (by decide +kernel) (by decide +kernel)
theorem k_1512 : (Jvm.Cond.selects "PackageBookModel" ({ cls := "PackageBookModel", name := "file", desc := "(I)I" } : Jvm.MethodName) ({ cls := "PackageBookModel", name := "file", desc := "(I)I" } : Jvm.MethodName)) ∈ uW := uW_of 1512 (by decide +kernel) (by decide +kernel)
theorem d_Law_law_521 : decode code 521 = .ok (.istore 6, 2) := by decide +kernel
theorem d_Law_law_523 : decode code 523 = .ok (.aload_n 2, 1) := by decide +kernel
theorem d_Law_law_524 : decode code 524 = .ok (.invokevirtual 67, 3) := by decide +kernel
theorem d_Law_law_527 : decode code 527 = .ok (.iload 5, 2) := by decide +kernel
theorem d_Law_law_529 : decode code 529 = .ok (.if_icmp .eq 5, 3) := by decide +kernel
theorem d_Law_law_534 : decode code 534 = .ok (.iload 5, 2) := by decide +kernel
theorem d_Law_law_536 : decode code 536 = .ok (.ifCond .ne 15, 3) := by decide +kernel
theorem d_Law_law_551 : decode code 551 = .ok (.goto 415, 3) := by decide +kernel
set_option maxRecDepth 100000 in
set_option maxHeartbeats 4000000 in
theorem law_7 {l : Launch} (hl : l.stackTraces = false) (G : pb_G) {M : pb_M} {b : Nat} {xs : Nat → Int32} (hQ : law_Q M b) (hX : va_X b 4 xs (pm_s M) (pm_s M).heap) (hbl : b < (pm_s M).heap.size) (hbA : ¬ pm_A M b) (x : Nat) (ta : Nat) (ca : Nat) (ps : Nat) (ex_ : Nat) (mk : Nat) (mm : Nat) (mb : Nat) (mr : Nat) (rd : Nat) (mu : Nat) (fi : Nat) (go : Nat) (sp : Nat) (ss : Nat) (m : Nat) (m_rels : Nat) (m_openRels : Nat) (m_closeRels : Nat) (m_openRel : Nat) (m_closeRel : Nat) (m_comment : Nat) (m_ends : Nat) (m_order : Nat) (m_tape : Nat) (m_count : Nat) (m_nameSize : Nat) (m_names : Nat) (m_size : Nat) (m_data : Nat) (m_looked : Nat) (m_file : Nat) (m_directory : Nat) (m_out : Nat) (m_row : Nat) (m_made : Nat) (m_length : Nat) (m_pressed : Nat) (m_mark : Nat) (m_idSize : Nat) (m_ids : Nat) (m_goalSize : Nat) (m_goals : Nat) (m_value : Nat) (m_faults : Nat) (m_reached : Nat) (o : Nat) : pb_P l G M i_Law_law 498 [(4, .int 0), (3, .ref o), (2, .ref m), (1, .ref x), (0, .ref b)] [] [(x, .inr (9, [.ref ta, .ref ca, .ref ps, .ref ex_, .ref mk, .ref rd, .ref mu, .ref fi, .ref go, .ref sp, .ref ss])), (mk, .inr (6, [.ref mm, .ref mr])), (mm, .inr (0, [.ref mb, .int 0])), (m, .inr (10, [.ref m_rels, .ref m_openRels, .ref m_closeRels, .ref m_openRel, .ref m_closeRel, .ref m_comment, .ref m_ends, .ref m_order, .int 0, .int 0, .ref m_tape, .ref m_count, .ref m_nameSize, .ref m_names, .ref m_size, .ref m_data, .int 0, .ref m_looked, .int 0, .ref m_file, .int 0, .ref m_directory, .int 0, .ref m_out, .int 0, .ref m_row, .int 0, .int 0, .int 0, .int 0, .ref m_made, .ref m_length, .int 0, .int 0, .int 0, .int 0, .int 0, .ref m_pressed, .int 0, .int 0, .int 0, .ref m_mark, .int 0, .ref m_idSize, .ref m_ids, .ref m_goalSize, .ref m_goals, .int 0, .ref m_value, .int 0, .ref m_faults, .ref m_reached])), (o, .inl (G.2.2.2.1, 1, .inr (.inl (fun _ => 0))))] 90 333577 := by
  have z0 : (0 : Int32).toInt = 0 := by decide
  have z1 : (1 : Int32).toInt = 1 := by decide
  have z2 : (0 : Int32).toNatClampNeg = 0 := by decide
  refine pb_aload_n (pc := 498) d_Law_law_498 3 rfl rfl ?_
  refine pb_aload_n (pc := 499) d_Law_law_499 4 rfl rfl ?_
  refine pb_iload (pc := 500) d_Law_law_500 0 rfl ?_
  refine pb_iconst (pc := 502) (v := 1) d_Law_law_502 (by decide) ?_
  refine pb_iadd (pc := 503) d_Law_law_503 ?_
  refine pb_asi (y := 1) (by decide) ?_
  refine pb_sld (pc := 504) hX hbl hbA (by unfold vp_in; decide) d_Law_law_504 ?_
  refine pb_asi (y := xs 1) (congrArg xs (by decide)) ?_
  refine pb_aload_n (pc := 505) d_Law_law_505 1 rfl rfl ?_
  refine pb_callSW (pc := 506) (nA := 3) (rest := []) (wr := [(m, .inr (10, [.ref m_rels, .ref m_openRels, .ref m_closeRels, .ref m_openRel, .ref m_closeRel, .ref m_comment, .ref m_ends, .ref m_order, .int 0, .int 0, .ref m_tape, .ref m_count, .ref m_nameSize, .ref m_names, .ref m_size, .ref m_data, .int 0, .ref m_looked, .int 0, .ref m_file, .int 0, .ref m_directory, .int 0, .ref m_out, .int 0, .ref m_row, .int 0, .int 0, .int 0, .int 0, .ref m_made, .ref m_length, .int 0, .int 0, .int 0, .int 0, .int 0, .ref m_pressed, .int 0, .int 0, .int 0, .ref m_mark, .int 0, .ref m_idSize, .ref m_ids, .ref m_goalSize, .ref m_goals, .int 0, .ref m_value, .int 0, .ref m_faults, .ref m_reached]))]) d_Law_law_506 (c_Law_file hl G x ta ca ps ex_ mk rd mu fi go sp ss mm mr mb (xs 1) o (fun _ => 0)) [0, 1, 2, 4] [3] (by decide) rfl rfl rfl (by decide) (by decide) k_1082 rfl k_117 k_1080 k_1081 (by decide +kernel) (by decide) rfl rfl (Nat.le_of_ble_eq_true rfl) (by decide) (fun v9 u2 h1 => ?_)
  have eh1 := h1
  have eh1 : v9 = some (.int 1) := eh1
  subst eh1
  refine pb_eq (pc' := 509) (lo' := [(4, .int 0), (3, .ref o), (2, .ref m), (1, .ref x), (0, .ref b)]) (rest' := [.int 1]) (ws' := [(m, .inr (10, [.ref m_rels, .ref m_openRels, .ref m_closeRels, .ref m_openRel, .ref m_closeRel, .ref m_comment, .ref m_ends, .ref m_order, .int 0, .int 0, .ref m_tape, .ref m_count, .ref m_nameSize, .ref m_names, .ref m_size, .ref m_data, .int 0, .ref m_looked, .int 0, .ref m_file, .int 0, .ref m_directory, .int 0, .ref m_out, .int 0, .ref m_row, .int 0, .int 0, .int 0, .int 0, .ref m_made, .ref m_length, .int 0, .int 0, .int 0, .int 0, .int 0, .ref m_pressed, .int 0, .int 0, .int 0, .ref m_mark, .int 0, .ref m_idSize, .ref m_ids, .ref m_goalSize, .ref m_goals, .int 0, .ref m_value, .int 0, .ref m_faults, .ref m_reached])), (o, .inl (G.2.2.2.1, 1, .inr (.inl (fun _ => 0))))]) ?_
  refine pb_istore (pc := 509) (lo' := [(5, .int 1), (4, .int 0), (3, .ref o), (2, .ref m), (1, .ref x), (0, .ref b)]) d_Law_law_509 (by decide) rfl ?_
  refine pb_aload_n (pc := 511) d_Law_law_511 3 rfl rfl ?_
  refine pb_aload_n (pc := 512) d_Law_law_512 5 rfl rfl ?_
  refine pb_iload (pc := 513) d_Law_law_513 1 rfl ?_
  refine pb_iconst (pc := 515) (v := 1) d_Law_law_515 (by decide) ?_
  refine pb_iadd (pc := 516) d_Law_law_516 ?_
  refine pb_asi (y := 1) (by decide) ?_
  refine pb_sld (pc := 517) hX hbl hbA (by unfold vp_in; decide) d_Law_law_517 ?_
  refine pb_asi (y := xs 1) (congrArg xs (by decide)) ?_
  refine pb_callV (pc := 518) (qb := 0) (ci := 10) (nA := 1) (rest := []) (wr := [(o, .inl (G.2.2.2.1, 1, .inr (.inl (fun _ => 0))))]) d_Law_law_518 (c_Mod_file hl G m m_rels m_openRels m_closeRels m_openRel m_closeRel m_comment m_ends m_order m_tape m_count m_nameSize m_names m_size m_data m_looked m_file m_directory m_out m_row m_made m_length m_pressed m_mark m_idSize m_ids m_goalSize m_goals m_value m_faults m_reached (xs 1)) rfl rfl [0] [1] (by decide) rfl rfl rfl (by decide) (by decide) k_1513 rfl k_128 k_1510 k_1511 k_1512 (by decide +kernel) (by decide) rfl rfl (Nat.le_of_ble_eq_true rfl) (by decide) (fun v9 u4 h3 => ?_)
  have eh3 := h3
  have eh3 : v9 = some (.int 0) := eh3
  subst eh3
  refine pb_eq (pc' := 521) (lo' := [(5, .int 1), (4, .int 0), (3, .ref o), (2, .ref m), (1, .ref x), (0, .ref b)]) (rest' := [.int 0]) (ws' := [(o, .inl (G.2.2.2.1, 1, .inr (.inl (fun _ => 0)))), (m, .inr (10, [.ref m_rels, .ref m_openRels, .ref m_closeRels, .ref m_openRel, .ref m_closeRel, .ref m_comment, .ref m_ends, .ref m_order, .int 1, .int 0, .ref m_tape, .ref m_count, .ref m_nameSize, .ref m_names, .ref m_size, .ref m_data, .int 0, .ref m_looked, .int 0, .ref m_file, .int 0, .ref m_directory, .int 0, .ref m_out, .int 0, .ref m_row, .int 0, .int 0, .int 0, .int 0, .ref m_made, .ref m_length, .int 0, .int 0, .int 0, .int 0, .int 0, .ref m_pressed, .int 0, .int 0, .int 0, .ref m_mark, .int 0, .ref m_idSize, .ref m_ids, .ref m_goalSize, .ref m_goals, .int 0, .ref m_value, .int 0, .ref m_faults, .ref m_reached]))]) ?_
  refine pb_istore (pc := 521) (lo' := [(6, .int 0), (5, .int 1), (4, .int 0), (3, .ref o), (2, .ref m), (1, .ref x), (0, .ref b)]) d_Law_law_521 (by decide) rfl ?_
  refine pb_aload_n (pc := 523) d_Law_law_523 4 rfl rfl ?_
  refine pb_callV (pc := 524) (qb := 1) (ci := 10) (nA := 0) (rest := []) (wr := [(o, .inl (G.2.2.2.1, 1, .inr (.inl (fun _ => 0))))]) d_Law_law_524 (c_Mod_thrown hl G m m_rels m_openRels m_closeRels m_openRel m_closeRel m_comment m_ends m_order m_tape m_count m_nameSize m_names m_size m_data m_looked m_file m_directory m_out m_row m_made m_length m_pressed m_mark m_idSize m_ids m_goalSize m_goals m_value m_faults m_reached 1 0 0 0 0 0 0 0 0 0 0 0 0 0 0 0 0 0 0 0 0 0) rfl rfl [1] [0] (by decide) rfl rfl rfl (by decide) (by decide) k_1307 rfl k_128 k_1304 k_1305 k_1306 (by decide +kernel) (by decide) rfl rfl (Nat.le_of_ble_eq_true rfl) (by decide) (fun v9 u6 h5 => ?_)
  have eh5 := h5
  have eh5 : v9 = some (.int 1) := eh5
  subst eh5
  refine pb_eq (pc' := 527) (lo' := [(6, .int 0), (5, .int 1), (4, .int 0), (3, .ref o), (2, .ref m), (1, .ref x), (0, .ref b)]) (rest' := [.int 1]) (ws' := [(o, .inl (G.2.2.2.1, 1, .inr (.inl (fun _ => 0))))]) ?_
  refine pb_iload (pc := 527) d_Law_law_527 1 rfl ?_
  refine pb_icmp_eq (pc := 529) (tgt := 534) d_Law_law_529 (by decide) (fun _ => ?_) (fun h9 => absurd h9 (by decide))
  refine pb_iload (pc := 534) d_Law_law_534 1 rfl ?_
  refine pb_if_ne (pc := 536) (tgt := 551) d_Law_law_536 (by decide) (fun _ => ?_) (fun h9 => absurd h9 (by decide))
  refine pb_goto (pc := 551) (tgt := 966) d_Law_law_551 (by decide) ?_
  refine pb_re (ws' := []) (lo' := [(4, .int 0), (0, .ref b)]) [] [2, 6] (by decide) rfl rfl rfl ?_
  exact law_tail hQ hX hbl hbA (by decide) (by decide)

theorem d_Law_law_554 : decode code 554 = .ok (.aload_n 1, 1) := by decide +kernel
theorem d_Law_law_555 : decode code 555 = .ok (.invokevirtual 96, 3) := by decide +kernel
theorem k_576 : (Jvm.Cond.methodLink "PackageBookLaw" (96 : Nat) ({ cls := "PackageBook", name := "read", desc := "()I" } : Jvm.MethodName)) ∈ uW := uW_of 576 (by decide +kernel) (by decide +kernel)
theorem k_579 : (Jvm.Cond.code ({ cls := "PackageBook", name := "read", desc := "()I" } : Jvm.MethodName) prog_1_method_10_code (1 : Nat) (Option.some Jvm.ClassFile.FieldType.int)) ∈ uW := uW_of 579 (by decide +kernel) (by decide +kernel)
theorem k_577 : (Jvm.Cond.instanceMethod ({ cls := "PackageBook", name := "read", desc := "()I" } : Jvm.MethodName)) ∈ uW := uW_of 577 (by decide +kernel) (by decide +kernel)
theorem k_578 : (Jvm.Cond.selects "PackageBook" ({ cls := "PackageBook", name := "read", desc := "()I" } : Jvm.MethodName) ({ cls := "PackageBook", name := "read", desc := "()I" } : Jvm.MethodName)) ∈ uW := uW_of 578 (by decide +kernel) (by decide +kernel)
theorem d_Law_law_558 : decode code 558 = .ok (.aload_n 2, 1) := by decide +kernel
theorem d_Law_law_559 : decode code 559 = .ok (.invokevirtual 99, 3) := by decide +kernel
theorem k_1514 : (Jvm.Cond.methodLink "PackageBookLaw" (99 : Nat) ({ cls := "PackageBookModel", name := "read", desc := "()I" } : Jvm.MethodName)) ∈ uW := uW_of 1514 (by decide +kernel) (by decide +kernel)
theorem k_1517 : (Jvm.Cond.code ({ cls := "PackageBookModel", name := "read", desc := "()I" } : Jvm.MethodName) prog_12_method_59_code (1 : Nat) (Option.some Jvm.ClassFile.FieldType.int)) ∈ uW := uW_of 1517 (by decide +kernel) (by decide +kernel)
theorem k_1515 : (Jvm.Cond.instanceMethod ({ cls := "PackageBookModel", name := "read", desc := "()I" } : Jvm.MethodName)) ∈ uW := uW_of 1515 (by decide +kernel) (by decide +kernel)
theorem k_1516 : (Jvm.Cond.selects "PackageBookModel" ({ cls := "PackageBookModel", name := "read", desc := "()I" } : Jvm.MethodName) ({ cls := "PackageBookModel", name := "read", desc := "()I" } : Jvm.MethodName)) ∈ uW := uW_of 1516 (by decide +kernel) (by decide +kernel)
theorem d_Law_law_562 : decode code 562 = .ok (.if_icmp .eq 404, 3) := by decide +kernel
set_option maxRecDepth 100000 in
set_option maxHeartbeats 4000000 in
theorem law_8 {l : Launch} (hl : l.stackTraces = false) (G : pb_G) {M : pb_M} {b : Nat} {xs : Nat → Int32} (hQ : law_Q M b) (hX : va_X b 4 xs (pm_s M) (pm_s M).heap) (hbl : b < (pm_s M).heap.size) (hbA : ¬ pm_A M b) (x : Nat) (ta : Nat) (tb : Nat) (ca : Nat) (ps : Nat) (ex_ : Nat) (mk : Nat) (rd : Nat) (rr : Nat) (mu : Nat) (fi : Nat) (go : Nat) (sp : Nat) (ss : Nat) (ssn : Nat) (ssz : Nat) (ssb : Nat) (ssg : Nat) (m : Nat) (m_rels : Nat) (m_openRels : Nat) (m_closeRels : Nat) (m_openRel : Nat) (m_closeRel : Nat) (m_comment : Nat) (m_ends : Nat) (m_order : Nat) (m_tape : Nat) (m_count : Nat) (m_nameSize : Nat) (m_names : Nat) (m_size : Nat) (m_data : Nat) (m_looked : Nat) (m_file : Nat) (m_directory : Nat) (m_out : Nat) (m_row : Nat) (m_made : Nat) (m_length : Nat) (m_pressed : Nat) (m_mark : Nat) (m_idSize : Nat) (m_ids : Nat) (m_goalSize : Nat) (m_goals : Nat) (m_value : Nat) (m_faults : Nat) (m_reached : Nat) (o : Nat) : pb_P l G M i_Law_law 554 [(4, .int 0), (3, .ref o), (2, .ref m), (1, .ref x), (0, .ref b)] [] [(x, .inr (9, [.ref ta, .ref ca, .ref ps, .ref ex_, .ref mk, .ref rd, .ref mu, .ref fi, .ref go, .ref sp, .ref ss])), (ta, .inr (0, [.ref tb, .int 0])), (rd, .inr (7, [.ref rr])), (ss, .inr (3, [.ref ssn, .ref ssz, .ref ssb, .ref ssg, .int 0])), (ssg, .inl (G.2.2.1, 17, .inl (fun _ => 0))), (m, .inr (10, [.ref m_rels, .ref m_openRels, .ref m_closeRels, .ref m_openRel, .ref m_closeRel, .ref m_comment, .ref m_ends, .ref m_order, .int 0, .int 0, .ref m_tape, .ref m_count, .ref m_nameSize, .ref m_names, .ref m_size, .ref m_data, .int 0, .ref m_looked, .int 0, .ref m_file, .int 0, .ref m_directory, .int 0, .ref m_out, .int 0, .ref m_row, .int 0, .int 0, .int 0, .int 0, .ref m_made, .ref m_length, .int 0, .int 0, .int 0, .int 0, .int 0, .ref m_pressed, .int 0, .int 0, .int 0, .ref m_mark, .int 0, .ref m_idSize, .ref m_ids, .ref m_goalSize, .ref m_goals, .int 0, .ref m_value, .int 0, .ref m_faults, .ref m_reached]))] 90 333577 := by
  have z0 : (0 : Int32).toInt = 0 := by decide
  have z1 : (1 : Int32).toInt = 1 := by decide
  have z2 : (0 : Int32).toNatClampNeg = 0 := by decide
  refine pb_aload_n (pc := 554) d_Law_law_554 3 rfl rfl ?_
  refine pb_callV (pc := 555) (qb := 0) (ci := 9) (nA := 0) (rest := []) (wr := [(m, .inr (10, [.ref m_rels, .ref m_openRels, .ref m_closeRels, .ref m_openRel, .ref m_closeRel, .ref m_comment, .ref m_ends, .ref m_order, .int 0, .int 0, .ref m_tape, .ref m_count, .ref m_nameSize, .ref m_names, .ref m_size, .ref m_data, .int 0, .ref m_looked, .int 0, .ref m_file, .int 0, .ref m_directory, .int 0, .ref m_out, .int 0, .ref m_row, .int 0, .int 0, .int 0, .int 0, .ref m_made, .ref m_length, .int 0, .int 0, .int 0, .int 0, .int 0, .ref m_pressed, .int 0, .int 0, .int 0, .ref m_mark, .int 0, .ref m_idSize, .ref m_ids, .ref m_goalSize, .ref m_goals, .int 0, .ref m_value, .int 0, .ref m_faults, .ref m_reached]))]) d_Law_law_555 (c_Book_read hl G x ta ca ps ex_ mk rd mu fi go sp ss tb ssn ssz ssb ssg rr (fun _ => 0)) rfl rfl [0, 1, 2, 3, 4] [5] (by decide) rfl rfl rfl (by decide) (by decide) k_579 rfl k_118 k_576 k_577 k_578 (by decide +kernel) (by decide) rfl rfl (Nat.le_of_ble_eq_true rfl) (by decide) (fun v9 u2 h1 => ?_)
  have eh1 := h1
  have eh1 : v9 = some (.int 1) := eh1
  subst eh1
  refine pb_eq (pc' := 558) (lo' := [(4, .int 0), (3, .ref o), (2, .ref m), (1, .ref x), (0, .ref b)]) (rest' := [.int 1]) (ws' := [(m, .inr (10, [.ref m_rels, .ref m_openRels, .ref m_closeRels, .ref m_openRel, .ref m_closeRel, .ref m_comment, .ref m_ends, .ref m_order, .int 0, .int 0, .ref m_tape, .ref m_count, .ref m_nameSize, .ref m_names, .ref m_size, .ref m_data, .int 0, .ref m_looked, .int 0, .ref m_file, .int 0, .ref m_directory, .int 0, .ref m_out, .int 0, .ref m_row, .int 0, .int 0, .int 0, .int 0, .ref m_made, .ref m_length, .int 0, .int 0, .int 0, .int 0, .int 0, .ref m_pressed, .int 0, .int 0, .int 0, .ref m_mark, .int 0, .ref m_idSize, .ref m_ids, .ref m_goalSize, .ref m_goals, .int 0, .ref m_value, .int 0, .ref m_faults, .ref m_reached]))]) ?_
  refine pb_aload_n (pc := 558) d_Law_law_558 2 rfl rfl ?_
  refine pb_callV (pc := 559) (qb := 0) (ci := 10) (nA := 0) (rest := [.int 1]) (wr := []) d_Law_law_559 (c_Mod_read hl G m m_rels m_openRels m_closeRels m_openRel m_closeRel m_comment m_ends m_order m_tape m_count m_nameSize m_names m_size m_data m_looked m_file m_directory m_out m_row m_made m_length m_pressed m_mark m_idSize m_ids m_goalSize m_goals m_value m_faults m_reached) rfl rfl [0] [] (by decide) rfl rfl rfl (by decide) (by decide) k_1517 rfl k_128 k_1514 k_1515 k_1516 (by decide +kernel) (by decide) rfl rfl (Nat.le_of_ble_eq_true rfl) (by decide) (fun v9 u4 h3 => ?_)
  have eh3 := h3
  have eh3 : v9 = some (.int 1) := eh3
  subst eh3
  refine pb_eq (pc' := 562) (lo' := [(4, .int 0), (3, .ref o), (2, .ref m), (1, .ref x), (0, .ref b)]) (rest' := [.int 1, .int 1]) (ws' := []) ?_
  refine pb_icmp_eq (pc := 562) (tgt := 966) d_Law_law_562 (by decide) (fun _ => ?_) (fun h9 => absurd h9 (by decide))
  refine pb_re (ws' := []) (lo' := [(4, .int 0), (0, .ref b)]) [] [0, 4] (by decide) rfl rfl rfl ?_
  exact law_tail hQ hX hbl hbA (by decide) (by decide)

theorem d_Law_law_567 : decode code 567 = .ok (.aload_n 1, 1) := by decide +kernel
theorem d_Law_law_568 : decode code 568 = .ok (.aload_n 0, 1) := by decide +kernel
theorem d_Law_law_569 : decode code 569 = .ok (.iload 4, 2) := by decide +kernel
theorem d_Law_law_571 : decode code 571 = .ok (.iconst 1, 1) := by decide +kernel
theorem d_Law_law_572 : decode code 572 = .ok (.iadd, 1) := by decide +kernel
theorem d_Law_law_573 : decode code 573 = .ok (.iaload, 1) := by decide +kernel
theorem d_Law_law_574 : decode code 574 = .ok (.aload_n 0, 1) := by decide +kernel
theorem d_Law_law_575 : decode code 575 = .ok (.iload 4, 2) := by decide +kernel
theorem d_Law_law_577 : decode code 577 = .ok (.iconst 2, 1) := by decide +kernel
theorem d_Law_law_578 : decode code 578 = .ok (.iadd, 1) := by decide +kernel
theorem d_Law_law_579 : decode code 579 = .ok (.iaload, 1) := by decide +kernel
theorem d_Law_law_580 : decode code 580 = .ok (.aload_n 3, 1) := by decide +kernel
theorem d_Law_law_581 : decode code 581 = .ok (.invokestatic 100, 3) := by decide +kernel
theorem k_1091 : (Jvm.Cond.methodLink "PackageBookLaw" (100 : Nat) ({ cls := "PackageBookLaw", name := "reread", desc := "(LPackageBook;II[J)I" } : Jvm.MethodName)) ∈ uW := uW_of 1091 (by decide +kernel) (by decide +kernel)
theorem k_1093 : (Jvm.Cond.codeWith ({ cls := "PackageBookLaw", name := "reread", desc := "(LPackageBook;II[J)I" } : Jvm.MethodName) method_9_code (5 : Nat) (Option.some Jvm.ClassFile.FieldType.int) [((0 : Nat), (10 : Nat), (13 : Nat), (28 : Nat)), ((0 : Nat), (10 : Nat), (17 : Nat), (13 : Nat))]) ∈ uW := uW_of 1093 (by decide +kernel) (by decide +kernel)
theorem k_1092 : (Jvm.Cond.static ({ cls := "PackageBookLaw", name := "reread", desc := "(LPackageBook;II[J)I" } : Jvm.MethodName)) ∈ uW := uW_of 1092 (by decide +kernel) (by decide +kernel)
theorem d_Law_law_584 : decode code 584 = .ok (.istore 5, 2) := by decide +kernel
theorem d_Law_law_586 : decode code 586 = .ok (.aload_n 2, 1) := by decide +kernel
theorem d_Law_law_587 : decode code 587 = .ok (.aload_n 0, 1) := by decide +kernel
theorem d_Law_law_588 : decode code 588 = .ok (.iload 4, 2) := by decide +kernel
theorem d_Law_law_590 : decode code 590 = .ok (.iconst 1, 1) := by decide +kernel
theorem d_Law_law_591 : decode code 591 = .ok (.iadd, 1) := by decide +kernel
theorem d_Law_law_592 : decode code 592 = .ok (.iaload, 1) := by decide +kernel
theorem d_Law_law_593 : decode code 593 = .ok (.aload_n 0, 1) := by decide +kernel
theorem d_Law_law_594 : decode code 594 = .ok (.iload 4, 2) := by decide +kernel
theorem d_Law_law_596 : decode code 596 = .ok (.iconst 2, 1) := by decide +kernel
theorem d_Law_law_597 : decode code 597 = .ok (.iadd, 1) := by decide +kernel
theorem d_Law_law_598 : decode code 598 = .ok (.iaload, 1) := by decide +kernel
theorem d_Law_law_599 : decode code 599 = .ok (.invokevirtual 102, 3) := by decide +kernel
theorem k_1542 : (Jvm.Cond.methodLink "PackageBookLaw" (102 : Nat) ({ cls := "PackageBookModel", name := "reread", desc := "(II)I" } : Jvm.MethodName)) ∈ uW := uW_of 1542 (by decide +kernel) (by decide +kernel)
theorem k_1545 : (Jvm.Cond.code ({ cls := "PackageBookModel", name := "reread", desc := "(II)I" } : Jvm.MethodName) prog_12_method_60_code (4 : Nat) (Option.some Jvm.ClassFile.FieldType.int)) ∈ uW := uW_of 1545 (by decide +kernel) (by decide +kernel)
theorem k_1543 : (Jvm.Cond.instanceMethod ({ cls := "PackageBookModel", name := "reread", desc := "(II)I" } : Jvm.MethodName)) ∈ uW := uW_of 1543 (by decide +kernel) (by decide +kernel)
theorem k_1544 : (Jvm.Cond.selects "PackageBookModel" ({ cls := "PackageBookModel", name := "reread", desc := "(II)I" } : Jvm.MethodName) ({ cls := "PackageBookModel", name := "reread", desc := "(II)I" } : Jvm.MethodName)) ∈ uW := uW_of 1544 (by decide +kernel) (by decide +kernel)
theorem d_Law_law_602 : decode code 602 = .ok (.istore 6, 2) := by decide +kernel
theorem d_Law_law_604 : decode code 604 = .ok (.aload_n 2, 1) := by decide +kernel
theorem d_Law_law_605 : decode code 605 = .ok (.invokevirtual 67, 3) := by decide +kernel
theorem d_Law_law_608 : decode code 608 = .ok (.iload 5, 2) := by decide +kernel
theorem d_Law_law_610 : decode code 610 = .ok (.if_icmp .eq 5, 3) := by decide +kernel
theorem d_Law_law_615 : decode code 615 = .ok (.iload 5, 2) := by decide +kernel
theorem d_Law_law_617 : decode code 617 = .ok (.ifCond .ne 15, 3) := by decide +kernel
theorem d_Law_law_632 : decode code 632 = .ok (.goto 334, 3) := by decide +kernel
set_option maxRecDepth 100000 in
set_option maxHeartbeats 4000000 in
theorem law_9 {l : Launch} (hl : l.stackTraces = false) (G : pb_G) {M : pb_M} {b : Nat} {xs : Nat → Int32} (hQ : law_Q M b) (hX : va_X b 4 xs (pm_s M) (pm_s M).heap) (hbl : b < (pm_s M).heap.size) (hbA : ¬ pm_A M b) (x : Nat) (ta : Nat) (ca : Nat) (ps : Nat) (ex_ : Nat) (mk : Nat) (mm : Nat) (mb : Nat) (mr : Nat) (rd : Nat) (mu : Nat) (fi : Nat) (go : Nat) (sp : Nat) (ss : Nat) (m : Nat) (m_rels : Nat) (m_openRels : Nat) (m_closeRels : Nat) (m_openRel : Nat) (m_closeRel : Nat) (m_comment : Nat) (m_ends : Nat) (m_order : Nat) (m_tape : Nat) (m_count : Nat) (m_nameSize : Nat) (m_names : Nat) (m_size : Nat) (m_data : Nat) (m_looked : Nat) (m_file : Nat) (m_directory : Nat) (m_out : Nat) (m_row : Nat) (m_made : Nat) (m_length : Nat) (m_pressed : Nat) (m_mark : Nat) (m_idSize : Nat) (m_ids : Nat) (m_goalSize : Nat) (m_goals : Nat) (m_value : Nat) (m_faults : Nat) (m_reached : Nat) (o : Nat) : pb_P l G M i_Law_law 567 [(4, .int 0), (3, .ref o), (2, .ref m), (1, .ref x), (0, .ref b)] [] [(x, .inr (9, [.ref ta, .ref ca, .ref ps, .ref ex_, .ref mk, .ref rd, .ref mu, .ref fi, .ref go, .ref sp, .ref ss])), (mk, .inr (6, [.ref mm, .ref mr])), (mm, .inr (0, [.ref mb, .int 0])), (m, .inr (10, [.ref m_rels, .ref m_openRels, .ref m_closeRels, .ref m_openRel, .ref m_closeRel, .ref m_comment, .ref m_ends, .ref m_order, .int 0, .int 0, .ref m_tape, .ref m_count, .ref m_nameSize, .ref m_names, .ref m_size, .ref m_data, .int 0, .ref m_looked, .int 0, .ref m_file, .int 0, .ref m_directory, .int 0, .ref m_out, .int 0, .ref m_row, .int 0, .int 0, .int 0, .int 0, .ref m_made, .ref m_length, .int 0, .int 0, .int 0, .int 0, .int 0, .ref m_pressed, .int 0, .int 0, .int 0, .ref m_mark, .int 0, .ref m_idSize, .ref m_ids, .ref m_goalSize, .ref m_goals, .int 0, .ref m_value, .int 0, .ref m_faults, .ref m_reached])), (o, .inl (G.2.2.2.1, 1, .inr (.inl (fun _ => 0))))] 90 333577 := by
  have z0 : (0 : Int32).toInt = 0 := by decide
  have z1 : (1 : Int32).toInt = 1 := by decide
  have z2 : (0 : Int32).toNatClampNeg = 0 := by decide
  refine pb_aload_n (pc := 567) d_Law_law_567 3 rfl rfl ?_
  refine pb_aload_n (pc := 568) d_Law_law_568 4 rfl rfl ?_
  refine pb_iload (pc := 569) d_Law_law_569 0 rfl ?_
  refine pb_iconst (pc := 571) (v := 1) d_Law_law_571 (by decide) ?_
  refine pb_iadd (pc := 572) d_Law_law_572 ?_
  refine pb_asi (y := 1) (by decide) ?_
  refine pb_sld (pc := 573) hX hbl hbA (by unfold vp_in; decide) d_Law_law_573 ?_
  refine pb_asi (y := xs 1) (congrArg xs (by decide)) ?_
  refine pb_aload_n (pc := 574) d_Law_law_574 4 rfl rfl ?_
  refine pb_iload (pc := 575) d_Law_law_575 0 rfl ?_
  refine pb_iconst (pc := 577) (v := 2) d_Law_law_577 (by decide) ?_
  refine pb_iadd (pc := 578) d_Law_law_578 ?_
  refine pb_asi (y := 2) (by decide) ?_
  refine pb_sld (pc := 579) hX hbl hbA (by unfold vp_in; decide) d_Law_law_579 ?_
  refine pb_asi (y := xs 2) (congrArg xs (by decide)) ?_
  refine pb_aload_n (pc := 580) d_Law_law_580 1 rfl rfl ?_
  refine pb_callSW (pc := 581) (nA := 4) (rest := []) (wr := [(m, .inr (10, [.ref m_rels, .ref m_openRels, .ref m_closeRels, .ref m_openRel, .ref m_closeRel, .ref m_comment, .ref m_ends, .ref m_order, .int 0, .int 0, .ref m_tape, .ref m_count, .ref m_nameSize, .ref m_names, .ref m_size, .ref m_data, .int 0, .ref m_looked, .int 0, .ref m_file, .int 0, .ref m_directory, .int 0, .ref m_out, .int 0, .ref m_row, .int 0, .int 0, .int 0, .int 0, .ref m_made, .ref m_length, .int 0, .int 0, .int 0, .int 0, .int 0, .ref m_pressed, .int 0, .int 0, .int 0, .ref m_mark, .int 0, .ref m_idSize, .ref m_ids, .ref m_goalSize, .ref m_goals, .int 0, .ref m_value, .int 0, .ref m_faults, .ref m_reached]))]) d_Law_law_581 (c_Law_reread hl G x ta ca ps ex_ mk rd mu fi go sp ss mm mr mb (xs 1) (xs 2) o (fun _ => 0)) [0, 1, 2, 4] [3] (by decide) rfl rfl rfl (by decide) (by decide) k_1093 rfl k_117 k_1091 k_1092 (by decide +kernel) (by decide) rfl rfl (Nat.le_of_ble_eq_true rfl) (by decide) (fun v9 u2 h1 => ?_)
  have eh1 := h1
  have eh1 : v9 = some (.int 1) := eh1
  subst eh1
  refine pb_eq (pc' := 584) (lo' := [(4, .int 0), (3, .ref o), (2, .ref m), (1, .ref x), (0, .ref b)]) (rest' := [.int 1]) (ws' := [(m, .inr (10, [.ref m_rels, .ref m_openRels, .ref m_closeRels, .ref m_openRel, .ref m_closeRel, .ref m_comment, .ref m_ends, .ref m_order, .int 0, .int 0, .ref m_tape, .ref m_count, .ref m_nameSize, .ref m_names, .ref m_size, .ref m_data, .int 0, .ref m_looked, .int 0, .ref m_file, .int 0, .ref m_directory, .int 0, .ref m_out, .int 0, .ref m_row, .int 0, .int 0, .int 0, .int 0, .ref m_made, .ref m_length, .int 0, .int 0, .int 0, .int 0, .int 0, .ref m_pressed, .int 0, .int 0, .int 0, .ref m_mark, .int 0, .ref m_idSize, .ref m_ids, .ref m_goalSize, .ref m_goals, .int 0, .ref m_value, .int 0, .ref m_faults, .ref m_reached])), (o, .inl (G.2.2.2.1, 1, .inr (.inl (fun _ => 0))))]) ?_
  refine pb_istore (pc := 584) (lo' := [(5, .int 1), (4, .int 0), (3, .ref o), (2, .ref m), (1, .ref x), (0, .ref b)]) d_Law_law_584 (by decide) rfl ?_
  refine pb_aload_n (pc := 586) d_Law_law_586 3 rfl rfl ?_
  refine pb_aload_n (pc := 587) d_Law_law_587 5 rfl rfl ?_
  refine pb_iload (pc := 588) d_Law_law_588 1 rfl ?_
  refine pb_iconst (pc := 590) (v := 1) d_Law_law_590 (by decide) ?_
  refine pb_iadd (pc := 591) d_Law_law_591 ?_
  refine pb_asi (y := 1) (by decide) ?_
  refine pb_sld (pc := 592) hX hbl hbA (by unfold vp_in; decide) d_Law_law_592 ?_
  refine pb_asi (y := xs 1) (congrArg xs (by decide)) ?_
  refine pb_aload_n (pc := 593) d_Law_law_593 5 rfl rfl ?_
  refine pb_iload (pc := 594) d_Law_law_594 1 rfl ?_
  refine pb_iconst (pc := 596) (v := 2) d_Law_law_596 (by decide) ?_
  refine pb_iadd (pc := 597) d_Law_law_597 ?_
  refine pb_asi (y := 2) (by decide) ?_
  refine pb_sld (pc := 598) hX hbl hbA (by unfold vp_in; decide) d_Law_law_598 ?_
  refine pb_asi (y := xs 2) (congrArg xs (by decide)) ?_
  refine pb_callV (pc := 599) (qb := 0) (ci := 10) (nA := 2) (rest := []) (wr := [(o, .inl (G.2.2.2.1, 1, .inr (.inl (fun _ => 0))))]) d_Law_law_599 (c_Mod_reread hl G m m_rels m_openRels m_closeRels m_openRel m_closeRel m_comment m_ends m_order m_tape m_count m_nameSize m_names m_size m_data m_looked m_file m_directory m_out m_row m_made m_length m_pressed m_mark m_idSize m_ids m_goalSize m_goals m_value m_faults m_reached (xs 1) (xs 2)) rfl rfl [0] [1] (by decide) rfl rfl rfl (by decide) (by decide) k_1545 rfl k_128 k_1542 k_1543 k_1544 (by decide +kernel) (by decide) rfl rfl (Nat.le_of_ble_eq_true rfl) (by decide) (fun v9 u4 h3 => ?_)
  have eh3 := h3
  have eh3 : v9 = some (.int 0) := eh3
  subst eh3
  refine pb_eq (pc' := 602) (lo' := [(5, .int 1), (4, .int 0), (3, .ref o), (2, .ref m), (1, .ref x), (0, .ref b)]) (rest' := [.int 0]) (ws' := [(o, .inl (G.2.2.2.1, 1, .inr (.inl (fun _ => 0)))), (m, .inr (10, [.ref m_rels, .ref m_openRels, .ref m_closeRels, .ref m_openRel, .ref m_closeRel, .ref m_comment, .ref m_ends, .ref m_order, .int 1, .int 0, .ref m_tape, .ref m_count, .ref m_nameSize, .ref m_names, .ref m_size, .ref m_data, .int 0, .ref m_looked, .int 0, .ref m_file, .int 0, .ref m_directory, .int 0, .ref m_out, .int 0, .ref m_row, .int 0, .int 0, .int 0, .int 0, .ref m_made, .ref m_length, .int 0, .int 0, .int 0, .int 0, .int 0, .ref m_pressed, .int 0, .int 0, .int 0, .ref m_mark, .int 0, .ref m_idSize, .ref m_ids, .ref m_goalSize, .ref m_goals, .int 0, .ref m_value, .int 0, .ref m_faults, .ref m_reached]))]) ?_
  refine pb_istore (pc := 602) (lo' := [(6, .int 0), (5, .int 1), (4, .int 0), (3, .ref o), (2, .ref m), (1, .ref x), (0, .ref b)]) d_Law_law_602 (by decide) rfl ?_
  refine pb_aload_n (pc := 604) d_Law_law_604 4 rfl rfl ?_
  refine pb_callV (pc := 605) (qb := 1) (ci := 10) (nA := 0) (rest := []) (wr := [(o, .inl (G.2.2.2.1, 1, .inr (.inl (fun _ => 0))))]) d_Law_law_605 (c_Mod_thrown hl G m m_rels m_openRels m_closeRels m_openRel m_closeRel m_comment m_ends m_order m_tape m_count m_nameSize m_names m_size m_data m_looked m_file m_directory m_out m_row m_made m_length m_pressed m_mark m_idSize m_ids m_goalSize m_goals m_value m_faults m_reached 1 0 0 0 0 0 0 0 0 0 0 0 0 0 0 0 0 0 0 0 0 0) rfl rfl [1] [0] (by decide) rfl rfl rfl (by decide) (by decide) k_1307 rfl k_128 k_1304 k_1305 k_1306 (by decide +kernel) (by decide) rfl rfl (Nat.le_of_ble_eq_true rfl) (by decide) (fun v9 u6 h5 => ?_)
  have eh5 := h5
  have eh5 : v9 = some (.int 1) := eh5
  subst eh5
  refine pb_eq (pc' := 608) (lo' := [(6, .int 0), (5, .int 1), (4, .int 0), (3, .ref o), (2, .ref m), (1, .ref x), (0, .ref b)]) (rest' := [.int 1]) (ws' := [(o, .inl (G.2.2.2.1, 1, .inr (.inl (fun _ => 0))))]) ?_
  refine pb_iload (pc := 608) d_Law_law_608 1 rfl ?_
  refine pb_icmp_eq (pc := 610) (tgt := 615) d_Law_law_610 (by decide) (fun _ => ?_) (fun h9 => absurd h9 (by decide))
  refine pb_iload (pc := 615) d_Law_law_615 1 rfl ?_
  refine pb_if_ne (pc := 617) (tgt := 632) d_Law_law_617 (by decide) (fun _ => ?_) (fun h9 => absurd h9 (by decide))
  refine pb_goto (pc := 632) (tgt := 966) d_Law_law_632 (by decide) ?_
  refine pb_re (ws' := []) (lo' := [(4, .int 0), (0, .ref b)]) [] [2, 6] (by decide) rfl rfl rfl ?_
  exact law_tail hQ hX hbl hbA (by decide) (by decide)

theorem d_Law_law_679 : decode code 679 = .ok (.aload_n 1, 1) := by decide +kernel
theorem d_Law_law_680 : decode code 680 = .ok (.invokevirtual 107, 3) := by decide +kernel
theorem k_713 : (Jvm.Cond.methodLink "PackageBookLaw" (107 : Nat) ({ cls := "PackageBook", name := "expand", desc := "()I" } : Jvm.MethodName)) ∈ uW := uW_of 713 (by decide +kernel) (by decide +kernel)
theorem k_716 : (Jvm.Cond.code ({ cls := "PackageBook", name := "expand", desc := "()I" } : Jvm.MethodName) prog_1_method_13_code (2 : Nat) (Option.some Jvm.ClassFile.FieldType.int)) ∈ uW := uW_of 716 (by decide +kernel) (by decide +kernel)
theorem k_714 : (Jvm.Cond.instanceMethod ({ cls := "PackageBook", name := "expand", desc := "()I" } : Jvm.MethodName)) ∈ uW := uW_of 714 (by decide +kernel) (by decide +kernel)
theorem k_715 : (Jvm.Cond.selects "PackageBook" ({ cls := "PackageBook", name := "expand", desc := "()I" } : Jvm.MethodName) ({ cls := "PackageBook", name := "expand", desc := "()I" } : Jvm.MethodName)) ∈ uW := uW_of 715 (by decide +kernel) (by decide +kernel)
theorem d_Law_law_683 : decode code 683 = .ok (.aload_n 2, 1) := by decide +kernel
theorem d_Law_law_684 : decode code 684 = .ok (.invokevirtual 110, 3) := by decide +kernel
theorem k_1415 : (Jvm.Cond.methodLink "PackageBookLaw" (110 : Nat) ({ cls := "PackageBookModel", name := "expand", desc := "()I" } : Jvm.MethodName)) ∈ uW := uW_of 1415 (by decide +kernel) (by decide +kernel)
theorem k_1418 : (Jvm.Cond.code ({ cls := "PackageBookModel", name := "expand", desc := "()I" } : Jvm.MethodName) prog_12_method_47_code (3 : Nat) (Option.some Jvm.ClassFile.FieldType.int)) ∈ uW := uW_of 1418 (by decide +kernel) (by decide +kernel)
theorem k_1416 : (Jvm.Cond.instanceMethod ({ cls := "PackageBookModel", name := "expand", desc := "()I" } : Jvm.MethodName)) ∈ uW := uW_of 1416 (by decide +kernel) (by decide +kernel)
theorem k_1417 : (Jvm.Cond.selects "PackageBookModel" ({ cls := "PackageBookModel", name := "expand", desc := "()I" } : Jvm.MethodName) ({ cls := "PackageBookModel", name := "expand", desc := "()I" } : Jvm.MethodName)) ∈ uW := uW_of 1417 (by decide +kernel) (by decide +kernel)
theorem d_Law_law_687 : decode code 687 = .ok (.if_icmp .eq 279, 3) := by decide +kernel
set_option maxRecDepth 100000 in
set_option maxHeartbeats 4000000 in
theorem law_11 {l : Launch} (hl : l.stackTraces = false) (G : pb_G) {M : pb_M} {b : Nat} {xs : Nat → Int32} (hQ : law_Q M b) (hX : va_X b 4 xs (pm_s M) (pm_s M).heap) (hbl : b < (pm_s M).heap.size) (hbA : ¬ pm_A M b) (x : Nat) (ta : Nat) (tb : Nat) (ca : Nat) (ps : Nat) (ex_ : Nat) (ex : Nat) (ey : Nat) (et : Nat) (ea : Nat) (eb : Nat) (ec : Nat) (ed : Nat) (ef : Nat) (er : Nat) (mk : Nat) (rd : Nat) (mu : Nat) (fi : Nat) (go : Nat) (sp : Nat) (ss : Nat) (m : Nat) (m_rels : Nat) (m_openRels : Nat) (m_closeRels : Nat) (m_openRel : Nat) (m_closeRel : Nat) (m_comment : Nat) (m_ends : Nat) (m_order : Nat) (m_tape : Nat) (m_count : Nat) (m_nameSize : Nat) (m_names : Nat) (m_size : Nat) (m_data : Nat) (m_looked : Nat) (m_file : Nat) (m_directory : Nat) (m_out : Nat) (m_row : Nat) (m_made : Nat) (m_length : Nat) (m_pressed : Nat) (m_mark : Nat) (m_idSize : Nat) (m_ids : Nat) (m_goalSize : Nat) (m_goals : Nat) (m_value : Nat) (m_faults : Nat) (m_reached : Nat) (o : Nat) : pb_P l G M i_Law_law 679 [(4, .int 0), (3, .ref o), (2, .ref m), (1, .ref x), (0, .ref b)] [] [(x, .inr (9, [.ref ta, .ref ca, .ref ps, .ref ex_, .ref mk, .ref rd, .ref mu, .ref fi, .ref go, .ref sp, .ref ss])), (ta, .inr (0, [.ref tb, .int 0])), (ex_, .inr (5, [.ref ex, .ref et, .ref ea, .ref eb, .ref ec, .ref ed, .ref ef, .ref er, .int 0, .int 0, .int 0])), (ex, .inr (0, [.ref ey, .int 0])), (m, .inr (10, [.ref m_rels, .ref m_openRels, .ref m_closeRels, .ref m_openRel, .ref m_closeRel, .ref m_comment, .ref m_ends, .ref m_order, .int 0, .int 0, .ref m_tape, .ref m_count, .ref m_nameSize, .ref m_names, .ref m_size, .ref m_data, .int 0, .ref m_looked, .int 0, .ref m_file, .int 0, .ref m_directory, .int 0, .ref m_out, .int 0, .ref m_row, .int 0, .int 0, .int 0, .int 0, .ref m_made, .ref m_length, .int 0, .int 0, .int 0, .int 0, .int 0, .ref m_pressed, .int 0, .int 0, .int 0, .ref m_mark, .int 0, .ref m_idSize, .ref m_ids, .ref m_goalSize, .ref m_goals, .int 0, .ref m_value, .int 0, .ref m_faults, .ref m_reached]))] 90 333577 := by
  have z0 : (0 : Int32).toInt = 0 := by decide
  have z1 : (1 : Int32).toInt = 1 := by decide
  have z2 : (0 : Int32).toNatClampNeg = 0 := by decide
  refine pb_aload_n (pc := 679) d_Law_law_679 3 rfl rfl ?_
  refine pb_callV (pc := 680) (qb := 0) (ci := 9) (nA := 0) (rest := []) (wr := [(m, .inr (10, [.ref m_rels, .ref m_openRels, .ref m_closeRels, .ref m_openRel, .ref m_closeRel, .ref m_comment, .ref m_ends, .ref m_order, .int 0, .int 0, .ref m_tape, .ref m_count, .ref m_nameSize, .ref m_names, .ref m_size, .ref m_data, .int 0, .ref m_looked, .int 0, .ref m_file, .int 0, .ref m_directory, .int 0, .ref m_out, .int 0, .ref m_row, .int 0, .int 0, .int 0, .int 0, .ref m_made, .ref m_length, .int 0, .int 0, .int 0, .int 0, .int 0, .ref m_pressed, .int 0, .int 0, .int 0, .ref m_mark, .int 0, .ref m_idSize, .ref m_ids, .ref m_goalSize, .ref m_goals, .int 0, .ref m_value, .int 0, .ref m_faults, .ref m_reached]))]) d_Law_law_680 (c_Book_expand hl G x ta ca ps ex_ mk rd mu fi go sp ss tb ex et ea eb ec ed ef er ey 0) rfl rfl [0, 1, 2, 3] [4] (by decide) rfl rfl rfl (by decide) (by decide) k_716 rfl k_118 k_713 k_714 k_715 (by decide +kernel) (by decide) rfl rfl (Nat.le_of_ble_eq_true rfl) (by decide) (fun v9 u2 h1 => ?_)
  have eh1 := h1
  have eh1 : v9 = some (.int (-1)) := eh1
  subst eh1
  refine pb_eq (pc' := 683) (lo' := [(4, .int 0), (3, .ref o), (2, .ref m), (1, .ref x), (0, .ref b)]) (rest' := [.int (-1)]) (ws' := [(m, .inr (10, [.ref m_rels, .ref m_openRels, .ref m_closeRels, .ref m_openRel, .ref m_closeRel, .ref m_comment, .ref m_ends, .ref m_order, .int 0, .int 0, .ref m_tape, .ref m_count, .ref m_nameSize, .ref m_names, .ref m_size, .ref m_data, .int 0, .ref m_looked, .int 0, .ref m_file, .int 0, .ref m_directory, .int 0, .ref m_out, .int 0, .ref m_row, .int 0, .int 0, .int 0, .int 0, .ref m_made, .ref m_length, .int 0, .int 0, .int 0, .int 0, .int 0, .ref m_pressed, .int 0, .int 0, .int 0, .ref m_mark, .int 0, .ref m_idSize, .ref m_ids, .ref m_goalSize, .ref m_goals, .int 0, .ref m_value, .int 0, .ref m_faults, .ref m_reached]))]) ?_
  refine pb_aload_n (pc := 683) d_Law_law_683 2 rfl rfl ?_
  refine pb_callV (pc := 684) (qb := 0) (ci := 10) (nA := 0) (rest := [.int (-1)]) (wr := []) d_Law_law_684 (c_Mod_expand hl G m m_rels m_openRels m_closeRels m_openRel m_closeRel m_comment m_ends m_order m_tape m_count m_nameSize m_names m_size m_data m_looked m_file m_directory m_out m_row m_made m_length m_pressed m_mark m_idSize m_ids m_goalSize m_goals m_value m_faults m_reached) rfl rfl [0] [] (by decide) rfl rfl rfl (by decide) (by decide) k_1418 rfl k_128 k_1415 k_1416 k_1417 (by decide +kernel) (by decide) rfl rfl (Nat.le_of_ble_eq_true rfl) (by decide) (fun v9 u4 h3 => ?_)
  have eh3 := h3
  have eh3 : v9 = some (.int (-1)) := eh3
  subst eh3
  refine pb_eq (pc' := 687) (lo' := [(4, .int 0), (3, .ref o), (2, .ref m), (1, .ref x), (0, .ref b)]) (rest' := [.int (-1), .int (-1)]) (ws' := []) ?_
  refine pb_icmp_eq (pc := 687) (tgt := 966) d_Law_law_687 (by decide) (fun _ => ?_) (fun h9 => absurd h9 (by decide))
  refine pb_re (ws' := []) (lo' := [(4, .int 0), (0, .ref b)]) [] [0, 4] (by decide) rfl rfl rfl ?_
  exact law_tail hQ hX hbl hbA (by decide) (by decide)

theorem d_Law_law_692 : decode code 692 = .ok (.aload_n 1, 1) := by decide +kernel
theorem d_Law_law_693 : decode code 693 = .ok (.invokevirtual 111, 3) := by decide +kernel
theorem k_723 : (Jvm.Cond.methodLink "PackageBookLaw" (111 : Nat) ({ cls := "PackageBook", name := "sum", desc := "()I" } : Jvm.MethodName)) ∈ uW := uW_of 723 (by decide +kernel) (by decide +kernel)
theorem k_726 : (Jvm.Cond.code ({ cls := "PackageBook", name := "sum", desc := "()I" } : Jvm.MethodName) prog_1_method_14_code (1 : Nat) (Option.some Jvm.ClassFile.FieldType.int)) ∈ uW := uW_of 726 (by decide +kernel) (by decide +kernel)
theorem k_724 : (Jvm.Cond.instanceMethod ({ cls := "PackageBook", name := "sum", desc := "()I" } : Jvm.MethodName)) ∈ uW := uW_of 724 (by decide +kernel) (by decide +kernel)
theorem k_725 : (Jvm.Cond.selects "PackageBook" ({ cls := "PackageBook", name := "sum", desc := "()I" } : Jvm.MethodName) ({ cls := "PackageBook", name := "sum", desc := "()I" } : Jvm.MethodName)) ∈ uW := uW_of 725 (by decide +kernel) (by decide +kernel)
theorem d_Law_law_696 : decode code 696 = .ok (.aload_n 2, 1) := by decide +kernel
theorem d_Law_law_697 : decode code 697 = .ok (.invokevirtual 114, 3) := by decide +kernel
theorem k_1366 : (Jvm.Cond.methodLink "PackageBookLaw" (114 : Nat) ({ cls := "PackageBookModel", name := "sum", desc := "()I" } : Jvm.MethodName)) ∈ uW := uW_of 1366 (by decide +kernel) (by decide +kernel)
theorem k_1369 : (Jvm.Cond.code ({ cls := "PackageBookModel", name := "sum", desc := "()I" } : Jvm.MethodName) prog_12_method_19_code (2 : Nat) (Option.some Jvm.ClassFile.FieldType.int)) ∈ uW := uW_of 1369 (by decide +kernel) (by decide +kernel)
theorem k_1367 : (Jvm.Cond.instanceMethod ({ cls := "PackageBookModel", name := "sum", desc := "()I" } : Jvm.MethodName)) ∈ uW := uW_of 1367 (by decide +kernel) (by decide +kernel)
theorem k_1368 : (Jvm.Cond.selects "PackageBookModel" ({ cls := "PackageBookModel", name := "sum", desc := "()I" } : Jvm.MethodName) ({ cls := "PackageBookModel", name := "sum", desc := "()I" } : Jvm.MethodName)) ∈ uW := uW_of 1368 (by decide +kernel) (by decide +kernel)
theorem d_Law_law_700 : decode code 700 = .ok (.if_icmp .eq 266, 3) := by decide +kernel
set_option maxRecDepth 100000 in
set_option maxHeartbeats 4000000 in
theorem law_12 {l : Launch} (hl : l.stackTraces = false) (G : pb_G) {M : pb_M} {b : Nat} {xs : Nat → Int32} (hQ : law_Q M b) (hX : va_X b 4 xs (pm_s M) (pm_s M).heap) (hbl : b < (pm_s M).heap.size) (hbA : ¬ pm_A M b) (x : Nat) (ta : Nat) (tb : Nat) (ca : Nat) (ps : Nat) (ex_ : Nat) (mk : Nat) (rd : Nat) (mu : Nat) (fi : Nat) (go : Nat) (sp : Nat) (ss : Nat) (m : Nat) (m_rels : Nat) (m_openRels : Nat) (m_closeRels : Nat) (m_openRel : Nat) (m_closeRel : Nat) (m_comment : Nat) (m_ends : Nat) (m_order : Nat) (m_tape : Nat) (m_count : Nat) (m_nameSize : Nat) (m_names : Nat) (m_size : Nat) (m_data : Nat) (m_looked : Nat) (m_file : Nat) (m_directory : Nat) (m_out : Nat) (m_row : Nat) (m_made : Nat) (m_length : Nat) (m_pressed : Nat) (m_mark : Nat) (m_idSize : Nat) (m_ids : Nat) (m_goalSize : Nat) (m_goals : Nat) (m_value : Nat) (m_faults : Nat) (m_reached : Nat) (o : Nat) : pb_P l G M i_Law_law 692 [(4, .int 0), (3, .ref o), (2, .ref m), (1, .ref x), (0, .ref b)] [] [(x, .inr (9, [.ref ta, .ref ca, .ref ps, .ref ex_, .ref mk, .ref rd, .ref mu, .ref fi, .ref go, .ref sp, .ref ss])), (ta, .inr (0, [.ref tb, .int 0])), (m, .inr (10, [.ref m_rels, .ref m_openRels, .ref m_closeRels, .ref m_openRel, .ref m_closeRel, .ref m_comment, .ref m_ends, .ref m_order, .int 0, .int 0, .ref m_tape, .ref m_count, .ref m_nameSize, .ref m_names, .ref m_size, .ref m_data, .int 0, .ref m_looked, .int 0, .ref m_file, .int 0, .ref m_directory, .int 0, .ref m_out, .int 0, .ref m_row, .int 0, .int 0, .int 0, .int 0, .ref m_made, .ref m_length, .int 0, .int 0, .int 0, .int 0, .int 0, .ref m_pressed, .int 0, .int 0, .int 0, .ref m_mark, .int 0, .ref m_idSize, .ref m_ids, .ref m_goalSize, .ref m_goals, .int 0, .ref m_value, .int 0, .ref m_faults, .ref m_reached]))] 90 333577 := by
  have z0 : (0 : Int32).toInt = 0 := by decide
  have z1 : (1 : Int32).toInt = 1 := by decide
  have z2 : (0 : Int32).toNatClampNeg = 0 := by decide
  refine pb_aload_n (pc := 692) d_Law_law_692 3 rfl rfl ?_
  refine pb_callV (pc := 693) (qb := 0) (ci := 9) (nA := 0) (rest := []) (wr := [(m, .inr (10, [.ref m_rels, .ref m_openRels, .ref m_closeRels, .ref m_openRel, .ref m_closeRel, .ref m_comment, .ref m_ends, .ref m_order, .int 0, .int 0, .ref m_tape, .ref m_count, .ref m_nameSize, .ref m_names, .ref m_size, .ref m_data, .int 0, .ref m_looked, .int 0, .ref m_file, .int 0, .ref m_directory, .int 0, .ref m_out, .int 0, .ref m_row, .int 0, .int 0, .int 0, .int 0, .ref m_made, .ref m_length, .int 0, .int 0, .int 0, .int 0, .int 0, .ref m_pressed, .int 0, .int 0, .int 0, .ref m_mark, .int 0, .ref m_idSize, .ref m_ids, .ref m_goalSize, .ref m_goals, .int 0, .ref m_value, .int 0, .ref m_faults, .ref m_reached]))]) d_Law_law_693 (c_Book_sum hl G x ta ca ps ex_ mk rd mu fi go sp ss tb) rfl rfl [0, 1] [2] (by decide) rfl rfl rfl (by decide) (by decide) k_726 rfl k_118 k_723 k_724 k_725 (by decide +kernel) (by decide) rfl rfl (Nat.le_of_ble_eq_true rfl) (by decide) (fun v9 u2 h1 => ?_)
  have eh1 := h1
  have eh1 : v9 = some (.int 0) := eh1
  subst eh1
  refine pb_eq (pc' := 696) (lo' := [(4, .int 0), (3, .ref o), (2, .ref m), (1, .ref x), (0, .ref b)]) (rest' := [.int 0]) (ws' := [(m, .inr (10, [.ref m_rels, .ref m_openRels, .ref m_closeRels, .ref m_openRel, .ref m_closeRel, .ref m_comment, .ref m_ends, .ref m_order, .int 0, .int 0, .ref m_tape, .ref m_count, .ref m_nameSize, .ref m_names, .ref m_size, .ref m_data, .int 0, .ref m_looked, .int 0, .ref m_file, .int 0, .ref m_directory, .int 0, .ref m_out, .int 0, .ref m_row, .int 0, .int 0, .int 0, .int 0, .ref m_made, .ref m_length, .int 0, .int 0, .int 0, .int 0, .int 0, .ref m_pressed, .int 0, .int 0, .int 0, .ref m_mark, .int 0, .ref m_idSize, .ref m_ids, .ref m_goalSize, .ref m_goals, .int 0, .ref m_value, .int 0, .ref m_faults, .ref m_reached]))]) ?_
  refine pb_aload_n (pc := 696) d_Law_law_696 2 rfl rfl ?_
  refine pb_callV (pc := 697) (qb := 0) (ci := 10) (nA := 0) (rest := [.int 0]) (wr := []) d_Law_law_697 (c_Mod_sum hl G m m_rels m_openRels m_closeRels m_openRel m_closeRel m_comment m_ends m_order m_tape m_count m_nameSize m_names m_size m_data m_looked m_file m_directory m_out m_row m_made m_length m_pressed m_mark m_idSize m_ids m_goalSize m_goals m_value m_faults m_reached) rfl rfl [0] [] (by decide) rfl rfl rfl (by decide) (by decide) k_1369 rfl k_128 k_1366 k_1367 k_1368 (by decide +kernel) (by decide) rfl rfl (Nat.le_of_ble_eq_true rfl) (by decide) (fun v9 u4 h3 => ?_)
  have eh3 := h3
  have eh3 : v9 = some (.int 0) := eh3
  subst eh3
  refine pb_eq (pc' := 700) (lo' := [(4, .int 0), (3, .ref o), (2, .ref m), (1, .ref x), (0, .ref b)]) (rest' := [.int 0, .int 0]) (ws' := []) ?_
  refine pb_icmp_eq (pc := 700) (tgt := 966) d_Law_law_700 (by decide) (fun _ => ?_) (fun h9 => absurd h9 (by decide))
  refine pb_re (ws' := []) (lo' := [(4, .int 0), (0, .ref b)]) [] [0, 4] (by decide) rfl rfl rfl ?_
  exact law_tail hQ hX hbl hbA (by decide) (by decide)

theorem d_Law_law_705 : decode code 705 = .ok (.aload_n 1, 1) := by decide +kernel
theorem d_Law_law_706 : decode code 706 = .ok (.aload_n 0, 1) := by decide +kernel
theorem d_Law_law_707 : decode code 707 = .ok (.iload 4, 2) := by decide +kernel
theorem d_Law_law_709 : decode code 709 = .ok (.iconst 1, 1) := by decide +kernel
theorem d_Law_law_710 : decode code 710 = .ok (.iadd, 1) := by decide +kernel
theorem d_Law_law_711 : decode code 711 = .ok (.iaload, 1) := by decide +kernel
theorem d_Law_law_712 : decode code 712 = .ok (.aload_n 3, 1) := by decide +kernel
theorem d_Law_law_713 : decode code 713 = .ok (.invokestatic 115, 3) := by decide +kernel
theorem k_1108 : (Jvm.Cond.methodLink "PackageBookLaw" (115 : Nat) ({ cls := "PackageBookLaw", name := "out", desc := "(LPackageBook;I[J)I" } : Jvm.MethodName)) ∈ uW := uW_of 1108 (by decide +kernel) (by decide +kernel)
theorem k_1110 : (Jvm.Cond.codeWith ({ cls := "PackageBookLaw", name := "out", desc := "(LPackageBook;I[J)I" } : Jvm.MethodName) method_11_code (4 : Nat) (Option.some Jvm.ClassFile.FieldType.int) [((0 : Nat), (9 : Nat), (12 : Nat), (28 : Nat))]) ∈ uW := uW_of 1110 (by decide +kernel) (by decide +kernel)
theorem k_1109 : (Jvm.Cond.static ({ cls := "PackageBookLaw", name := "out", desc := "(LPackageBook;I[J)I" } : Jvm.MethodName)) ∈ uW := uW_of 1109 (by decide +kernel) (by decide +kernel)
theorem d_Law_law_716 : decode code 716 = .ok (.istore 5, 2) := by decide +kernel
theorem d_Law_law_718 : decode code 718 = .ok (.aload_n 2, 1) := by decide +kernel
theorem d_Law_law_719 : decode code 719 = .ok (.aload_n 0, 1) := by decide +kernel
theorem d_Law_law_720 : decode code 720 = .ok (.iload 4, 2) := by decide +kernel
theorem d_Law_law_722 : decode code 722 = .ok (.iconst 1, 1) := by decide +kernel
theorem d_Law_law_723 : decode code 723 = .ok (.iadd, 1) := by decide +kernel
theorem d_Law_law_724 : decode code 724 = .ok (.iaload, 1) := by decide +kernel
theorem d_Law_law_725 : decode code 725 = .ok (.invokevirtual 117, 3) := by decide +kernel
theorem k_1484 : (Jvm.Cond.methodLink "PackageBookLaw" (117 : Nat) ({ cls := "PackageBookModel", name := "out", desc := "(I)I" } : Jvm.MethodName)) ∈ uW := uW_of 1484 (by decide +kernel) (by decide +kernel)
theorem k_1487 : (Jvm.Cond.code ({ cls := "PackageBookModel", name := "out", desc := "(I)I" } : Jvm.MethodName) prog_12_method_48_code (2 : Nat) (Option.some Jvm.ClassFile.FieldType.int)) ∈ uW := uW_of 1487 (by decide +kernel) (by decide +kernel)
theorem k_1485 : (Jvm.Cond.instanceMethod ({ cls := "PackageBookModel", name := "out", desc := "(I)I" } : Jvm.MethodName)) ∈ uW := uW_of 1485 (by decide +kernel) (by decide +kernel)
theorem k_1486 : (Jvm.Cond.selects "PackageBookModel" ({ cls := "PackageBookModel", name := "out", desc := "(I)I" } : Jvm.MethodName) ({ cls := "PackageBookModel", name := "out", desc := "(I)I" } : Jvm.MethodName)) ∈ uW := uW_of 1486 (by decide +kernel) (by decide +kernel)
theorem d_Law_law_728 : decode code 728 = .ok (.istore 6, 2) := by decide +kernel
theorem d_Law_law_730 : decode code 730 = .ok (.aload_n 2, 1) := by decide +kernel
theorem d_Law_law_731 : decode code 731 = .ok (.invokevirtual 67, 3) := by decide +kernel
theorem d_Law_law_734 : decode code 734 = .ok (.iload 5, 2) := by decide +kernel
theorem d_Law_law_736 : decode code 736 = .ok (.if_icmp .eq 5, 3) := by decide +kernel
theorem d_Law_law_741 : decode code 741 = .ok (.iload 5, 2) := by decide +kernel
theorem d_Law_law_743 : decode code 743 = .ok (.ifCond .ne 15, 3) := by decide +kernel
theorem d_Law_law_758 : decode code 758 = .ok (.goto 208, 3) := by decide +kernel
set_option maxRecDepth 100000 in
set_option maxHeartbeats 4000000 in
theorem law_13 {l : Launch} (hl : l.stackTraces = false) (G : pb_G) {M : pb_M} {b : Nat} {xs : Nat → Int32} (hQ : law_Q M b) (hX : va_X b 4 xs (pm_s M) (pm_s M).heap) (hbl : b < (pm_s M).heap.size) (hbA : ¬ pm_A M b) (x : Nat) (ta : Nat) (ca : Nat) (cb : Nat) (ps : Nat) (ex_ : Nat) (mk : Nat) (rd : Nat) (mu : Nat) (fi : Nat) (go : Nat) (sp : Nat) (ss : Nat) (m : Nat) (m_rels : Nat) (m_openRels : Nat) (m_closeRels : Nat) (m_openRel : Nat) (m_closeRel : Nat) (m_comment : Nat) (m_ends : Nat) (m_order : Nat) (m_tape : Nat) (m_count : Nat) (m_nameSize : Nat) (m_names : Nat) (m_size : Nat) (m_data : Nat) (m_looked : Nat) (m_file : Nat) (m_directory : Nat) (m_out : Nat) (m_row : Nat) (m_made : Nat) (m_length : Nat) (m_pressed : Nat) (m_mark : Nat) (m_idSize : Nat) (m_ids : Nat) (m_goalSize : Nat) (m_goals : Nat) (m_value : Nat) (m_faults : Nat) (m_reached : Nat) (o : Nat) : pb_P l G M i_Law_law 705 [(4, .int 0), (3, .ref o), (2, .ref m), (1, .ref x), (0, .ref b)] [] [(x, .inr (9, [.ref ta, .ref ca, .ref ps, .ref ex_, .ref mk, .ref rd, .ref mu, .ref fi, .ref go, .ref sp, .ref ss])), (ca, .inr (0, [.ref cb, .int 0])), (m, .inr (10, [.ref m_rels, .ref m_openRels, .ref m_closeRels, .ref m_openRel, .ref m_closeRel, .ref m_comment, .ref m_ends, .ref m_order, .int 0, .int 0, .ref m_tape, .ref m_count, .ref m_nameSize, .ref m_names, .ref m_size, .ref m_data, .int 0, .ref m_looked, .int 0, .ref m_file, .int 0, .ref m_directory, .int 0, .ref m_out, .int 0, .ref m_row, .int 0, .int 0, .int 0, .int 0, .ref m_made, .ref m_length, .int 0, .int 0, .int 0, .int 0, .int 0, .ref m_pressed, .int 0, .int 0, .int 0, .ref m_mark, .int 0, .ref m_idSize, .ref m_ids, .ref m_goalSize, .ref m_goals, .int 0, .ref m_value, .int 0, .ref m_faults, .ref m_reached])), (o, .inl (G.2.2.2.1, 1, .inr (.inl (fun _ => 0))))] 90 333577 := by
  have z0 : (0 : Int32).toInt = 0 := by decide
  have z1 : (1 : Int32).toInt = 1 := by decide
  have z2 : (0 : Int32).toNatClampNeg = 0 := by decide
  refine pb_aload_n (pc := 705) d_Law_law_705 3 rfl rfl ?_
  refine pb_aload_n (pc := 706) d_Law_law_706 4 rfl rfl ?_
  refine pb_iload (pc := 707) d_Law_law_707 0 rfl ?_
  refine pb_iconst (pc := 709) (v := 1) d_Law_law_709 (by decide) ?_
  refine pb_iadd (pc := 710) d_Law_law_710 ?_
  refine pb_asi (y := 1) (by decide) ?_
  refine pb_sld (pc := 711) hX hbl hbA (by unfold vp_in; decide) d_Law_law_711 ?_
  refine pb_asi (y := xs 1) (congrArg xs (by decide)) ?_
  refine pb_aload_n (pc := 712) d_Law_law_712 1 rfl rfl ?_
  refine pb_callSW (pc := 713) (nA := 3) (rest := []) (wr := [(m, .inr (10, [.ref m_rels, .ref m_openRels, .ref m_closeRels, .ref m_openRel, .ref m_closeRel, .ref m_comment, .ref m_ends, .ref m_order, .int 0, .int 0, .ref m_tape, .ref m_count, .ref m_nameSize, .ref m_names, .ref m_size, .ref m_data, .int 0, .ref m_looked, .int 0, .ref m_file, .int 0, .ref m_directory, .int 0, .ref m_out, .int 0, .ref m_row, .int 0, .int 0, .int 0, .int 0, .ref m_made, .ref m_length, .int 0, .int 0, .int 0, .int 0, .int 0, .ref m_pressed, .int 0, .int 0, .int 0, .ref m_mark, .int 0, .ref m_idSize, .ref m_ids, .ref m_goalSize, .ref m_goals, .int 0, .ref m_value, .int 0, .ref m_faults, .ref m_reached]))]) d_Law_law_713 (c_Law_out hl G x ta ca ps ex_ mk rd mu fi go sp ss cb (xs 1) o (fun _ => 0)) [0, 1, 3] [2] (by decide) rfl rfl rfl (by decide) (by decide) k_1110 rfl k_117 k_1108 k_1109 (by decide +kernel) (by decide) rfl rfl (Nat.le_of_ble_eq_true rfl) (by decide) (fun v9 u2 h1 => ?_)
  have eh1 := h1
  have eh1 : v9 = some (.int 1) := eh1
  subst eh1
  refine pb_eq (pc' := 716) (lo' := [(4, .int 0), (3, .ref o), (2, .ref m), (1, .ref x), (0, .ref b)]) (rest' := [.int 1]) (ws' := [(m, .inr (10, [.ref m_rels, .ref m_openRels, .ref m_closeRels, .ref m_openRel, .ref m_closeRel, .ref m_comment, .ref m_ends, .ref m_order, .int 0, .int 0, .ref m_tape, .ref m_count, .ref m_nameSize, .ref m_names, .ref m_size, .ref m_data, .int 0, .ref m_looked, .int 0, .ref m_file, .int 0, .ref m_directory, .int 0, .ref m_out, .int 0, .ref m_row, .int 0, .int 0, .int 0, .int 0, .ref m_made, .ref m_length, .int 0, .int 0, .int 0, .int 0, .int 0, .ref m_pressed, .int 0, .int 0, .int 0, .ref m_mark, .int 0, .ref m_idSize, .ref m_ids, .ref m_goalSize, .ref m_goals, .int 0, .ref m_value, .int 0, .ref m_faults, .ref m_reached])), (o, .inl (G.2.2.2.1, 1, .inr (.inl (fun _ => 0))))]) ?_
  refine pb_istore (pc := 716) (lo' := [(5, .int 1), (4, .int 0), (3, .ref o), (2, .ref m), (1, .ref x), (0, .ref b)]) d_Law_law_716 (by decide) rfl ?_
  refine pb_aload_n (pc := 718) d_Law_law_718 3 rfl rfl ?_
  refine pb_aload_n (pc := 719) d_Law_law_719 5 rfl rfl ?_
  refine pb_iload (pc := 720) d_Law_law_720 1 rfl ?_
  refine pb_iconst (pc := 722) (v := 1) d_Law_law_722 (by decide) ?_
  refine pb_iadd (pc := 723) d_Law_law_723 ?_
  refine pb_asi (y := 1) (by decide) ?_
  refine pb_sld (pc := 724) hX hbl hbA (by unfold vp_in; decide) d_Law_law_724 ?_
  refine pb_asi (y := xs 1) (congrArg xs (by decide)) ?_
  refine pb_callV (pc := 725) (qb := 0) (ci := 10) (nA := 1) (rest := []) (wr := [(o, .inl (G.2.2.2.1, 1, .inr (.inl (fun _ => 0))))]) d_Law_law_725 (c_Mod_out hl G m m_rels m_openRels m_closeRels m_openRel m_closeRel m_comment m_ends m_order m_tape m_count m_nameSize m_names m_size m_data m_looked m_file m_directory m_out m_row m_made m_length m_pressed m_mark m_idSize m_ids m_goalSize m_goals m_value m_faults m_reached (xs 1)) rfl rfl [0] [1] (by decide) rfl rfl rfl (by decide) (by decide) k_1487 rfl k_128 k_1484 k_1485 k_1486 (by decide +kernel) (by decide) rfl rfl (Nat.le_of_ble_eq_true rfl) (by decide) (fun v9 u4 h3 => ?_)
  have eh3 := h3
  have eh3 : v9 = some (.int 0) := eh3
  subst eh3
  refine pb_eq (pc' := 728) (lo' := [(5, .int 1), (4, .int 0), (3, .ref o), (2, .ref m), (1, .ref x), (0, .ref b)]) (rest' := [.int 0]) (ws' := [(o, .inl (G.2.2.2.1, 1, .inr (.inl (fun _ => 0)))), (m, .inr (10, [.ref m_rels, .ref m_openRels, .ref m_closeRels, .ref m_openRel, .ref m_closeRel, .ref m_comment, .ref m_ends, .ref m_order, .int 1, .int 0, .ref m_tape, .ref m_count, .ref m_nameSize, .ref m_names, .ref m_size, .ref m_data, .int 0, .ref m_looked, .int 0, .ref m_file, .int 0, .ref m_directory, .int 0, .ref m_out, .int 0, .ref m_row, .int 0, .int 0, .int 0, .int 0, .ref m_made, .ref m_length, .int 0, .int 0, .int 0, .int 0, .int 0, .ref m_pressed, .int 0, .int 0, .int 0, .ref m_mark, .int 0, .ref m_idSize, .ref m_ids, .ref m_goalSize, .ref m_goals, .int 0, .ref m_value, .int 0, .ref m_faults, .ref m_reached]))]) ?_
  refine pb_istore (pc := 728) (lo' := [(6, .int 0), (5, .int 1), (4, .int 0), (3, .ref o), (2, .ref m), (1, .ref x), (0, .ref b)]) d_Law_law_728 (by decide) rfl ?_
  refine pb_aload_n (pc := 730) d_Law_law_730 4 rfl rfl ?_
  refine pb_callV (pc := 731) (qb := 1) (ci := 10) (nA := 0) (rest := []) (wr := [(o, .inl (G.2.2.2.1, 1, .inr (.inl (fun _ => 0))))]) d_Law_law_731 (c_Mod_thrown hl G m m_rels m_openRels m_closeRels m_openRel m_closeRel m_comment m_ends m_order m_tape m_count m_nameSize m_names m_size m_data m_looked m_file m_directory m_out m_row m_made m_length m_pressed m_mark m_idSize m_ids m_goalSize m_goals m_value m_faults m_reached 1 0 0 0 0 0 0 0 0 0 0 0 0 0 0 0 0 0 0 0 0 0) rfl rfl [1] [0] (by decide) rfl rfl rfl (by decide) (by decide) k_1307 rfl k_128 k_1304 k_1305 k_1306 (by decide +kernel) (by decide) rfl rfl (Nat.le_of_ble_eq_true rfl) (by decide) (fun v9 u6 h5 => ?_)
  have eh5 := h5
  have eh5 : v9 = some (.int 1) := eh5
  subst eh5
  refine pb_eq (pc' := 734) (lo' := [(6, .int 0), (5, .int 1), (4, .int 0), (3, .ref o), (2, .ref m), (1, .ref x), (0, .ref b)]) (rest' := [.int 1]) (ws' := [(o, .inl (G.2.2.2.1, 1, .inr (.inl (fun _ => 0))))]) ?_
  refine pb_iload (pc := 734) d_Law_law_734 1 rfl ?_
  refine pb_icmp_eq (pc := 736) (tgt := 741) d_Law_law_736 (by decide) (fun _ => ?_) (fun h9 => absurd h9 (by decide))
  refine pb_iload (pc := 741) d_Law_law_741 1 rfl ?_
  refine pb_if_ne (pc := 743) (tgt := 758) d_Law_law_743 (by decide) (fun _ => ?_) (fun h9 => absurd h9 (by decide))
  refine pb_goto (pc := 758) (tgt := 966) d_Law_law_758 (by decide) ?_
  refine pb_re (ws' := []) (lo' := [(4, .int 0), (0, .ref b)]) [] [2, 6] (by decide) rfl rfl rfl ?_
  exact law_tail hQ hX hbl hbA (by decide) (by decide)

theorem d_Law_law_761 : decode code 761 = .ok (.aload_n 1, 1) := by decide +kernel
theorem d_Law_law_762 : decode code 762 = .ok (.invokevirtual 118, 3) := by decide +kernel
theorem k_728 : (Jvm.Cond.methodLink "PackageBookLaw" (118 : Nat) ({ cls := "PackageBook", name := "check", desc := "()I" } : Jvm.MethodName)) ∈ uW := uW_of 728 (by decide +kernel) (by decide +kernel)
theorem k_731 : (Jvm.Cond.code ({ cls := "PackageBook", name := "check", desc := "()I" } : Jvm.MethodName) prog_1_method_16_code (2 : Nat) (Option.some Jvm.ClassFile.FieldType.int)) ∈ uW := uW_of 731 (by decide +kernel) (by decide +kernel)
theorem k_729 : (Jvm.Cond.instanceMethod ({ cls := "PackageBook", name := "check", desc := "()I" } : Jvm.MethodName)) ∈ uW := uW_of 729 (by decide +kernel) (by decide +kernel)
theorem k_730 : (Jvm.Cond.selects "PackageBook" ({ cls := "PackageBook", name := "check", desc := "()I" } : Jvm.MethodName) ({ cls := "PackageBook", name := "check", desc := "()I" } : Jvm.MethodName)) ∈ uW := uW_of 730 (by decide +kernel) (by decide +kernel)
theorem d_Law_law_765 : decode code 765 = .ok (.aload_n 2, 1) := by decide +kernel
theorem d_Law_law_766 : decode code 766 = .ok (.invokevirtual 121, 3) := by decide +kernel
theorem k_1546 : (Jvm.Cond.methodLink "PackageBookLaw" (121 : Nat) ({ cls := "PackageBookModel", name := "check", desc := "()I" } : Jvm.MethodName)) ∈ uW := uW_of 1546 (by decide +kernel) (by decide +kernel)
theorem k_1549 : (Jvm.Cond.code ({ cls := "PackageBookModel", name := "check", desc := "()I" } : Jvm.MethodName) prog_12_method_88_code (3 : Nat) (Option.some Jvm.ClassFile.FieldType.int)) ∈ uW := uW_of 1549 (by decide +kernel) (by decide +kernel)
theorem k_1547 : (Jvm.Cond.instanceMethod ({ cls := "PackageBookModel", name := "check", desc := "()I" } : Jvm.MethodName)) ∈ uW := uW_of 1547 (by decide +kernel) (by decide +kernel)
theorem k_1548 : (Jvm.Cond.selects "PackageBookModel" ({ cls := "PackageBookModel", name := "check", desc := "()I" } : Jvm.MethodName) ({ cls := "PackageBookModel", name := "check", desc := "()I" } : Jvm.MethodName)) ∈ uW := uW_of 1548 (by decide +kernel) (by decide +kernel)
theorem d_Law_law_769 : decode code 769 = .ok (.if_icmp .eq 197, 3) := by decide +kernel
set_option maxRecDepth 100000 in
set_option maxHeartbeats 4000000 in
theorem law_14 {l : Launch} (hl : l.stackTraces = false) (G : pb_G) {M : pb_M} {b : Nat} {xs : Nat → Int32} (hQ : law_Q M b) (hX : va_X b 4 xs (pm_s M) (pm_s M).heap) (hbl : b < (pm_s M).heap.size) (hbA : ¬ pm_A M b) (x : Nat) (ta : Nat) (ca : Nat) (ps : Nat) (ex_ : Nat) (mk : Nat) (rd : Nat) (mu : Nat) (fi : Nat) (fk : Nat) (fo : Nat) (fp : Nat) (go : Nat) (sp : Nat) (spn : Nat) (spz : Nat) (spb : Nat) (spg : Nat) (ss : Nat) (m : Nat) (m_rels : Nat) (m_openRels : Nat) (m_closeRels : Nat) (m_openRel : Nat) (m_closeRel : Nat) (m_comment : Nat) (m_ends : Nat) (m_order : Nat) (m_tape : Nat) (m_count : Nat) (m_nameSize : Nat) (m_names : Nat) (m_size : Nat) (m_data : Nat) (m_looked : Nat) (m_file : Nat) (m_directory : Nat) (m_out : Nat) (m_row : Nat) (m_made : Nat) (m_length : Nat) (m_pressed : Nat) (m_mark : Nat) (m_idSize : Nat) (m_ids : Nat) (m_goalSize : Nat) (m_goals : Nat) (m_value : Nat) (m_faults : Nat) (m_reached : Nat) (o : Nat) : pb_P l G M i_Law_law 761 [(4, .int 0), (3, .ref o), (2, .ref m), (1, .ref x), (0, .ref b)] [] [(x, .inr (9, [.ref ta, .ref ca, .ref ps, .ref ex_, .ref mk, .ref rd, .ref mu, .ref fi, .ref go, .ref sp, .ref ss])), (fi, .inr (2, [.ref fk, .ref fo, .ref fp, .int 0])), (sp, .inr (3, [.ref spn, .ref spz, .ref spb, .ref spg, .int 0])), (m, .inr (10, [.ref m_rels, .ref m_openRels, .ref m_closeRels, .ref m_openRel, .ref m_closeRel, .ref m_comment, .ref m_ends, .ref m_order, .int 0, .int 0, .ref m_tape, .ref m_count, .ref m_nameSize, .ref m_names, .ref m_size, .ref m_data, .int 0, .ref m_looked, .int 0, .ref m_file, .int 0, .ref m_directory, .int 0, .ref m_out, .int 0, .ref m_row, .int 0, .int 0, .int 0, .int 0, .ref m_made, .ref m_length, .int 0, .int 0, .int 0, .int 0, .int 0, .ref m_pressed, .int 0, .int 0, .int 0, .ref m_mark, .int 0, .ref m_idSize, .ref m_ids, .ref m_goalSize, .ref m_goals, .int 0, .ref m_value, .int 0, .ref m_faults, .ref m_reached])), (m_count, .inl (G.2.2.1, 2, .inl (fun _ => 0)))] 90 333577 := by
  have z0 : (0 : Int32).toInt = 0 := by decide
  have z1 : (1 : Int32).toInt = 1 := by decide
  have z2 : (0 : Int32).toNatClampNeg = 0 := by decide
  refine pb_aload_n (pc := 761) d_Law_law_761 3 rfl rfl ?_
  refine pb_callV (pc := 762) (qb := 0) (ci := 9) (nA := 0) (rest := []) (wr := [(m, .inr (10, [.ref m_rels, .ref m_openRels, .ref m_closeRels, .ref m_openRel, .ref m_closeRel, .ref m_comment, .ref m_ends, .ref m_order, .int 0, .int 0, .ref m_tape, .ref m_count, .ref m_nameSize, .ref m_names, .ref m_size, .ref m_data, .int 0, .ref m_looked, .int 0, .ref m_file, .int 0, .ref m_directory, .int 0, .ref m_out, .int 0, .ref m_row, .int 0, .int 0, .int 0, .int 0, .ref m_made, .ref m_length, .int 0, .int 0, .int 0, .int 0, .int 0, .ref m_pressed, .int 0, .int 0, .int 0, .ref m_mark, .int 0, .ref m_idSize, .ref m_ids, .ref m_goalSize, .ref m_goals, .int 0, .ref m_value, .int 0, .ref m_faults, .ref m_reached])), (m_count, .inl (G.2.2.1, 2, .inl (fun _ => 0)))]) d_Law_law_762 (c_Book_check hl G x ta ca ps ex_ mk rd mu fi go sp ss spn spz spb spg fk fo fp 0) rfl rfl [0, 1, 2] [3, 4] (by decide) rfl rfl rfl (by decide) (by decide) k_731 rfl k_118 k_728 k_729 k_730 (by decide +kernel) (by decide) rfl rfl (Nat.le_of_ble_eq_true rfl) (by decide) (fun v9 u2 h1 => ?_)
  have eh1 := h1
  have eh1 : v9 = some (.int 0) := eh1
  subst eh1
  refine pb_eq (pc' := 765) (lo' := [(4, .int 0), (3, .ref o), (2, .ref m), (1, .ref x), (0, .ref b)]) (rest' := [.int 0]) (ws' := [(m, .inr (10, [.ref m_rels, .ref m_openRels, .ref m_closeRels, .ref m_openRel, .ref m_closeRel, .ref m_comment, .ref m_ends, .ref m_order, .int 0, .int 0, .ref m_tape, .ref m_count, .ref m_nameSize, .ref m_names, .ref m_size, .ref m_data, .int 0, .ref m_looked, .int 0, .ref m_file, .int 0, .ref m_directory, .int 0, .ref m_out, .int 0, .ref m_row, .int 0, .int 0, .int 0, .int 0, .ref m_made, .ref m_length, .int 0, .int 0, .int 0, .int 0, .int 0, .ref m_pressed, .int 0, .int 0, .int 0, .ref m_mark, .int 0, .ref m_idSize, .ref m_ids, .ref m_goalSize, .ref m_goals, .int 0, .ref m_value, .int 0, .ref m_faults, .ref m_reached])), (m_count, .inl (G.2.2.1, 2, .inl (fun _ => 0)))]) ?_
  refine pb_aload_n (pc := 765) d_Law_law_765 2 rfl rfl ?_
  refine pb_callV (pc := 766) (qb := 0) (ci := 10) (nA := 0) (rest := [.int 0]) (wr := []) d_Law_law_766 (c_Mod_check hl G m m_rels m_openRels m_closeRels m_openRel m_closeRel m_comment m_ends m_order m_tape m_count m_nameSize m_names m_size m_data m_looked m_file m_directory m_out m_row m_made m_length m_pressed m_mark m_idSize m_ids m_goalSize m_goals m_value m_faults m_reached) rfl rfl [0, 1] [] (by decide) rfl rfl rfl (by decide) (by decide) k_1549 rfl k_128 k_1546 k_1547 k_1548 (by decide +kernel) (by decide) rfl rfl (Nat.le_of_ble_eq_true rfl) (by decide) (fun v9 u4 h3 => ?_)
  have eh3 := h3
  have eh3 : v9 = some (.int 0) := eh3
  subst eh3
  refine pb_eq (pc' := 769) (lo' := [(4, .int 0), (3, .ref o), (2, .ref m), (1, .ref x), (0, .ref b)]) (rest' := [.int 0, .int 0]) (ws' := []) ?_
  refine pb_icmp_eq (pc := 769) (tgt := 966) d_Law_law_769 (by decide) (fun _ => ?_) (fun h9 => absurd h9 (by decide))
  refine pb_re (ws' := []) (lo' := [(4, .int 0), (0, .ref b)]) [] [0, 4] (by decide) rfl rfl rfl ?_
  exact law_tail hQ hX hbl hbA (by decide) (by decide)

theorem d_Law_law_774 : decode code 774 = .ok (.aload_n 1, 1) := by decide +kernel
theorem d_Law_law_775 : decode code 775 = .ok (.aload_n 0, 1) := by decide +kernel
theorem d_Law_law_776 : decode code 776 = .ok (.iload 4, 2) := by decide +kernel
theorem d_Law_law_778 : decode code 778 = .ok (.iconst 1, 1) := by decide +kernel
theorem d_Law_law_779 : decode code 779 = .ok (.iadd, 1) := by decide +kernel
theorem d_Law_law_780 : decode code 780 = .ok (.iaload, 1) := by decide +kernel
theorem d_Law_law_781 : decode code 781 = .ok (.aload_n 0, 1) := by decide +kernel
theorem d_Law_law_782 : decode code 782 = .ok (.iload 4, 2) := by decide +kernel
theorem d_Law_law_784 : decode code 784 = .ok (.iconst 2, 1) := by decide +kernel
theorem d_Law_law_785 : decode code 785 = .ok (.iadd, 1) := by decide +kernel
theorem d_Law_law_786 : decode code 786 = .ok (.iaload, 1) := by decide +kernel
theorem d_Law_law_787 : decode code 787 = .ok (.aload_n 3, 1) := by decide +kernel
theorem d_Law_law_788 : decode code 788 = .ok (.invokestatic 122, 3) := by decide +kernel
theorem k_1115 : (Jvm.Cond.methodLink "PackageBookLaw" (122 : Nat) ({ cls := "PackageBookLaw", name := "fault", desc := "(LPackageBook;II[J)I" } : Jvm.MethodName)) ∈ uW := uW_of 1115 (by decide +kernel) (by decide +kernel)
theorem k_1117 : (Jvm.Cond.codeWith ({ cls := "PackageBookLaw", name := "fault", desc := "(LPackageBook;II[J)I" } : Jvm.MethodName) method_12_code (5 : Nat) (Option.some Jvm.ClassFile.FieldType.int) [((0 : Nat), (10 : Nat), (13 : Nat), (28 : Nat))]) ∈ uW := uW_of 1117 (by decide +kernel) (by decide +kernel)
theorem k_1116 : (Jvm.Cond.static ({ cls := "PackageBookLaw", name := "fault", desc := "(LPackageBook;II[J)I" } : Jvm.MethodName)) ∈ uW := uW_of 1116 (by decide +kernel) (by decide +kernel)
theorem d_Law_law_791 : decode code 791 = .ok (.istore 5, 2) := by decide +kernel
theorem d_Law_law_793 : decode code 793 = .ok (.aload_n 2, 1) := by decide +kernel
theorem d_Law_law_794 : decode code 794 = .ok (.aload_n 0, 1) := by decide +kernel
theorem d_Law_law_795 : decode code 795 = .ok (.iload 4, 2) := by decide +kernel
theorem d_Law_law_797 : decode code 797 = .ok (.iconst 1, 1) := by decide +kernel
theorem d_Law_law_798 : decode code 798 = .ok (.iadd, 1) := by decide +kernel
theorem d_Law_law_799 : decode code 799 = .ok (.iaload, 1) := by decide +kernel
theorem d_Law_law_800 : decode code 800 = .ok (.aload_n 0, 1) := by decide +kernel
theorem d_Law_law_801 : decode code 801 = .ok (.iload 4, 2) := by decide +kernel
theorem d_Law_law_803 : decode code 803 = .ok (.iconst 2, 1) := by decide +kernel
theorem d_Law_law_804 : decode code 804 = .ok (.iadd, 1) := by decide +kernel
theorem d_Law_law_805 : decode code 805 = .ok (.iaload, 1) := by decide +kernel
theorem d_Law_law_806 : decode code 806 = .ok (.invokevirtual 124, 3) := by decide +kernel
theorem k_1664 : (Jvm.Cond.methodLink "PackageBookLaw" (124 : Nat) ({ cls := "PackageBookModel", name := "fault", desc := "(II)I" } : Jvm.MethodName)) ∈ uW := uW_of 1664 (by decide +kernel) (by decide +kernel)
theorem k_1667 : (Jvm.Cond.code ({ cls := "PackageBookModel", name := "fault", desc := "(II)I" } : Jvm.MethodName) prog_12_method_89_code (3 : Nat) (Option.some Jvm.ClassFile.FieldType.int)) ∈ uW := uW_of 1667 (by decide +kernel) (by decide +kernel)
theorem k_1665 : (Jvm.Cond.instanceMethod ({ cls := "PackageBookModel", name := "fault", desc := "(II)I" } : Jvm.MethodName)) ∈ uW := uW_of 1665 (by decide +kernel) (by decide +kernel)
theorem k_1666 : (Jvm.Cond.selects "PackageBookModel" ({ cls := "PackageBookModel", name := "fault", desc := "(II)I" } : Jvm.MethodName) ({ cls := "PackageBookModel", name := "fault", desc := "(II)I" } : Jvm.MethodName)) ∈ uW := uW_of 1666 (by decide +kernel) (by decide +kernel)
theorem d_Law_law_809 : decode code 809 = .ok (.istore 6, 2) := by decide +kernel
theorem d_Law_law_811 : decode code 811 = .ok (.aload_n 2, 1) := by decide +kernel
theorem d_Law_law_812 : decode code 812 = .ok (.invokevirtual 67, 3) := by decide +kernel
theorem d_Law_law_815 : decode code 815 = .ok (.iload 5, 2) := by decide +kernel
theorem d_Law_law_817 : decode code 817 = .ok (.if_icmp .eq 5, 3) := by decide +kernel
theorem d_Law_law_822 : decode code 822 = .ok (.iload 5, 2) := by decide +kernel
theorem d_Law_law_824 : decode code 824 = .ok (.ifCond .ne 15, 3) := by decide +kernel
theorem d_Law_law_839 : decode code 839 = .ok (.goto 127, 3) := by decide +kernel
set_option maxRecDepth 100000 in
set_option maxHeartbeats 4000000 in
theorem law_15 {l : Launch} (hl : l.stackTraces = false) (G : pb_G) {M : pb_M} {b : Nat} {xs : Nat → Int32} (hQ : law_Q M b) (hX : va_X b 4 xs (pm_s M) (pm_s M).heap) (hbl : b < (pm_s M).heap.size) (hbA : ¬ pm_A M b) (x : Nat) (ta : Nat) (ca : Nat) (ps : Nat) (ex_ : Nat) (mk : Nat) (rd : Nat) (mu : Nat) (fi : Nat) (fk : Nat) (fo : Nat) (fp : Nat) (go : Nat) (sp : Nat) (ss : Nat) (m : Nat) (m_rels : Nat) (m_openRels : Nat) (m_closeRels : Nat) (m_openRel : Nat) (m_closeRel : Nat) (m_comment : Nat) (m_ends : Nat) (m_order : Nat) (m_tape : Nat) (m_count : Nat) (m_nameSize : Nat) (m_names : Nat) (m_size : Nat) (m_data : Nat) (m_looked : Nat) (m_file : Nat) (m_directory : Nat) (m_out : Nat) (m_row : Nat) (m_made : Nat) (m_length : Nat) (m_pressed : Nat) (m_mark : Nat) (m_idSize : Nat) (m_ids : Nat) (m_goalSize : Nat) (m_goals : Nat) (m_value : Nat) (m_faults : Nat) (m_reached : Nat) (o : Nat) : pb_P l G M i_Law_law 774 [(4, .int 0), (3, .ref o), (2, .ref m), (1, .ref x), (0, .ref b)] [] [(x, .inr (9, [.ref ta, .ref ca, .ref ps, .ref ex_, .ref mk, .ref rd, .ref mu, .ref fi, .ref go, .ref sp, .ref ss])), (fi, .inr (2, [.ref fk, .ref fo, .ref fp, .int 0])), (m, .inr (10, [.ref m_rels, .ref m_openRels, .ref m_closeRels, .ref m_openRel, .ref m_closeRel, .ref m_comment, .ref m_ends, .ref m_order, .int 0, .int 0, .ref m_tape, .ref m_count, .ref m_nameSize, .ref m_names, .ref m_size, .ref m_data, .int 0, .ref m_looked, .int 0, .ref m_file, .int 0, .ref m_directory, .int 0, .ref m_out, .int 0, .ref m_row, .int 0, .int 0, .int 0, .int 0, .ref m_made, .ref m_length, .int 0, .int 0, .int 0, .int 0, .int 0, .ref m_pressed, .int 0, .int 0, .int 0, .ref m_mark, .int 0, .ref m_idSize, .ref m_ids, .ref m_goalSize, .ref m_goals, .int 0, .ref m_value, .int 0, .ref m_faults, .ref m_reached])), (o, .inl (G.2.2.2.1, 1, .inr (.inl (fun _ => 0))))] 90 333577 := by
  have z0 : (0 : Int32).toInt = 0 := by decide
  have z1 : (1 : Int32).toInt = 1 := by decide
  have z2 : (0 : Int32).toNatClampNeg = 0 := by decide
  refine pb_aload_n (pc := 774) d_Law_law_774 3 rfl rfl ?_
  refine pb_aload_n (pc := 775) d_Law_law_775 4 rfl rfl ?_
  refine pb_iload (pc := 776) d_Law_law_776 0 rfl ?_
  refine pb_iconst (pc := 778) (v := 1) d_Law_law_778 (by decide) ?_
  refine pb_iadd (pc := 779) d_Law_law_779 ?_
  refine pb_asi (y := 1) (by decide) ?_
  refine pb_sld (pc := 780) hX hbl hbA (by unfold vp_in; decide) d_Law_law_780 ?_
  refine pb_asi (y := xs 1) (congrArg xs (by decide)) ?_
  refine pb_aload_n (pc := 781) d_Law_law_781 4 rfl rfl ?_
  refine pb_iload (pc := 782) d_Law_law_782 0 rfl ?_
  refine pb_iconst (pc := 784) (v := 2) d_Law_law_784 (by decide) ?_
  refine pb_iadd (pc := 785) d_Law_law_785 ?_
  refine pb_asi (y := 2) (by decide) ?_
  refine pb_sld (pc := 786) hX hbl hbA (by unfold vp_in; decide) d_Law_law_786 ?_
  refine pb_asi (y := xs 2) (congrArg xs (by decide)) ?_
  refine pb_aload_n (pc := 787) d_Law_law_787 1 rfl rfl ?_
  refine pb_callSW (pc := 788) (nA := 4) (rest := []) (wr := [(m, .inr (10, [.ref m_rels, .ref m_openRels, .ref m_closeRels, .ref m_openRel, .ref m_closeRel, .ref m_comment, .ref m_ends, .ref m_order, .int 0, .int 0, .ref m_tape, .ref m_count, .ref m_nameSize, .ref m_names, .ref m_size, .ref m_data, .int 0, .ref m_looked, .int 0, .ref m_file, .int 0, .ref m_directory, .int 0, .ref m_out, .int 0, .ref m_row, .int 0, .int 0, .int 0, .int 0, .ref m_made, .ref m_length, .int 0, .int 0, .int 0, .int 0, .int 0, .ref m_pressed, .int 0, .int 0, .int 0, .ref m_mark, .int 0, .ref m_idSize, .ref m_ids, .ref m_goalSize, .ref m_goals, .int 0, .ref m_value, .int 0, .ref m_faults, .ref m_reached]))]) d_Law_law_788 (c_Law_fault hl G x ta ca ps ex_ mk rd mu fi go sp ss fk fo fp (xs 1) (xs 2) o (fun _ => 0)) [0, 1, 3] [2] (by decide) rfl rfl rfl (by decide) (by decide) k_1117 rfl k_117 k_1115 k_1116 (by decide +kernel) (by decide) rfl rfl (Nat.le_of_ble_eq_true rfl) (by decide) (fun v9 u2 h1 => ?_)
  have eh1 := h1
  have eh1 : v9 = some (.int 1) := eh1
  subst eh1
  refine pb_eq (pc' := 791) (lo' := [(4, .int 0), (3, .ref o), (2, .ref m), (1, .ref x), (0, .ref b)]) (rest' := [.int 1]) (ws' := [(m, .inr (10, [.ref m_rels, .ref m_openRels, .ref m_closeRels, .ref m_openRel, .ref m_closeRel, .ref m_comment, .ref m_ends, .ref m_order, .int 0, .int 0, .ref m_tape, .ref m_count, .ref m_nameSize, .ref m_names, .ref m_size, .ref m_data, .int 0, .ref m_looked, .int 0, .ref m_file, .int 0, .ref m_directory, .int 0, .ref m_out, .int 0, .ref m_row, .int 0, .int 0, .int 0, .int 0, .ref m_made, .ref m_length, .int 0, .int 0, .int 0, .int 0, .int 0, .ref m_pressed, .int 0, .int 0, .int 0, .ref m_mark, .int 0, .ref m_idSize, .ref m_ids, .ref m_goalSize, .ref m_goals, .int 0, .ref m_value, .int 0, .ref m_faults, .ref m_reached])), (o, .inl (G.2.2.2.1, 1, .inr (.inl (fun _ => 0))))]) ?_
  refine pb_istore (pc := 791) (lo' := [(5, .int 1), (4, .int 0), (3, .ref o), (2, .ref m), (1, .ref x), (0, .ref b)]) d_Law_law_791 (by decide) rfl ?_
  refine pb_aload_n (pc := 793) d_Law_law_793 3 rfl rfl ?_
  refine pb_aload_n (pc := 794) d_Law_law_794 5 rfl rfl ?_
  refine pb_iload (pc := 795) d_Law_law_795 1 rfl ?_
  refine pb_iconst (pc := 797) (v := 1) d_Law_law_797 (by decide) ?_
  refine pb_iadd (pc := 798) d_Law_law_798 ?_
  refine pb_asi (y := 1) (by decide) ?_
  refine pb_sld (pc := 799) hX hbl hbA (by unfold vp_in; decide) d_Law_law_799 ?_
  refine pb_asi (y := xs 1) (congrArg xs (by decide)) ?_
  refine pb_aload_n (pc := 800) d_Law_law_800 5 rfl rfl ?_
  refine pb_iload (pc := 801) d_Law_law_801 1 rfl ?_
  refine pb_iconst (pc := 803) (v := 2) d_Law_law_803 (by decide) ?_
  refine pb_iadd (pc := 804) d_Law_law_804 ?_
  refine pb_asi (y := 2) (by decide) ?_
  refine pb_sld (pc := 805) hX hbl hbA (by unfold vp_in; decide) d_Law_law_805 ?_
  refine pb_asi (y := xs 2) (congrArg xs (by decide)) ?_
  refine pb_callV (pc := 806) (qb := 0) (ci := 10) (nA := 2) (rest := []) (wr := [(o, .inl (G.2.2.2.1, 1, .inr (.inl (fun _ => 0))))]) d_Law_law_806 (c_Mod_fault hl G m m_rels m_openRels m_closeRels m_openRel m_closeRel m_comment m_ends m_order m_tape m_count m_nameSize m_names m_size m_data m_looked m_file m_directory m_out m_row m_made m_length m_pressed m_mark m_idSize m_ids m_goalSize m_goals m_value m_faults m_reached (xs 1) (xs 2)) rfl rfl [0] [1] (by decide) rfl rfl rfl (by decide) (by decide) k_1667 rfl k_128 k_1664 k_1665 k_1666 (by decide +kernel) (by decide) rfl rfl (Nat.le_of_ble_eq_true rfl) (by decide) (fun v9 u4 h3 => ?_)
  have eh3 := h3
  have eh3 : v9 = some (.int 0) := eh3
  subst eh3
  refine pb_eq (pc' := 809) (lo' := [(5, .int 1), (4, .int 0), (3, .ref o), (2, .ref m), (1, .ref x), (0, .ref b)]) (rest' := [.int 0]) (ws' := [(o, .inl (G.2.2.2.1, 1, .inr (.inl (fun _ => 0)))), (m, .inr (10, [.ref m_rels, .ref m_openRels, .ref m_closeRels, .ref m_openRel, .ref m_closeRel, .ref m_comment, .ref m_ends, .ref m_order, .int 1, .int 0, .ref m_tape, .ref m_count, .ref m_nameSize, .ref m_names, .ref m_size, .ref m_data, .int 0, .ref m_looked, .int 0, .ref m_file, .int 0, .ref m_directory, .int 0, .ref m_out, .int 0, .ref m_row, .int 0, .int 0, .int 0, .int 0, .ref m_made, .ref m_length, .int 0, .int 0, .int 0, .int 0, .int 0, .ref m_pressed, .int 0, .int 0, .int 0, .ref m_mark, .int 0, .ref m_idSize, .ref m_ids, .ref m_goalSize, .ref m_goals, .int 0, .ref m_value, .int 0, .ref m_faults, .ref m_reached]))]) ?_
  refine pb_istore (pc := 809) (lo' := [(6, .int 0), (5, .int 1), (4, .int 0), (3, .ref o), (2, .ref m), (1, .ref x), (0, .ref b)]) d_Law_law_809 (by decide) rfl ?_
  refine pb_aload_n (pc := 811) d_Law_law_811 4 rfl rfl ?_
  refine pb_callV (pc := 812) (qb := 1) (ci := 10) (nA := 0) (rest := []) (wr := [(o, .inl (G.2.2.2.1, 1, .inr (.inl (fun _ => 0))))]) d_Law_law_812 (c_Mod_thrown hl G m m_rels m_openRels m_closeRels m_openRel m_closeRel m_comment m_ends m_order m_tape m_count m_nameSize m_names m_size m_data m_looked m_file m_directory m_out m_row m_made m_length m_pressed m_mark m_idSize m_ids m_goalSize m_goals m_value m_faults m_reached 1 0 0 0 0 0 0 0 0 0 0 0 0 0 0 0 0 0 0 0 0 0) rfl rfl [1] [0] (by decide) rfl rfl rfl (by decide) (by decide) k_1307 rfl k_128 k_1304 k_1305 k_1306 (by decide +kernel) (by decide) rfl rfl (Nat.le_of_ble_eq_true rfl) (by decide) (fun v9 u6 h5 => ?_)
  have eh5 := h5
  have eh5 : v9 = some (.int 1) := eh5
  subst eh5
  refine pb_eq (pc' := 815) (lo' := [(6, .int 0), (5, .int 1), (4, .int 0), (3, .ref o), (2, .ref m), (1, .ref x), (0, .ref b)]) (rest' := [.int 1]) (ws' := [(o, .inl (G.2.2.2.1, 1, .inr (.inl (fun _ => 0))))]) ?_
  refine pb_iload (pc := 815) d_Law_law_815 1 rfl ?_
  refine pb_icmp_eq (pc := 817) (tgt := 822) d_Law_law_817 (by decide) (fun _ => ?_) (fun h9 => absurd h9 (by decide))
  refine pb_iload (pc := 822) d_Law_law_822 1 rfl ?_
  refine pb_if_ne (pc := 824) (tgt := 839) d_Law_law_824 (by decide) (fun _ => ?_) (fun h9 => absurd h9 (by decide))
  refine pb_goto (pc := 839) (tgt := 966) d_Law_law_839 (by decide) ?_
  refine pb_re (ws' := []) (lo' := [(4, .int 0), (0, .ref b)]) [] [2, 6] (by decide) rfl rfl rfl ?_
  exact law_tail hQ hX hbl hbA (by decide) (by decide)

theorem d_Law_law_842 : decode code 842 = .ok (.aload_n 1, 1) := by decide +kernel
theorem d_Law_law_843 : decode code 843 = .ok (.aload_n 0, 1) := by decide +kernel
theorem d_Law_law_844 : decode code 844 = .ok (.iload 4, 2) := by decide +kernel
theorem d_Law_law_846 : decode code 846 = .ok (.iconst 1, 1) := by decide +kernel
theorem d_Law_law_847 : decode code 847 = .ok (.iadd, 1) := by decide +kernel
theorem d_Law_law_848 : decode code 848 = .ok (.iaload, 1) := by decide +kernel
theorem d_Law_law_849 : decode code 849 = .ok (.aload_n 3, 1) := by decide +kernel
theorem d_Law_law_850 : decode code 850 = .ok (.invokestatic 125, 3) := by decide +kernel
theorem k_1123 : (Jvm.Cond.methodLink "PackageBookLaw" (125 : Nat) ({ cls := "PackageBookLaw", name := "relations", desc := "(LPackageBook;I[J)I" } : Jvm.MethodName)) ∈ uW := uW_of 1123 (by decide +kernel) (by decide +kernel)
theorem k_1125 : (Jvm.Cond.codeWith ({ cls := "PackageBookLaw", name := "relations", desc := "(LPackageBook;I[J)I" } : Jvm.MethodName) method_13_code (4 : Nat) (Option.some Jvm.ClassFile.FieldType.int) [((0 : Nat), (9 : Nat), (12 : Nat), (28 : Nat))]) ∈ uW := uW_of 1125 (by decide +kernel) (by decide +kernel)
theorem k_1124 : (Jvm.Cond.static ({ cls := "PackageBookLaw", name := "relations", desc := "(LPackageBook;I[J)I" } : Jvm.MethodName)) ∈ uW := uW_of 1124 (by decide +kernel) (by decide +kernel)
theorem d_Law_law_853 : decode code 853 = .ok (.istore 5, 2) := by decide +kernel
theorem d_Law_law_855 : decode code 855 = .ok (.aload_n 2, 1) := by decide +kernel
theorem d_Law_law_856 : decode code 856 = .ok (.aload_n 0, 1) := by decide +kernel
theorem d_Law_law_857 : decode code 857 = .ok (.iload 4, 2) := by decide +kernel
theorem d_Law_law_859 : decode code 859 = .ok (.iconst 1, 1) := by decide +kernel
theorem d_Law_law_860 : decode code 860 = .ok (.iadd, 1) := by decide +kernel
theorem d_Law_law_861 : decode code 861 = .ok (.iaload, 1) := by decide +kernel
theorem d_Law_law_862 : decode code 862 = .ok (.invokevirtual 127, 3) := by decide +kernel
theorem k_1668 : (Jvm.Cond.methodLink "PackageBookLaw" (127 : Nat) ({ cls := "PackageBookModel", name := "relations", desc := "(I)I" } : Jvm.MethodName)) ∈ uW := uW_of 1668 (by decide +kernel) (by decide +kernel)
theorem k_1671 : (Jvm.Cond.code ({ cls := "PackageBookModel", name := "relations", desc := "(I)I" } : Jvm.MethodName) prog_12_method_90_code (2 : Nat) (Option.some Jvm.ClassFile.FieldType.int)) ∈ uW := uW_of 1671 (by decide +kernel) (by decide +kernel)
theorem k_1669 : (Jvm.Cond.instanceMethod ({ cls := "PackageBookModel", name := "relations", desc := "(I)I" } : Jvm.MethodName)) ∈ uW := uW_of 1669 (by decide +kernel) (by decide +kernel)
theorem k_1670 : (Jvm.Cond.selects "PackageBookModel" ({ cls := "PackageBookModel", name := "relations", desc := "(I)I" } : Jvm.MethodName) ({ cls := "PackageBookModel", name := "relations", desc := "(I)I" } : Jvm.MethodName)) ∈ uW := uW_of 1670 (by decide +kernel) (by decide +kernel)
theorem d_Law_law_865 : decode code 865 = .ok (.istore 6, 2) := by decide +kernel
theorem d_Law_law_867 : decode code 867 = .ok (.aload_n 2, 1) := by decide +kernel
theorem d_Law_law_868 : decode code 868 = .ok (.invokevirtual 67, 3) := by decide +kernel
theorem d_Law_law_871 : decode code 871 = .ok (.iload 5, 2) := by decide +kernel
theorem d_Law_law_873 : decode code 873 = .ok (.if_icmp .eq 5, 3) := by decide +kernel
theorem d_Law_law_878 : decode code 878 = .ok (.iload 5, 2) := by decide +kernel
theorem d_Law_law_880 : decode code 880 = .ok (.ifCond .ne 15, 3) := by decide +kernel
theorem d_Law_law_895 : decode code 895 = .ok (.goto 71, 3) := by decide +kernel
set_option maxRecDepth 100000 in
set_option maxHeartbeats 4000000 in
theorem law_16 {l : Launch} (hl : l.stackTraces = false) (G : pb_G) {M : pb_M} {b : Nat} {xs : Nat → Int32} (hQ : law_Q M b) (hX : va_X b 4 xs (pm_s M) (pm_s M).heap) (hbl : b < (pm_s M).heap.size) (hbA : ¬ pm_A M b) (x : Nat) (ta : Nat) (ca : Nat) (ps : Nat) (ex_ : Nat) (mk : Nat) (rd : Nat) (mu : Nat) (fi : Nat) (go : Nat) (sp : Nat) (spn : Nat) (spz : Nat) (spb : Nat) (spg : Nat) (ss : Nat) (m : Nat) (m_rels : Nat) (m_openRels : Nat) (m_closeRels : Nat) (m_openRel : Nat) (m_closeRel : Nat) (m_comment : Nat) (m_ends : Nat) (m_order : Nat) (m_tape : Nat) (m_count : Nat) (m_nameSize : Nat) (m_names : Nat) (m_size : Nat) (m_data : Nat) (m_looked : Nat) (m_file : Nat) (m_directory : Nat) (m_out : Nat) (m_row : Nat) (m_made : Nat) (m_length : Nat) (m_pressed : Nat) (m_mark : Nat) (m_idSize : Nat) (m_ids : Nat) (m_goalSize : Nat) (m_goals : Nat) (m_value : Nat) (m_faults : Nat) (m_reached : Nat) (o : Nat) : pb_P l G M i_Law_law 842 [(4, .int 0), (3, .ref o), (2, .ref m), (1, .ref x), (0, .ref b)] [] [(x, .inr (9, [.ref ta, .ref ca, .ref ps, .ref ex_, .ref mk, .ref rd, .ref mu, .ref fi, .ref go, .ref sp, .ref ss])), (sp, .inr (3, [.ref spn, .ref spz, .ref spb, .ref spg, .int 0])), (m, .inr (10, [.ref m_rels, .ref m_openRels, .ref m_closeRels, .ref m_openRel, .ref m_closeRel, .ref m_comment, .ref m_ends, .ref m_order, .int 0, .int 0, .ref m_tape, .ref m_count, .ref m_nameSize, .ref m_names, .ref m_size, .ref m_data, .int 0, .ref m_looked, .int 0, .ref m_file, .int 0, .ref m_directory, .int 0, .ref m_out, .int 0, .ref m_row, .int 0, .int 0, .int 0, .int 0, .ref m_made, .ref m_length, .int 0, .int 0, .int 0, .int 0, .int 0, .ref m_pressed, .int 0, .int 0, .int 0, .ref m_mark, .int 0, .ref m_idSize, .ref m_ids, .ref m_goalSize, .ref m_goals, .int 0, .ref m_value, .int 0, .ref m_faults, .ref m_reached])), (m_count, .inl (G.2.2.1, 2, .inl (fun _ => 0))), (o, .inl (G.2.2.2.1, 1, .inr (.inl (fun _ => 0))))] 90 333577 := by
  have z0 : (0 : Int32).toInt = 0 := by decide
  have z1 : (1 : Int32).toInt = 1 := by decide
  have z2 : (0 : Int32).toNatClampNeg = 0 := by decide
  refine pb_aload_n (pc := 842) d_Law_law_842 3 rfl rfl ?_
  refine pb_aload_n (pc := 843) d_Law_law_843 4 rfl rfl ?_
  refine pb_iload (pc := 844) d_Law_law_844 0 rfl ?_
  refine pb_iconst (pc := 846) (v := 1) d_Law_law_846 (by decide) ?_
  refine pb_iadd (pc := 847) d_Law_law_847 ?_
  refine pb_asi (y := 1) (by decide) ?_
  refine pb_sld (pc := 848) hX hbl hbA (by unfold vp_in; decide) d_Law_law_848 ?_
  refine pb_asi (y := xs 1) (congrArg xs (by decide)) ?_
  refine pb_aload_n (pc := 849) d_Law_law_849 1 rfl rfl ?_
  refine pb_callSW (pc := 850) (nA := 3) (rest := []) (wr := [(m, .inr (10, [.ref m_rels, .ref m_openRels, .ref m_closeRels, .ref m_openRel, .ref m_closeRel, .ref m_comment, .ref m_ends, .ref m_order, .int 0, .int 0, .ref m_tape, .ref m_count, .ref m_nameSize, .ref m_names, .ref m_size, .ref m_data, .int 0, .ref m_looked, .int 0, .ref m_file, .int 0, .ref m_directory, .int 0, .ref m_out, .int 0, .ref m_row, .int 0, .int 0, .int 0, .int 0, .ref m_made, .ref m_length, .int 0, .int 0, .int 0, .int 0, .int 0, .ref m_pressed, .int 0, .int 0, .int 0, .ref m_mark, .int 0, .ref m_idSize, .ref m_ids, .ref m_goalSize, .ref m_goals, .int 0, .ref m_value, .int 0, .ref m_faults, .ref m_reached])), (m_count, .inl (G.2.2.1, 2, .inl (fun _ => 0)))]) d_Law_law_850 (c_Law_relations hl G x ta ca ps ex_ mk rd mu fi go sp ss spn spz spb spg (xs 1) o (fun _ => 0)) [0, 1, 4] [2, 3] (by decide) rfl rfl rfl (by decide) (by decide) k_1125 rfl k_117 k_1123 k_1124 (by decide +kernel) (by decide) rfl rfl (Nat.le_of_ble_eq_true rfl) (by decide) (fun v9 u2 h1 => ?_)
  have eh1 := h1
  have eh1 : v9 = some (.int 1) := eh1
  subst eh1
  refine pb_eq (pc' := 853) (lo' := [(4, .int 0), (3, .ref o), (2, .ref m), (1, .ref x), (0, .ref b)]) (rest' := [.int 1]) (ws' := [(m, .inr (10, [.ref m_rels, .ref m_openRels, .ref m_closeRels, .ref m_openRel, .ref m_closeRel, .ref m_comment, .ref m_ends, .ref m_order, .int 0, .int 0, .ref m_tape, .ref m_count, .ref m_nameSize, .ref m_names, .ref m_size, .ref m_data, .int 0, .ref m_looked, .int 0, .ref m_file, .int 0, .ref m_directory, .int 0, .ref m_out, .int 0, .ref m_row, .int 0, .int 0, .int 0, .int 0, .ref m_made, .ref m_length, .int 0, .int 0, .int 0, .int 0, .int 0, .ref m_pressed, .int 0, .int 0, .int 0, .ref m_mark, .int 0, .ref m_idSize, .ref m_ids, .ref m_goalSize, .ref m_goals, .int 0, .ref m_value, .int 0, .ref m_faults, .ref m_reached])), (m_count, .inl (G.2.2.1, 2, .inl (fun _ => 0))), (o, .inl (G.2.2.2.1, 1, .inr (.inl (fun _ => 0))))]) ?_
  refine pb_istore (pc := 853) (lo' := [(5, .int 1), (4, .int 0), (3, .ref o), (2, .ref m), (1, .ref x), (0, .ref b)]) d_Law_law_853 (by decide) rfl ?_
  refine pb_aload_n (pc := 855) d_Law_law_855 3 rfl rfl ?_
  refine pb_aload_n (pc := 856) d_Law_law_856 5 rfl rfl ?_
  refine pb_iload (pc := 857) d_Law_law_857 1 rfl ?_
  refine pb_iconst (pc := 859) (v := 1) d_Law_law_859 (by decide) ?_
  refine pb_iadd (pc := 860) d_Law_law_860 ?_
  refine pb_asi (y := 1) (by decide) ?_
  refine pb_sld (pc := 861) hX hbl hbA (by unfold vp_in; decide) d_Law_law_861 ?_
  refine pb_asi (y := xs 1) (congrArg xs (by decide)) ?_
  refine pb_callV (pc := 862) (qb := 0) (ci := 10) (nA := 1) (rest := []) (wr := [(o, .inl (G.2.2.2.1, 1, .inr (.inl (fun _ => 0))))]) d_Law_law_862 (c_Mod_relations hl G m m_rels m_openRels m_closeRels m_openRel m_closeRel m_comment m_ends m_order m_tape m_count m_nameSize m_names m_size m_data m_looked m_file m_directory m_out m_row m_made m_length m_pressed m_mark m_idSize m_ids m_goalSize m_goals m_value m_faults m_reached (xs 1)) rfl rfl [0, 1] [2] (by decide) rfl rfl rfl (by decide) (by decide) k_1671 rfl k_128 k_1668 k_1669 k_1670 (by decide +kernel) (by decide) rfl rfl (Nat.le_of_ble_eq_true rfl) (by decide) (fun v9 u4 h3 => ?_)
  have eh3 := h3
  have eh3 : v9 = some (.int 0) := eh3
  subst eh3
  refine pb_eq (pc' := 865) (lo' := [(5, .int 1), (4, .int 0), (3, .ref o), (2, .ref m), (1, .ref x), (0, .ref b)]) (rest' := [.int 0]) (ws' := [(o, .inl (G.2.2.2.1, 1, .inr (.inl (fun _ => 0)))), (m, .inr (10, [.ref m_rels, .ref m_openRels, .ref m_closeRels, .ref m_openRel, .ref m_closeRel, .ref m_comment, .ref m_ends, .ref m_order, .int 1, .int 0, .ref m_tape, .ref m_count, .ref m_nameSize, .ref m_names, .ref m_size, .ref m_data, .int 0, .ref m_looked, .int 0, .ref m_file, .int 0, .ref m_directory, .int 0, .ref m_out, .int 0, .ref m_row, .int 0, .int 0, .int 0, .int 0, .ref m_made, .ref m_length, .int 0, .int 0, .int 0, .int 0, .int 0, .ref m_pressed, .int 0, .int 0, .int 0, .ref m_mark, .int 0, .ref m_idSize, .ref m_ids, .ref m_goalSize, .ref m_goals, .int 0, .ref m_value, .int 0, .ref m_faults, .ref m_reached]))]) ?_
  refine pb_istore (pc := 865) (lo' := [(6, .int 0), (5, .int 1), (4, .int 0), (3, .ref o), (2, .ref m), (1, .ref x), (0, .ref b)]) d_Law_law_865 (by decide) rfl ?_
  refine pb_aload_n (pc := 867) d_Law_law_867 4 rfl rfl ?_
  refine pb_callV (pc := 868) (qb := 1) (ci := 10) (nA := 0) (rest := []) (wr := [(o, .inl (G.2.2.2.1, 1, .inr (.inl (fun _ => 0))))]) d_Law_law_868 (c_Mod_thrown hl G m m_rels m_openRels m_closeRels m_openRel m_closeRel m_comment m_ends m_order m_tape m_count m_nameSize m_names m_size m_data m_looked m_file m_directory m_out m_row m_made m_length m_pressed m_mark m_idSize m_ids m_goalSize m_goals m_value m_faults m_reached 1 0 0 0 0 0 0 0 0 0 0 0 0 0 0 0 0 0 0 0 0 0) rfl rfl [1] [0] (by decide) rfl rfl rfl (by decide) (by decide) k_1307 rfl k_128 k_1304 k_1305 k_1306 (by decide +kernel) (by decide) rfl rfl (Nat.le_of_ble_eq_true rfl) (by decide) (fun v9 u6 h5 => ?_)
  have eh5 := h5
  have eh5 : v9 = some (.int 1) := eh5
  subst eh5
  refine pb_eq (pc' := 871) (lo' := [(6, .int 0), (5, .int 1), (4, .int 0), (3, .ref o), (2, .ref m), (1, .ref x), (0, .ref b)]) (rest' := [.int 1]) (ws' := [(o, .inl (G.2.2.2.1, 1, .inr (.inl (fun _ => 0))))]) ?_
  refine pb_iload (pc := 871) d_Law_law_871 1 rfl ?_
  refine pb_icmp_eq (pc := 873) (tgt := 878) d_Law_law_873 (by decide) (fun _ => ?_) (fun h9 => absurd h9 (by decide))
  refine pb_iload (pc := 878) d_Law_law_878 1 rfl ?_
  refine pb_if_ne (pc := 880) (tgt := 895) d_Law_law_880 (by decide) (fun _ => ?_) (fun h9 => absurd h9 (by decide))
  refine pb_goto (pc := 895) (tgt := 966) d_Law_law_895 (by decide) ?_
  refine pb_re (ws' := []) (lo' := [(4, .int 0), (0, .ref b)]) [] [2, 6] (by decide) rfl rfl rfl ?_
  exact law_tail hQ hX hbl hbA (by decide) (by decide)

theorem d_Law_law_898 : decode code 898 = .ok (.aload_n 1, 1) := by decide +kernel
theorem d_Law_law_899 : decode code 899 = .ok (.aload_n 0, 1) := by decide +kernel
theorem d_Law_law_900 : decode code 900 = .ok (.iload 4, 2) := by decide +kernel
theorem d_Law_law_902 : decode code 902 = .ok (.iconst 1, 1) := by decide +kernel
theorem d_Law_law_903 : decode code 903 = .ok (.iadd, 1) := by decide +kernel
theorem d_Law_law_904 : decode code 904 = .ok (.iaload, 1) := by decide +kernel
theorem d_Law_law_905 : decode code 905 = .ok (.aload_n 0, 1) := by decide +kernel
theorem d_Law_law_906 : decode code 906 = .ok (.iload 4, 2) := by decide +kernel
theorem d_Law_law_908 : decode code 908 = .ok (.iconst 2, 1) := by decide +kernel
theorem d_Law_law_909 : decode code 909 = .ok (.iadd, 1) := by decide +kernel
theorem d_Law_law_910 : decode code 910 = .ok (.iaload, 1) := by decide +kernel
theorem d_Law_law_911 : decode code 911 = .ok (.aload_n 3, 1) := by decide +kernel
theorem d_Law_law_912 : decode code 912 = .ok (.invokestatic 128, 3) := by decide +kernel
theorem k_1131 : (Jvm.Cond.methodLink "PackageBookLaw" (128 : Nat) ({ cls := "PackageBookLaw", name := "relation", desc := "(LPackageBook;II[J)I" } : Jvm.MethodName)) ∈ uW := uW_of 1131 (by decide +kernel) (by decide +kernel)
theorem k_1133 : (Jvm.Cond.codeWith ({ cls := "PackageBookLaw", name := "relation", desc := "(LPackageBook;II[J)I" } : Jvm.MethodName) method_14_code (5 : Nat) (Option.some Jvm.ClassFile.FieldType.int) [((0 : Nat), (10 : Nat), (13 : Nat), (28 : Nat))]) ∈ uW := uW_of 1133 (by decide +kernel) (by decide +kernel)
theorem k_1132 : (Jvm.Cond.static ({ cls := "PackageBookLaw", name := "relation", desc := "(LPackageBook;II[J)I" } : Jvm.MethodName)) ∈ uW := uW_of 1132 (by decide +kernel) (by decide +kernel)
theorem d_Law_law_915 : decode code 915 = .ok (.istore 5, 2) := by decide +kernel
theorem d_Law_law_917 : decode code 917 = .ok (.aload_n 2, 1) := by decide +kernel
theorem d_Law_law_918 : decode code 918 = .ok (.aload_n 0, 1) := by decide +kernel
theorem d_Law_law_919 : decode code 919 = .ok (.iload 4, 2) := by decide +kernel
theorem d_Law_law_921 : decode code 921 = .ok (.iconst 1, 1) := by decide +kernel
theorem d_Law_law_922 : decode code 922 = .ok (.iadd, 1) := by decide +kernel
theorem d_Law_law_923 : decode code 923 = .ok (.iaload, 1) := by decide +kernel
theorem d_Law_law_924 : decode code 924 = .ok (.aload_n 0, 1) := by decide +kernel
theorem d_Law_law_925 : decode code 925 = .ok (.iload 4, 2) := by decide +kernel
theorem d_Law_law_927 : decode code 927 = .ok (.iconst 2, 1) := by decide +kernel
theorem d_Law_law_928 : decode code 928 = .ok (.iadd, 1) := by decide +kernel
theorem d_Law_law_929 : decode code 929 = .ok (.iaload, 1) := by decide +kernel
theorem d_Law_law_930 : decode code 930 = .ok (.invokevirtual 130, 3) := by decide +kernel
theorem k_1672 : (Jvm.Cond.methodLink "PackageBookLaw" (130 : Nat) ({ cls := "PackageBookModel", name := "relation", desc := "(II)I" } : Jvm.MethodName)) ∈ uW := uW_of 1672 (by decide +kernel) (by decide +kernel)
theorem k_1675 : (Jvm.Cond.code ({ cls := "PackageBookModel", name := "relation", desc := "(II)I" } : Jvm.MethodName) prog_12_method_91_code (4 : Nat) (Option.some Jvm.ClassFile.FieldType.int)) ∈ uW := uW_of 1675 (by decide +kernel) (by decide +kernel)
theorem k_1673 : (Jvm.Cond.instanceMethod ({ cls := "PackageBookModel", name := "relation", desc := "(II)I" } : Jvm.MethodName)) ∈ uW := uW_of 1673 (by decide +kernel) (by decide +kernel)
theorem k_1674 : (Jvm.Cond.selects "PackageBookModel" ({ cls := "PackageBookModel", name := "relation", desc := "(II)I" } : Jvm.MethodName) ({ cls := "PackageBookModel", name := "relation", desc := "(II)I" } : Jvm.MethodName)) ∈ uW := uW_of 1674 (by decide +kernel) (by decide +kernel)
theorem d_Law_law_933 : decode code 933 = .ok (.istore 6, 2) := by decide +kernel
theorem d_Law_law_935 : decode code 935 = .ok (.aload_n 2, 1) := by decide +kernel
theorem d_Law_law_936 : decode code 936 = .ok (.invokevirtual 67, 3) := by decide +kernel
theorem d_Law_law_939 : decode code 939 = .ok (.iload 5, 2) := by decide +kernel
theorem d_Law_law_941 : decode code 941 = .ok (.if_icmp .eq 5, 3) := by decide +kernel
theorem d_Law_law_946 : decode code 946 = .ok (.iload 5, 2) := by decide +kernel
theorem d_Law_law_948 : decode code 948 = .ok (.ifCond .ne 15, 3) := by decide +kernel
theorem d_Law_law_963 : decode code 963 = .ok (.goto 3, 3) := by decide +kernel
set_option maxRecDepth 100000 in
set_option maxHeartbeats 4000000 in
theorem law_17 {l : Launch} (hl : l.stackTraces = false) (G : pb_G) {M : pb_M} {b : Nat} {xs : Nat → Int32} (hQ : law_Q M b) (hX : va_X b 4 xs (pm_s M) (pm_s M).heap) (hbl : b < (pm_s M).heap.size) (hbA : ¬ pm_A M b) (x : Nat) (ta : Nat) (ca : Nat) (ps : Nat) (ex_ : Nat) (mk : Nat) (rd : Nat) (mu : Nat) (fi : Nat) (go : Nat) (sp : Nat) (spn : Nat) (spz : Nat) (spb : Nat) (spg : Nat) (ss : Nat) (m : Nat) (m_rels : Nat) (m_openRels : Nat) (m_closeRels : Nat) (m_openRel : Nat) (m_closeRel : Nat) (m_comment : Nat) (m_ends : Nat) (m_order : Nat) (m_tape : Nat) (m_count : Nat) (m_nameSize : Nat) (m_names : Nat) (m_size : Nat) (m_data : Nat) (m_looked : Nat) (m_file : Nat) (m_directory : Nat) (m_out : Nat) (m_row : Nat) (m_made : Nat) (m_length : Nat) (m_pressed : Nat) (m_mark : Nat) (m_idSize : Nat) (m_ids : Nat) (m_goalSize : Nat) (m_goals : Nat) (m_value : Nat) (m_faults : Nat) (m_reached : Nat) (o : Nat) : pb_P l G M i_Law_law 898 [(4, .int 0), (3, .ref o), (2, .ref m), (1, .ref x), (0, .ref b)] [] [(x, .inr (9, [.ref ta, .ref ca, .ref ps, .ref ex_, .ref mk, .ref rd, .ref mu, .ref fi, .ref go, .ref sp, .ref ss])), (sp, .inr (3, [.ref spn, .ref spz, .ref spb, .ref spg, .int 0])), (m, .inr (10, [.ref m_rels, .ref m_openRels, .ref m_closeRels, .ref m_openRel, .ref m_closeRel, .ref m_comment, .ref m_ends, .ref m_order, .int 0, .int 0, .ref m_tape, .ref m_count, .ref m_nameSize, .ref m_names, .ref m_size, .ref m_data, .int 0, .ref m_looked, .int 0, .ref m_file, .int 0, .ref m_directory, .int 0, .ref m_out, .int 0, .ref m_row, .int 0, .int 0, .int 0, .int 0, .ref m_made, .ref m_length, .int 0, .int 0, .int 0, .int 0, .int 0, .ref m_pressed, .int 0, .int 0, .int 0, .ref m_mark, .int 0, .ref m_idSize, .ref m_ids, .ref m_goalSize, .ref m_goals, .int 0, .ref m_value, .int 0, .ref m_faults, .ref m_reached])), (m_count, .inl (G.2.2.1, 2, .inl (fun _ => 0))), (o, .inl (G.2.2.2.1, 1, .inr (.inl (fun _ => 0))))] 90 333577 := by
  have z0 : (0 : Int32).toInt = 0 := by decide
  have z1 : (1 : Int32).toInt = 1 := by decide
  have z2 : (0 : Int32).toNatClampNeg = 0 := by decide
  refine pb_aload_n (pc := 898) d_Law_law_898 3 rfl rfl ?_
  refine pb_aload_n (pc := 899) d_Law_law_899 4 rfl rfl ?_
  refine pb_iload (pc := 900) d_Law_law_900 0 rfl ?_
  refine pb_iconst (pc := 902) (v := 1) d_Law_law_902 (by decide) ?_
  refine pb_iadd (pc := 903) d_Law_law_903 ?_
  refine pb_asi (y := 1) (by decide) ?_
  refine pb_sld (pc := 904) hX hbl hbA (by unfold vp_in; decide) d_Law_law_904 ?_
  refine pb_asi (y := xs 1) (congrArg xs (by decide)) ?_
  refine pb_aload_n (pc := 905) d_Law_law_905 4 rfl rfl ?_
  refine pb_iload (pc := 906) d_Law_law_906 0 rfl ?_
  refine pb_iconst (pc := 908) (v := 2) d_Law_law_908 (by decide) ?_
  refine pb_iadd (pc := 909) d_Law_law_909 ?_
  refine pb_asi (y := 2) (by decide) ?_
  refine pb_sld (pc := 910) hX hbl hbA (by unfold vp_in; decide) d_Law_law_910 ?_
  refine pb_asi (y := xs 2) (congrArg xs (by decide)) ?_
  refine pb_aload_n (pc := 911) d_Law_law_911 1 rfl rfl ?_
  refine pb_callSW (pc := 912) (nA := 4) (rest := []) (wr := [(m, .inr (10, [.ref m_rels, .ref m_openRels, .ref m_closeRels, .ref m_openRel, .ref m_closeRel, .ref m_comment, .ref m_ends, .ref m_order, .int 0, .int 0, .ref m_tape, .ref m_count, .ref m_nameSize, .ref m_names, .ref m_size, .ref m_data, .int 0, .ref m_looked, .int 0, .ref m_file, .int 0, .ref m_directory, .int 0, .ref m_out, .int 0, .ref m_row, .int 0, .int 0, .int 0, .int 0, .ref m_made, .ref m_length, .int 0, .int 0, .int 0, .int 0, .int 0, .ref m_pressed, .int 0, .int 0, .int 0, .ref m_mark, .int 0, .ref m_idSize, .ref m_ids, .ref m_goalSize, .ref m_goals, .int 0, .ref m_value, .int 0, .ref m_faults, .ref m_reached])), (m_count, .inl (G.2.2.1, 2, .inl (fun _ => 0)))]) d_Law_law_912 (c_Law_relation hl G x ta ca ps ex_ mk rd mu fi go sp ss spn spz spb spg (xs 1) (xs 2) o (fun _ => 0)) [0, 1, 4] [2, 3] (by decide) rfl rfl rfl (by decide) (by decide) k_1133 rfl k_117 k_1131 k_1132 (by decide +kernel) (by decide) rfl rfl (Nat.le_of_ble_eq_true rfl) (by decide) (fun v9 u2 h1 => ?_)
  have eh1 := h1
  have eh1 : v9 = some (.int 1) := eh1
  subst eh1
  refine pb_eq (pc' := 915) (lo' := [(4, .int 0), (3, .ref o), (2, .ref m), (1, .ref x), (0, .ref b)]) (rest' := [.int 1]) (ws' := [(m, .inr (10, [.ref m_rels, .ref m_openRels, .ref m_closeRels, .ref m_openRel, .ref m_closeRel, .ref m_comment, .ref m_ends, .ref m_order, .int 0, .int 0, .ref m_tape, .ref m_count, .ref m_nameSize, .ref m_names, .ref m_size, .ref m_data, .int 0, .ref m_looked, .int 0, .ref m_file, .int 0, .ref m_directory, .int 0, .ref m_out, .int 0, .ref m_row, .int 0, .int 0, .int 0, .int 0, .ref m_made, .ref m_length, .int 0, .int 0, .int 0, .int 0, .int 0, .ref m_pressed, .int 0, .int 0, .int 0, .ref m_mark, .int 0, .ref m_idSize, .ref m_ids, .ref m_goalSize, .ref m_goals, .int 0, .ref m_value, .int 0, .ref m_faults, .ref m_reached])), (m_count, .inl (G.2.2.1, 2, .inl (fun _ => 0))), (o, .inl (G.2.2.2.1, 1, .inr (.inl (fun _ => 0))))]) ?_
  refine pb_istore (pc := 915) (lo' := [(5, .int 1), (4, .int 0), (3, .ref o), (2, .ref m), (1, .ref x), (0, .ref b)]) d_Law_law_915 (by decide) rfl ?_
  refine pb_aload_n (pc := 917) d_Law_law_917 3 rfl rfl ?_
  refine pb_aload_n (pc := 918) d_Law_law_918 5 rfl rfl ?_
  refine pb_iload (pc := 919) d_Law_law_919 1 rfl ?_
  refine pb_iconst (pc := 921) (v := 1) d_Law_law_921 (by decide) ?_
  refine pb_iadd (pc := 922) d_Law_law_922 ?_
  refine pb_asi (y := 1) (by decide) ?_
  refine pb_sld (pc := 923) hX hbl hbA (by unfold vp_in; decide) d_Law_law_923 ?_
  refine pb_asi (y := xs 1) (congrArg xs (by decide)) ?_
  refine pb_aload_n (pc := 924) d_Law_law_924 5 rfl rfl ?_
  refine pb_iload (pc := 925) d_Law_law_925 1 rfl ?_
  refine pb_iconst (pc := 927) (v := 2) d_Law_law_927 (by decide) ?_
  refine pb_iadd (pc := 928) d_Law_law_928 ?_
  refine pb_asi (y := 2) (by decide) ?_
  refine pb_sld (pc := 929) hX hbl hbA (by unfold vp_in; decide) d_Law_law_929 ?_
  refine pb_asi (y := xs 2) (congrArg xs (by decide)) ?_
  refine pb_callV (pc := 930) (qb := 0) (ci := 10) (nA := 2) (rest := []) (wr := [(o, .inl (G.2.2.2.1, 1, .inr (.inl (fun _ => 0))))]) d_Law_law_930 (c_Mod_relation hl G m m_rels m_openRels m_closeRels m_openRel m_closeRel m_comment m_ends m_order m_tape m_count m_nameSize m_names m_size m_data m_looked m_file m_directory m_out m_row m_made m_length m_pressed m_mark m_idSize m_ids m_goalSize m_goals m_value m_faults m_reached (xs 1) (xs 2)) rfl rfl [0, 1] [2] (by decide) rfl rfl rfl (by decide) (by decide) k_1675 rfl k_128 k_1672 k_1673 k_1674 (by decide +kernel) (by decide) rfl rfl (Nat.le_of_ble_eq_true rfl) (by decide) (fun v9 u4 h3 => ?_)
  have eh3 := h3
  have eh3 : v9 = some (.int 0) := eh3
  subst eh3
  refine pb_eq (pc' := 933) (lo' := [(5, .int 1), (4, .int 0), (3, .ref o), (2, .ref m), (1, .ref x), (0, .ref b)]) (rest' := [.int 0]) (ws' := [(o, .inl (G.2.2.2.1, 1, .inr (.inl (fun _ => 0)))), (m, .inr (10, [.ref m_rels, .ref m_openRels, .ref m_closeRels, .ref m_openRel, .ref m_closeRel, .ref m_comment, .ref m_ends, .ref m_order, .int 1, .int 0, .ref m_tape, .ref m_count, .ref m_nameSize, .ref m_names, .ref m_size, .ref m_data, .int 0, .ref m_looked, .int 0, .ref m_file, .int 0, .ref m_directory, .int 0, .ref m_out, .int 0, .ref m_row, .int 0, .int 0, .int 0, .int 0, .ref m_made, .ref m_length, .int 0, .int 0, .int 0, .int 0, .int 0, .ref m_pressed, .int 0, .int 0, .int 0, .ref m_mark, .int 0, .ref m_idSize, .ref m_ids, .ref m_goalSize, .ref m_goals, .int 0, .ref m_value, .int 0, .ref m_faults, .ref m_reached]))]) ?_
  refine pb_istore (pc := 933) (lo' := [(6, .int 0), (5, .int 1), (4, .int 0), (3, .ref o), (2, .ref m), (1, .ref x), (0, .ref b)]) d_Law_law_933 (by decide) rfl ?_
  refine pb_aload_n (pc := 935) d_Law_law_935 4 rfl rfl ?_
  refine pb_callV (pc := 936) (qb := 1) (ci := 10) (nA := 0) (rest := []) (wr := [(o, .inl (G.2.2.2.1, 1, .inr (.inl (fun _ => 0))))]) d_Law_law_936 (c_Mod_thrown hl G m m_rels m_openRels m_closeRels m_openRel m_closeRel m_comment m_ends m_order m_tape m_count m_nameSize m_names m_size m_data m_looked m_file m_directory m_out m_row m_made m_length m_pressed m_mark m_idSize m_ids m_goalSize m_goals m_value m_faults m_reached 1 0 0 0 0 0 0 0 0 0 0 0 0 0 0 0 0 0 0 0 0 0) rfl rfl [1] [0] (by decide) rfl rfl rfl (by decide) (by decide) k_1307 rfl k_128 k_1304 k_1305 k_1306 (by decide +kernel) (by decide) rfl rfl (Nat.le_of_ble_eq_true rfl) (by decide) (fun v9 u6 h5 => ?_)
  have eh5 := h5
  have eh5 : v9 = some (.int 1) := eh5
  subst eh5
  refine pb_eq (pc' := 939) (lo' := [(6, .int 0), (5, .int 1), (4, .int 0), (3, .ref o), (2, .ref m), (1, .ref x), (0, .ref b)]) (rest' := [.int 1]) (ws' := [(o, .inl (G.2.2.2.1, 1, .inr (.inl (fun _ => 0))))]) ?_
  refine pb_iload (pc := 939) d_Law_law_939 1 rfl ?_
  refine pb_icmp_eq (pc := 941) (tgt := 946) d_Law_law_941 (by decide) (fun _ => ?_) (fun h9 => absurd h9 (by decide))
  refine pb_iload (pc := 946) d_Law_law_946 1 rfl ?_
  refine pb_if_ne (pc := 948) (tgt := 963) d_Law_law_948 (by decide) (fun _ => ?_) (fun h9 => absurd h9 (by decide))
  refine pb_goto (pc := 963) (tgt := 966) d_Law_law_963 (by decide) ?_
  refine pb_re (ws' := []) (lo' := [(4, .int 0), (0, .ref b)]) [] [2, 6] (by decide) rfl rfl rfl ?_
  exact law_tail hQ hX hbl hbA (by decide) (by decide)
