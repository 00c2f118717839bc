theorem d_Book_byteIn_0 : decode prog_1_method_25_code 0 = .ok (.iload_n 1, 1) := by decide +kernel
theorem d_Book_byteIn_1 : decode prog_1_method_25_code 1 = .ok (.ifCond .lt 11, 3) := by decide +kernel
theorem d_Book_byteIn_12 : decode prog_1_method_25_code 12 = .ok (.new 143, 3) := by decide +kernel
theorem tx_Book_143_147 : px_in (.classLink "PackageBook" 143 "java/lang/IndexOutOfBoundsException" :: .initialized "java/lang/IndexOutOfBoundsException" :: Bundle.ownAtoms "PackageBook" 147 "java/lang/IndexOutOfBoundsException" ["java/lang/RuntimeException", "java/lang/Exception"]) = true := by decide +kernel
theorem d_Book_byteIn_15 : decode prog_1_method_25_code 15 = .ok (.dup, 1) := by decide +kernel
theorem d_Book_byteIn_16 : decode prog_1_method_25_code 16 = .ok (.ldc 182, 2) := by decide +kernel
theorem d_Book_byteIn_18 : decode prog_1_method_25_code 18 = .ok (.invokespecial 147, 3) := by decide +kernel
theorem d_Book_byteIn_21 : decode prog_1_method_25_code 21 = .ok (.athrow, 1) := by decide +kernel
theorem d_Book_byteIn_4 : decode prog_1_method_25_code 4 = .ok (.iload_n 1, 1) := by decide +kernel
theorem d_Book_byteIn_5 : decode prog_1_method_25_code 5 = .ok (.aload_n 0, 1) := by decide +kernel
theorem d_Book_byteIn_6 : decode prog_1_method_25_code 6 = .ok (.getfield 84, 3) := by decide +kernel
theorem d_Book_byteIn_9 : decode prog_1_method_25_code 9 = .ok (.if_icmp .lt 13, 3) := by decide +kernel
abbrev y_Book_byteIn : MethodName := ⟨"PackageBook", "byteIn", "(LPackageBook$Row;I)I"⟩
abbrev i_Book_byteIn : pb_I := (y_Book_byteIn, prog_1_method_25_code, 2, (some Jvm.ClassFile.FieldType.int), [], { frames := 6, cells := 1, slots := 6, locals := 90 })
set_option maxRecDepth 100000 in
set_option maxHeartbeats 4000000 in
theorem c_Book_byteIn0 {l : Launch} (hl : l.stackTraces = false) (G : pb_G) (r : Nat) (b : Nat) (i : Int32) : Cx l G i_Book_byteIn [.ref r, .int i] [(r, .inr (0, [.ref b, .int 0]))] (S := Unit) (SX := Unit) (fun v u => v = some (.int 0) ∧ (False)) (fun u => []) (fun E u => E = "java/lang/IndexOutOfBoundsException") (fun _ => []) := by
  refine Cx.of hl (by decide +kernel) rfl (Nat.le_of_ble_eq_true rfl) (fun M hQ => ?_)
  refine pb_eq (pc' := 0) (lo' := [(0, .ref r), (1, .int i)]) (rest' := []) (ws' := [(r, .inr (0, [.ref b, .int 0]))]) ?_
  have z0 : (0 : Int32).toInt = 0 := by decide
  have z1 : (1 : Int32).toInt = 1 := by decide
  have z2 : (0 : Int32).toNatClampNeg = 0 := by decide
  refine pb_iload_n (pc := 0) d_Book_byteIn_0 1 rfl rfl ?_
  refine pb_if_lt (pc := 1) (tgt := 12) d_Book_byteIn_1 (by decide) (fun w1 => ?_) (fun w1 => ?_)
  · have tw1 : i.toInt < 0 := (ti_lt rfl (by decide)).mp w1
    exact pb_throwS (pc := 12) (cls := "java/lang/IndexOutOfBoundsException") (text := "no such byte") (names := ["java/lang/RuntimeException", "java/lang/Exception"]) hQ d_Book_byteIn_12 d_Book_byteIn_15 d_Book_byteIn_16 d_Book_byteIn_18 d_Book_byteIn_21 (by decide +kernel) (by decide +kernel) tx_Book_143_147 (by decide +kernel) (by decide) (Nat.le_of_ble_eq_true rfl) (by decide) (by decide) () rfl [] (by decide) rfl rfl
  · have tw1 : ¬ i.toInt < 0 := fun z9 => w1 ((ti_lt rfl (by decide)).mpr z9)
    refine pb_iload_n (pc := 4) d_Book_byteIn_4 1 rfl rfl ?_
    refine pb_aload_n (pc := 5) d_Book_byteIn_5 0 rfl rfl ?_
    refine pb_getN (pc := 6) d_Book_byteIn_6 0 1 rfl rfl (by decide) in_Row k_165 rfl ?_
    refine pb_icmp_lt (pc := 9) (tgt := 22) d_Book_byteIn_9 (by decide) (fun h9 => False.elim (by have t9 : i.toInt < 0 := (ti_lt rfl (by decide)).mp h9; omega)) (fun w2 => ?_)
    have tw2 : ¬ i.toInt < 0 := fun z9 => w2 ((ti_lt rfl (by decide)).mpr z9)
    exact pb_throwS (pc := 12) (cls := "java/lang/IndexOutOfBoundsException") (text := "no such byte") (names := ["java/lang/RuntimeException", "java/lang/Exception"]) hQ d_Book_byteIn_12 d_Book_byteIn_15 d_Book_byteIn_16 d_Book_byteIn_18 d_Book_byteIn_21 (by decide +kernel) (by decide +kernel) tx_Book_143_147 (by decide +kernel) (by decide) (Nat.le_of_ble_eq_true rfl) (by decide) (by decide) () rfl [] (by decide) rfl rfl

theorem d_Book_file_0 : decode prog_1_method_9_code 0 = .ok (.aload_n 0, 1) := by decide +kernel
theorem d_Book_file_1 : decode prog_1_method_9_code 1 = .ok (.getfield 38, 3) := by decide +kernel
theorem d_Book_file_4 : decode prog_1_method_9_code 4 = .ok (.getfield 168, 3) := by decide +kernel
theorem d_Book_file_7 : decode prog_1_method_9_code 7 = .ok (.iload_n 1, 1) := by decide +kernel
theorem d_Book_file_8 : decode prog_1_method_9_code 8 = .ok (.invokestatic 171, 3) := by decide +kernel
theorem k_1087 : (Jvm.Cond.methodLink "PackageBook" (171 : Nat) ({ cls := "PackageBook", name := "byteIn", desc := "(LPackageBook$Row;I)I" } : Jvm.MethodName)) ∈ uW := uW_of 1087 (by decide +kernel) (by decide +kernel)
theorem k_1089 : (Jvm.Cond.code ({ cls := "PackageBook", name := "byteIn", desc := "(LPackageBook$Row;I)I" } : Jvm.MethodName) prog_1_method_25_code (2 : Nat) (Option.some Jvm.ClassFile.FieldType.int)) ∈ uW := uW_of 1089 (by decide +kernel) (by decide +kernel)
theorem k_1088 : (Jvm.Cond.static ({ cls := "PackageBook", name := "byteIn", desc := "(LPackageBook$Row;I)I" } : Jvm.MethodName)) ∈ uW := uW_of 1088 (by decide +kernel) (by decide +kernel)
abbrev y_Book_file : MethodName := ⟨"PackageBook", "file", "(I)I"⟩
abbrev i_Book_file : pb_I := (y_Book_file, prog_1_method_9_code, 2, (some Jvm.ClassFile.FieldType.int), [], { frames := 7, cells := 1, slots := 6, locals := 111 })
set_option maxRecDepth 100000 in
set_option maxHeartbeats 4000000 in
theorem c_Book_file {l : Launch} (hl : l.stackTraces = false) (G : pb_G) (h : Nat) (ta : Nat) (ca : Nat) (ps : Nat) (ex_ : Nat) (mk : Nat) (rd : Nat) (mu : Nat) (fi : Nat) (go : Nat) (sp : Nat) (ss : Nat) (mm : Nat) (mr : Nat) (mb : Nat) (i : Int32) : Cx l G i_Book_file [.ref h, .int i] [(h, .inr (9, [.ref ta, .ref ca, .ref ps, .ref ex_, .ref mk, .ref rd, .ref mu, .ref fi, .ref go, .ref sp, .ref ss])), (mk, .inr (6, [.ref mm, .ref mr])), (mm, .inr (0, [.ref mb, .int 0]))] (S := Unit) (SX := Unit) (fun v u => v = some (.int 0) ∧ (False)) (fun u => []) (fun E u => E = "java/lang/IndexOutOfBoundsException") (fun _ => []) := by
  refine Cx.of hl (by decide +kernel) rfl (Nat.le_of_ble_eq_true rfl) (fun M hQ => ?_)
  refine pb_eq (pc' := 0) (lo' := [(0, .ref h), (1, .int i)]) (rest' := []) (ws' := [(h, .inr (9, [.ref ta, .ref ca, .ref ps, .ref ex_, .ref mk, .ref rd, .ref mu, .ref fi, .ref go, .ref sp, .ref ss])), (mk, .inr (6, [.ref mm, .ref mr])), (mm, .inr (0, [.ref mb, .int 0]))]) ?_
  refine pb_aload_n (pc := 0) d_Book_file_0 0 rfl rfl ?_
  refine pb_get (pc := 1) d_Book_file_1 0 4 rfl rfl (by decide) in_Book k_421 rfl ?_
  refine pb_getN (pc := 4) d_Book_file_4 1 0 rfl rfl (by decide) in_FileMaker k_293 rfl ?_
  refine pb_iload_n (pc := 7) d_Book_file_7 1 rfl rfl ?_
  refine pb_callSX (pc := 8) (nA := 2) (rest := []) (wr := [(h, .inr (9, [.ref ta, .ref ca, .ref ps, .ref ex_, .ref mk, .ref rd, .ref mu, .ref fi, .ref go, .ref sp, .ref ss])), (mk, .inr (6, [.ref mm, .ref mr]))]) d_Book_file_8 (c_Book_byteIn0 hl G mm mb i) [2] [0, 1] (by decide) rfl rfl rfl (by decide) (by decide) k_1089 rfl k_118 k_1087 k_1088 (by decide +kernel) (by decide) rfl rfl (Nat.le_of_ble_eq_true rfl) (by decide) (fun E0 u9 hx9 => ?_) (fun v9 u2 h1 => ?_)
  · exact pb_out hQ () hx9 [] (by decide) rfl rfl (by decide) (by decide)
  · obtain ⟨eh1, h1⟩ := h1
    have eh1 : v9 = some (.int 0) := eh1
    subst eh1
    have h3 : False := h1
    exact h3.elim

theorem d_Book_out_0 : decode prog_1_method_15_code 0 = .ok (.aload_n 0, 1) := by decide +kernel
theorem d_Book_out_1 : decode prog_1_method_15_code 1 = .ok (.getfield 18, 3) := by decide +kernel
theorem d_Book_out_4 : decode prog_1_method_15_code 4 = .ok (.iload_n 1, 1) := by decide +kernel
theorem d_Book_out_5 : decode prog_1_method_15_code 5 = .ok (.invokestatic 171, 3) := by decide +kernel
abbrev y_Book_out : MethodName := ⟨"PackageBook", "out", "(I)I"⟩
abbrev i_Book_out : pb_I := (y_Book_out, prog_1_method_15_code, 2, (some Jvm.ClassFile.FieldType.int), [], { frames := 7, cells := 1, slots := 6, locals := 111 })
set_option maxRecDepth 100000 in
set_option maxHeartbeats 4000000 in
theorem c_Book_out {l : Launch} (hl : l.stackTraces = false) (G : pb_G) (h : Nat) (ta : Nat) (ca : Nat) (ps : Nat) (ex_ : Nat) (mk : Nat) (rd : Nat) (mu : Nat) (fi : Nat) (go : Nat) (sp : Nat) (ss : Nat) (cb : Nat) (i : Int32) : Cx l G i_Book_out [.ref h, .int i] [(h, .inr (9, [.ref ta, .ref ca, .ref ps, .ref ex_, .ref mk, .ref rd, .ref mu, .ref fi, .ref go, .ref sp, .ref ss])), (ca, .inr (0, [.ref cb, .int 0]))] (S := Unit) (SX := Unit) (fun v u => v = some (.int 0) ∧ (False)) (fun u => []) (fun E u => E = "java/lang/IndexOutOfBoundsException") (fun _ => []) := by
  refine Cx.of hl (by decide +kernel) rfl (Nat.le_of_ble_eq_true rfl) (fun M hQ => ?_)
  refine pb_eq (pc' := 0) (lo' := [(0, .ref h), (1, .int i)]) (rest' := []) (ws' := [(h, .inr (9, [.ref ta, .ref ca, .ref ps, .ref ex_, .ref mk, .ref rd, .ref mu, .ref fi, .ref go, .ref sp, .ref ss])), (ca, .inr (0, [.ref cb, .int 0]))]) ?_
  refine pb_aload_n (pc := 0) d_Book_out_0 0 rfl rfl ?_
  refine pb_get (pc := 1) d_Book_out_1 0 1 rfl rfl (by decide) in_Book k_418 rfl ?_
  refine pb_iload_n (pc := 4) d_Book_out_4 1 rfl rfl ?_
  refine pb_callSX (pc := 5) (nA := 2) (rest := []) (wr := [(h, .inr (9, [.ref ta, .ref ca, .ref ps, .ref ex_, .ref mk, .ref rd, .ref mu, .ref fi, .ref go, .ref sp, .ref ss]))]) d_Book_out_5 (c_Book_byteIn0 hl G ca cb i) [1] [0] (by decide) rfl rfl rfl (by decide) (by decide) k_1089 rfl k_118 k_1087 k_1088 (by decide +kernel) (by decide) rfl rfl (Nat.le_of_ble_eq_true rfl) (by decide) (fun E0 u9 hx9 => ?_) (fun v9 u2 h1 => ?_)
  · exact pb_out hQ () hx9 [] (by decide) rfl rfl (by decide) (by decide)
  · obtain ⟨eh1, h1⟩ := h1
    have eh1 : v9 = some (.int 0) := eh1
    subst eh1
    have h3 : False := h1
    exact h3.elim

theorem d_Book_isName_0 : decode prog_1_method_26_code 0 = .ok (.iload_n 2, 1) := by decide +kernel
theorem d_Book_isName_1 : decode prog_1_method_26_code 1 = .ok (.iconst 1, 1) := by decide +kernel
theorem d_Book_isName_2 : decode prog_1_method_26_code 2 = .ok (.if_icmp .lt 9, 3) := by decide +kernel
theorem d_Book_isName_11 : decode prog_1_method_26_code 11 = .ok (.iconst 0, 1) := by decide +kernel
theorem d_Book_isName_12 : decode prog_1_method_26_code 12 = .ok (.ireturn, 1) := by decide +kernel
abbrev y_Book_isName : MethodName := ⟨"PackageBook", "isName", "([BII)Z"⟩
abbrev i_Book_isName : pb_I := (y_Book_isName, prog_1_method_26_code, 6, (some Jvm.ClassFile.FieldType.boolean), [], { frames := 0, cells := 0, slots := 0, locals := 0 })
set_option maxRecDepth 100000 in
set_option maxHeartbeats 4000000 in
theorem c_Book_isName0 {l : Launch} (hl : l.stackTraces = false) (G : pb_G) (b : Nat) (n : Int32) (hn : n.toInt < 1) : Cn l G i_Book_isName [.ref b, .int 0, .int n] [] (S := Unit) (fun v u => v = some (.int 0)) (fun u => []) := by
  refine Cn.of hl (by decide +kernel) rfl (Nat.le_of_ble_eq_true rfl) (fun M hQ => ?_)
  refine pb_eq (pc' := 0) (lo' := [(0, .ref b), (1, .int 0), (2, .int n)]) (rest' := []) (ws' := []) ?_
  refine pb_iload_n (pc := 0) d_Book_isName_0 2 rfl rfl ?_
  refine pb_iconst (pc := 1) (v := 1) d_Book_isName_1 (by decide) ?_
  refine pb_icmp_lt (pc := 2) (tgt := 11) d_Book_isName_2 (by decide) (fun w1 => ?_) (fun h9 => False.elim (by have t9 : ¬ n.toInt < 1 := fun z9 => h9 ((ti_lt rfl (by decide)).mpr z9); omega))
  have tw1 : n.toInt < 1 := (ti_lt rfl (by decide)).mp w1
  refine pb_iconst (pc := 11) (v := 0) d_Book_isName_11 (by decide) ?_
  exact pb_iret (pc := 12) hQ d_Book_isName_12 rfl rfl () rfl [] (by decide) rfl rfl (by decide) (by decide)

theorem d_Book_add_0 : decode prog_1_method_4_code 0 = .ok (.aload_n 0, 1) := by decide +kernel
theorem d_Book_add_1 : decode prog_1_method_4_code 1 = .ok (.invokevirtual 106, 3) := by decide +kernel
theorem d_Book_add_4 : decode prog_1_method_4_code 4 = .ok (.istore_n 2, 1) := by decide +kernel
theorem d_Book_add_5 : decode prog_1_method_4_code 5 = .ok (.iload_n 1, 1) := by decide +kernel
theorem d_Book_add_6 : decode prog_1_method_4_code 6 = .ok (.ifCond .lt 23, 3) := by decide +kernel
theorem d_Book_add_29 : decode prog_1_method_4_code 29 = .ok (.new 77, 3) := by decide +kernel
theorem tx_Book_77_81 : px_in (.classLink "PackageBook" 77 "java/lang/IllegalArgumentException" :: .initialized "java/lang/IllegalArgumentException" :: Bundle.ownAtoms "PackageBook" 81 "java/lang/IllegalArgumentException" ["java/lang/RuntimeException", "java/lang/Exception"]) = true := by decide +kernel
theorem d_Book_add_32 : decode prog_1_method_4_code 32 = .ok (.dup, 1) := by decide +kernel
theorem d_Book_add_33 : decode prog_1_method_4_code 33 = .ok (.ldc 114, 2) := by decide +kernel
theorem d_Book_add_35 : decode prog_1_method_4_code 35 = .ok (.invokespecial 81, 3) := by decide +kernel
theorem d_Book_add_38 : decode prog_1_method_4_code 38 = .ok (.athrow, 1) := by decide +kernel
theorem d_Book_add_9 : decode prog_1_method_4_code 9 = .ok (.iload_n 1, 1) := by decide +kernel
theorem d_Book_add_10 : decode prog_1_method_4_code 10 = .ok (.iload_n 2, 1) := by decide +kernel
theorem d_Book_add_11 : decode prog_1_method_4_code 11 = .ok (.if_icmp .gt 18, 3) := by decide +kernel
theorem d_Book_add_14 : decode prog_1_method_4_code 14 = .ok (.aload_n 0, 1) := by decide +kernel
theorem d_Book_add_15 : decode prog_1_method_4_code 15 = .ok (.getfield 14, 3) := by decide +kernel
theorem d_Book_add_18 : decode prog_1_method_4_code 18 = .ok (.getfield 98, 3) := by decide +kernel
theorem d_Book_add_21 : decode prog_1_method_4_code 21 = .ok (.iconst 0, 1) := by decide +kernel
theorem d_Book_add_22 : decode prog_1_method_4_code 22 = .ok (.iload_n 1, 1) := by decide +kernel
theorem d_Book_add_23 : decode prog_1_method_4_code 23 = .ok (.invokestatic 110, 3) := by decide +kernel
theorem k_1040 : (Jvm.Cond.methodLink "PackageBook" (110 : Nat) ({ cls := "PackageBook", name := "isName", desc := "([BII)Z" } : Jvm.MethodName)) ∈ uW := uW_of 1040 (by decide +kernel) (by decide +kernel)
theorem k_622 : (Jvm.Cond.code ({ cls := "PackageBook", name := "isName", desc := "([BII)Z" } : Jvm.MethodName) prog_1_method_26_code (6 : Nat) (Option.some Jvm.ClassFile.FieldType.boolean)) ∈ uW := uW_of 622 (by decide +kernel) (by decide +kernel)
theorem k_621 : (Jvm.Cond.static ({ cls := "PackageBook", name := "isName", desc := "([BII)Z" } : Jvm.MethodName)) ∈ uW := uW_of 621 (by decide +kernel) (by decide +kernel)
theorem d_Book_add_26 : decode prog_1_method_4_code 26 = .ok (.ifCond .ne 13, 3) := by decide +kernel
abbrev y_Book_add : MethodName := ⟨"PackageBook", "add", "(I)I"⟩
abbrev i_Book_add : pb_I := (y_Book_add, prog_1_method_4_code, 4, (some Jvm.ClassFile.FieldType.int), [], { frames := 6, cells := 1, slots := 6, locals := 90 })
set_option maxRecDepth 100000 in
set_option maxHeartbeats 4000000 in
theorem c_Book_add {l : Launch} (hl : l.stackTraces = false) (G : pb_G) (h : Nat) (ta : Nat) (ca : Nat) (ps : Nat) (ex_ : Nat) (mk : Nat) (rd : Nat) (mu : Nat) (fi : Nat) (go : Nat) (sp : Nat) (ss : Nat) (tb : Nat) (n : Int32) : Cx l G i_Book_add [.ref h, .int n] [(h, .inr (9, [.ref ta, .ref ca, .ref ps, .ref ex_, .ref mk, .ref rd, .ref mu, .ref fi, .ref go, .ref sp, .ref ss])), (ta, .inr (0, [.ref tb, .int 0]))] (S := Unit) (SX := Unit) (fun v u => v = some (.int 0) ∧ (False)) (fun u => []) (fun E u => E = "java/lang/IllegalArgumentException") (fun _ => []) := by
  refine Cx.of hl (by decide +kernel) rfl (Nat.le_of_ble_eq_true rfl) (fun M hQ => ?_)
  refine pb_eq (pc' := 0) (lo' := [(0, .ref h), (1, .int n)]) (rest' := []) (ws' := [(h, .inr (9, [.ref ta, .ref ca, .ref ps, .ref ex_, .ref mk, .ref rd, .ref mu, .ref fi, .ref go, .ref sp, .ref ss])), (ta, .inr (0, [.ref tb, .int 0]))]) ?_
  have z0 : (0 : Int32).toInt = 0 := by decide
  have z1 : (1 : Int32).toInt = 1 := by decide
  have z2 : (0 : Int32).toNatClampNeg = 0 := by decide
  refine pb_aload_n (pc := 0) d_Book_add_0 0 rfl rfl ?_
  refine pb_callV (pc := 1) (qb := 0) (ci := 9) (nA := 0) (rest := []) (wr := []) d_Book_add_1 (c_Book_takeTape hl G h ta ca ps ex_ mk rd mu fi go sp ss tb 0) rfl rfl [0, 1] [] (by decide) rfl rfl rfl (by decide) (by decide) k_458 rfl k_118 k_455 k_457 k_0 (by decide +kernel) (by decide) rfl rfl (Nat.le_of_ble_eq_true rfl) (by decide) (fun v9 u2 h1 => ?_)
  have eh1 := h1
  have eh1 : v9 = some (.int 0) := eh1
  subst eh1
  refine pb_eq (pc' := 4) (lo' := [(0, .ref h), (1, .int n)]) (rest' := [.int 0]) (ws' := [(h, .inr (9, [.ref ta, .ref ca, .ref ps, .ref ex_, .ref mk, .ref rd, .ref mu, .ref fi, .ref go, .ref sp, .ref ss])), (ta, .inr (0, [.ref tb, .int 0]))]) ?_
  refine pb_istore_n (pc := 4) (lo' := [(2, .int 0), (0, .ref h), (1, .int n)]) d_Book_add_4 rfl (by decide) rfl ?_
  refine pb_iload_n (pc := 5) d_Book_add_5 2 rfl rfl ?_
  refine pb_if_lt (pc := 6) (tgt := 29) d_Book_add_6 (by decide) (fun w3 => ?_) (fun w3 => ?_)
  · have tw3 : n.toInt < 0 := (ti_lt rfl (by decide)).mp w3
    exact pb_throwS (pc := 29) (cls := "java/lang/IllegalArgumentException") (text := "the tape does not begin with such a name") (names := ["java/lang/RuntimeException", "java/lang/Exception"]) hQ d_Book_add_29 d_Book_add_32 d_Book_add_33 d_Book_add_35 d_Book_add_38 (by decide +kernel) (by decide +kernel) tx_Book_77_81 (by decide +kernel) (by decide) (Nat.le_of_ble_eq_true rfl) (by decide) (by decide) () rfl [] (by decide) rfl rfl
  · have tw3 : ¬ n.toInt < 0 := fun z9 => w3 ((ti_lt rfl (by decide)).mpr z9)
    refine pb_iload_n (pc := 9) d_Book_add_9 2 rfl rfl ?_
    refine pb_iload_n (pc := 10) d_Book_add_10 0 rfl rfl ?_
    refine pb_icmp_gt (pc := 11) (tgt := 29) d_Book_add_11 (by decide) (fun w4 => ?_) (fun w4 => ?_)
    · have tw4 : 0 < n.toInt := (ti_lt (by decide) rfl).mp w4
      exact pb_throwS (pc := 29) (cls := "java/lang/IllegalArgumentException") (text := "the tape does not begin with such a name") (names := ["java/lang/RuntimeException", "java/lang/Exception"]) hQ d_Book_add_29 d_Book_add_32 d_Book_add_33 d_Book_add_35 d_Book_add_38 (by decide +kernel) (by decide +kernel) tx_Book_77_81 (by decide +kernel) (by decide) (Nat.le_of_ble_eq_true rfl) (by decide) (by decide) () rfl [] (by decide) rfl rfl
    · have tw4 : ¬ 0 < n.toInt := fun z9 => w4 ((ti_lt (by decide) rfl).mpr z9)
      refine pb_aload_n (pc := 14) d_Book_add_14 1 rfl rfl ?_
      refine pb_get (pc := 15) d_Book_add_15 0 0 rfl rfl (by decide) in_Book k_417 rfl ?_
      refine pb_getN (pc := 18) d_Book_add_18 1 0 rfl rfl (by decide) in_Row k_157 rfl ?_
      refine pb_iconst (pc := 21) (v := 0) d_Book_add_21 (by decide) ?_
      refine pb_iload_n (pc := 22) d_Book_add_22 2 rfl rfl ?_
      refine pb_callS (pc := 23) (nA := 3) (rest := []) (wr := [(h, .inr (9, [.ref ta, .ref ca, .ref ps, .ref ex_, .ref mk, .ref rd, .ref mu, .ref fi, .ref go, .ref sp, .ref ss])), (ta, .inr (0, [.ref tb, .int 0]))]) d_Book_add_23 (c_Book_isName0 hl G tb n (by omega)) [] [0, 1] (by decide) rfl rfl rfl (by decide) (by decide) k_622 rfl k_118 k_1040 k_621 (by decide +kernel) (by decide) rfl rfl (Nat.le_of_ble_eq_true rfl) (by decide) (fun v9 u6 h5 => ?_)
      have eh5 := h5
      have eh5 : v9 = some (.int 0) := eh5
      subst eh5
      refine pb_eq (pc' := 26) (lo' := [(2, .int 0), (0, .ref h), (1, .int n)]) (rest' := [.int 0]) (ws' := [(h, .inr (9, [.ref ta, .ref ca, .ref ps, .ref ex_, .ref mk, .ref rd, .ref mu, .ref fi, .ref go, .ref sp, .ref ss])), (ta, .inr (0, [.ref tb, .int 0]))]) ?_
      refine pb_if_ne (pc := 26) (tgt := 39) d_Book_add_26 (by decide) (fun h9 => absurd h9 (by decide)) (fun _ => ?_)
      exact pb_throwS (pc := 29) (cls := "java/lang/IllegalArgumentException") (text := "the tape does not begin with such a name") (names := ["java/lang/RuntimeException", "java/lang/Exception"]) hQ d_Book_add_29 d_Book_add_32 d_Book_add_33 d_Book_add_35 d_Book_add_38 (by decide +kernel) (by decide +kernel) tx_Book_77_81 (by decide +kernel) (by decide) (Nat.le_of_ble_eq_true rfl) (by decide) (by decide) () rfl [] (by decide) rfl rfl

theorem d_Shelf_inAll_0 : decode prog_10_method_5_code 0 = .ok (.aload_n 0, 1) := by decide +kernel
theorem d_Shelf_inAll_1 : decode prog_10_method_5_code 1 = .ok (.getfield 22, 3) := by decide +kernel
theorem d_Shelf_inAll_4 : decode prog_10_method_5_code 4 = .ok (.aload_n 0, 1) := by decide +kernel
theorem d_Shelf_inAll_5 : decode prog_10_method_5_code 5 = .ok (.getfield 25, 3) := by decide +kernel
theorem d_Shelf_inAll_8 : decode prog_10_method_5_code 8 = .ok (.iaload, 1) := by decide +kernel
theorem d_Shelf_inAll_9 : decode prog_10_method_5_code 9 = .ok (.ireturn, 1) := by decide +kernel
abbrev y_Shelf_inAll : MethodName := ⟨"PackageBook$Shelf", "inAll", "()I"⟩
abbrev i_Shelf_inAll : pb_I := (y_Shelf_inAll, prog_10_method_5_code, 1, (some Jvm.ClassFile.FieldType.int), [], { frames := 0, cells := 0, slots := 0, locals := 0 })
set_option maxRecDepth 100000 in
set_option maxHeartbeats 4000000 in
theorem c_Shelf_inAll0 {l : Launch} (hl : l.stackTraces = false) (G : pb_G) (h : Nat) (sn : Nat) (sz : Nat) (sb : Nat) (sg : Nat) : Cn l G i_Shelf_inAll [.ref h] [(h, .inr (3, [.ref sn, .ref sz, .ref sb, .ref sg, .int 0])), (sg, .inl (G.2.2.1, 17, .inl (fun _ => 0)))] (S := Unit) (fun v u => v = some (.int 0)) (fun u => []) := by
  refine Cn.of hl (by decide +kernel) rfl (Nat.le_of_ble_eq_true rfl) (fun M hQ => ?_)
  refine pb_eq (pc' := 0) (lo' := [(0, .ref h)]) (rest' := []) (ws' := [(h, .inr (3, [.ref sn, .ref sz, .ref sb, .ref sg, .int 0])), (sg, .inl (G.2.2.1, 17, .inl (fun _ => 0)))]) ?_
  refine pb_aload_n (pc := 0) d_Shelf_inAll_0 0 rfl rfl ?_
  refine pb_get (pc := 1) d_Shelf_inAll_1 0 3 rfl rfl (by decide) in_Shelf k_399 rfl ?_
  refine pb_aload_n (pc := 4) d_Shelf_inAll_4 0 rfl rfl ?_
  refine pb_get (pc := 5) d_Shelf_inAll_5 0 4 rfl rfl (by decide) in_Shelf k_403 rfl ?_
  refine pb_iald (pc := 8) d_Shelf_inAll_8 1 rfl (by unfold vp_in; decide) ?_
  refine pb_asi (y := 0) rfl ?_
  exact pb_iret (pc := 9) hQ d_Shelf_inAll_9 rfl rfl () rfl [] (by decide) rfl rfl (by decide) (by decide)

theorem d_Book_about_0 : decode prog_1_method_6_code 0 = .ok (.iload_n 1, 1) := by decide +kernel
theorem d_Book_about_1 : decode prog_1_method_6_code 1 = .ok (.ifCond .ne 11, 3) := by decide +kernel
theorem d_Book_about_12 : decode prog_1_method_6_code 12 = .ok (.iload_n 1, 1) := by decide +kernel
theorem d_Book_about_13 : decode prog_1_method_6_code 13 = .ok (.iconst 3, 1) := by decide +kernel
theorem d_Book_about_14 : decode prog_1_method_6_code 14 = .ok (.if_icmp .ne 11, 3) := by decide +kernel
theorem d_Book_about_25 : decode prog_1_method_6_code 25 = .ok (.iload_n 1, 1) := by decide +kernel
theorem d_Book_about_26 : decode prog_1_method_6_code 26 = .ok (.iconst 1, 1) := by decide +kernel
theorem d_Book_about_27 : decode prog_1_method_6_code 27 = .ok (.if_icmp .eq 8, 3) := by decide +kernel
theorem d_Book_about_35 : decode prog_1_method_6_code 35 = .ok (.aload_n 0, 1) := by decide +kernel
theorem d_Book_about_36 : decode prog_1_method_6_code 36 = .ok (.getfield 70, 3) := by decide +kernel
theorem d_Book_about_39 : decode prog_1_method_6_code 39 = .ok (.iload_n 2, 1) := by decide +kernel
theorem d_Book_about_40 : decode prog_1_method_6_code 40 = .ok (.invokevirtual 139, 3) := by decide +kernel
theorem k_1054 : (Jvm.Cond.methodLink "PackageBook" (139 : Nat) ({ cls := "PackageBook$Shelf", name := "has", desc := "(I)Z" } : Jvm.MethodName)) ∈ uW := uW_of 1054 (by decide +kernel) (by decide +kernel)
theorem d_Book_about_43 : decode prog_1_method_6_code 43 = .ok (.ifCond .ne 13, 3) := by decide +kernel
theorem d_Book_about_46 : decode prog_1_method_6_code 46 = .ok (.new 143, 3) := by decide +kernel
theorem d_Book_about_49 : decode prog_1_method_6_code 49 = .ok (.dup, 1) := by decide +kernel
theorem d_Book_about_50 : decode prog_1_method_6_code 50 = .ok (.ldc 145, 2) := by decide +kernel
theorem d_Book_about_52 : decode prog_1_method_6_code 52 = .ok (.invokespecial 147, 3) := by decide +kernel
theorem d_Book_about_55 : decode prog_1_method_6_code 55 = .ok (.athrow, 1) := by decide +kernel
theorem d_Book_about_30 : decode prog_1_method_6_code 30 = .ok (.iload_n 1, 1) := by decide +kernel
theorem d_Book_about_31 : decode prog_1_method_6_code 31 = .ok (.iconst 2, 1) := by decide +kernel
theorem d_Book_about_32 : decode prog_1_method_6_code 32 = .ok (.if_icmp .ne 14, 3) := by decide +kernel
theorem d_Book_about_17 : decode prog_1_method_6_code 17 = .ok (.aload_n 0, 1) := by decide +kernel
theorem d_Book_about_18 : decode prog_1_method_6_code 18 = .ok (.getfield 70, 3) := by decide +kernel
theorem d_Book_about_21 : decode prog_1_method_6_code 21 = .ok (.invokevirtual 136, 3) := by decide +kernel
theorem k_1053 : (Jvm.Cond.methodLink "PackageBook" (136 : Nat) ({ cls := "PackageBook$Shelf", name := "inAll", desc := "()I" } : Jvm.MethodName)) ∈ uW := uW_of 1053 (by decide +kernel) (by decide +kernel)
theorem k_481 : (Jvm.Cond.code ({ cls := "PackageBook$Shelf", name := "inAll", desc := "()I" } : Jvm.MethodName) prog_10_method_5_code (1 : Nat) (Option.some Jvm.ClassFile.FieldType.int)) ∈ uW := uW_of 481 (by decide +kernel) (by decide +kernel)
theorem k_479 : (Jvm.Cond.instanceMethod ({ cls := "PackageBook$Shelf", name := "inAll", desc := "()I" } : Jvm.MethodName)) ∈ uW := uW_of 479 (by decide +kernel) (by decide +kernel)
theorem k_480 : (Jvm.Cond.selects "PackageBook$Shelf" ({ cls := "PackageBook$Shelf", name := "inAll", desc := "()I" } : Jvm.MethodName) ({ cls := "PackageBook$Shelf", name := "inAll", desc := "()I" } : Jvm.MethodName)) ∈ uW := uW_of 480 (by decide +kernel) (by decide +kernel)
theorem d_Book_about_24 : decode prog_1_method_6_code 24 = .ok (.ireturn, 1) := by decide +kernel
theorem d_Book_about_4 : decode prog_1_method_6_code 4 = .ok (.aload_n 0, 1) := by decide +kernel
theorem d_Book_about_5 : decode prog_1_method_6_code 5 = .ok (.getfield 70, 3) := by decide +kernel
theorem d_Book_about_8 : decode prog_1_method_6_code 8 = .ok (.getfield 133, 3) := by decide +kernel
theorem d_Book_about_11 : decode prog_1_method_6_code 11 = .ok (.ireturn, 1) := by decide +kernel
abbrev y_Book_about : MethodName := ⟨"PackageBook", "about", "(II)I"⟩
abbrev i_Book_about : pb_I := (y_Book_about, prog_1_method_6_code, 3, (some Jvm.ClassFile.FieldType.int), [], { frames := 6, cells := 1, slots := 6, locals := 90 })
set_option maxRecDepth 100000 in
set_option maxHeartbeats 4000000 in
theorem c_Book_about {l : Launch} (hl : l.stackTraces = false) (G : pb_G) (h : Nat) (ta : Nat) (ca : Nat) (ps : Nat) (ex_ : Nat) (mk : Nat) (rd : Nat) (mu : Nat) (fi : Nat) (go : Nat) (sp : Nat) (ss : Nat) (spn : Nat) (spz : Nat) (spb : Nat) (spg : Nat) (w : Int32) (i : Int32) : Cx l G i_Book_about [.ref h, .int w, .int i] [(h, .inr (9, [.ref ta, .ref ca, .ref ps, .ref ex_, .ref mk, .ref rd, .ref mu, .ref fi, .ref go, .ref sp, .ref ss])), (sp, .inr (3, [.ref spn, .ref spz, .ref spb, .ref spg, .int 0])), (spg, .inl (G.2.2.1, 17, .inl (fun _ => 0)))] (S := Unit) (SX := Unit) (fun v u => v = some (.int 0) ∧ (w.toInt = 0 ∨ w.toInt = 3)) (fun u => []) (fun E u => E = "java/lang/IndexOutOfBoundsException" ∧ (¬ (w.toInt = 0 ∨ w.toInt = 3))) (fun _ => []) := by
  refine Cx.of hl (by decide +kernel) rfl (Nat.le_of_ble_eq_true rfl) (fun M hQ => ?_)
  refine pb_eq (pc' := 0) (lo' := [(0, .ref h), (1, .int w), (2, .int i)]) (rest' := []) (ws' := [(h, .inr (9, [.ref ta, .ref ca, .ref ps, .ref ex_, .ref mk, .ref rd, .ref mu, .ref fi, .ref go, .ref sp, .ref ss])), (sp, .inr (3, [.ref spn, .ref spz, .ref spb, .ref spg, .int 0])), (spg, .inl (G.2.2.1, 17, .inl (fun _ => 0)))]) ?_
  have z0 : (0 : Int32).toInt = 0 := by decide
  have z1 : (1 : Int32).toInt = 1 := by decide
  have z2 : (0 : Int32).toNatClampNeg = 0 := by decide
  refine pb_iload_n (pc := 0) d_Book_about_0 1 rfl rfl ?_
  refine pb_if_ne (pc := 1) (tgt := 12) d_Book_about_1 (by decide) (fun w1 => ?_) (fun w1 => ?_)
  · have tw1 : ¬ w.toInt = 0 := fun z9 => w1 ((ti_eq rfl (by decide)).mpr z9)
    refine pb_iload_n (pc := 12) d_Book_about_12 1 rfl rfl ?_
    refine pb_iconst (pc := 13) (v := 3) d_Book_about_13 (by decide) ?_
    refine pb_icmp_ne (pc := 14) (tgt := 25) d_Book_about_14 (by decide) (fun w2 => ?_) (fun w2 => ?_)
    · have tw2 : ¬ w.toInt = 3 := fun z9 => w2 ((ti_eq rfl (by decide)).mpr z9)
      refine pb_iload_n (pc := 25) d_Book_about_25 1 rfl rfl ?_
      refine pb_iconst (pc := 26) (v := 1) d_Book_about_26 (by decide) ?_
      refine pb_icmp_eq (pc := 27) (tgt := 35) d_Book_about_27 (by decide) (fun w3 => ?_) (fun w3 => ?_)
      · have tw3 : w.toInt = 1 := (ti_eq rfl (by decide)).mp w3
        refine pb_aload_n (pc := 35) d_Book_about_35 0 rfl rfl ?_
        refine pb_get (pc := 36) d_Book_about_36 0 9 rfl rfl (by decide) in_Book k_426 rfl ?_
        refine pb_iload_n (pc := 39) d_Book_about_39 2 rfl rfl ?_
        refine pb_callV (pc := 40) (qb := 1) (ci := 3) (nA := 1) (rest := []) (wr := [(h, .inr (9, [.ref ta, .ref ca, .ref ps, .ref ex_, .ref mk, .ref rd, .ref mu, .ref fi, .ref go, .ref sp, .ref ss])), (spg, .inl (G.2.2.1, 17, .inl (fun _ => 0)))]) d_Book_about_40 (c_Shelf_has hl G sp spn spz spb spg i) rfl rfl [1] [0, 2] (by decide) rfl rfl rfl (by decide) (by decide) k_473 rfl k_127 k_1054 k_471 k_472 (by decide +kernel) (by decide) rfl rfl (Nat.le_of_ble_eq_true rfl) (by decide) (fun v9 u5 h4 => ?_)
        have eh4 := h4
        have eh4 : v9 = some (.int 0) := eh4
        subst eh4
        refine pb_eq (pc' := 43) (lo' := [(0, .ref h), (1, .int w), (2, .int i)]) (rest' := [.int 0]) (ws' := [(h, .inr (9, [.ref ta, .ref ca, .ref ps, .ref ex_, .ref mk, .ref rd, .ref mu, .ref fi, .ref go, .ref sp, .ref ss])), (spg, .inl (G.2.2.1, 17, .inl (fun _ => 0))), (sp, .inr (3, [.ref spn, .ref spz, .ref spb, .ref spg, .int 0]))]) ?_
        refine pb_if_ne (pc := 43) (tgt := 56) d_Book_about_43 (by decide) (fun h9 => absurd h9 (by decide)) (fun _ => ?_)
        exact pb_throwS (pc := 46) (cls := "java/lang/IndexOutOfBoundsException") (text := "no such part or question") (names := ["java/lang/RuntimeException", "java/lang/Exception"]) hQ d_Book_about_46 d_Book_about_49 d_Book_about_50 d_Book_about_52 d_Book_about_55 (by decide +kernel) (by decide +kernel) tx_Book_143_147 (by decide +kernel) (by decide) (Nat.le_of_ble_eq_true rfl) (by decide) (by decide) () ⟨rfl, (by omega)⟩ [] (by decide) rfl rfl
      · have tw3 : ¬ w.toInt = 1 := fun z9 => w3 ((ti_eq rfl (by decide)).mpr z9)
        refine pb_iload_n (pc := 30) d_Book_about_30 1 rfl rfl ?_
        refine pb_iconst (pc := 31) (v := 2) d_Book_about_31 (by decide) ?_
        refine pb_icmp_ne (pc := 32) (tgt := 46) d_Book_about_32 (by decide) (fun w7 => ?_) (fun w7 => ?_)
        · have tw7 : ¬ w.toInt = 2 := fun z9 => w7 ((ti_eq rfl (by decide)).mpr z9)
          exact pb_throwS (pc := 46) (cls := "java/lang/IndexOutOfBoundsException") (text := "no such part or question") (names := ["java/lang/RuntimeException", "java/lang/Exception"]) hQ d_Book_about_46 d_Book_about_49 d_Book_about_50 d_Book_about_52 d_Book_about_55 (by decide +kernel) (by decide +kernel) tx_Book_143_147 (by decide +kernel) (by decide) (Nat.le_of_ble_eq_true rfl) (by decide) (by decide) () ⟨rfl, (by omega)⟩ [] (by decide) rfl rfl
        · have tw7 : w.toInt = 2 := (ti_eq rfl (by decide)).mp w7
          refine pb_aload_n (pc := 35) d_Book_about_35 0 rfl rfl ?_
          refine pb_get (pc := 36) d_Book_about_36 0 9 rfl rfl (by decide) in_Book k_426 rfl ?_
          refine pb_iload_n (pc := 39) d_Book_about_39 2 rfl rfl ?_
          refine pb_callV (pc := 40) (qb := 1) (ci := 3) (nA := 1) (rest := []) (wr := [(h, .inr (9, [.ref ta, .ref ca, .ref ps, .ref ex_, .ref mk, .ref rd, .ref mu, .ref fi, .ref go, .ref sp, .ref ss])), (spg, .inl (G.2.2.1, 17, .inl (fun _ => 0)))]) d_Book_about_40 (c_Shelf_has hl G sp spn spz spb spg i) rfl rfl [1] [0, 2] (by decide) rfl rfl rfl (by decide) (by decide) k_473 rfl k_127 k_1054 k_471 k_472 (by decide +kernel) (by decide) rfl rfl (Nat.le_of_ble_eq_true rfl) (by decide) (fun v9 u9 h8 => ?_)
          have eh8 := h8
          have eh8 : v9 = some (.int 0) := eh8
          subst eh8
          refine pb_eq (pc' := 43) (lo' := [(0, .ref h), (1, .int w), (2, .int i)]) (rest' := [.int 0]) (ws' := [(h, .inr (9, [.ref ta, .ref ca, .ref ps, .ref ex_, .ref mk, .ref rd, .ref mu, .ref fi, .ref go, .ref sp, .ref ss])), (spg, .inl (G.2.2.1, 17, .inl (fun _ => 0))), (sp, .inr (3, [.ref spn, .ref spz, .ref spb, .ref spg, .int 0]))]) ?_
          refine pb_if_ne (pc := 43) (tgt := 56) d_Book_about_43 (by decide) (fun h9 => absurd h9 (by decide)) (fun _ => ?_)
          exact pb_throwS (pc := 46) (cls := "java/lang/IndexOutOfBoundsException") (text := "no such part or question") (names := ["java/lang/RuntimeException", "java/lang/Exception"]) hQ d_Book_about_46 d_Book_about_49 d_Book_about_50 d_Book_about_52 d_Book_about_55 (by decide +kernel) (by decide +kernel) tx_Book_143_147 (by decide +kernel) (by decide) (Nat.le_of_ble_eq_true rfl) (by decide) (by decide) () ⟨rfl, (by omega)⟩ [] (by decide) rfl rfl
    · have tw2 : w.toInt = 3 := (ti_eq rfl (by decide)).mp w2
      refine pb_aload_n (pc := 17) d_Book_about_17 0 rfl rfl ?_
      refine pb_get (pc := 18) d_Book_about_18 0 9 rfl rfl (by decide) in_Book k_426 rfl ?_
      refine pb_callV (pc := 21) (qb := 1) (ci := 3) (nA := 0) (rest := []) (wr := [(h, .inr (9, [.ref ta, .ref ca, .ref ps, .ref ex_, .ref mk, .ref rd, .ref mu, .ref fi, .ref go, .ref sp, .ref ss]))]) d_Book_about_21 (c_Shelf_inAll0 hl G sp spn spz spb spg) rfl rfl [1, 2] [0] (by decide) rfl rfl rfl (by decide) (by decide) k_481 rfl k_127 k_1053 k_479 k_480 (by decide +kernel) (by decide) rfl rfl (Nat.le_of_ble_eq_true rfl) (by decide) (fun v9 u12 h11 => ?_)
      have eh11 := h11
      have eh11 : v9 = some (.int 0) := eh11
      subst eh11
      refine pb_eq (pc' := 24) (lo' := [(0, .ref h), (1, .int w), (2, .int i)]) (rest' := [.int 0]) (ws' := [(h, .inr (9, [.ref ta, .ref ca, .ref ps, .ref ex_, .ref mk, .ref rd, .ref mu, .ref fi, .ref go, .ref sp, .ref ss]))]) ?_
      exact pb_iretx (pc := 24) hQ d_Book_about_24 rfl rfl () ⟨rfl, (by omega)⟩ [] (by decide) rfl rfl (by decide) (by decide)
  · have tw1 : w.toInt = 0 := (ti_eq rfl (by decide)).mp w1
    refine pb_aload_n (pc := 4) d_Book_about_4 0 rfl rfl ?_
    refine pb_get (pc := 5) d_Book_about_5 0 9 rfl rfl (by decide) in_Book k_426 rfl ?_
    refine pb_getN (pc := 8) d_Book_about_8 1 4 rfl rfl (by decide) in_Shelf k_405 rfl ?_
    exact pb_iretx (pc := 11) hQ d_Book_about_11 rfl rfl () ⟨rfl, (by omega)⟩ [] (by decide) rfl rfl (by decide) (by decide)

theorem d_Book_byteOf_0 : decode prog_1_method_7_code 0 = .ok (.aload_n 0, 1) := by decide +kernel
theorem d_Book_byteOf_1 : decode prog_1_method_7_code 1 = .ok (.getfield 70, 3) := by decide +kernel
theorem d_Book_byteOf_4 : decode prog_1_method_7_code 4 = .ok (.iload_n 1, 1) := by decide +kernel
theorem d_Book_byteOf_5 : decode prog_1_method_7_code 5 = .ok (.invokevirtual 139, 3) := by decide +kernel
theorem d_Book_byteOf_8 : decode prog_1_method_7_code 8 = .ok (.ifCond .eq 29, 3) := by decide +kernel
theorem d_Book_byteOf_37 : decode prog_1_method_7_code 37 = .ok (.new 143, 3) := by decide +kernel
theorem d_Book_byteOf_40 : decode prog_1_method_7_code 40 = .ok (.dup, 1) := by decide +kernel
theorem d_Book_byteOf_41 : decode prog_1_method_7_code 41 = .ok (.ldc 155, 2) := by decide +kernel
theorem d_Book_byteOf_43 : decode prog_1_method_7_code 43 = .ok (.invokespecial 147, 3) := by decide +kernel
theorem d_Book_byteOf_46 : decode prog_1_method_7_code 46 = .ok (.athrow, 1) := by decide +kernel
abbrev y_Book_byteOf : MethodName := ⟨"PackageBook", "byteOf", "(II)I"⟩
abbrev i_Book_byteOf : pb_I := (y_Book_byteOf, prog_1_method_7_code, 4, (some Jvm.ClassFile.FieldType.int), [], { frames := 6, cells := 1, slots := 6, locals := 90 })
set_option maxRecDepth 100000 in
set_option maxHeartbeats 4000000 in
theorem c_Book_byteOf {l : Launch} (hl : l.stackTraces = false) (G : pb_G) (h : Nat) (ta : Nat) (ca : Nat) (ps : Nat) (ex_ : Nat) (mk : Nat) (rd : Nat) (mu : Nat) (fi : Nat) (go : Nat) (sp : Nat) (ss : Nat) (spn : Nat) (spz : Nat) (spb : Nat) (spg : Nat) (i : Int32) (k : Int32) : Cx l G i_Book_byteOf [.ref h, .int i, .int k] [(h, .inr (9, [.ref ta, .ref ca, .ref ps, .ref ex_, .ref mk, .ref rd, .ref mu, .ref fi, .ref go, .ref sp, .ref ss])), (sp, .inr (3, [.ref spn, .ref spz, .ref spb, .ref spg, .int 0]))] (S := Unit) (SX := Unit) (fun v u => v = some (.int 0) ∧ (False)) (fun u => []) (fun E u => E = "java/lang/IndexOutOfBoundsException") (fun _ => []) := by
  refine Cx.of hl (by decide +kernel) rfl (Nat.le_of_ble_eq_true rfl) (fun M hQ => ?_)
  refine pb_eq (pc' := 0) (lo' := [(0, .ref h), (1, .int i), (2, .int k)]) (rest' := []) (ws' := [(h, .inr (9, [.ref ta, .ref ca, .ref ps, .ref ex_, .ref mk, .ref rd, .ref mu, .ref fi, .ref go, .ref sp, .ref ss])), (sp, .inr (3, [.ref spn, .ref spz, .ref spb, .ref spg, .int 0]))]) ?_
  refine pb_aload_n (pc := 0) d_Book_byteOf_0 0 rfl rfl ?_
  refine pb_get (pc := 1) d_Book_byteOf_1 0 9 rfl rfl (by decide) in_Book k_426 rfl ?_
  refine pb_iload_n (pc := 4) d_Book_byteOf_4 1 rfl rfl ?_
  refine pb_callV (pc := 5) (qb := 1) (ci := 3) (nA := 1) (rest := []) (wr := [(h, .inr (9, [.ref ta, .ref ca, .ref ps, .ref ex_, .ref mk, .ref rd, .ref mu, .ref fi, .ref go, .ref sp, .ref ss]))]) d_Book_byteOf_5 (c_Shelf_has hl G sp spn spz spb spg i) rfl rfl [1] [0] (by decide) rfl rfl rfl (by decide) (by decide) k_473 rfl k_127 k_1054 k_471 k_472 (by decide +kernel) (by decide) rfl rfl (Nat.le_of_ble_eq_true rfl) (by decide) (fun v9 u2 h1 => ?_)
  have eh1 := h1
  have eh1 : v9 = some (.int 0) := eh1
  subst eh1
  refine pb_eq (pc' := 8) (lo' := [(0, .ref h), (1, .int i), (2, .int k)]) (rest' := [.int 0]) (ws' := [(h, .inr (9, [.ref ta, .ref ca, .ref ps, .ref ex_, .ref mk, .ref rd, .ref mu, .ref fi, .ref go, .ref sp, .ref ss])), (sp, .inr (3, [.ref spn, .ref spz, .ref spb, .ref spg, .int 0]))]) ?_
  refine pb_if_eq (pc := 8) (tgt := 37) d_Book_byteOf_8 (by decide) (fun _ => ?_) (fun h9 => absurd h9 (by decide))
  exact pb_throwS (pc := 37) (cls := "java/lang/IndexOutOfBoundsException") (text := "no such part or byte") (names := ["java/lang/RuntimeException", "java/lang/Exception"]) hQ d_Book_byteOf_37 d_Book_byteOf_40 d_Book_byteOf_41 d_Book_byteOf_43 d_Book_byteOf_46 (by decide +kernel) (by decide +kernel) tx_Book_143_147 (by decide +kernel) (by decide) (Nat.le_of_ble_eq_true rfl) (by decide) (by decide) () rfl [] (by decide) rfl rfl

theorem d_Book_reread_0 : decode prog_1_method_11_code 0 = .ok (.aload_n 0, 1) := by decide +kernel
theorem d_Book_reread_1 : decode prog_1_method_11_code 1 = .ok (.getfield 38, 3) := by decide +kernel
theorem d_Book_reread_4 : decode prog_1_method_11_code 4 = .ok (.getfield 168, 3) := by decide +kernel
theorem d_Book_reread_7 : decode prog_1_method_11_code 7 = .ok (.astore_n 3, 1) := by decide +kernel
theorem d_Book_reread_8 : decode prog_1_method_11_code 8 = .ok (.iload_n 1, 1) := by decide +kernel
theorem d_Book_reread_9 : decode prog_1_method_11_code 9 = .ok (.ifCond .lt 11, 3) := by decide +kernel
theorem d_Book_reread_20 : decode prog_1_method_11_code 20 = .ok (.new 143, 3) := by decide +kernel
theorem d_Book_reread_23 : decode prog_1_method_11_code 23 = .ok (.dup, 1) := by decide +kernel
theorem d_Book_reread_24 : decode prog_1_method_11_code 24 = .ok (.ldc 182, 2) := by decide +kernel
theorem d_Book_reread_26 : decode prog_1_method_11_code 26 = .ok (.invokespecial 147, 3) := by decide +kernel
theorem d_Book_reread_29 : decode prog_1_method_11_code 29 = .ok (.athrow, 1) := by decide +kernel
theorem d_Book_reread_12 : decode prog_1_method_11_code 12 = .ok (.iload_n 1, 1) := by decide +kernel
theorem d_Book_reread_13 : decode prog_1_method_11_code 13 = .ok (.aload_n 3, 1) := by decide +kernel
theorem d_Book_reread_14 : decode prog_1_method_11_code 14 = .ok (.getfield 84, 3) := by decide +kernel
theorem d_Book_reread_17 : decode prog_1_method_11_code 17 = .ok (.if_icmp .lt 13, 3) := by decide +kernel
abbrev y_Book_reread : MethodName := ⟨"PackageBook", "reread", "(II)I"⟩
abbrev i_Book_reread : pb_I := (y_Book_reread, prog_1_method_11_code, 5, (some Jvm.ClassFile.FieldType.int), [], { frames := 6, cells := 1, slots := 6, locals := 90 })
set_option maxRecDepth 100000 in
set_option maxHeartbeats 4000000 in
theorem c_Book_reread {l : Launch} (hl : l.stackTraces = false) (G : pb_G) (h : Nat) (ta : Nat) (ca : Nat) (ps : Nat) (ex_ : Nat) (mk : Nat) (rd : Nat) (mu : Nat) (fi : Nat) (go : Nat) (sp : Nat) (ss : Nat) (mm : Nat) (mr : Nat) (mb : Nat) (i : Int32) (x : Int32) : Cx l G i_Book_reread [.ref h, .int i, .int x] [(h, .inr (9, [.ref ta, .ref ca, .ref ps, .ref ex_, .ref mk, .ref rd, .ref mu, .ref fi, .ref go, .ref sp, .ref ss])), (mk, .inr (6, [.ref mm, .ref mr])), (mm, .inr (0, [.ref mb, .int 0]))] (S := Unit) (SX := Unit) (fun v u => v = some (.int 0) ∧ (False)) (fun u => []) (fun E u => E = "java/lang/IndexOutOfBoundsException") (fun _ => []) := by
  refine Cx.of hl (by decide +kernel) rfl (Nat.le_of_ble_eq_true rfl) (fun M hQ => ?_)
  refine pb_eq (pc' := 0) (lo' := [(0, .ref h), (1, .int i), (2, .int x)]) (rest' := []) (ws' := [(h, .inr (9, [.ref ta, .ref ca, .ref ps, .ref ex_, .ref mk, .ref rd, .ref mu, .ref fi, .ref go, .ref sp, .ref ss])), (mk, .inr (6, [.ref mm, .ref mr])), (mm, .inr (0, [.ref mb, .int 0]))]) ?_
  have z0 : (0 : Int32).toInt = 0 := by decide
  have z1 : (1 : Int32).toInt = 1 := by decide
  have z2 : (0 : Int32).toNatClampNeg = 0 := by decide
  refine pb_aload_n (pc := 0) d_Book_reread_0 0 rfl rfl ?_
  refine pb_get (pc := 1) d_Book_reread_1 0 4 rfl rfl (by decide) in_Book k_421 rfl ?_
  refine pb_getN (pc := 4) d_Book_reread_4 1 0 rfl rfl (by decide) in_FileMaker k_293 rfl ?_
  refine pb_astore_n (pc := 7) (lo' := [(3, .ref mm), (0, .ref h), (1, .int i), (2, .int x)]) d_Book_reread_7 rfl (by decide) rfl ?_
  refine pb_iload_n (pc := 8) d_Book_reread_8 2 rfl rfl ?_
  refine pb_if_lt (pc := 9) (tgt := 20) d_Book_reread_9 (by decide) (fun w1 => ?_) (fun w1 => ?_)
  · have tw1 : i.toInt < 0 := (ti_lt rfl (by decide)).mp w1
    exact pb_throwS (pc := 20) (cls := "java/lang/IndexOutOfBoundsException") (text := "no such byte") (names := ["java/lang/RuntimeException", "java/lang/Exception"]) hQ d_Book_reread_20 d_Book_reread_23 d_Book_reread_24 d_Book_reread_26 d_Book_reread_29 (by decide +kernel) (by decide +kernel) tx_Book_143_147 (by decide +kernel) (by decide) (Nat.le_of_ble_eq_true rfl) (by decide) (by decide) () rfl [] (by decide) rfl rfl
  · have tw1 : ¬ i.toInt < 0 := fun z9 => w1 ((ti_lt rfl (by decide)).mpr z9)
    refine pb_iload_n (pc := 12) d_Book_reread_12 2 rfl rfl ?_
    refine pb_aload_n (pc := 13) d_Book_reread_13 0 rfl rfl ?_
    refine pb_getN (pc := 14) d_Book_reread_14 2 1 rfl rfl (by decide) in_Row k_165 rfl ?_
    refine pb_icmp_lt (pc := 17) (tgt := 30) d_Book_reread_17 (by decide) (fun h9 => False.elim (by have t9 : i.toInt < 0 := (ti_lt rfl (by decide)).mp h9; omega)) (fun w2 => ?_)
    have tw2 : ¬ i.toInt < 0 := fun z9 => w2 ((ti_lt rfl (by decide)).mpr z9)
    exact pb_throwS (pc := 20) (cls := "java/lang/IndexOutOfBoundsException") (text := "no such byte") (names := ["java/lang/RuntimeException", "java/lang/Exception"]) hQ d_Book_reread_20 d_Book_reread_23 d_Book_reread_24 d_Book_reread_26 d_Book_reread_29 (by decide +kernel) (by decide +kernel) tx_Book_143_147 (by decide +kernel) (by decide) (Nat.le_of_ble_eq_true rfl) (by decide) (by decide) () rfl [] (by decide) rfl rfl

theorem d_Book_fault_0 : decode prog_1_method_17_code 0 = .ok (.iload_n 1, 1) := by decide +kernel
theorem d_Book_fault_1 : decode prog_1_method_17_code 1 = .ok (.ifCond .lt 23, 3) := by decide +kernel
theorem d_Book_fault_24 : decode prog_1_method_17_code 24 = .ok (.new 143, 3) := by decide +kernel
theorem d_Book_fault_27 : decode prog_1_method_17_code 27 = .ok (.dup, 1) := by decide +kernel
theorem d_Book_fault_28 : decode prog_1_method_17_code 28 = .ok (.ldc 222, 2) := by decide +kernel
theorem d_Book_fault_30 : decode prog_1_method_17_code 30 = .ok (.invokespecial 147, 3) := by decide +kernel
theorem d_Book_fault_33 : decode prog_1_method_17_code 33 = .ok (.athrow, 1) := by decide +kernel
theorem d_Book_fault_4 : decode prog_1_method_17_code 4 = .ok (.iload_n 1, 1) := by decide +kernel
theorem d_Book_fault_5 : decode prog_1_method_17_code 5 = .ok (.aload_n 0, 1) := by decide +kernel
theorem d_Book_fault_6 : decode prog_1_method_17_code 6 = .ok (.getfield 59, 3) := by decide +kernel
theorem d_Book_fault_9 : decode prog_1_method_17_code 9 = .ok (.getfield 205, 3) := by decide +kernel
theorem d_Book_fault_12 : decode prog_1_method_17_code 12 = .ok (.if_icmp .ge 12, 3) := by decide +kernel
abbrev y_Book_fault : MethodName := ⟨"PackageBook", "fault", "(II)I"⟩
abbrev i_Book_fault : pb_I := (y_Book_fault, prog_1_method_17_code, 3, (some Jvm.ClassFile.FieldType.int), [], { frames := 6, cells := 1, slots := 6, locals := 90 })
set_option maxRecDepth 100000 in
set_option maxHeartbeats 4000000 in
theorem c_Book_fault {l : Launch} (hl : l.stackTraces = false) (G : pb_G) (h : Nat) (ta : Nat) (ca : Nat) (ps : Nat) (ex_ : Nat) (mk : Nat) (rd : Nat) (mu : Nat) (fi : Nat) (go : Nat) (sp : Nat) (ss : Nat) (fk : Nat) (fo : Nat) (fp : Nat) (k : Int32) (x : Int32) : Cx l G i_Book_fault [.ref h, .int k, .int x] [(h, .inr (9, [.ref ta, .ref ca, .ref ps, .ref ex_, .ref mk, .ref rd, .ref mu, .ref fi, .ref go, .ref sp, .ref ss])), (fi, .inr (2, [.ref fk, .ref fo, .ref fp, .int 0]))] (S := Unit) (SX := Unit) (fun v u => v = some (.int 0) ∧ (False)) (fun u => []) (fun E u => E = "java/lang/IndexOutOfBoundsException") (fun _ => []) := by
  refine Cx.of hl (by decide +kernel) rfl (Nat.le_of_ble_eq_true rfl) (fun M hQ => ?_)
  refine pb_eq (pc' := 0) (lo' := [(0, .ref h), (1, .int k), (2, .int x)]) (rest' := []) (ws' := [(h, .inr (9, [.ref ta, .ref ca, .ref ps, .ref ex_, .ref mk, .ref rd, .ref mu, .ref fi, .ref go, .ref sp, .ref ss])), (fi, .inr (2, [.ref fk, .ref fo, .ref fp, .int 0]))]) ?_
  have z0 : (0 : Int32).toInt = 0 := by decide
  have z1 : (1 : Int32).toInt = 1 := by decide
  have z2 : (0 : Int32).toNatClampNeg = 0 := by decide
  refine pb_iload_n (pc := 0) d_Book_fault_0 1 rfl rfl ?_
  refine pb_if_lt (pc := 1) (tgt := 24) d_Book_fault_1 (by decide) (fun w1 => ?_) (fun w1 => ?_)
  · have tw1 : k.toInt < 0 := (ti_lt rfl (by decide)).mp w1
    exact pb_throwS (pc := 24) (cls := "java/lang/IndexOutOfBoundsException") (text := "no such fault or question") (names := ["java/lang/RuntimeException", "java/lang/Exception"]) hQ d_Book_fault_24 d_Book_fault_27 d_Book_fault_28 d_Book_fault_30 d_Book_fault_33 (by decide +kernel) (by decide +kernel) tx_Book_143_147 (by decide +kernel) (by decide) (Nat.le_of_ble_eq_true rfl) (by decide) (by decide) () rfl [] (by decide) rfl rfl
  · have tw1 : ¬ k.toInt < 0 := fun z9 => w1 ((ti_lt rfl (by decide)).mpr z9)
    refine pb_iload_n (pc := 4) d_Book_fault_4 1 rfl rfl ?_
    refine pb_aload_n (pc := 5) d_Book_fault_5 0 rfl rfl ?_
    refine pb_get (pc := 6) d_Book_fault_6 0 7 rfl rfl (by decide) in_Book k_424 rfl ?_
    refine pb_getN (pc := 9) d_Book_fault_9 1 3 rfl rfl (by decide) in_Findings k_373 rfl ?_
    refine pb_icmp_ge (pc := 12) (tgt := 24) d_Book_fault_12 (by decide) (fun w2 => ?_) (fun h9 => False.elim (by have t9 : ¬ 0 ≤ k.toInt := fun z9 => h9 ((ti_le (by decide) rfl).mpr z9); omega))
    have tw2 : 0 ≤ k.toInt := (ti_le (by decide) rfl).mp w2
    exact pb_throwS (pc := 24) (cls := "java/lang/IndexOutOfBoundsException") (text := "no such fault or question") (names := ["java/lang/RuntimeException", "java/lang/Exception"]) hQ d_Book_fault_24 d_Book_fault_27 d_Book_fault_28 d_Book_fault_30 d_Book_fault_33 (by decide +kernel) (by decide +kernel) tx_Book_143_147 (by decide +kernel) (by decide) (Nat.le_of_ble_eq_true rfl) (by decide) (by decide) () rfl [] (by decide) rfl rfl

theorem d_Book_relations_0 : decode prog_1_method_18_code 0 = .ok (.aload_n 0, 1) := by decide +kernel
theorem d_Book_relations_1 : decode prog_1_method_18_code 1 = .ok (.getfield 70, 3) := by decide +kernel
theorem d_Book_relations_4 : decode prog_1_method_18_code 4 = .ok (.iload_n 1, 1) := by decide +kernel
theorem d_Book_relations_5 : decode prog_1_method_18_code 5 = .ok (.invokevirtual 139, 3) := by decide +kernel
theorem d_Book_relations_8 : decode prog_1_method_18_code 8 = .ok (.ifCond .ne 13, 3) := by decide +kernel
theorem d_Book_relations_11 : decode prog_1_method_18_code 11 = .ok (.new 143, 3) := by decide +kernel
theorem d_Book_relations_14 : decode prog_1_method_18_code 14 = .ok (.dup, 1) := by decide +kernel
theorem d_Book_relations_15 : decode prog_1_method_18_code 15 = .ok (.ldc 233, 2) := by decide +kernel
theorem d_Book_relations_17 : decode prog_1_method_18_code 17 = .ok (.invokespecial 147, 3) := by decide +kernel
theorem d_Book_relations_20 : decode prog_1_method_18_code 20 = .ok (.athrow, 1) := by decide +kernel
abbrev y_Book_relations : MethodName := ⟨"PackageBook", "relations", "(I)I"⟩
abbrev i_Book_relations : pb_I := (y_Book_relations, prog_1_method_18_code, 2, (some Jvm.ClassFile.FieldType.int), [], { frames := 6, cells := 1, slots := 6, locals := 90 })
set_option maxRecDepth 100000 in
set_option maxHeartbeats 4000000 in
theorem c_Book_relations {l : Launch} (hl : l.stackTraces = false) (G : pb_G) (h : Nat) (ta : Nat) (ca : Nat) (ps : Nat) (ex_ : Nat) (mk : Nat) (rd : Nat) (mu : Nat) (fi : Nat) (go : Nat) (sp : Nat) (ss : Nat) (spn : Nat) (spz : Nat) (spb : Nat) (spg : Nat) (i : Int32) : Cx l G i_Book_relations [.ref h, .int i] [(h, .inr (9, [.ref ta, .ref ca, .ref ps, .ref ex_, .ref mk, .ref rd, .ref mu, .ref fi, .ref go, .ref sp, .ref ss])), (sp, .inr (3, [.ref spn, .ref spz, .ref spb, .ref spg, .int 0]))] (S := Unit) (SX := Unit) (fun v u => v = some (.int 0) ∧ (False)) (fun u => []) (fun E u => E = "java/lang/IndexOutOfBoundsException") (fun _ => []) := by
  refine Cx.of hl (by decide +kernel) rfl (Nat.le_of_ble_eq_true rfl) (fun M hQ => ?_)
  refine pb_eq (pc' := 0) (lo' := [(0, .ref h), (1, .int i)]) (rest' := []) (ws' := [(h, .inr (9, [.ref ta, .ref ca, .ref ps, .ref ex_, .ref mk, .ref rd, .ref mu, .ref fi, .ref go, .ref sp, .ref ss])), (sp, .inr (3, [.ref spn, .ref spz, .ref spb, .ref spg, .int 0]))]) ?_
  refine pb_aload_n (pc := 0) d_Book_relations_0 0 rfl rfl ?_
  refine pb_get (pc := 1) d_Book_relations_1 0 9 rfl rfl (by decide) in_Book k_426 rfl ?_
  refine pb_iload_n (pc := 4) d_Book_relations_4 1 rfl rfl ?_
  refine pb_callV (pc := 5) (qb := 1) (ci := 3) (nA := 1) (rest := []) (wr := [(h, .inr (9, [.ref ta, .ref ca, .ref ps, .ref ex_, .ref mk, .ref rd, .ref mu, .ref fi, .ref go, .ref sp, .ref ss]))]) d_Book_relations_5 (c_Shelf_has hl G sp spn spz spb spg i) rfl rfl [1] [0] (by decide) rfl rfl rfl (by decide) (by decide) k_473 rfl k_127 k_1054 k_471 k_472 (by decide +kernel) (by decide) rfl rfl (Nat.le_of_ble_eq_true rfl) (by decide) (fun v9 u2 h1 => ?_)
  have eh1 := h1
  have eh1 : v9 = some (.int 0) := eh1
  subst eh1
  refine pb_eq (pc' := 8) (lo' := [(0, .ref h), (1, .int i)]) (rest' := [.int 0]) (ws' := [(h, .inr (9, [.ref ta, .ref ca, .ref ps, .ref ex_, .ref mk, .ref rd, .ref mu, .ref fi, .ref go, .ref sp, .ref ss])), (sp, .inr (3, [.ref spn, .ref spz, .ref spb, .ref spg, .int 0]))]) ?_
  refine pb_if_ne (pc := 8) (tgt := 21) d_Book_relations_8 (by decide) (fun h9 => absurd h9 (by decide)) (fun _ => ?_)
  exact pb_throwS (pc := 11) (cls := "java/lang/IndexOutOfBoundsException") (text := "no such part") (names := ["java/lang/RuntimeException", "java/lang/Exception"]) hQ d_Book_relations_11 d_Book_relations_14 d_Book_relations_15 d_Book_relations_17 d_Book_relations_20 (by decide +kernel) (by decide +kernel) tx_Book_143_147 (by decide +kernel) (by decide) (Nat.le_of_ble_eq_true rfl) (by decide) (by decide) () rfl [] (by decide) rfl rfl

theorem d_Book_relation_0 : decode prog_1_method_19_code 0 = .ok (.aload_n 0, 1) := by decide +kernel
theorem d_Book_relation_1 : decode prog_1_method_19_code 1 = .ok (.getfield 70, 3) := by decide +kernel
theorem d_Book_relation_4 : decode prog_1_method_19_code 4 = .ok (.iload_n 1, 1) := by decide +kernel
theorem d_Book_relation_5 : decode prog_1_method_19_code 5 = .ok (.invokevirtual 139, 3) := by decide +kernel
theorem d_Book_relation_8 : decode prog_1_method_19_code 8 = .ok (.ifCond .ne 13, 3) := by decide +kernel
theorem d_Book_relation_11 : decode prog_1_method_19_code 11 = .ok (.new 143, 3) := by decide +kernel
theorem d_Book_relation_14 : decode prog_1_method_19_code 14 = .ok (.dup, 1) := by decide +kernel
theorem d_Book_relation_15 : decode prog_1_method_19_code 15 = .ok (.ldc 233, 2) := by decide +kernel
theorem d_Book_relation_17 : decode prog_1_method_19_code 17 = .ok (.invokespecial 147, 3) := by decide +kernel
theorem d_Book_relation_20 : decode prog_1_method_19_code 20 = .ok (.athrow, 1) := by decide +kernel
abbrev y_Book_relation : MethodName := ⟨"PackageBook", "relation", "(II)I"⟩
abbrev i_Book_relation : pb_I := (y_Book_relation, prog_1_method_19_code, 3, (some Jvm.ClassFile.FieldType.int), [], { frames := 6, cells := 1, slots := 6, locals := 90 })
set_option maxRecDepth 100000 in
set_option maxHeartbeats 4000000 in
theorem c_Book_relation {l : Launch} (hl : l.stackTraces = false) (G : pb_G) (h : Nat) (ta : Nat) (ca : Nat) (ps : Nat) (ex_ : Nat) (mk : Nat) (rd : Nat) (mu : Nat) (fi : Nat) (go : Nat) (sp : Nat) (ss : Nat) (spn : Nat) (spz : Nat) (spb : Nat) (spg : Nat) (i : Int32) (k : Int32) : Cx l G i_Book_relation [.ref h, .int i, .int k] [(h, .inr (9, [.ref ta, .ref ca, .ref ps, .ref ex_, .ref mk, .ref rd, .ref mu, .ref fi, .ref go, .ref sp, .ref ss])), (sp, .inr (3, [.ref spn, .ref spz, .ref spb, .ref spg, .int 0]))] (S := Unit) (SX := Unit) (fun v u => v = some (.int 0) ∧ (False)) (fun u => []) (fun E u => E = "java/lang/IndexOutOfBoundsException") (fun _ => []) := by
  refine Cx.of hl (by decide +kernel) rfl (Nat.le_of_ble_eq_true rfl) (fun M hQ => ?_)
  refine pb_eq (pc' := 0) (lo' := [(0, .ref h), (1, .int i), (2, .int k)]) (rest' := []) (ws' := [(h, .inr (9, [.ref ta, .ref ca, .ref ps, .ref ex_, .ref mk, .ref rd, .ref mu, .ref fi, .ref go, .ref sp, .ref ss])), (sp, .inr (3, [.ref spn, .ref spz, .ref spb, .ref spg, .int 0]))]) ?_
  refine pb_aload_n (pc := 0) d_Book_relation_0 0 rfl rfl ?_
  refine pb_get (pc := 1) d_Book_relation_1 0 9 rfl rfl (by decide) in_Book k_426 rfl ?_
  refine pb_iload_n (pc := 4) d_Book_relation_4 1 rfl rfl ?_
  refine pb_callV (pc := 5) (qb := 1) (ci := 3) (nA := 1) (rest := []) (wr := [(h, .inr (9, [.ref ta, .ref ca, .ref ps, .ref ex_, .ref mk, .ref rd, .ref mu, .ref fi, .ref go, .ref sp, .ref ss]))]) d_Book_relation_5 (c_Shelf_has hl G sp spn spz spb spg i) rfl rfl [1] [0] (by decide) rfl rfl rfl (by decide) (by decide) k_473 rfl k_127 k_1054 k_471 k_472 (by decide +kernel) (by decide) rfl rfl (Nat.le_of_ble_eq_true rfl) (by decide) (fun v9 u2 h1 => ?_)
  have eh1 := h1
  have eh1 : v9 = some (.int 0) := eh1
  subst eh1
  refine pb_eq (pc' := 8) (lo' := [(0, .ref h), (1, .int i), (2, .int k)]) (rest' := [.int 0]) (ws' := [(h, .inr (9, [.ref ta, .ref ca, .ref ps, .ref ex_, .ref mk, .ref rd, .ref mu, .ref fi, .ref go, .ref sp, .ref ss])), (sp, .inr (3, [.ref spn, .ref spz, .ref spb, .ref spg, .int 0]))]) ?_
  refine pb_if_ne (pc := 8) (tgt := 21) d_Book_relation_8 (by decide) (fun h9 => absurd h9 (by decide)) (fun _ => ?_)
  exact pb_throwS (pc := 11) (cls := "java/lang/IndexOutOfBoundsException") (text := "no such part") (names := ["java/lang/RuntimeException", "java/lang/Exception"]) hQ d_Book_relation_11 d_Book_relation_14 d_Book_relation_15 d_Book_relation_17 d_Book_relation_20 (by decide +kernel) (by decide +kernel) tx_Book_143_147 (by decide +kernel) (by decide) (Nat.le_of_ble_eq_true rfl) (by decide) (by decide) () rfl [] (by decide) rfl rfl

set_option maxRecDepth 100000 in
set_option maxHeartbeats 4000000 in
theorem c_Row_putBytes0 {l : Launch} (hl : l.stackTraces = false) (G : pb_G) (h : Nat) (b : Nat) (f : Nat → Int32) (x : Int32) (n : Int32) (hx : x.toInt = 0) (hn : n.toInt = 0) : Cn l G i_Row_putBytes [.ref h, .ref b, .int x, .int n] [(h, .inr (0, [.ref b, .int 0])), (b, .inl (G.2.1, 8000, .inl f))] (S := Int32 × (Nat → Int32)) (fun v u => v = none ∧ (u.1.toInt = 0)) (fun u => [(h, .inr (0, [.ref b, .int u.1])), (b, .inl (G.2.1, 8000, .inl u.2))]) := by
  refine Cn.of hl (by decide +kernel) rfl (Nat.le_of_ble_eq_true rfl) (fun M hQ => ?_)
  refine pb_eq (pc' := 0) (lo' := [(0, .ref h), (1, .ref b), (2, .int x), (3, .int n)]) (rest' := []) (ws' := [(h, .inr (0, [.ref b, .int 0])), (b, .inl (G.2.1, 8000, .inl f))]) ?_
  have z0 : (0 : Int32).toInt = 0 := by decide
  have z1 : (1 : Int32).toInt = 1 := by decide
  have z2 : (0 : Int32).toNatClampNeg = 0 := by decide
  have zc := ti_clamp (x := x) (by omega)
  have zd := ti_clamp (x := n) (by omega)
  refine pb_iload_n (pc := 0) d_Row_putBytes_0 3 rfl rfl ?_
  refine pb_aload_n (pc := 1) d_Row_putBytes_1 0 rfl rfl ?_
  refine pb_get (pc := 2) d_Row_putBytes_2 0 0 rfl rfl (by decide) in_Row k_156 rfl ?_
  refine pb_alen (pc := 5) (v := 8000) d_Row_putBytes_5 1 0 rfl rfl (show Int32.ofNat 8000 = 8000 by decide) ?_
  refine pb_aload_n (pc := 6) d_Row_putBytes_6 0 rfl rfl ?_
  refine pb_get (pc := 7) d_Row_putBytes_7 0 1 rfl rfl (by decide) in_Row k_162 rfl ?_
  refine pb_isub (pc := 10) d_Row_putBytes_10 ?_
  refine pb_asi (y := 8000) (by decide) ?_
  refine pb_icmp_gt (pc := 11) (tgt := 38) d_Row_putBytes_11 (by decide) (fun h9 => False.elim (by have t9 : 8000 < n.toInt := (ti_lt (by decide) rfl).mp h9; omega)) (fun w1 => ?_)
  have tw1 : ¬ 8000 < n.toInt := fun z9 => w1 ((ti_lt (by decide) rfl).mpr z9)
  refine pb_aload_n (pc := 14) d_Row_putBytes_14 1 rfl rfl ?_
  refine pb_iload_n (pc := 15) d_Row_putBytes_15 2 rfl rfl ?_
  refine pb_aload_n (pc := 16) d_Row_putBytes_16 0 rfl rfl ?_
  refine pb_get (pc := 17) d_Row_putBytes_17 0 0 rfl rfl (by decide) in_Row k_156 rfl ?_
  refine pb_aload_n (pc := 20) d_Row_putBytes_20 0 rfl rfl ?_
  refine pb_get (pc := 21) d_Row_putBytes_21 0 1 rfl rfl (by decide) in_Row k_162 rfl ?_
  refine pb_iload_n (pc := 24) d_Row_putBytes_24 3 rfl rfl ?_
  refine pb_copy (pc := 25) (ws' := [(h, .inr (0, [.ref b, .int 0])), (b, .inl (G.2.1, 8000, .inl (va_cpy f f (x : Int32).toNatClampNeg (0 : Int32).toNatClampNeg (n : Int32).toNatClampNeg)))]) d_Row_putBytes_25 0 1 1 rfl rfl rfl rfl k_565 k_484 k_483 k_134 (fun z9 => by have t9 : x.toInt < 0 := (ti_lt rfl z0).mp z9; omega) (by decide) (fun z9 => by have t9 : n.toInt < 0 := (ti_lt rfl z0).mp z9; omega) (by omega) (by rw [z2]; omega) (fun i hi => absurd hi (by omega)) (by decide) (Nat.le_of_ble_eq_true rfl) rfl ?_
  refine pb_aload_n (pc := 28) d_Row_putBytes_28 0 rfl rfl ?_
  refine pb_dup (pc := 29) d_Row_putBytes_29 rfl ?_
  refine pb_get (pc := 30) d_Row_putBytes_30 0 1 rfl rfl (by decide) in_Row k_162 rfl ?_
  refine pb_iload_n (pc := 33) d_Row_putBytes_33 3 rfl rfl ?_
  refine pb_iadd (pc := 34) d_Row_putBytes_34 ?_
  refine pb_topi (fun i2 ei2 => ?_)
  have ti2 : i2.toInt = 0 + n.toInt := ti_add ei2 (by decide) rfl (by omega) (by omega)
  refine pb_put (pc := 35) (ty := .int) (ws' := [(h, .inr (0, [.ref b, .int i2])), (b, .inl (G.2.1, 8000, .inl (va_cpy f f (x : Int32).toNatClampNeg (0 : Int32).toNatClampNeg (n : Int32).toNatClampNeg)))]) d_Row_putBytes_35 0 1 t_Row t_Row_ok n_Row rfl rfl (by decide) in_Row k_162 rfl (by decide +kernel) rfl rfl (Nat.le_of_ble_eq_true rfl) rfl ?_
  exact pb_vret (pc := 38) hQ d_Row_putBytes_38 rfl (i2, (va_cpy f f (x : Int32).toNatClampNeg (0 : Int32).toNatClampNeg (n : Int32).toNatClampNeg)) ⟨rfl, (by dsimp only; omega)⟩ [0, 1] (by decide) rfl rfl (by decide) (by decide)

theorem d_Book_again_0 : decode prog_1_method_3_code 0 = .ok (.iload_n 1, 1) := by decide +kernel
theorem d_Book_again_1 : decode prog_1_method_3_code 1 = .ok (.ifCond .lt 14, 3) := by decide +kernel
theorem d_Book_again_15 : decode prog_1_method_3_code 15 = .ok (.new 77, 3) := by decide +kernel
theorem d_Book_again_18 : decode prog_1_method_3_code 18 = .ok (.dup, 1) := by decide +kernel
theorem d_Book_again_19 : decode prog_1_method_3_code 19 = .ok (.ldc 96, 2) := by decide +kernel
theorem d_Book_again_21 : decode prog_1_method_3_code 21 = .ok (.invokespecial 81, 3) := by decide +kernel
theorem d_Book_again_24 : decode prog_1_method_3_code 24 = .ok (.athrow, 1) := by decide +kernel
theorem d_Book_again_4 : decode prog_1_method_3_code 4 = .ok (.iload_n 1, 1) := by decide +kernel
theorem d_Book_again_5 : decode prog_1_method_3_code 5 = .ok (.aload_n 0, 1) := by decide +kernel
theorem d_Book_again_6 : decode prog_1_method_3_code 6 = .ok (.getfield 14, 3) := by decide +kernel
theorem d_Book_again_9 : decode prog_1_method_3_code 9 = .ok (.getfield 84, 3) := by decide +kernel
theorem d_Book_again_12 : decode prog_1_method_3_code 12 = .ok (.if_icmp .le 13, 3) := by decide +kernel
theorem d_Book_again_25 : decode prog_1_method_3_code 25 = .ok (.aload_n 0, 1) := by decide +kernel
theorem d_Book_again_26 : decode prog_1_method_3_code 26 = .ok (.getfield 14, 3) := by decide +kernel
theorem d_Book_again_29 : decode prog_1_method_3_code 29 = .ok (.getfield 84, 3) := by decide +kernel
theorem d_Book_again_32 : decode prog_1_method_3_code 32 = .ok (.iload_n 1, 1) := by decide +kernel
theorem d_Book_again_33 : decode prog_1_method_3_code 33 = .ok (.iadd, 1) := by decide +kernel
theorem d_Book_again_34 : decode prog_1_method_3_code 34 = .ok (.sipush 8000, 3) := by decide +kernel
theorem d_Book_again_37 : decode prog_1_method_3_code 37 = .ok (.if_icmp .le 13, 3) := by decide +kernel
theorem d_Book_again_50 : decode prog_1_method_3_code 50 = .ok (.aload_n 0, 1) := by decide +kernel
theorem d_Book_again_51 : decode prog_1_method_3_code 51 = .ok (.getfield 14, 3) := by decide +kernel
theorem d_Book_again_54 : decode prog_1_method_3_code 54 = .ok (.aload_n 0, 1) := by decide +kernel
theorem d_Book_again_55 : decode prog_1_method_3_code 55 = .ok (.getfield 14, 3) := by decide +kernel
theorem d_Book_again_58 : decode prog_1_method_3_code 58 = .ok (.getfield 98, 3) := by decide +kernel
theorem d_Book_again_61 : decode prog_1_method_3_code 61 = .ok (.aload_n 0, 1) := by decide +kernel
theorem d_Book_again_62 : decode prog_1_method_3_code 62 = .ok (.getfield 14, 3) := by decide +kernel
theorem d_Book_again_65 : decode prog_1_method_3_code 65 = .ok (.getfield 84, 3) := by decide +kernel
theorem d_Book_again_68 : decode prog_1_method_3_code 68 = .ok (.iload_n 1, 1) := by decide +kernel
theorem d_Book_again_69 : decode prog_1_method_3_code 69 = .ok (.isub, 1) := by decide +kernel
theorem d_Book_again_70 : decode prog_1_method_3_code 70 = .ok (.iload_n 1, 1) := by decide +kernel
theorem d_Book_again_71 : decode prog_1_method_3_code 71 = .ok (.invokevirtual 102, 3) := by decide +kernel
theorem k_1032 : (Jvm.Cond.methodLink "PackageBook" (102 : Nat) ({ cls := "PackageBook$Row", name := "putBytes", desc := "([BII)V" } : Jvm.MethodName)) ∈ uW := uW_of 1032 (by decide +kernel) (by decide +kernel)
theorem d_Book_again_74 : decode prog_1_method_3_code 74 = .ok (.aload_n 0, 1) := by decide +kernel
theorem d_Book_again_75 : decode prog_1_method_3_code 75 = .ok (.getfield 14, 3) := by decide +kernel
theorem d_Book_again_78 : decode prog_1_method_3_code 78 = .ok (.getfield 84, 3) := by decide +kernel
theorem d_Book_again_81 : decode prog_1_method_3_code 81 = .ok (.ireturn, 1) := by decide +kernel
abbrev y_Book_again : MethodName := ⟨"PackageBook", "again", "(I)I"⟩
abbrev i_Book_again : pb_I := (y_Book_again, prog_1_method_3_code, 2, (some Jvm.ClassFile.FieldType.int), [], { frames := 6, cells := 1, slots := 6, locals := 90 })
set_option maxRecDepth 100000 in
set_option maxHeartbeats 4000000 in
theorem c_Book_again {l : Launch} (hl : l.stackTraces = false) (G : pb_G) (h : Nat) (ta : Nat) (ca : Nat) (ps : Nat) (ex_ : Nat) (mk : Nat) (rd : Nat) (mu : Nat) (fi : Nat) (go : Nat) (sp : Nat) (ss : Nat) (tb : Nat) (f : Nat → Int32) (n : Int32) : Cx l G i_Book_again [.ref h, .int n] [(h, .inr (9, [.ref ta, .ref ca, .ref ps, .ref ex_, .ref mk, .ref rd, .ref mu, .ref fi, .ref go, .ref sp, .ref ss])), (ta, .inr (0, [.ref tb, .int 0])), (tb, .inl (G.2.1, 8000, .inl f))] (S := Int32) (SX := Unit) (fun v u => v = some (.int u) ∧ (n.toInt = 0) ∧ (u.toInt = 0)) (fun u => []) (fun E u => E = "java/lang/IllegalArgumentException" ∧ (¬ n.toInt = 0)) (fun _ => []) := by
  refine Cx.of hl (by decide +kernel) rfl (Nat.le_of_ble_eq_true rfl) (fun M hQ => ?_)
  refine pb_eq (pc' := 0) (lo' := [(0, .ref h), (1, .int n)]) (rest' := []) (ws' := [(h, .inr (9, [.ref ta, .ref ca, .ref ps, .ref ex_, .ref mk, .ref rd, .ref mu, .ref fi, .ref go, .ref sp, .ref ss])), (ta, .inr (0, [.ref tb, .int 0])), (tb, .inl (G.2.1, 8000, .inl f))]) ?_
  have z0 : (0 : Int32).toInt = 0 := by decide
  have z1 : (1 : Int32).toInt = 1 := by decide
  have z2 : (0 : Int32).toNatClampNeg = 0 := by decide
  refine pb_iload_n (pc := 0) d_Book_again_0 1 rfl rfl ?_
  refine pb_if_lt (pc := 1) (tgt := 15) d_Book_again_1 (by decide) (fun w1 => ?_) (fun w1 => ?_)
  · have tw1 : n.toInt < 0 := (ti_lt rfl (by decide)).mp w1
    exact pb_throwS (pc := 15) (cls := "java/lang/IllegalArgumentException") (text := "the tape has not so many bytes") (names := ["java/lang/RuntimeException", "java/lang/Exception"]) hQ d_Book_again_15 d_Book_again_18 d_Book_again_19 d_Book_again_21 d_Book_again_24 (by decide +kernel) (by decide +kernel) tx_Book_77_81 (by decide +kernel) (by decide) (Nat.le_of_ble_eq_true rfl) (by decide) (by decide) () ⟨rfl, (by omega)⟩ [] (by decide) rfl rfl
  · have tw1 : ¬ n.toInt < 0 := fun z9 => w1 ((ti_lt rfl (by decide)).mpr z9)
    refine pb_iload_n (pc := 4) d_Book_again_4 1 rfl rfl ?_
    refine pb_aload_n (pc := 5) d_Book_again_5 0 rfl rfl ?_
    refine pb_get (pc := 6) d_Book_again_6 0 0 rfl rfl (by decide) in_Book k_417 rfl ?_
    refine pb_getN (pc := 9) d_Book_again_9 1 1 rfl rfl (by decide) in_Row k_165 rfl ?_
    refine pb_icmp_le (pc := 12) (tgt := 25) d_Book_again_12 (by decide) (fun w2 => ?_) (fun w2 => ?_)
    · have tw2 : n.toInt ≤ 0 := (ti_le rfl (by decide)).mp w2
      refine pb_aload_n (pc := 25) d_Book_again_25 0 rfl rfl ?_
      refine pb_get (pc := 26) d_Book_again_26 0 0 rfl rfl (by decide) in_Book k_417 rfl ?_
      refine pb_getN (pc := 29) d_Book_again_29 1 1 rfl rfl (by decide) in_Row k_165 rfl ?_
      refine pb_iload_n (pc := 32) d_Book_again_32 1 rfl rfl ?_
      refine pb_iadd (pc := 33) d_Book_again_33 ?_
      refine pb_topi (fun i3 ei3 => ?_)
      have ti3 : i3.toInt = 0 + n.toInt := ti_add ei3 (by decide) rfl (by omega) (by omega)
      refine pb_sipush (pc := 34) (v := 8000) d_Book_again_34 (by decide) ?_
      refine pb_icmp_le (pc := 37) (tgt := 50) d_Book_again_37 (by decide) (fun w4 => ?_) (fun h9 => False.elim (by have t9 : ¬ i3.toInt ≤ 8000 := fun z9 => h9 ((ti_le rfl (by decide)).mpr z9); omega))
      have tw4 : i3.toInt ≤ 8000 := (ti_le rfl (by decide)).mp w4
      refine pb_aload_n (pc := 50) d_Book_again_50 0 rfl rfl ?_
      refine pb_get (pc := 51) d_Book_again_51 0 0 rfl rfl (by decide) in_Book k_417 rfl ?_
      refine pb_aload_n (pc := 54) d_Book_again_54 0 rfl rfl ?_
      refine pb_get (pc := 55) d_Book_again_55 0 0 rfl rfl (by decide) in_Book k_417 rfl ?_
      refine pb_getN (pc := 58) d_Book_again_58 1 0 rfl rfl (by decide) in_Row k_157 rfl ?_
      refine pb_aload_n (pc := 61) d_Book_again_61 0 rfl rfl ?_
      refine pb_get (pc := 62) d_Book_again_62 0 0 rfl rfl (by decide) in_Book k_417 rfl ?_
      refine pb_getN (pc := 65) d_Book_again_65 1 1 rfl rfl (by decide) in_Row k_165 rfl ?_
      refine pb_iload_n (pc := 68) d_Book_again_68 1 rfl rfl ?_
      refine pb_isub (pc := 69) d_Book_again_69 ?_
      refine pb_topi (fun i5 ei5 => ?_)
      have ti5 : i5.toInt = 0 - n.toInt := ti_sub ei5 (by decide) rfl (by omega) (by omega)
      refine pb_iload_n (pc := 70) d_Book_again_70 1 rfl rfl ?_
      refine pb_callV (pc := 71) (qb := 1) (ci := 0) (nA := 3) (rest := []) (wr := [(h, .inr (9, [.ref ta, .ref ca, .ref ps, .ref ex_, .ref mk, .ref rd, .ref mu, .ref fi, .ref go, .ref sp, .ref ss]))]) d_Book_again_71 (c_Row_putBytes0 hl G ta tb f i5 n (by omega) (by omega)) rfl rfl [1, 2] [0] (by decide) rfl rfl rfl (by decide) (by decide) k_564 rfl k_119 k_1032 k_562 k_563 (by decide +kernel) (by decide) rfl rfl (Nat.le_of_ble_eq_true rfl) (by decide) (fun v9 u7 h6 => ?_)
      obtain ⟨s_8, f_9⟩ := u7
      obtain ⟨eh6, h6⟩ := h6
      have eh6 : v9 = none := eh6
      subst eh6
      have h10 : s_8.toInt = 0 := h6
      refine pb_eq (pc' := 74) (lo' := [(0, .ref h), (1, .int n)]) (rest' := []) (ws' := [(h, .inr (9, [.ref ta, .ref ca, .ref ps, .ref ex_, .ref mk, .ref rd, .ref mu, .ref fi, .ref go, .ref sp, .ref ss])), (ta, .inr (0, [.ref tb, .int s_8])), (tb, .inl (G.2.1, 8000, .inl f_9))]) ?_
      refine pb_aload_n (pc := 74) d_Book_again_74 0 rfl rfl ?_
      refine pb_get (pc := 75) d_Book_again_75 0 0 rfl rfl (by decide) in_Book k_417 rfl ?_
      refine pb_getN (pc := 78) d_Book_again_78 1 1 rfl rfl (by decide) in_Row k_165 rfl ?_
      exact pb_iretx (pc := 81) hQ d_Book_again_81 rfl rfl (s_8) ⟨rfl, (by omega), (by omega)⟩ [] (by decide) rfl rfl (by decide) (by decide)
    · have tw2 : ¬ n.toInt ≤ 0 := fun z9 => w2 ((ti_le rfl (by decide)).mpr z9)
      exact pb_throwS (pc := 15) (cls := "java/lang/IllegalArgumentException") (text := "the tape has not so many bytes") (names := ["java/lang/RuntimeException", "java/lang/Exception"]) hQ d_Book_again_15 d_Book_again_18 d_Book_again_19 d_Book_again_21 d_Book_again_24 (by decide +kernel) (by decide +kernel) tx_Book_77_81 (by decide +kernel) (by decide) (Nat.le_of_ble_eq_true rfl) (by decide) (by decide) () ⟨rfl, (by omega)⟩ [] (by decide) rfl rfl

theorem d_Book_type_0 : decode prog_1_method_2_code 0 = .ok (.iload_n 3, 1) := by decide +kernel
theorem d_Book_type_1 : decode prog_1_method_2_code 1 = .ok (.iconst 1, 1) := by decide +kernel
theorem d_Book_type_2 : decode prog_1_method_2_code 2 = .ok (.if_icmp .lt 9, 3) := by decide +kernel
theorem d_Book_type_11 : decode prog_1_method_2_code 11 = .ok (.new 77, 3) := by decide +kernel
theorem d_Book_type_14 : decode prog_1_method_2_code 14 = .ok (.dup, 1) := by decide +kernel
theorem d_Book_type_15 : decode prog_1_method_2_code 15 = .ok (.ldc 79, 2) := by decide +kernel
theorem d_Book_type_17 : decode prog_1_method_2_code 17 = .ok (.invokespecial 81, 3) := by decide +kernel
theorem d_Book_type_20 : decode prog_1_method_2_code 20 = .ok (.athrow, 1) := by decide +kernel
theorem d_Book_type_5 : decode prog_1_method_2_code 5 = .ok (.iload_n 3, 1) := by decide +kernel
theorem d_Book_type_6 : decode prog_1_method_2_code 6 = .ok (.bipush 8, 2) := by decide +kernel
theorem d_Book_type_8 : decode prog_1_method_2_code 8 = .ok (.if_icmp .le 13, 3) := by decide +kernel
theorem d_Book_type_21 : decode prog_1_method_2_code 21 = .ok (.aload_n 0, 1) := by decide +kernel
theorem d_Book_type_22 : decode prog_1_method_2_code 22 = .ok (.getfield 14, 3) := by decide +kernel
theorem d_Book_type_25 : decode prog_1_method_2_code 25 = .ok (.getfield 84, 3) := by decide +kernel
theorem d_Book_type_28 : decode prog_1_method_2_code 28 = .ok (.iload_n 3, 1) := by decide +kernel
theorem d_Book_type_29 : decode prog_1_method_2_code 29 = .ok (.iadd, 1) := by decide +kernel
theorem d_Book_type_30 : decode prog_1_method_2_code 30 = .ok (.sipush 8000, 3) := by decide +kernel
theorem d_Book_type_33 : decode prog_1_method_2_code 33 = .ok (.if_icmp .le 13, 3) := by decide +kernel
theorem d_Book_type_46 : decode prog_1_method_2_code 46 = .ok (.iconst 0, 1) := by decide +kernel
theorem d_Book_type_47 : decode prog_1_method_2_code 47 = .ok (.istore 4, 2) := by decide +kernel
theorem d_Book_type_49 : decode prog_1_method_2_code 49 = .ok (.iload 4, 2) := by decide +kernel
theorem d_Book_type_51 : decode prog_1_method_2_code 51 = .ok (.iload_n 3, 1) := by decide +kernel
theorem d_Book_type_52 : decode prog_1_method_2_code 52 = .ok (.if_icmp .ge 24, 3) := by decide +kernel
theorem d_Book_type_76 : decode prog_1_method_2_code 76 = .ok (.aload_n 0, 1) := by decide +kernel
theorem d_Book_type_77 : decode prog_1_method_2_code 77 = .ok (.getfield 14, 3) := by decide +kernel
theorem d_Book_type_80 : decode prog_1_method_2_code 80 = .ok (.getfield 84, 3) := by decide +kernel
theorem d_Book_type_83 : decode prog_1_method_2_code 83 = .ok (.ireturn, 1) := by decide +kernel
theorem d_Book_type_55 : decode prog_1_method_2_code 55 = .ok (.aload_n 0, 1) := by decide +kernel
theorem d_Book_type_56 : decode prog_1_method_2_code 56 = .ok (.getfield 14, 3) := by decide +kernel
theorem d_Book_type_59 : decode prog_1_method_2_code 59 = .ok (.lload_n 1, 1) := by decide +kernel
theorem d_Book_type_60 : decode prog_1_method_2_code 60 = .ok (.bipush 8, 2) := by decide +kernel
theorem d_Book_type_62 : decode prog_1_method_2_code 62 = .ok (.iload 4, 2) := by decide +kernel
theorem d_Book_type_64 : decode prog_1_method_2_code 64 = .ok (.imul, 1) := by decide +kernel
theorem d_Book_type_65 : decode prog_1_method_2_code 65 = .ok (.lushr, 1) := by decide +kernel
theorem d_Book_type_66 : decode prog_1_method_2_code 66 = .ok (.l2i, 1) := by decide +kernel
theorem d_Book_type_67 : decode prog_1_method_2_code 67 = .ok (.invokevirtual 93, 3) := by decide +kernel
theorem k_1023 : (Jvm.Cond.methodLink "PackageBook" (93 : Nat) ({ cls := "PackageBook$Row", name := "putByte", desc := "(I)V" } : Jvm.MethodName)) ∈ uW := uW_of 1023 (by decide +kernel) (by decide +kernel)
theorem d_Book_type_70 : decode prog_1_method_2_code 70 = .ok (.iinc 4 1, 3) := by decide +kernel
theorem d_Book_type_73 : decode prog_1_method_2_code 73 = .ok (.goto (-24), 3) := by decide +kernel
abbrev y_Book_type : MethodName := ⟨"PackageBook", "type", "(JI)I"⟩
abbrev i_Book_type : pb_I := (y_Book_type, prog_1_method_2_code, 5, (some Jvm.ClassFile.FieldType.int), [], { frames := 6, cells := 1, slots := 6, locals := 90 })
set_option maxRecDepth 100000 in
set_option maxHeartbeats 4000000 in
theorem c_Book_type {l : Launch} (hl : l.stackTraces = false) (G : pb_G) (h : Nat) (ta : Nat) (ca : Nat) (ps : Nat) (ex_ : Nat) (mk : Nat) (rd : Nat) (mu : Nat) (fi : Nat) (go : Nat) (sp : Nat) (ss : Nat) (tb : Nat) (f : Nat → Int32) (w : Int64) (n : Int32) : Cx l G i_Book_type [.ref h, .long w, .int n] [(h, .inr (9, [.ref ta, .ref ca, .ref ps, .ref ex_, .ref mk, .ref rd, .ref mu, .ref fi, .ref go, .ref sp, .ref ss])), (ta, .inr (0, [.ref tb, .int 0])), (tb, .inl (G.2.1, 8000, .inl f))] (S := Int32) (SX := Unit) (fun v u => v = some (.int u) ∧ (1 ≤ n.toInt ∧ n.toInt ≤ 8) ∧ (u = n)) (fun u => []) (fun E u => E = "java/lang/IllegalArgumentException" ∧ (¬ (1 ≤ n.toInt ∧ n.toInt ≤ 8))) (fun _ => []) := by
  refine Cx.of hl (by decide +kernel) rfl (Nat.le_of_ble_eq_true rfl) (fun M hQ => ?_)
  refine pb_eq (pc' := 0) (lo' := [(0, .ref h), (1, .long w), (3, .int n)]) (rest' := []) (ws' := [(h, .inr (9, [.ref ta, .ref ca, .ref ps, .ref ex_, .ref mk, .ref rd, .ref mu, .ref fi, .ref go, .ref sp, .ref ss])), (ta, .inr (0, [.ref tb, .int 0])), (tb, .inl (G.2.1, 8000, .inl f))]) ?_
  have z0 : (0 : Int32).toInt = 0 := by decide
  have z1 : (1 : Int32).toInt = 1 := by decide
  have z2 : (0 : Int32).toNatClampNeg = 0 := by decide
  refine pb_iload_n (pc := 0) d_Book_type_0 2 rfl rfl ?_
  refine pb_iconst (pc := 1) (v := 1) d_Book_type_1 (by decide) ?_
  refine pb_icmp_lt (pc := 2) (tgt := 11) d_Book_type_2 (by decide) (fun w1 => ?_) (fun w1 => ?_)
  · have tw1 : n.toInt < 1 := (ti_lt rfl (by decide)).mp w1
    exact pb_throwS (pc := 11) (cls := "java/lang/IllegalArgumentException") (text := "one to eight bytes can be typed") (names := ["java/lang/RuntimeException", "java/lang/Exception"]) hQ d_Book_type_11 d_Book_type_14 d_Book_type_15 d_Book_type_17 d_Book_type_20 (by decide +kernel) (by decide +kernel) tx_Book_77_81 (by decide +kernel) (by decide) (Nat.le_of_ble_eq_true rfl) (by decide) (by decide) () ⟨rfl, (by omega)⟩ [] (by decide) rfl rfl
  · have tw1 : ¬ n.toInt < 1 := fun z9 => w1 ((ti_lt rfl (by decide)).mpr z9)
    refine pb_iload_n (pc := 5) d_Book_type_5 2 rfl rfl ?_
    refine pb_bipush (pc := 6) (v := 8) d_Book_type_6 (by decide) ?_
    refine pb_icmp_le (pc := 8) (tgt := 21) d_Book_type_8 (by decide) (fun w2 => ?_) (fun w2 => ?_)
    · have tw2 : n.toInt ≤ 8 := (ti_le rfl (by decide)).mp w2
      refine pb_aload_n (pc := 21) d_Book_type_21 0 rfl rfl ?_
      refine pb_get (pc := 22) d_Book_type_22 0 0 rfl rfl (by decide) in_Book k_417 rfl ?_
      refine pb_getN (pc := 25) d_Book_type_25 1 1 rfl rfl (by decide) in_Row k_165 rfl ?_
      refine pb_iload_n (pc := 28) d_Book_type_28 2 rfl rfl ?_
      refine pb_iadd (pc := 29) d_Book_type_29 ?_
      refine pb_topi (fun i3 ei3 => ?_)
      have ti3 : i3.toInt = 0 + n.toInt := ti_add ei3 (by decide) rfl (by omega) (by omega)
      refine pb_sipush (pc := 30) (v := 8000) d_Book_type_30 (by decide) ?_
      refine pb_icmp_le (pc := 33) (tgt := 46) d_Book_type_33 (by decide) (fun w4 => ?_) (fun h9 => False.elim (by have t9 : ¬ i3.toInt ≤ 8000 := fun z9 => h9 ((ti_le rfl (by decide)).mpr z9); omega))
      have tw4 : i3.toInt ≤ 8000 := (ti_le rfl (by decide)).mp w4
      refine pb_iconst (pc := 46) (v := 0) d_Book_type_46 (by decide) ?_
      refine pb_istore (pc := 47) (lo' := [(4, .int 0), (0, .ref h), (1, .long w), (3, .int n)]) d_Book_type_47 (by decide) rfl ?_
      have hL49 : ∀ (N9 : Nat) (k : Int32) (t : Int32) (g : Nat → Int32), (0 ≤ k.toInt) → (k.toInt ≤ n.toInt) → (t.toInt = k.toInt) → ((n.toInt - k.toInt).toNat) < N9 → pb_P l G M i_Book_type 49 [(4, .int k), (0, .ref h), (1, .long w), (3, .int n)] [] [(h, .inr (9, [.ref ta, .ref ca, .ref ps, .ref ex_, .ref mk, .ref rd, .ref mu, .ref fi, .ref go, .ref sp, .ref ss])), (ta, .inr (0, [.ref tb, .int t])), (tb, .inl (G.2.1, 8000, .inl g))] 0 0 := by
        intro N9
        induction N9 with
        | zero => intro k t g hk hk2 ht hm9; exact absurd hm9 (Nat.not_lt_zero _)
        | succ N9 ih49 =>
          intro k t g hk hk2 ht hm9
          refine pb_iload (pc := 49) d_Book_type_49 0 rfl ?_
          refine pb_iload_n (pc := 51) d_Book_type_51 3 rfl rfl ?_
          refine pb_icmp_ge (pc := 52) (tgt := 76) d_Book_type_52 (by decide) (fun w5 => ?_) (fun w5 => ?_)
          · have tw5 : n.toInt ≤ k.toInt := (ti_le rfl rfl).mp w5
            refine pb_aload_n (pc := 76) d_Book_type_76 1 rfl rfl ?_
            refine pb_get (pc := 77) d_Book_type_77 0 0 rfl rfl (by decide) in_Book k_417 rfl ?_
            refine pb_getN (pc := 80) d_Book_type_80 1 1 rfl rfl (by decide) in_Row k_165 rfl ?_
            exact pb_iretx (pc := 83) hQ d_Book_type_83 rfl rfl (t) ⟨rfl, (by omega), (Int32.toInt_inj.mp (by (try dsimp only); omega))⟩ [] (by decide) rfl rfl (by decide) (by decide)
          · have tw5 : ¬ n.toInt ≤ k.toInt := fun z9 => w5 ((ti_le rfl rfl).mpr z9)
            refine pb_aload_n (pc := 55) d_Book_type_55 1 rfl rfl ?_
            refine pb_get (pc := 56) d_Book_type_56 0 0 rfl rfl (by decide) in_Book k_417 rfl ?_
            refine pb_lload_n (pc := 59) d_Book_type_59 2 rfl rfl ?_
            refine pb_bipush (pc := 60) (v := 8) d_Book_type_60 (by decide) ?_
            refine pb_iload (pc := 62) d_Book_type_62 0 rfl ?_
            refine pb_imul (pc := 64) d_Book_type_64 ?_
            refine pb_topi (fun i6 ei6 => ?_)
            have ti6 : i6.toInt = 8 * k.toInt := ti_mul ei6 (by decide) rfl (by omega) (by omega)
            refine pb_lushr (pc := 65) d_Book_type_65 rfl ?_
            refine pb_topl (fun j7 ej7 => ?_)
            refine pb_l2i (pc := 66) d_Book_type_66 rfl ?_
            refine pb_topi (fun i8 ei8 => ?_)
            refine pb_callV (pc := 67) (qb := 1) (ci := 0) (nA := 1) (rest := []) (wr := [(h, .inr (9, [.ref ta, .ref ca, .ref ps, .ref ex_, .ref mk, .ref rd, .ref mu, .ref fi, .ref go, .ref sp, .ref ss]))]) d_Book_type_67 (c_Row_putByte hl G ta tb 8000 g t i8 (by omega) (by omega) (by omega)) rfl rfl [1, 2] [0] (by decide) rfl rfl rfl (by decide) (by decide) k_555 rfl k_119 k_1023 k_553 k_554 (by decide +kernel) (by decide) rfl rfl (Nat.le_of_ble_eq_true rfl) (by decide) (fun v9 u10 h9 => ?_)
            obtain ⟨s_11, f_12⟩ := u10
            obtain ⟨eh9, h9⟩ := h9
            have eh9 : v9 = none := eh9
            subst eh9
            have h13 : s_11.toInt = t.toInt + 1 := h9
            refine pb_eq (pc' := 70) (lo' := [(4, .int k), (0, .ref h), (1, .long w), (3, .int n)]) (rest' := []) (ws' := [(h, .inr (9, [.ref ta, .ref ca, .ref ps, .ref ex_, .ref mk, .ref rd, .ref mu, .ref fi, .ref go, .ref sp, .ref ss])), (ta, .inr (0, [.ref tb, .int s_11])), (tb, .inl (G.2.1, 8000, .inl f_12))]) ?_
            refine pb_iincN (pc := 70) (c := 1) d_Book_type_70 0 rfl (by decide) (by decide) (fun i14 ei14 => ?_)
            have ti14 : i14.toInt = k.toInt + 1 := ti_add ei14 rfl (by decide) (by omega) (by omega)
            refine pb_eq (pc' := 73) (lo' := [(4, .int i14), (0, .ref h), (1, .long w), (3, .int n)]) (rest' := []) (ws' := [(h, .inr (9, [.ref ta, .ref ca, .ref ps, .ref ex_, .ref mk, .ref rd, .ref mu, .ref fi, .ref go, .ref sp, .ref ss])), (ta, .inr (0, [.ref tb, .int s_11])), (tb, .inl (G.2.1, 8000, .inl f_12))]) ?_
            refine pb_goto (pc := 73) (tgt := 49) d_Book_type_73 (by decide) ?_
            exact ih49 i14 s_11 f_12 (by omega) (by omega) (by omega) (by omega)
      exact hL49 _ 0 0 f (by omega) (by omega) (by omega) (Nat.lt_succ_self _)
    · have tw2 : ¬ n.toInt ≤ 8 := fun z9 => w2 ((ti_le rfl (by decide)).mpr z9)
      exact pb_throwS (pc := 11) (cls := "java/lang/IllegalArgumentException") (text := "one to eight bytes can be typed") (names := ["java/lang/RuntimeException", "java/lang/Exception"]) hQ d_Book_type_11 d_Book_type_14 d_Book_type_15 d_Book_type_17 d_Book_type_20 (by decide +kernel) (by decide +kernel) tx_Book_77_81 (by decide +kernel) (by decide) (Nat.le_of_ble_eq_true rfl) (by decide) (by decide) () ⟨rfl, (by omega)⟩ [] (by decide) rfl rfl
