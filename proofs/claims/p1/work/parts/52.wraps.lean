theorem d_Law_add_0 : decode method_5_code 0 = .ok (.aload_n 2, 1) := by decide +kernel
theorem d_Law_add_1 : decode method_5_code 1 = .ok (.iconst 0, 1) := by decide +kernel
theorem d_Law_add_2 : decode method_5_code 2 = .ok (.aload_n 0, 1) := by decide +kernel
theorem d_Law_add_3 : decode method_5_code 3 = .ok (.iload_n 1, 1) := by decide +kernel
theorem d_Law_add_4 : decode method_5_code 4 = .ok (.invokevirtual 21, 3) := by decide +kernel
theorem k_1036 : (Jvm.Cond.methodLink "PackageBookLaw" (21 : Nat) ({ cls := "PackageBook", name := "add", desc := "(I)I" } : Jvm.MethodName)) ∈ uW := uW_of 1036 (by decide +kernel) (by decide +kernel)
theorem k_1039 : (Jvm.Cond.code ({ cls := "PackageBook", name := "add", desc := "(I)I" } : Jvm.MethodName) prog_1_method_4_code (4 : Nat) (Option.some Jvm.ClassFile.FieldType.int)) ∈ uW := uW_of 1039 (by decide +kernel) (by decide +kernel)
theorem k_1037 : (Jvm.Cond.instanceMethod ({ cls := "PackageBook", name := "add", desc := "(I)I" } : Jvm.MethodName)) ∈ uW := uW_of 1037 (by decide +kernel) (by decide +kernel)
theorem k_1038 : (Jvm.Cond.selects "PackageBook" ({ cls := "PackageBook", name := "add", desc := "(I)I" } : Jvm.MethodName) ({ cls := "PackageBook", name := "add", desc := "(I)I" } : Jvm.MethodName)) ∈ uW := uW_of 1038 (by decide +kernel) (by decide +kernel)
theorem k_934 : (Jvm.Cond.classLink "PackageBookLaw" (13 : Nat) "java/lang/IllegalArgumentException") ∈ uW := uW_of 934 (by decide +kernel) (by decide +kernel)
theorem k_942 : (Jvm.Cond.castable "java/lang/IllegalArgumentException" "java/lang/IllegalArgumentException") ∈ uN := uN_of 942 (by decide +kernel) (by decide +kernel)
theorem d_Law_add_12 : decode method_5_code 12 = .ok (.astore_n 3, 1) := by decide +kernel
theorem d_Law_add_13 : decode method_5_code 13 = .ok (.iconst 1, 1) := by decide +kernel
theorem d_Law_add_14 : decode method_5_code 14 = .ok (.ireturn, 1) := by decide +kernel
abbrev y_Law_add : MethodName := ⟨"PackageBookLaw", "add", "(LPackageBook;I[J)I"⟩
abbrev i_Law_add : pb_I := (y_Law_add, method_5_code, 4, (some Jvm.ClassFile.FieldType.int), [(0, 9, 12, 13), (0, 9, 15, 15)], { frames := 7, cells := 1, slots := 6, locals := 113 })
set_option maxRecDepth 100000 in
set_option maxHeartbeats 4000000 in
theorem c_Law_add {l : Launch} (hl : l.stackTraces = false) (G : pb_G) (h : Nat) (ta : Nat) (ca : Nat) (ps : Nat) (ex_ : Nat) (mk : Nat) (rd : Nat) (mu : Nat) (fi : Nat) (go : Nat) (sp : Nat) (ss : Nat) (tb : Nat) (n : Int32) (o : Nat) (ofn : Nat → Int64) : Cn l G i_Law_add [.ref h, .int n, .ref o] [(h, .inr (9, [.ref ta, .ref ca, .ref ps, .ref ex_, .ref mk, .ref rd, .ref mu, .ref fi, .ref go, .ref sp, .ref ss])), (ta, .inr (0, [.ref tb, .int 0])), (o, .inl (G.2.2.2.1, 1, .inr (.inl ofn)))] (S := Unit) (fun v u => v = some (.int 1)) (fun u => [(o, .inl (G.2.2.2.1, 1, .inr (.inl ofn)))]) := by
  refine Cn.ofW hl (by decide +kernel) rfl (Nat.le_of_ble_eq_true rfl) (fun M hQ hT => ?_)
  refine pb_eq (pc' := 0) (lo' := [(0, .ref h), (1, .int n), (2, .ref o)]) (rest' := []) (ws' := [(h, .inr (9, [.ref ta, .ref ca, .ref ps, .ref ex_, .ref mk, .ref rd, .ref mu, .ref fi, .ref go, .ref sp, .ref ss])), (ta, .inr (0, [.ref tb, .int 0])), (o, .inl (G.2.2.2.1, 1, .inr (.inl ofn)))]) ?_
  refine pb_aload_n (pc := 0) d_Law_add_0 2 rfl rfl ?_
  refine pb_iconst (pc := 1) (v := 0) d_Law_add_1 (by decide) ?_
  refine pb_aload_n (pc := 2) d_Law_add_2 0 rfl rfl ?_
  refine pb_iload_n (pc := 3) d_Law_add_3 1 rfl rfl ?_
  refine pb_callVX (pc := 4) (qb := 0) (ci := 9) (nA := 1) (rest := [.int 0, .ref o]) (wr := [(o, .inl (G.2.2.2.1, 1, .inr (.inl ofn)))]) d_Law_add_4 (c_Book_add hl G h ta ca ps ex_ mk rd mu fi go sp ss tb n) rfl rfl [0, 1] [2] (by decide) rfl rfl rfl (by decide) (by decide) k_1039 rfl k_118 k_1036 k_1037 k_1038 (by decide +kernel) (by decide) rfl rfl (Nat.le_of_ble_eq_true rfl) (by decide) (fun E0 u9 hx9 => ?_) (fun v9 u2 h1 => ?_)
  · subst hx9
    refine pb_catch (pc := 4) (name := "java/lang/IllegalArgumentException") (x := ⟨0, 9, 12, 13⟩) (suf := [⟨0, 9, 15, 15⟩]) hT (by decide) (by decide) k_934 k_942 (fun q9 => ?_)
    refine pb_eq (pc' := 12) (lo' := [(0, .ref h), (1, .int n), (2, .ref o)]) (rest' := [.ref q9]) (ws' := [(o, .inl (G.2.2.2.1, 1, .inr (.inl ofn)))]) ?_
    refine pb_astore_n (pc := 12) (lo' := [(3, .ref q9), (0, .ref h), (1, .int n), (2, .ref o)]) d_Law_add_12 rfl (by decide) rfl ?_
    refine pb_iconst (pc := 13) (v := 1) d_Law_add_13 (by decide) ?_
    exact pb_iret (pc := 14) hQ d_Law_add_14 rfl rfl () rfl [0] (by decide) rfl rfl (by decide) (by decide)
  · obtain ⟨eh1, h1⟩ := h1
    have eh1 : v9 = some (.int 0) := eh1
    subst eh1
    have h3 : False := h1
    exact h3.elim

theorem d_Law_byteOf_0 : decode method_7_code 0 = .ok (.aload_n 3, 1) := by decide +kernel
theorem d_Law_byteOf_1 : decode method_7_code 1 = .ok (.iconst 0, 1) := by decide +kernel
theorem d_Law_byteOf_2 : decode method_7_code 2 = .ok (.aload_n 0, 1) := by decide +kernel
theorem d_Law_byteOf_3 : decode method_7_code 3 = .ok (.iload_n 1, 1) := by decide +kernel
theorem d_Law_byteOf_4 : decode method_7_code 4 = .ok (.iload_n 2, 1) := by decide +kernel
theorem d_Law_byteOf_5 : decode method_7_code 5 = .ok (.invokevirtual 30, 3) := by decide +kernel
theorem k_1075 : (Jvm.Cond.methodLink "PackageBookLaw" (30 : Nat) ({ cls := "PackageBook", name := "byteOf", desc := "(II)I" } : Jvm.MethodName)) ∈ uW := uW_of 1075 (by decide +kernel) (by decide +kernel)
theorem k_1078 : (Jvm.Cond.code ({ cls := "PackageBook", name := "byteOf", desc := "(II)I" } : Jvm.MethodName) prog_1_method_7_code (4 : Nat) (Option.some Jvm.ClassFile.FieldType.int)) ∈ uW := uW_of 1078 (by decide +kernel) (by decide +kernel)
theorem k_1076 : (Jvm.Cond.instanceMethod ({ cls := "PackageBook", name := "byteOf", desc := "(II)I" } : Jvm.MethodName)) ∈ uW := uW_of 1076 (by decide +kernel) (by decide +kernel)
theorem k_1077 : (Jvm.Cond.selects "PackageBook" ({ cls := "PackageBook", name := "byteOf", desc := "(II)I" } : Jvm.MethodName) ({ cls := "PackageBook", name := "byteOf", desc := "(II)I" } : Jvm.MethodName)) ∈ uW := uW_of 1077 (by decide +kernel) (by decide +kernel)
theorem k_1048 : (Jvm.Cond.classLink "PackageBookLaw" (28 : Nat) "java/lang/IndexOutOfBoundsException") ∈ uW := uW_of 1048 (by decide +kernel) (by decide +kernel)
theorem k_1057 : (Jvm.Cond.castable "java/lang/IndexOutOfBoundsException" "java/lang/IndexOutOfBoundsException") ∈ uN := uN_of 1057 (by decide +kernel) (by decide +kernel)
theorem d_Law_byteOf_13 : decode method_7_code 13 = .ok (.astore 4, 2) := by decide +kernel
theorem d_Law_byteOf_15 : decode method_7_code 15 = .ok (.iconst 1, 1) := by decide +kernel
theorem d_Law_byteOf_16 : decode method_7_code 16 = .ok (.ireturn, 1) := by decide +kernel
abbrev y_Law_byteOf : MethodName := ⟨"PackageBookLaw", "byteOf", "(LPackageBook;II[J)I"⟩
abbrev i_Law_byteOf : pb_I := (y_Law_byteOf, method_7_code, 5, (some Jvm.ClassFile.FieldType.int), [(0, 10, 13, 28)], { frames := 7, cells := 1, slots := 6, locals := 113 })
set_option maxRecDepth 100000 in
set_option maxHeartbeats 4000000 in
theorem c_Law_byteOf {l : Launch} (hl : l.stackTraces = false) (G : pb_G) (h : Nat) (ta : Nat) (ca : Nat) (ps : Nat) (ex_ : Nat) (mk : Nat) (rd : Nat) (mu : Nat) (fi : Nat) (go : Nat) (sp : Nat) (ss : Nat) (spn : Nat) (spz : Nat) (spb : Nat) (spg : Nat) (i : Int32) (k : Int32) (o : Nat) (ofn : Nat → Int64) : Cn l G i_Law_byteOf [.ref h, .int i, .int k, .ref o] [(h, .inr (9, [.ref ta, .ref ca, .ref ps, .ref ex_, .ref mk, .ref rd, .ref mu, .ref fi, .ref go, .ref sp, .ref ss])), (sp, .inr (3, [.ref spn, .ref spz, .ref spb, .ref spg, .int 0])), (o, .inl (G.2.2.2.1, 1, .inr (.inl ofn)))] (S := Unit) (fun v u => v = some (.int 1)) (fun u => [(o, .inl (G.2.2.2.1, 1, .inr (.inl ofn)))]) := by
  refine Cn.ofW hl (by decide +kernel) rfl (Nat.le_of_ble_eq_true rfl) (fun M hQ hT => ?_)
  refine pb_eq (pc' := 0) (lo' := [(0, .ref h), (1, .int i), (2, .int k), (3, .ref o)]) (rest' := []) (ws' := [(h, .inr (9, [.ref ta, .ref ca, .ref ps, .ref ex_, .ref mk, .ref rd, .ref mu, .ref fi, .ref go, .ref sp, .ref ss])), (sp, .inr (3, [.ref spn, .ref spz, .ref spb, .ref spg, .int 0])), (o, .inl (G.2.2.2.1, 1, .inr (.inl ofn)))]) ?_
  refine pb_aload_n (pc := 0) d_Law_byteOf_0 3 rfl rfl ?_
  refine pb_iconst (pc := 1) (v := 0) d_Law_byteOf_1 (by decide) ?_
  refine pb_aload_n (pc := 2) d_Law_byteOf_2 0 rfl rfl ?_
  refine pb_iload_n (pc := 3) d_Law_byteOf_3 1 rfl rfl ?_
  refine pb_iload_n (pc := 4) d_Law_byteOf_4 2 rfl rfl ?_
  refine pb_callVX (pc := 5) (qb := 0) (ci := 9) (nA := 2) (rest := [.int 0, .ref o]) (wr := [(o, .inl (G.2.2.2.1, 1, .inr (.inl ofn)))]) d_Law_byteOf_5 (c_Book_byteOf hl G h ta ca ps ex_ mk rd mu fi go sp ss spn spz spb spg i k) rfl rfl [0, 1] [2] (by decide) rfl rfl rfl (by decide) (by decide) k_1078 rfl k_118 k_1075 k_1076 k_1077 (by decide +kernel) (by decide) rfl rfl (Nat.le_of_ble_eq_true rfl) (by decide) (fun E0 u9 hx9 => ?_) (fun v9 u2 h1 => ?_)
  · subst hx9
    refine pb_catch (pc := 5) (name := "java/lang/IndexOutOfBoundsException") (x := ⟨0, 10, 13, 28⟩) (suf := []) hT (by decide) (by decide) k_1048 k_1057 (fun q9 => ?_)
    refine pb_eq (pc' := 13) (lo' := [(0, .ref h), (1, .int i), (2, .int k), (3, .ref o)]) (rest' := [.ref q9]) (ws' := [(o, .inl (G.2.2.2.1, 1, .inr (.inl ofn)))]) ?_
    refine pb_astore (pc := 13) (lo' := [(4, .ref q9), (0, .ref h), (1, .int i), (2, .int k), (3, .ref o)]) d_Law_byteOf_13 (by decide) rfl ?_
    refine pb_iconst (pc := 15) (v := 1) d_Law_byteOf_15 (by decide) ?_
    exact pb_iret (pc := 16) hQ d_Law_byteOf_16 rfl rfl () rfl [0] (by decide) rfl rfl (by decide) (by decide)
  · obtain ⟨eh1, h1⟩ := h1
    have eh1 : v9 = some (.int 0) := eh1
    subst eh1
    have h3 : False := h1
    exact h3.elim

theorem d_Law_file_0 : decode method_8_code 0 = .ok (.aload_n 2, 1) := by decide +kernel
theorem d_Law_file_1 : decode method_8_code 1 = .ok (.iconst 0, 1) := by decide +kernel
theorem d_Law_file_2 : decode method_8_code 2 = .ok (.aload_n 0, 1) := by decide +kernel
theorem d_Law_file_3 : decode method_8_code 3 = .ok (.iload_n 1, 1) := by decide +kernel
theorem d_Law_file_4 : decode method_8_code 4 = .ok (.invokevirtual 33, 3) := by decide +kernel
theorem k_1083 : (Jvm.Cond.methodLink "PackageBookLaw" (33 : Nat) ({ cls := "PackageBook", name := "file", desc := "(I)I" } : Jvm.MethodName)) ∈ uW := uW_of 1083 (by decide +kernel) (by decide +kernel)
theorem k_1086 : (Jvm.Cond.code ({ cls := "PackageBook", name := "file", desc := "(I)I" } : Jvm.MethodName) prog_1_method_9_code (2 : Nat) (Option.some Jvm.ClassFile.FieldType.int)) ∈ uW := uW_of 1086 (by decide +kernel) (by decide +kernel)
theorem k_1084 : (Jvm.Cond.instanceMethod ({ cls := "PackageBook", name := "file", desc := "(I)I" } : Jvm.MethodName)) ∈ uW := uW_of 1084 (by decide +kernel) (by decide +kernel)
theorem k_1085 : (Jvm.Cond.selects "PackageBook" ({ cls := "PackageBook", name := "file", desc := "(I)I" } : Jvm.MethodName) ({ cls := "PackageBook", name := "file", desc := "(I)I" } : Jvm.MethodName)) ∈ uW := uW_of 1085 (by decide +kernel) (by decide +kernel)
theorem d_Law_file_12 : decode method_8_code 12 = .ok (.astore_n 3, 1) := by decide +kernel
theorem d_Law_file_13 : decode method_8_code 13 = .ok (.iconst 1, 1) := by decide +kernel
theorem d_Law_file_14 : decode method_8_code 14 = .ok (.ireturn, 1) := by decide +kernel
abbrev y_Law_file : MethodName := ⟨"PackageBookLaw", "file", "(LPackageBook;I[J)I"⟩
abbrev i_Law_file : pb_I := (y_Law_file, method_8_code, 4, (some Jvm.ClassFile.FieldType.int), [(0, 9, 12, 28)], { frames := 8, cells := 1, slots := 6, locals := 132 })
set_option maxRecDepth 100000 in
set_option maxHeartbeats 4000000 in
theorem c_Law_file {l : Launch} (hl : l.stackTraces = false) (G : pb_G) (h : Nat) (ta : Nat) (ca : Nat) (ps : Nat) (ex_ : Nat) (mk : Nat) (rd : Nat) (mu : Nat) (fi : Nat) (go : Nat) (sp : Nat) (ss : Nat) (mm : Nat) (mr : Nat) (mb : Nat) (i : Int32) (o : Nat) (ofn : Nat → Int64) : Cn l G i_Law_file [.ref h, .int i, .ref o] [(h, .inr (9, [.ref ta, .ref ca, .ref ps, .ref ex_, .ref mk, .ref rd, .ref mu, .ref fi, .ref go, .ref sp, .ref ss])), (mk, .inr (6, [.ref mm, .ref mr])), (mm, .inr (0, [.ref mb, .int 0])), (o, .inl (G.2.2.2.1, 1, .inr (.inl ofn)))] (S := Unit) (fun v u => v = some (.int 1)) (fun u => [(o, .inl (G.2.2.2.1, 1, .inr (.inl ofn)))]) := by
  refine Cn.ofW hl (by decide +kernel) rfl (Nat.le_of_ble_eq_true rfl) (fun M hQ hT => ?_)
  refine pb_eq (pc' := 0) (lo' := [(0, .ref h), (1, .int i), (2, .ref o)]) (rest' := []) (ws' := [(h, .inr (9, [.ref ta, .ref ca, .ref ps, .ref ex_, .ref mk, .ref rd, .ref mu, .ref fi, .ref go, .ref sp, .ref ss])), (mk, .inr (6, [.ref mm, .ref mr])), (mm, .inr (0, [.ref mb, .int 0])), (o, .inl (G.2.2.2.1, 1, .inr (.inl ofn)))]) ?_
  refine pb_aload_n (pc := 0) d_Law_file_0 2 rfl rfl ?_
  refine pb_iconst (pc := 1) (v := 0) d_Law_file_1 (by decide) ?_
  refine pb_aload_n (pc := 2) d_Law_file_2 0 rfl rfl ?_
  refine pb_iload_n (pc := 3) d_Law_file_3 1 rfl rfl ?_
  refine pb_callVX (pc := 4) (qb := 0) (ci := 9) (nA := 1) (rest := [.int 0, .ref o]) (wr := [(o, .inl (G.2.2.2.1, 1, .inr (.inl ofn)))]) d_Law_file_4 (c_Book_file hl G h ta ca ps ex_ mk rd mu fi go sp ss mm mr mb i) rfl rfl [0, 1, 2] [3] (by decide) rfl rfl rfl (by decide) (by decide) k_1086 rfl k_118 k_1083 k_1084 k_1085 (by decide +kernel) (by decide) rfl rfl (Nat.le_of_ble_eq_true rfl) (by decide) (fun E0 u9 hx9 => ?_) (fun v9 u2 h1 => ?_)
  · subst hx9
    refine pb_catch (pc := 4) (name := "java/lang/IndexOutOfBoundsException") (x := ⟨0, 9, 12, 28⟩) (suf := []) hT (by decide) (by decide) k_1048 k_1057 (fun q9 => ?_)
    refine pb_eq (pc' := 12) (lo' := [(0, .ref h), (1, .int i), (2, .ref o)]) (rest' := [.ref q9]) (ws' := [(o, .inl (G.2.2.2.1, 1, .inr (.inl ofn)))]) ?_
    refine pb_astore_n (pc := 12) (lo' := [(3, .ref q9), (0, .ref h), (1, .int i), (2, .ref o)]) d_Law_file_12 rfl (by decide) rfl ?_
    refine pb_iconst (pc := 13) (v := 1) d_Law_file_13 (by decide) ?_
    exact pb_iret (pc := 14) hQ d_Law_file_14 rfl rfl () rfl [0] (by decide) rfl rfl (by decide) (by decide)
  · obtain ⟨eh1, h1⟩ := h1
    have eh1 : v9 = some (.int 0) := eh1
    subst eh1
    have h3 : False := h1
    exact h3.elim

theorem d_Law_reread_0 : decode method_9_code 0 = .ok (.aload_n 3, 1) := by decide +kernel
theorem d_Law_reread_1 : decode method_9_code 1 = .ok (.iconst 0, 1) := by decide +kernel
theorem d_Law_reread_2 : decode method_9_code 2 = .ok (.aload_n 0, 1) := by decide +kernel
theorem d_Law_reread_3 : decode method_9_code 3 = .ok (.iload_n 1, 1) := by decide +kernel
theorem d_Law_reread_4 : decode method_9_code 4 = .ok (.iload_n 2, 1) := by decide +kernel
theorem d_Law_reread_5 : decode method_9_code 5 = .ok (.invokevirtual 36, 3) := by decide +kernel
theorem k_1094 : (Jvm.Cond.methodLink "PackageBookLaw" (36 : Nat) ({ cls := "PackageBook", name := "reread", desc := "(II)I" } : Jvm.MethodName)) ∈ uW := uW_of 1094 (by decide +kernel) (by decide +kernel)
theorem k_1097 : (Jvm.Cond.code ({ cls := "PackageBook", name := "reread", desc := "(II)I" } : Jvm.MethodName) prog_1_method_11_code (5 : Nat) (Option.some Jvm.ClassFile.FieldType.int)) ∈ uW := uW_of 1097 (by decide +kernel) (by decide +kernel)
theorem k_1095 : (Jvm.Cond.instanceMethod ({ cls := "PackageBook", name := "reread", desc := "(II)I" } : Jvm.MethodName)) ∈ uW := uW_of 1095 (by decide +kernel) (by decide +kernel)
theorem k_1096 : (Jvm.Cond.selects "PackageBook" ({ cls := "PackageBook", name := "reread", desc := "(II)I" } : Jvm.MethodName) ({ cls := "PackageBook", name := "reread", desc := "(II)I" } : Jvm.MethodName)) ∈ uW := uW_of 1096 (by decide +kernel) (by decide +kernel)
theorem d_Law_reread_13 : decode method_9_code 13 = .ok (.astore 4, 2) := by decide +kernel
theorem d_Law_reread_15 : decode method_9_code 15 = .ok (.iconst 1, 1) := by decide +kernel
theorem d_Law_reread_16 : decode method_9_code 16 = .ok (.ireturn, 1) := by decide +kernel
abbrev y_Law_reread : MethodName := ⟨"PackageBookLaw", "reread", "(LPackageBook;II[J)I"⟩
abbrev i_Law_reread : pb_I := (y_Law_reread, method_9_code, 5, (some Jvm.ClassFile.FieldType.int), [(0, 10, 13, 28), (0, 10, 17, 13)], { frames := 7, cells := 1, slots := 6, locals := 114 })
set_option maxRecDepth 100000 in
set_option maxHeartbeats 4000000 in
theorem c_Law_reread {l : Launch} (hl : l.stackTraces = false) (G : pb_G) (h : Nat) (ta : Nat) (ca : Nat) (ps : Nat) (ex_ : Nat) (mk : Nat) (rd : Nat) (mu : Nat) (fi : Nat) (go : Nat) (sp : Nat) (ss : Nat) (mm : Nat) (mr : Nat) (mb : Nat) (i : Int32) (x : Int32) (o : Nat) (ofn : Nat → Int64) : Cn l G i_Law_reread [.ref h, .int i, .int x, .ref o] [(h, .inr (9, [.ref ta, .ref ca, .ref ps, .ref ex_, .ref mk, .ref rd, .ref mu, .ref fi, .ref go, .ref sp, .ref ss])), (mk, .inr (6, [.ref mm, .ref mr])), (mm, .inr (0, [.ref mb, .int 0])), (o, .inl (G.2.2.2.1, 1, .inr (.inl ofn)))] (S := Unit) (fun v u => v = some (.int 1)) (fun u => [(o, .inl (G.2.2.2.1, 1, .inr (.inl ofn)))]) := by
  refine Cn.ofW hl (by decide +kernel) rfl (Nat.le_of_ble_eq_true rfl) (fun M hQ hT => ?_)
  refine pb_eq (pc' := 0) (lo' := [(0, .ref h), (1, .int i), (2, .int x), (3, .ref o)]) (rest' := []) (ws' := [(h, .inr (9, [.ref ta, .ref ca, .ref ps, .ref ex_, .ref mk, .ref rd, .ref mu, .ref fi, .ref go, .ref sp, .ref ss])), (mk, .inr (6, [.ref mm, .ref mr])), (mm, .inr (0, [.ref mb, .int 0])), (o, .inl (G.2.2.2.1, 1, .inr (.inl ofn)))]) ?_
  refine pb_aload_n (pc := 0) d_Law_reread_0 3 rfl rfl ?_
  refine pb_iconst (pc := 1) (v := 0) d_Law_reread_1 (by decide) ?_
  refine pb_aload_n (pc := 2) d_Law_reread_2 0 rfl rfl ?_
  refine pb_iload_n (pc := 3) d_Law_reread_3 1 rfl rfl ?_
  refine pb_iload_n (pc := 4) d_Law_reread_4 2 rfl rfl ?_
  refine pb_callVX (pc := 5) (qb := 0) (ci := 9) (nA := 2) (rest := [.int 0, .ref o]) (wr := [(o, .inl (G.2.2.2.1, 1, .inr (.inl ofn)))]) d_Law_reread_5 (c_Book_reread hl G h ta ca ps ex_ mk rd mu fi go sp ss mm mr mb i x) rfl rfl [0, 1, 2] [3] (by decide) rfl rfl rfl (by decide) (by decide) k_1097 rfl k_118 k_1094 k_1095 k_1096 (by decide +kernel) (by decide) rfl rfl (Nat.le_of_ble_eq_true rfl) (by decide) (fun E0 u9 hx9 => ?_) (fun v9 u2 h1 => ?_)
  · subst hx9
    refine pb_catch (pc := 5) (name := "java/lang/IndexOutOfBoundsException") (x := ⟨0, 10, 13, 28⟩) (suf := [⟨0, 10, 17, 13⟩]) hT (by decide) (by decide) k_1048 k_1057 (fun q9 => ?_)
    refine pb_eq (pc' := 13) (lo' := [(0, .ref h), (1, .int i), (2, .int x), (3, .ref o)]) (rest' := [.ref q9]) (ws' := [(o, .inl (G.2.2.2.1, 1, .inr (.inl ofn)))]) ?_
    refine pb_astore (pc := 13) (lo' := [(4, .ref q9), (0, .ref h), (1, .int i), (2, .int x), (3, .ref o)]) d_Law_reread_13 (by decide) rfl ?_
    refine pb_iconst (pc := 15) (v := 1) d_Law_reread_15 (by decide) ?_
    exact pb_iret (pc := 16) hQ d_Law_reread_16 rfl rfl () rfl [0] (by decide) rfl rfl (by decide) (by decide)
  · obtain ⟨eh1, h1⟩ := h1
    have eh1 : v9 = some (.int 0) := eh1
    subst eh1
    have h3 : False := h1
    exact h3.elim

theorem d_Law_out_0 : decode method_11_code 0 = .ok (.aload_n 2, 1) := by decide +kernel
theorem d_Law_out_1 : decode method_11_code 1 = .ok (.iconst 0, 1) := by decide +kernel
theorem d_Law_out_2 : decode method_11_code 2 = .ok (.aload_n 0, 1) := by decide +kernel
theorem d_Law_out_3 : decode method_11_code 3 = .ok (.iload_n 1, 1) := by decide +kernel
theorem d_Law_out_4 : decode method_11_code 4 = .ok (.invokevirtual 43, 3) := by decide +kernel
theorem k_1111 : (Jvm.Cond.methodLink "PackageBookLaw" (43 : Nat) ({ cls := "PackageBook", name := "out", desc := "(I)I" } : Jvm.MethodName)) ∈ uW := uW_of 1111 (by decide +kernel) (by decide +kernel)
theorem k_1114 : (Jvm.Cond.code ({ cls := "PackageBook", name := "out", desc := "(I)I" } : Jvm.MethodName) prog_1_method_15_code (2 : Nat) (Option.some Jvm.ClassFile.FieldType.int)) ∈ uW := uW_of 1114 (by decide +kernel) (by decide +kernel)
theorem k_1112 : (Jvm.Cond.instanceMethod ({ cls := "PackageBook", name := "out", desc := "(I)I" } : Jvm.MethodName)) ∈ uW := uW_of 1112 (by decide +kernel) (by decide +kernel)
theorem k_1113 : (Jvm.Cond.selects "PackageBook" ({ cls := "PackageBook", name := "out", desc := "(I)I" } : Jvm.MethodName) ({ cls := "PackageBook", name := "out", desc := "(I)I" } : Jvm.MethodName)) ∈ uW := uW_of 1113 (by decide +kernel) (by decide +kernel)
theorem d_Law_out_12 : decode method_11_code 12 = .ok (.astore_n 3, 1) := by decide +kernel
theorem d_Law_out_13 : decode method_11_code 13 = .ok (.iconst 1, 1) := by decide +kernel
theorem d_Law_out_14 : decode method_11_code 14 = .ok (.ireturn, 1) := by decide +kernel
abbrev y_Law_out : MethodName := ⟨"PackageBookLaw", "out", "(LPackageBook;I[J)I"⟩
abbrev i_Law_out : pb_I := (y_Law_out, method_11_code, 4, (some Jvm.ClassFile.FieldType.int), [(0, 9, 12, 28)], { frames := 8, cells := 1, slots := 6, locals := 132 })
set_option maxRecDepth 100000 in
set_option maxHeartbeats 4000000 in
theorem c_Law_out {l : Launch} (hl : l.stackTraces = false) (G : pb_G) (h : Nat) (ta : Nat) (ca : Nat) (ps : Nat) (ex_ : Nat) (mk : Nat) (rd : Nat) (mu : Nat) (fi : Nat) (go : Nat) (sp : Nat) (ss : Nat) (cb : Nat) (i : Int32) (o : Nat) (ofn : Nat → Int64) : Cn l G i_Law_out [.ref h, .int i, .ref o] [(h, .inr (9, [.ref ta, .ref ca, .ref ps, .ref ex_, .ref mk, .ref rd, .ref mu, .ref fi, .ref go, .ref sp, .ref ss])), (ca, .inr (0, [.ref cb, .int 0])), (o, .inl (G.2.2.2.1, 1, .inr (.inl ofn)))] (S := Unit) (fun v u => v = some (.int 1)) (fun u => [(o, .inl (G.2.2.2.1, 1, .inr (.inl ofn)))]) := by
  refine Cn.ofW hl (by decide +kernel) rfl (Nat.le_of_ble_eq_true rfl) (fun M hQ hT => ?_)
  refine pb_eq (pc' := 0) (lo' := [(0, .ref h), (1, .int i), (2, .ref o)]) (rest' := []) (ws' := [(h, .inr (9, [.ref ta, .ref ca, .ref ps, .ref ex_, .ref mk, .ref rd, .ref mu, .ref fi, .ref go, .ref sp, .ref ss])), (ca, .inr (0, [.ref cb, .int 0])), (o, .inl (G.2.2.2.1, 1, .inr (.inl ofn)))]) ?_
  refine pb_aload_n (pc := 0) d_Law_out_0 2 rfl rfl ?_
  refine pb_iconst (pc := 1) (v := 0) d_Law_out_1 (by decide) ?_
  refine pb_aload_n (pc := 2) d_Law_out_2 0 rfl rfl ?_
  refine pb_iload_n (pc := 3) d_Law_out_3 1 rfl rfl ?_
  refine pb_callVX (pc := 4) (qb := 0) (ci := 9) (nA := 1) (rest := [.int 0, .ref o]) (wr := [(o, .inl (G.2.2.2.1, 1, .inr (.inl ofn)))]) d_Law_out_4 (c_Book_out hl G h ta ca ps ex_ mk rd mu fi go sp ss cb i) rfl rfl [0, 1] [2] (by decide) rfl rfl rfl (by decide) (by decide) k_1114 rfl k_118 k_1111 k_1112 k_1113 (by decide +kernel) (by decide) rfl rfl (Nat.le_of_ble_eq_true rfl) (by decide) (fun E0 u9 hx9 => ?_) (fun v9 u2 h1 => ?_)
  · subst hx9
    refine pb_catch (pc := 4) (name := "java/lang/IndexOutOfBoundsException") (x := ⟨0, 9, 12, 28⟩) (suf := []) hT (by decide) (by decide) k_1048 k_1057 (fun q9 => ?_)
    refine pb_eq (pc' := 12) (lo' := [(0, .ref h), (1, .int i), (2, .ref o)]) (rest' := [.ref q9]) (ws' := [(o, .inl (G.2.2.2.1, 1, .inr (.inl ofn)))]) ?_
    refine pb_astore_n (pc := 12) (lo' := [(3, .ref q9), (0, .ref h), (1, .int i), (2, .ref o)]) d_Law_out_12 rfl (by decide) rfl ?_
    refine pb_iconst (pc := 13) (v := 1) d_Law_out_13 (by decide) ?_
    exact pb_iret (pc := 14) hQ d_Law_out_14 rfl rfl () rfl [0] (by decide) rfl rfl (by decide) (by decide)
  · obtain ⟨eh1, h1⟩ := h1
    have eh1 : v9 = some (.int 0) := eh1
    subst eh1
    have h3 : False := h1
    exact h3.elim

theorem d_Law_fault_0 : decode method_12_code 0 = .ok (.aload_n 3, 1) := by decide +kernel
theorem d_Law_fault_1 : decode method_12_code 1 = .ok (.iconst 0, 1) := by decide +kernel
theorem d_Law_fault_2 : decode method_12_code 2 = .ok (.aload_n 0, 1) := by decide +kernel
theorem d_Law_fault_3 : decode method_12_code 3 = .ok (.iload_n 1, 1) := by decide +kernel
theorem d_Law_fault_4 : decode method_12_code 4 = .ok (.iload_n 2, 1) := by decide +kernel
theorem d_Law_fault_5 : decode method_12_code 5 = .ok (.invokevirtual 46, 3) := by decide +kernel
theorem k_1118 : (Jvm.Cond.methodLink "PackageBookLaw" (46 : Nat) ({ cls := "PackageBook", name := "fault", desc := "(II)I" } : Jvm.MethodName)) ∈ uW := uW_of 1118 (by decide +kernel) (by decide +kernel)
theorem k_1121 : (Jvm.Cond.code ({ cls := "PackageBook", name := "fault", desc := "(II)I" } : Jvm.MethodName) prog_1_method_17_code (3 : Nat) (Option.some Jvm.ClassFile.FieldType.int)) ∈ uW := uW_of 1121 (by decide +kernel) (by decide +kernel)
theorem k_1119 : (Jvm.Cond.instanceMethod ({ cls := "PackageBook", name := "fault", desc := "(II)I" } : Jvm.MethodName)) ∈ uW := uW_of 1119 (by decide +kernel) (by decide +kernel)
theorem k_1120 : (Jvm.Cond.selects "PackageBook" ({ cls := "PackageBook", name := "fault", desc := "(II)I" } : Jvm.MethodName) ({ cls := "PackageBook", name := "fault", desc := "(II)I" } : Jvm.MethodName)) ∈ uW := uW_of 1120 (by decide +kernel) (by decide +kernel)
theorem d_Law_fault_13 : decode method_12_code 13 = .ok (.astore 4, 2) := by decide +kernel
theorem d_Law_fault_15 : decode method_12_code 15 = .ok (.iconst 1, 1) := by decide +kernel
theorem d_Law_fault_16 : decode method_12_code 16 = .ok (.ireturn, 1) := by decide +kernel
abbrev y_Law_fault : MethodName := ⟨"PackageBookLaw", "fault", "(LPackageBook;II[J)I"⟩
abbrev i_Law_fault : pb_I := (y_Law_fault, method_12_code, 5, (some Jvm.ClassFile.FieldType.int), [(0, 10, 13, 28)], { frames := 7, cells := 1, slots := 6, locals := 112 })
set_option maxRecDepth 100000 in
set_option maxHeartbeats 4000000 in
theorem c_Law_fault {l : Launch} (hl : l.stackTraces = false) (G : pb_G) (h : Nat) (ta : Nat) (ca : Nat) (ps : Nat) (ex_ : Nat) (mk : Nat) (rd : Nat) (mu : Nat) (fi : Nat) (go : Nat) (sp : Nat) (ss : Nat) (fk : Nat) (fo : Nat) (fp : Nat) (k : Int32) (x : Int32) (o : Nat) (ofn : Nat → Int64) : Cn l G i_Law_fault [.ref h, .int k, .int x, .ref o] [(h, .inr (9, [.ref ta, .ref ca, .ref ps, .ref ex_, .ref mk, .ref rd, .ref mu, .ref fi, .ref go, .ref sp, .ref ss])), (fi, .inr (2, [.ref fk, .ref fo, .ref fp, .int 0])), (o, .inl (G.2.2.2.1, 1, .inr (.inl ofn)))] (S := Unit) (fun v u => v = some (.int 1)) (fun u => [(o, .inl (G.2.2.2.1, 1, .inr (.inl ofn)))]) := by
  refine Cn.ofW hl (by decide +kernel) rfl (Nat.le_of_ble_eq_true rfl) (fun M hQ hT => ?_)
  refine pb_eq (pc' := 0) (lo' := [(0, .ref h), (1, .int k), (2, .int x), (3, .ref o)]) (rest' := []) (ws' := [(h, .inr (9, [.ref ta, .ref ca, .ref ps, .ref ex_, .ref mk, .ref rd, .ref mu, .ref fi, .ref go, .ref sp, .ref ss])), (fi, .inr (2, [.ref fk, .ref fo, .ref fp, .int 0])), (o, .inl (G.2.2.2.1, 1, .inr (.inl ofn)))]) ?_
  refine pb_aload_n (pc := 0) d_Law_fault_0 3 rfl rfl ?_
  refine pb_iconst (pc := 1) (v := 0) d_Law_fault_1 (by decide) ?_
  refine pb_aload_n (pc := 2) d_Law_fault_2 0 rfl rfl ?_
  refine pb_iload_n (pc := 3) d_Law_fault_3 1 rfl rfl ?_
  refine pb_iload_n (pc := 4) d_Law_fault_4 2 rfl rfl ?_
  refine pb_callVX (pc := 5) (qb := 0) (ci := 9) (nA := 2) (rest := [.int 0, .ref o]) (wr := [(o, .inl (G.2.2.2.1, 1, .inr (.inl ofn)))]) d_Law_fault_5 (c_Book_fault hl G h ta ca ps ex_ mk rd mu fi go sp ss fk fo fp k x) rfl rfl [0, 1] [2] (by decide) rfl rfl rfl (by decide) (by decide) k_1121 rfl k_118 k_1118 k_1119 k_1120 (by decide +kernel) (by decide) rfl rfl (Nat.le_of_ble_eq_true rfl) (by decide) (fun E0 u9 hx9 => ?_) (fun v9 u2 h1 => ?_)
  · subst hx9
    refine pb_catch (pc := 5) (name := "java/lang/IndexOutOfBoundsException") (x := ⟨0, 10, 13, 28⟩) (suf := []) hT (by decide) (by decide) k_1048 k_1057 (fun q9 => ?_)
    refine pb_eq (pc' := 13) (lo' := [(0, .ref h), (1, .int k), (2, .int x), (3, .ref o)]) (rest' := [.ref q9]) (ws' := [(o, .inl (G.2.2.2.1, 1, .inr (.inl ofn)))]) ?_
    refine pb_astore (pc := 13) (lo' := [(4, .ref q9), (0, .ref h), (1, .int k), (2, .int x), (3, .ref o)]) d_Law_fault_13 (by decide) rfl ?_
    refine pb_iconst (pc := 15) (v := 1) d_Law_fault_15 (by decide) ?_
    exact pb_iret (pc := 16) hQ d_Law_fault_16 rfl rfl () rfl [0] (by decide) rfl rfl (by decide) (by decide)
  · obtain ⟨eh1, h1⟩ := h1
    have eh1 : v9 = some (.int 0) := eh1
    subst eh1
    have h3 : False := h1
    exact h3.elim

theorem d_Law_relations_0 : decode method_13_code 0 = .ok (.aload_n 2, 1) := by decide +kernel
theorem d_Law_relations_1 : decode method_13_code 1 = .ok (.iconst 0, 1) := by decide +kernel
theorem d_Law_relations_2 : decode method_13_code 2 = .ok (.aload_n 0, 1) := by decide +kernel
theorem d_Law_relations_3 : decode method_13_code 3 = .ok (.iload_n 1, 1) := by decide +kernel
theorem d_Law_relations_4 : decode method_13_code 4 = .ok (.invokevirtual 49, 3) := by decide +kernel
theorem k_1126 : (Jvm.Cond.methodLink "PackageBookLaw" (49 : Nat) ({ cls := "PackageBook", name := "relations", desc := "(I)I" } : Jvm.MethodName)) ∈ uW := uW_of 1126 (by decide +kernel) (by decide +kernel)
theorem k_1129 : (Jvm.Cond.code ({ cls := "PackageBook", name := "relations", desc := "(I)I" } : Jvm.MethodName) prog_1_method_18_code (2 : Nat) (Option.some Jvm.ClassFile.FieldType.int)) ∈ uW := uW_of 1129 (by decide +kernel) (by decide +kernel)
theorem k_1127 : (Jvm.Cond.instanceMethod ({ cls := "PackageBook", name := "relations", desc := "(I)I" } : Jvm.MethodName)) ∈ uW := uW_of 1127 (by decide +kernel) (by decide +kernel)
theorem k_1128 : (Jvm.Cond.selects "PackageBook" ({ cls := "PackageBook", name := "relations", desc := "(I)I" } : Jvm.MethodName) ({ cls := "PackageBook", name := "relations", desc := "(I)I" } : Jvm.MethodName)) ∈ uW := uW_of 1128 (by decide +kernel) (by decide +kernel)
theorem d_Law_relations_12 : decode method_13_code 12 = .ok (.astore_n 3, 1) := by decide +kernel
theorem d_Law_relations_13 : decode method_13_code 13 = .ok (.iconst 1, 1) := by decide +kernel
theorem d_Law_relations_14 : decode method_13_code 14 = .ok (.ireturn, 1) := by decide +kernel
abbrev y_Law_relations : MethodName := ⟨"PackageBookLaw", "relations", "(LPackageBook;I[J)I"⟩
abbrev i_Law_relations : pb_I := (y_Law_relations, method_13_code, 4, (some Jvm.ClassFile.FieldType.int), [(0, 9, 12, 28)], { frames := 7, cells := 1, slots := 6, locals := 111 })
set_option maxRecDepth 100000 in
set_option maxHeartbeats 4000000 in
theorem c_Law_relations {l : Launch} (hl : l.stackTraces = false) (G : pb_G) (h : Nat) (ta : Nat) (ca : Nat) (ps : Nat) (ex_ : Nat) (mk : Nat) (rd : Nat) (mu : Nat) (fi : Nat) (go : Nat) (sp : Nat) (ss : Nat) (spn : Nat) (spz : Nat) (spb : Nat) (spg : Nat) (i : Int32) (o : Nat) (ofn : Nat → Int64) : Cn l G i_Law_relations [.ref h, .int i, .ref o] [(h, .inr (9, [.ref ta, .ref ca, .ref ps, .ref ex_, .ref mk, .ref rd, .ref mu, .ref fi, .ref go, .ref sp, .ref ss])), (sp, .inr (3, [.ref spn, .ref spz, .ref spb, .ref spg, .int 0])), (o, .inl (G.2.2.2.1, 1, .inr (.inl ofn)))] (S := Unit) (fun v u => v = some (.int 1)) (fun u => [(o, .inl (G.2.2.2.1, 1, .inr (.inl ofn)))]) := by
  refine Cn.ofW hl (by decide +kernel) rfl (Nat.le_of_ble_eq_true rfl) (fun M hQ hT => ?_)
  refine pb_eq (pc' := 0) (lo' := [(0, .ref h), (1, .int i), (2, .ref o)]) (rest' := []) (ws' := [(h, .inr (9, [.ref ta, .ref ca, .ref ps, .ref ex_, .ref mk, .ref rd, .ref mu, .ref fi, .ref go, .ref sp, .ref ss])), (sp, .inr (3, [.ref spn, .ref spz, .ref spb, .ref spg, .int 0])), (o, .inl (G.2.2.2.1, 1, .inr (.inl ofn)))]) ?_
  refine pb_aload_n (pc := 0) d_Law_relations_0 2 rfl rfl ?_
  refine pb_iconst (pc := 1) (v := 0) d_Law_relations_1 (by decide) ?_
  refine pb_aload_n (pc := 2) d_Law_relations_2 0 rfl rfl ?_
  refine pb_iload_n (pc := 3) d_Law_relations_3 1 rfl rfl ?_
  refine pb_callVX (pc := 4) (qb := 0) (ci := 9) (nA := 1) (rest := [.int 0, .ref o]) (wr := [(o, .inl (G.2.2.2.1, 1, .inr (.inl ofn)))]) d_Law_relations_4 (c_Book_relations hl G h ta ca ps ex_ mk rd mu fi go sp ss spn spz spb spg i) rfl rfl [0, 1] [2] (by decide) rfl rfl rfl (by decide) (by decide) k_1129 rfl k_118 k_1126 k_1127 k_1128 (by decide +kernel) (by decide) rfl rfl (Nat.le_of_ble_eq_true rfl) (by decide) (fun E0 u9 hx9 => ?_) (fun v9 u2 h1 => ?_)
  · subst hx9
    refine pb_catch (pc := 4) (name := "java/lang/IndexOutOfBoundsException") (x := ⟨0, 9, 12, 28⟩) (suf := []) hT (by decide) (by decide) k_1048 k_1057 (fun q9 => ?_)
    refine pb_eq (pc' := 12) (lo' := [(0, .ref h), (1, .int i), (2, .ref o)]) (rest' := [.ref q9]) (ws' := [(o, .inl (G.2.2.2.1, 1, .inr (.inl ofn)))]) ?_
    refine pb_astore_n (pc := 12) (lo' := [(3, .ref q9), (0, .ref h), (1, .int i), (2, .ref o)]) d_Law_relations_12 rfl (by decide) rfl ?_
    refine pb_iconst (pc := 13) (v := 1) d_Law_relations_13 (by decide) ?_
    exact pb_iret (pc := 14) hQ d_Law_relations_14 rfl rfl () rfl [0] (by decide) rfl rfl (by decide) (by decide)
  · obtain ⟨eh1, h1⟩ := h1
    have eh1 : v9 = some (.int 0) := eh1
    subst eh1
    have h3 : False := h1
    exact h3.elim

theorem d_Law_relation_0 : decode method_14_code 0 = .ok (.aload_n 3, 1) := by decide +kernel
theorem d_Law_relation_1 : decode method_14_code 1 = .ok (.iconst 0, 1) := by decide +kernel
theorem d_Law_relation_2 : decode method_14_code 2 = .ok (.aload_n 0, 1) := by decide +kernel
theorem d_Law_relation_3 : decode method_14_code 3 = .ok (.iload_n 1, 1) := by decide +kernel
theorem d_Law_relation_4 : decode method_14_code 4 = .ok (.iload_n 2, 1) := by decide +kernel
theorem d_Law_relation_5 : decode method_14_code 5 = .ok (.invokevirtual 52, 3) := by decide +kernel
theorem k_1134 : (Jvm.Cond.methodLink "PackageBookLaw" (52 : Nat) ({ cls := "PackageBook", name := "relation", desc := "(II)I" } : Jvm.MethodName)) ∈ uW := uW_of 1134 (by decide +kernel) (by decide +kernel)
theorem k_1137 : (Jvm.Cond.code ({ cls := "PackageBook", name := "relation", desc := "(II)I" } : Jvm.MethodName) prog_1_method_19_code (3 : Nat) (Option.some Jvm.ClassFile.FieldType.int)) ∈ uW := uW_of 1137 (by decide +kernel) (by decide +kernel)
theorem k_1135 : (Jvm.Cond.instanceMethod ({ cls := "PackageBook", name := "relation", desc := "(II)I" } : Jvm.MethodName)) ∈ uW := uW_of 1135 (by decide +kernel) (by decide +kernel)
theorem k_1136 : (Jvm.Cond.selects "PackageBook" ({ cls := "PackageBook", name := "relation", desc := "(II)I" } : Jvm.MethodName) ({ cls := "PackageBook", name := "relation", desc := "(II)I" } : Jvm.MethodName)) ∈ uW := uW_of 1136 (by decide +kernel) (by decide +kernel)
theorem d_Law_relation_13 : decode method_14_code 13 = .ok (.astore 4, 2) := by decide +kernel
theorem d_Law_relation_15 : decode method_14_code 15 = .ok (.iconst 1, 1) := by decide +kernel
theorem d_Law_relation_16 : decode method_14_code 16 = .ok (.ireturn, 1) := by decide +kernel
abbrev y_Law_relation : MethodName := ⟨"PackageBookLaw", "relation", "(LPackageBook;II[J)I"⟩
abbrev i_Law_relation : pb_I := (y_Law_relation, method_14_code, 5, (some Jvm.ClassFile.FieldType.int), [(0, 10, 13, 28)], { frames := 7, cells := 1, slots := 6, locals := 112 })
set_option maxRecDepth 100000 in
set_option maxHeartbeats 4000000 in
theorem c_Law_relation {l : Launch} (hl : l.stackTraces = false) (G : pb_G) (h : Nat) (ta : Nat) (ca : Nat) (ps : Nat) (ex_ : Nat) (mk : Nat) (rd : Nat) (mu : Nat) (fi : Nat) (go : Nat) (sp : Nat) (ss : Nat) (spn : Nat) (spz : Nat) (spb : Nat) (spg : Nat) (i : Int32) (k : Int32) (o : Nat) (ofn : Nat → Int64) : Cn l G i_Law_relation [.ref h, .int i, .int k, .ref o] [(h, .inr (9, [.ref ta, .ref ca, .ref ps, .ref ex_, .ref mk, .ref rd, .ref mu, .ref fi, .ref go, .ref sp, .ref ss])), (sp, .inr (3, [.ref spn, .ref spz, .ref spb, .ref spg, .int 0])), (o, .inl (G.2.2.2.1, 1, .inr (.inl ofn)))] (S := Unit) (fun v u => v = some (.int 1)) (fun u => [(o, .inl (G.2.2.2.1, 1, .inr (.inl ofn)))]) := by
  refine Cn.ofW hl (by decide +kernel) rfl (Nat.le_of_ble_eq_true rfl) (fun M hQ hT => ?_)
  refine pb_eq (pc' := 0) (lo' := [(0, .ref h), (1, .int i), (2, .int k), (3, .ref o)]) (rest' := []) (ws' := [(h, .inr (9, [.ref ta, .ref ca, .ref ps, .ref ex_, .ref mk, .ref rd, .ref mu, .ref fi, .ref go, .ref sp, .ref ss])), (sp, .inr (3, [.ref spn, .ref spz, .ref spb, .ref spg, .int 0])), (o, .inl (G.2.2.2.1, 1, .inr (.inl ofn)))]) ?_
  refine pb_aload_n (pc := 0) d_Law_relation_0 3 rfl rfl ?_
  refine pb_iconst (pc := 1) (v := 0) d_Law_relation_1 (by decide) ?_
  refine pb_aload_n (pc := 2) d_Law_relation_2 0 rfl rfl ?_
  refine pb_iload_n (pc := 3) d_Law_relation_3 1 rfl rfl ?_
  refine pb_iload_n (pc := 4) d_Law_relation_4 2 rfl rfl ?_
  refine pb_callVX (pc := 5) (qb := 0) (ci := 9) (nA := 2) (rest := [.int 0, .ref o]) (wr := [(o, .inl (G.2.2.2.1, 1, .inr (.inl ofn)))]) d_Law_relation_5 (c_Book_relation hl G h ta ca ps ex_ mk rd mu fi go sp ss spn spz spb spg i k) rfl rfl [0, 1] [2] (by decide) rfl rfl rfl (by decide) (by decide) k_1137 rfl k_118 k_1134 k_1135 k_1136 (by decide +kernel) (by decide) rfl rfl (Nat.le_of_ble_eq_true rfl) (by decide) (fun E0 u9 hx9 => ?_) (fun v9 u2 h1 => ?_)
  · subst hx9
    refine pb_catch (pc := 5) (name := "java/lang/IndexOutOfBoundsException") (x := ⟨0, 10, 13, 28⟩) (suf := []) hT (by decide) (by decide) k_1048 k_1057 (fun q9 => ?_)
    refine pb_eq (pc' := 13) (lo' := [(0, .ref h), (1, .int i), (2, .int k), (3, .ref o)]) (rest' := [.ref q9]) (ws' := [(o, .inl (G.2.2.2.1, 1, .inr (.inl ofn)))]) ?_
    refine pb_astore (pc := 13) (lo' := [(4, .ref q9), (0, .ref h), (1, .int i), (2, .int k), (3, .ref o)]) d_Law_relation_13 (by decide) rfl ?_
    refine pb_iconst (pc := 15) (v := 1) d_Law_relation_15 (by decide) ?_
    exact pb_iret (pc := 16) hQ d_Law_relation_16 rfl rfl () rfl [0] (by decide) rfl rfl (by decide) (by decide)
  · obtain ⟨eh1, h1⟩ := h1
    have eh1 : v9 = some (.int 0) := eh1
    subst eh1
    have h3 : False := h1
    exact h3.elim

theorem d_Law_type_0 : decode method_3_code 0 = .ok (.aload 4, 2) := by decide +kernel
theorem d_Law_type_2 : decode method_3_code 2 = .ok (.iconst 0, 1) := by decide +kernel
theorem d_Law_type_3 : decode method_3_code 3 = .ok (.aload_n 0, 1) := by decide +kernel
theorem d_Law_type_4 : decode method_3_code 4 = .ok (.lload_n 1, 1) := by decide +kernel
theorem d_Law_type_5 : decode method_3_code 5 = .ok (.iload_n 3, 1) := by decide +kernel
theorem d_Law_type_6 : decode method_3_code 6 = .ok (.invokevirtual 7, 3) := by decide +kernel
theorem k_936 : (Jvm.Cond.methodLink "PackageBookLaw" (7 : Nat) ({ cls := "PackageBook", name := "type", desc := "(JI)I" } : Jvm.MethodName)) ∈ uW := uW_of 936 (by decide +kernel) (by decide +kernel)
theorem k_939 : (Jvm.Cond.code ({ cls := "PackageBook", name := "type", desc := "(JI)I" } : Jvm.MethodName) prog_1_method_2_code (5 : Nat) (Option.some Jvm.ClassFile.FieldType.int)) ∈ uW := uW_of 939 (by decide +kernel) (by decide +kernel)
theorem k_937 : (Jvm.Cond.instanceMethod ({ cls := "PackageBook", name := "type", desc := "(JI)I" } : Jvm.MethodName)) ∈ uW := uW_of 937 (by decide +kernel) (by decide +kernel)
theorem k_938 : (Jvm.Cond.selects "PackageBook" ({ cls := "PackageBook", name := "type", desc := "(JI)I" } : Jvm.MethodName) ({ cls := "PackageBook", name := "type", desc := "(JI)I" } : Jvm.MethodName)) ∈ uW := uW_of 938 (by decide +kernel) (by decide +kernel)
theorem d_Law_type_14 : decode method_3_code 14 = .ok (.astore 5, 2) := by decide +kernel
theorem d_Law_type_16 : decode method_3_code 16 = .ok (.iconst 1, 1) := by decide +kernel
theorem d_Law_type_17 : decode method_3_code 17 = .ok (.ireturn, 1) := by decide +kernel
abbrev y_Law_type : MethodName := ⟨"PackageBookLaw", "type", "(LPackageBook;JI[J)I"⟩
abbrev i_Law_type : pb_I := (y_Law_type, method_3_code, 6, (some Jvm.ClassFile.FieldType.int), [(0, 11, 14, 13), (0, 11, 18, 15)], { frames := 7, cells := 1, slots := 6, locals := 114 })
set_option maxRecDepth 100000 in
set_option maxHeartbeats 4000000 in
theorem c_Law_typeI {l : Launch} (hl : l.stackTraces = false) (G : pb_G) (h : Nat) (ta : Nat) (ca : Nat) (ps : Nat) (ex_ : Nat) (mk : Nat) (rd : Nat) (mu : Nat) (fi : Nat) (go : Nat) (sp : Nat) (ss : Nat) (tb : Nat) (f : Nat → Int32) (w : Int64) (n : Int32) (o : Nat) (ofn : Nat → Int64) (hv : ¬ (1 ≤ n.toInt ∧ n.toInt ≤ 8)) : Cn l G i_Law_type [.ref h, .long w, .int n, .ref o] [(h, .inr (9, [.ref ta, .ref ca, .ref ps, .ref ex_, .ref mk, .ref rd, .ref mu, .ref fi, .ref go, .ref sp, .ref ss])), (ta, .inr (0, [.ref tb, .int 0])), (tb, .inl (G.2.1, 8000, .inl f)), (o, .inl (G.2.2.2.1, 1, .inr (.inl ofn)))] (S := Unit) (fun v u => v = some (.int 1)) (fun u => [(o, .inl (G.2.2.2.1, 1, .inr (.inl ofn)))]) := by
  refine Cn.ofW hl (by decide +kernel) rfl (Nat.le_of_ble_eq_true rfl) (fun M hQ hT => ?_)
  refine pb_eq (pc' := 0) (lo' := [(0, .ref h), (1, .long w), (3, .int n), (4, .ref o)]) (rest' := []) (ws' := [(h, .inr (9, [.ref ta, .ref ca, .ref ps, .ref ex_, .ref mk, .ref rd, .ref mu, .ref fi, .ref go, .ref sp, .ref ss])), (ta, .inr (0, [.ref tb, .int 0])), (tb, .inl (G.2.1, 8000, .inl f)), (o, .inl (G.2.2.2.1, 1, .inr (.inl ofn)))]) ?_
  refine pb_aload (pc := 0) d_Law_type_0 3 rfl ?_
  refine pb_iconst (pc := 2) (v := 0) d_Law_type_2 (by decide) ?_
  refine pb_aload_n (pc := 3) d_Law_type_3 0 rfl rfl ?_
  refine pb_lload_n (pc := 4) d_Law_type_4 1 rfl rfl ?_
  refine pb_iload_n (pc := 5) d_Law_type_5 2 rfl rfl ?_
  refine pb_callVX (pc := 6) (qb := 0) (ci := 9) (nA := 2) (rest := [.int 0, .ref o]) (wr := [(o, .inl (G.2.2.2.1, 1, .inr (.inl ofn)))]) d_Law_type_6 (c_Book_type hl G h ta ca ps ex_ mk rd mu fi go sp ss tb f w n) rfl rfl [0, 1, 2] [3] (by decide) rfl rfl rfl (by decide) (by decide) k_939 rfl k_118 k_936 k_937 k_938 (by decide +kernel) (by decide) rfl rfl (Nat.le_of_ble_eq_true rfl) (by decide) (fun E0 u9 hx9 => ?_) (fun v9 u2 h1 => ?_)
  · obtain ⟨rfl, hx9⟩ := hx9
    have hx9 : (¬ (1 ≤ n.toInt ∧ n.toInt ≤ 8)) := hx9
    refine pb_catch (pc := 6) (name := "java/lang/IllegalArgumentException") (x := ⟨0, 11, 14, 13⟩) (suf := [⟨0, 11, 18, 15⟩]) hT (by decide) (by decide) k_934 k_942 (fun q9 => ?_)
    refine pb_eq (pc' := 14) (lo' := [(0, .ref h), (1, .long w), (3, .int n), (4, .ref o)]) (rest' := [.ref q9]) (ws' := [(o, .inl (G.2.2.2.1, 1, .inr (.inl ofn)))]) ?_
    refine pb_astore (pc := 14) (lo' := [(5, .ref q9), (0, .ref h), (1, .long w), (3, .int n), (4, .ref o)]) d_Law_type_14 (by decide) rfl ?_
    refine pb_iconst (pc := 16) (v := 1) d_Law_type_16 (by decide) ?_
    exact pb_iret (pc := 17) hQ d_Law_type_17 rfl rfl () rfl [0] (by decide) rfl rfl (by decide) (by decide)
  · obtain ⟨r_3, rfl⟩ : ∃ z9, z9 = u2 := ⟨_, rfl⟩
    obtain ⟨eh1, h1⟩ := h1
    have eh1 : v9 = some (.int r_3) := eh1
    subst eh1
    obtain ⟨h4, h5⟩ : (1 ≤ n.toInt ∧ n.toInt ≤ 8) ∧ (r_3 = n) := h1
    exact absurd h4 hv

theorem d_Law_type_9 : decode method_3_code 9 = .ok (.i2l, 1) := by decide +kernel
theorem d_Law_type_10 : decode method_3_code 10 = .ok (.lastore, 1) := by decide +kernel
theorem d_Law_type_11 : decode method_3_code 11 = .ok (.goto 11, 3) := by decide +kernel
theorem d_Law_type_22 : decode method_3_code 22 = .ok (.iconst 0, 1) := by decide +kernel
theorem d_Law_type_23 : decode method_3_code 23 = .ok (.ireturn, 1) := by decide +kernel
set_option maxRecDepth 100000 in
set_option maxHeartbeats 4000000 in
theorem c_Law_typeV {l : Launch} (hl : l.stackTraces = false) (G : pb_G) (h : Nat) (ta : Nat) (ca : Nat) (ps : Nat) (ex_ : Nat) (mk : Nat) (rd : Nat) (mu : Nat) (fi : Nat) (go : Nat) (sp : Nat) (ss : Nat) (tb : Nat) (f : Nat → Int32) (w : Int64) (n : Int32) (o : Nat) (ofn : Nat → Int64) (hv : 1 ≤ n.toInt ∧ n.toInt ≤ 8) : Cn l G i_Law_type [.ref h, .long w, .int n, .ref o] [(h, .inr (9, [.ref ta, .ref ca, .ref ps, .ref ex_, .ref mk, .ref rd, .ref mu, .ref fi, .ref go, .ref sp, .ref ss])), (ta, .inr (0, [.ref tb, .int 0])), (tb, .inl (G.2.1, 8000, .inl f)), (o, .inl (G.2.2.2.1, 1, .inr (.inl ofn)))] (S := (Nat → Int64)) (fun v u => v = some (.int 0) ∧ (u 0 = n.toInt64)) (fun u => [(o, .inl (G.2.2.2.1, 1, .inr (.inl u)))]) := by
  refine Cn.ofW hl (by decide +kernel) rfl (Nat.le_of_ble_eq_true rfl) (fun M hQ hT => ?_)
  refine pb_eq (pc' := 0) (lo' := [(0, .ref h), (1, .long w), (3, .int n), (4, .ref o)]) (rest' := []) (ws' := [(h, .inr (9, [.ref ta, .ref ca, .ref ps, .ref ex_, .ref mk, .ref rd, .ref mu, .ref fi, .ref go, .ref sp, .ref ss])), (ta, .inr (0, [.ref tb, .int 0])), (tb, .inl (G.2.1, 8000, .inl f)), (o, .inl (G.2.2.2.1, 1, .inr (.inl ofn)))]) ?_
  have z0 : (0 : Int32).toInt = 0 := by decide
  have z1 : (1 : Int32).toInt = 1 := by decide
  have z2 : (0 : Int32).toNatClampNeg = 0 := by decide
  refine pb_aload (pc := 0) d_Law_type_0 3 rfl ?_
  refine pb_iconst (pc := 2) (v := 0) d_Law_type_2 (by decide) ?_
  refine pb_aload_n (pc := 3) d_Law_type_3 0 rfl rfl ?_
  refine pb_lload_n (pc := 4) d_Law_type_4 1 rfl rfl ?_
  refine pb_iload_n (pc := 5) d_Law_type_5 2 rfl rfl ?_
  refine pb_callVX (pc := 6) (qb := 0) (ci := 9) (nA := 2) (rest := [.int 0, .ref o]) (wr := [(o, .inl (G.2.2.2.1, 1, .inr (.inl ofn)))]) d_Law_type_6 (c_Book_type hl G h ta ca ps ex_ mk rd mu fi go sp ss tb f w n) rfl rfl [0, 1, 2] [3] (by decide) rfl rfl rfl (by decide) (by decide) k_939 rfl k_118 k_936 k_937 k_938 (by decide +kernel) (by decide) rfl rfl (Nat.le_of_ble_eq_true rfl) (by decide) (fun E0 u9 hx9 => ?_) (fun v9 u2 h1 => ?_)
  · exact absurd hv hx9.2
  · obtain ⟨r_3, rfl⟩ : ∃ z9, z9 = u2 := ⟨_, rfl⟩
    obtain ⟨eh1, h1⟩ := h1
    have eh1 : v9 = some (.int r_3) := eh1
    subst eh1
    obtain ⟨h4, h5⟩ : (1 ≤ n.toInt ∧ n.toInt ≤ 8) ∧ (r_3 = n) := h1
    refine pb_eq (pc' := 9) (lo' := [(0, .ref h), (1, .long w), (3, .int n), (4, .ref o)]) (rest' := [.int r_3, .int 0, .ref o]) (ws' := [(o, .inl (G.2.2.2.1, 1, .inr (.inl ofn)))]) ?_
    refine pb_i2l (pc := 9) d_Law_type_9 rfl ?_
    refine pb_topl (fun j6 ej6 => ?_)
    refine pb_last (pc := 10) (ws' := [(o, .inl (G.2.2.2.1, 1, .inr (.inl (vp_updL ofn ((0 : Int32).toNatClampNeg) j6))))]) d_Law_type_10 0 rfl (by unfold vp_in; decide) rfl ?_
    refine pb_goto (pc := 11) (tgt := 22) d_Law_type_11 (by decide) ?_
    refine pb_iconst (pc := 22) (v := 0) d_Law_type_22 (by decide) ?_
    exact pb_iret (pc := 23) hQ d_Law_type_23 rfl rfl ((vp_updL ofn ((0 : Int32).toNatClampNeg) j6)) ⟨rfl, (by show vp_updL ofn ((0 : Int32).toNatClampNeg) _ 0 = _; rw [z2, pk_uLs, ej6, h5])⟩ [0] (by decide) rfl rfl (by decide) (by decide)

theorem d_Law_again_0 : decode method_4_code 0 = .ok (.aload_n 2, 1) := by decide +kernel
theorem d_Law_again_1 : decode method_4_code 1 = .ok (.iconst 0, 1) := by decide +kernel
theorem d_Law_again_2 : decode method_4_code 2 = .ok (.aload_n 0, 1) := by decide +kernel
theorem d_Law_again_3 : decode method_4_code 3 = .ok (.iload_n 1, 1) := by decide +kernel
theorem d_Law_again_4 : decode method_4_code 4 = .ok (.invokevirtual 17, 3) := by decide +kernel
theorem k_1027 : (Jvm.Cond.methodLink "PackageBookLaw" (17 : Nat) ({ cls := "PackageBook", name := "again", desc := "(I)I" } : Jvm.MethodName)) ∈ uW := uW_of 1027 (by decide +kernel) (by decide +kernel)
theorem k_1030 : (Jvm.Cond.code ({ cls := "PackageBook", name := "again", desc := "(I)I" } : Jvm.MethodName) prog_1_method_3_code (2 : Nat) (Option.some Jvm.ClassFile.FieldType.int)) ∈ uW := uW_of 1030 (by decide +kernel) (by decide +kernel)
theorem k_1028 : (Jvm.Cond.instanceMethod ({ cls := "PackageBook", name := "again", desc := "(I)I" } : Jvm.MethodName)) ∈ uW := uW_of 1028 (by decide +kernel) (by decide +kernel)
theorem k_1029 : (Jvm.Cond.selects "PackageBook" ({ cls := "PackageBook", name := "again", desc := "(I)I" } : Jvm.MethodName) ({ cls := "PackageBook", name := "again", desc := "(I)I" } : Jvm.MethodName)) ∈ uW := uW_of 1029 (by decide +kernel) (by decide +kernel)
theorem d_Law_again_12 : decode method_4_code 12 = .ok (.astore_n 3, 1) := by decide +kernel
theorem d_Law_again_13 : decode method_4_code 13 = .ok (.iconst 1, 1) := by decide +kernel
theorem d_Law_again_14 : decode method_4_code 14 = .ok (.ireturn, 1) := by decide +kernel
abbrev y_Law_again : MethodName := ⟨"PackageBookLaw", "again", "(LPackageBook;I[J)I"⟩
abbrev i_Law_again : pb_I := (y_Law_again, method_4_code, 4, (some Jvm.ClassFile.FieldType.int), [(0, 9, 12, 13), (0, 9, 15, 15)], { frames := 7, cells := 1, slots := 6, locals := 111 })
set_option maxRecDepth 100000 in
set_option maxHeartbeats 4000000 in
theorem c_Law_againI {l : Launch} (hl : l.stackTraces = false) (G : pb_G) (h : Nat) (ta : Nat) (ca : Nat) (ps : Nat) (ex_ : Nat) (mk : Nat) (rd : Nat) (mu : Nat) (fi : Nat) (go : Nat) (sp : Nat) (ss : Nat) (tb : Nat) (f : Nat → Int32) (n : Int32) (o : Nat) (ofn : Nat → Int64) (hv : ¬ (n.toInt = 0)) : Cn l G i_Law_again [.ref h, .int n, .ref o] [(h, .inr (9, [.ref ta, .ref ca, .ref ps, .ref ex_, .ref mk, .ref rd, .ref mu, .ref fi, .ref go, .ref sp, .ref ss])), (ta, .inr (0, [.ref tb, .int 0])), (tb, .inl (G.2.1, 8000, .inl f)), (o, .inl (G.2.2.2.1, 1, .inr (.inl ofn)))] (S := Unit) (fun v u => v = some (.int 1)) (fun u => [(o, .inl (G.2.2.2.1, 1, .inr (.inl ofn)))]) := by
  refine Cn.ofW hl (by decide +kernel) rfl (Nat.le_of_ble_eq_true rfl) (fun M hQ hT => ?_)
  refine pb_eq (pc' := 0) (lo' := [(0, .ref h), (1, .int n), (2, .ref o)]) (rest' := []) (ws' := [(h, .inr (9, [.ref ta, .ref ca, .ref ps, .ref ex_, .ref mk, .ref rd, .ref mu, .ref fi, .ref go, .ref sp, .ref ss])), (ta, .inr (0, [.ref tb, .int 0])), (tb, .inl (G.2.1, 8000, .inl f)), (o, .inl (G.2.2.2.1, 1, .inr (.inl ofn)))]) ?_
  refine pb_aload_n (pc := 0) d_Law_again_0 2 rfl rfl ?_
  refine pb_iconst (pc := 1) (v := 0) d_Law_again_1 (by decide) ?_
  refine pb_aload_n (pc := 2) d_Law_again_2 0 rfl rfl ?_
  refine pb_iload_n (pc := 3) d_Law_again_3 1 rfl rfl ?_
  refine pb_callVX (pc := 4) (qb := 0) (ci := 9) (nA := 1) (rest := [.int 0, .ref o]) (wr := [(o, .inl (G.2.2.2.1, 1, .inr (.inl ofn)))]) d_Law_again_4 (c_Book_again hl G h ta ca ps ex_ mk rd mu fi go sp ss tb f n) rfl rfl [0, 1, 2] [3] (by decide) rfl rfl rfl (by decide) (by decide) k_1030 rfl k_118 k_1027 k_1028 k_1029 (by decide +kernel) (by decide) rfl rfl (Nat.le_of_ble_eq_true rfl) (by decide) (fun E0 u9 hx9 => ?_) (fun v9 u2 h1 => ?_)
  · obtain ⟨rfl, hx9⟩ := hx9
    have hx9 : (¬ n.toInt = 0) := hx9
    refine pb_catch (pc := 4) (name := "java/lang/IllegalArgumentException") (x := ⟨0, 9, 12, 13⟩) (suf := [⟨0, 9, 15, 15⟩]) hT (by decide) (by decide) k_934 k_942 (fun q9 => ?_)
    refine pb_eq (pc' := 12) (lo' := [(0, .ref h), (1, .int n), (2, .ref o)]) (rest' := [.ref q9]) (ws' := [(o, .inl (G.2.2.2.1, 1, .inr (.inl ofn)))]) ?_
    refine pb_astore_n (pc := 12) (lo' := [(3, .ref q9), (0, .ref h), (1, .int n), (2, .ref o)]) d_Law_again_12 rfl (by decide) rfl ?_
    refine pb_iconst (pc := 13) (v := 1) d_Law_again_13 (by decide) ?_
    exact pb_iret (pc := 14) hQ d_Law_again_14 rfl rfl () rfl [0] (by decide) rfl rfl (by decide) (by decide)
  · obtain ⟨r_3, rfl⟩ : ∃ z9, z9 = u2 := ⟨_, rfl⟩
    obtain ⟨eh1, h1⟩ := h1
    have eh1 : v9 = some (.int r_3) := eh1
    subst eh1
    obtain ⟨h4, h5⟩ : (n.toInt = 0) ∧ (r_3.toInt = 0) := h1
    exact absurd h4 hv

theorem d_Law_again_7 : decode method_4_code 7 = .ok (.i2l, 1) := by decide +kernel
theorem d_Law_again_8 : decode method_4_code 8 = .ok (.lastore, 1) := by decide +kernel
theorem d_Law_again_9 : decode method_4_code 9 = .ok (.goto 9, 3) := by decide +kernel
theorem d_Law_again_18 : decode method_4_code 18 = .ok (.iconst 0, 1) := by decide +kernel
theorem d_Law_again_19 : decode method_4_code 19 = .ok (.ireturn, 1) := by decide +kernel
set_option maxRecDepth 100000 in
set_option maxHeartbeats 4000000 in
theorem c_Law_againV {l : Launch} (hl : l.stackTraces = false) (G : pb_G) (h : Nat) (ta : Nat) (ca : Nat) (ps : Nat) (ex_ : Nat) (mk : Nat) (rd : Nat) (mu : Nat) (fi : Nat) (go : Nat) (sp : Nat) (ss : Nat) (tb : Nat) (f : Nat → Int32) (n : Int32) (o : Nat) (ofn : Nat → Int64) (hv : n.toInt = 0) : Cn l G i_Law_again [.ref h, .int n, .ref o] [(h, .inr (9, [.ref ta, .ref ca, .ref ps, .ref ex_, .ref mk, .ref rd, .ref mu, .ref fi, .ref go, .ref sp, .ref ss])), (ta, .inr (0, [.ref tb, .int 0])), (tb, .inl (G.2.1, 8000, .inl f)), (o, .inl (G.2.2.2.1, 1, .inr (.inl ofn)))] (S := (Nat → Int64)) (fun v u => v = some (.int 0) ∧ (u 0 = 0)) (fun u => [(o, .inl (G.2.2.2.1, 1, .inr (.inl u)))]) := by
  refine Cn.ofW hl (by decide +kernel) rfl (Nat.le_of_ble_eq_true rfl) (fun M hQ hT => ?_)
  refine pb_eq (pc' := 0) (lo' := [(0, .ref h), (1, .int n), (2, .ref o)]) (rest' := []) (ws' := [(h, .inr (9, [.ref ta, .ref ca, .ref ps, .ref ex_, .ref mk, .ref rd, .ref mu, .ref fi, .ref go, .ref sp, .ref ss])), (ta, .inr (0, [.ref tb, .int 0])), (tb, .inl (G.2.1, 8000, .inl f)), (o, .inl (G.2.2.2.1, 1, .inr (.inl ofn)))]) ?_
  have z0 : (0 : Int32).toInt = 0 := by decide
  have z1 : (1 : Int32).toInt = 1 := by decide
  have z2 : (0 : Int32).toNatClampNeg = 0 := by decide
  refine pb_aload_n (pc := 0) d_Law_again_0 2 rfl rfl ?_
  refine pb_iconst (pc := 1) (v := 0) d_Law_again_1 (by decide) ?_
  refine pb_aload_n (pc := 2) d_Law_again_2 0 rfl rfl ?_
  refine pb_iload_n (pc := 3) d_Law_again_3 1 rfl rfl ?_
  refine pb_callVX (pc := 4) (qb := 0) (ci := 9) (nA := 1) (rest := [.int 0, .ref o]) (wr := [(o, .inl (G.2.2.2.1, 1, .inr (.inl ofn)))]) d_Law_again_4 (c_Book_again hl G h ta ca ps ex_ mk rd mu fi go sp ss tb f n) rfl rfl [0, 1, 2] [3] (by decide) rfl rfl rfl (by decide) (by decide) k_1030 rfl k_118 k_1027 k_1028 k_1029 (by decide +kernel) (by decide) rfl rfl (Nat.le_of_ble_eq_true rfl) (by decide) (fun E0 u9 hx9 => ?_) (fun v9 u2 h1 => ?_)
  · exact absurd hv hx9.2
  · obtain ⟨r_3, rfl⟩ : ∃ z9, z9 = u2 := ⟨_, rfl⟩
    obtain ⟨eh1, h1⟩ := h1
    have eh1 : v9 = some (.int r_3) := eh1
    subst eh1
    obtain ⟨h4, h5⟩ : (n.toInt = 0) ∧ (r_3.toInt = 0) := h1
    refine pb_eq (pc' := 7) (lo' := [(0, .ref h), (1, .int n), (2, .ref o)]) (rest' := [.int r_3, .int 0, .ref o]) (ws' := [(o, .inl (G.2.2.2.1, 1, .inr (.inl ofn)))]) ?_
    refine pb_i2l (pc := 7) d_Law_again_7 rfl ?_
    refine pb_topl (fun j6 ej6 => ?_)
    refine pb_last (pc := 8) (ws' := [(o, .inl (G.2.2.2.1, 1, .inr (.inl (vp_updL ofn ((0 : Int32).toNatClampNeg) j6))))]) d_Law_again_8 0 rfl (by unfold vp_in; decide) rfl ?_
    refine pb_goto (pc := 9) (tgt := 18) d_Law_again_9 (by decide) ?_
    refine pb_iconst (pc := 18) (v := 0) d_Law_again_18 (by decide) ?_
    exact pb_iret (pc := 19) hQ d_Law_again_19 rfl rfl ((vp_updL ofn ((0 : Int32).toNatClampNeg) j6)) ⟨rfl, (by show vp_updL ofn ((0 : Int32).toNatClampNeg) _ 0 = _; rw [z2, pk_uLs, ej6, show r_3 = 0 from Int32.toInt_inj.mp (by rw [h5]; decide)]; decide)⟩ [0] (by decide) rfl rfl (by decide) (by decide)

theorem d_Law_about_0 : decode method_6_code 0 = .ok (.aload_n 3, 1) := by decide +kernel
theorem d_Law_about_1 : decode method_6_code 1 = .ok (.iconst 0, 1) := by decide +kernel
theorem d_Law_about_2 : decode method_6_code 2 = .ok (.aload_n 0, 1) := by decide +kernel
theorem d_Law_about_3 : decode method_6_code 3 = .ok (.iload_n 1, 1) := by decide +kernel
theorem d_Law_about_4 : decode method_6_code 4 = .ok (.iload_n 2, 1) := by decide +kernel
theorem d_Law_about_5 : decode method_6_code 5 = .ok (.invokevirtual 24, 3) := by decide +kernel
theorem k_1049 : (Jvm.Cond.methodLink "PackageBookLaw" (24 : Nat) ({ cls := "PackageBook", name := "about", desc := "(II)I" } : Jvm.MethodName)) ∈ uW := uW_of 1049 (by decide +kernel) (by decide +kernel)
theorem k_1052 : (Jvm.Cond.code ({ cls := "PackageBook", name := "about", desc := "(II)I" } : Jvm.MethodName) prog_1_method_6_code (3 : Nat) (Option.some Jvm.ClassFile.FieldType.int)) ∈ uW := uW_of 1052 (by decide +kernel) (by decide +kernel)
theorem k_1050 : (Jvm.Cond.instanceMethod ({ cls := "PackageBook", name := "about", desc := "(II)I" } : Jvm.MethodName)) ∈ uW := uW_of 1050 (by decide +kernel) (by decide +kernel)
theorem k_1051 : (Jvm.Cond.selects "PackageBook" ({ cls := "PackageBook", name := "about", desc := "(II)I" } : Jvm.MethodName) ({ cls := "PackageBook", name := "about", desc := "(II)I" } : Jvm.MethodName)) ∈ uW := uW_of 1051 (by decide +kernel) (by decide +kernel)
theorem d_Law_about_13 : decode method_6_code 13 = .ok (.astore 4, 2) := by decide +kernel
theorem d_Law_about_15 : decode method_6_code 15 = .ok (.iconst 1, 1) := by decide +kernel
theorem d_Law_about_16 : decode method_6_code 16 = .ok (.ireturn, 1) := by decide +kernel
abbrev y_Law_about : MethodName := ⟨"PackageBookLaw", "about", "(LPackageBook;II[J)I"⟩
abbrev i_Law_about : pb_I := (y_Law_about, method_6_code, 5, (some Jvm.ClassFile.FieldType.int), [(0, 10, 13, 28)], { frames := 7, cells := 1, slots := 6, locals := 112 })
set_option maxRecDepth 100000 in
set_option maxHeartbeats 4000000 in
theorem c_Law_aboutI {l : Launch} (hl : l.stackTraces = false) (G : pb_G) (h : Nat) (ta : Nat) (ca : Nat) (ps : Nat) (ex_ : Nat) (mk : Nat) (rd : Nat) (mu : Nat) (fi : Nat) (go : Nat) (sp : Nat) (ss : Nat) (spn : Nat) (spz : Nat) (spb : Nat) (spg : Nat) (w : Int32) (i : Int32) (o : Nat) (ofn : Nat → Int64) (hv : ¬ (w.toInt = 0 ∨ w.toInt = 3)) : Cn l G i_Law_about [.ref h, .int w, .int i, .ref o] [(h, .inr (9, [.ref ta, .ref ca, .ref ps, .ref ex_, .ref mk, .ref rd, .ref mu, .ref fi, .ref go, .ref sp, .ref ss])), (sp, .inr (3, [.ref spn, .ref spz, .ref spb, .ref spg, .int 0])), (spg, .inl (G.2.2.1, 17, .inl (fun _ => 0))), (o, .inl (G.2.2.2.1, 1, .inr (.inl ofn)))] (S := Unit) (fun v u => v = some (.int 1)) (fun u => [(o, .inl (G.2.2.2.1, 1, .inr (.inl ofn)))]) := by
  refine Cn.ofW hl (by decide +kernel) rfl (Nat.le_of_ble_eq_true rfl) (fun M hQ hT => ?_)
  refine pb_eq (pc' := 0) (lo' := [(0, .ref h), (1, .int w), (2, .int i), (3, .ref o)]) (rest' := []) (ws' := [(h, .inr (9, [.ref ta, .ref ca, .ref ps, .ref ex_, .ref mk, .ref rd, .ref mu, .ref fi, .ref go, .ref sp, .ref ss])), (sp, .inr (3, [.ref spn, .ref spz, .ref spb, .ref spg, .int 0])), (spg, .inl (G.2.2.1, 17, .inl (fun _ => 0))), (o, .inl (G.2.2.2.1, 1, .inr (.inl ofn)))]) ?_
  refine pb_aload_n (pc := 0) d_Law_about_0 3 rfl rfl ?_
  refine pb_iconst (pc := 1) (v := 0) d_Law_about_1 (by decide) ?_
  refine pb_aload_n (pc := 2) d_Law_about_2 0 rfl rfl ?_
  refine pb_iload_n (pc := 3) d_Law_about_3 1 rfl rfl ?_
  refine pb_iload_n (pc := 4) d_Law_about_4 2 rfl rfl ?_
  refine pb_callVX (pc := 5) (qb := 0) (ci := 9) (nA := 2) (rest := [.int 0, .ref o]) (wr := [(o, .inl (G.2.2.2.1, 1, .inr (.inl ofn)))]) d_Law_about_5 (c_Book_about hl G h ta ca ps ex_ mk rd mu fi go sp ss spn spz spb spg w i) rfl rfl [0, 1, 2] [3] (by decide) rfl rfl rfl (by decide) (by decide) k_1052 rfl k_118 k_1049 k_1050 k_1051 (by decide +kernel) (by decide) rfl rfl (Nat.le_of_ble_eq_true rfl) (by decide) (fun E0 u9 hx9 => ?_) (fun v9 u2 h1 => ?_)
  · obtain ⟨rfl, hx9⟩ := hx9
    have hx9 : (¬ (w.toInt = 0 ∨ w.toInt = 3)) := hx9
    refine pb_catch (pc := 5) (name := "java/lang/IndexOutOfBoundsException") (x := ⟨0, 10, 13, 28⟩) (suf := []) hT (by decide) (by decide) k_1048 k_1057 (fun q9 => ?_)
    refine pb_eq (pc' := 13) (lo' := [(0, .ref h), (1, .int w), (2, .int i), (3, .ref o)]) (rest' := [.ref q9]) (ws' := [(o, .inl (G.2.2.2.1, 1, .inr (.inl ofn)))]) ?_
    refine pb_astore (pc := 13) (lo' := [(4, .ref q9), (0, .ref h), (1, .int w), (2, .int i), (3, .ref o)]) d_Law_about_13 (by decide) rfl ?_
    refine pb_iconst (pc := 15) (v := 1) d_Law_about_15 (by decide) ?_
    exact pb_iret (pc := 16) hQ d_Law_about_16 rfl rfl () rfl [0] (by decide) rfl rfl (by decide) (by decide)
  · obtain ⟨eh1, h1⟩ := h1
    have eh1 : v9 = some (.int 0) := eh1
    subst eh1
    have h3 : w.toInt = 0 ∨ w.toInt = 3 := h1
    exact absurd h3 hv

theorem d_Law_about_8 : decode method_6_code 8 = .ok (.i2l, 1) := by decide +kernel
theorem d_Law_about_9 : decode method_6_code 9 = .ok (.lastore, 1) := by decide +kernel
theorem d_Law_about_10 : decode method_6_code 10 = .ok (.goto 7, 3) := by decide +kernel
theorem d_Law_about_17 : decode method_6_code 17 = .ok (.iconst 0, 1) := by decide +kernel
theorem d_Law_about_18 : decode method_6_code 18 = .ok (.ireturn, 1) := by decide +kernel
set_option maxRecDepth 100000 in
set_option maxHeartbeats 4000000 in
theorem c_Law_aboutV {l : Launch} (hl : l.stackTraces = false) (G : pb_G) (h : Nat) (ta : Nat) (ca : Nat) (ps : Nat) (ex_ : Nat) (mk : Nat) (rd : Nat) (mu : Nat) (fi : Nat) (go : Nat) (sp : Nat) (ss : Nat) (spn : Nat) (spz : Nat) (spb : Nat) (spg : Nat) (w : Int32) (i : Int32) (o : Nat) (ofn : Nat → Int64) (hv : w.toInt = 0 ∨ w.toInt = 3) : Cn l G i_Law_about [.ref h, .int w, .int i, .ref o] [(h, .inr (9, [.ref ta, .ref ca, .ref ps, .ref ex_, .ref mk, .ref rd, .ref mu, .ref fi, .ref go, .ref sp, .ref ss])), (sp, .inr (3, [.ref spn, .ref spz, .ref spb, .ref spg, .int 0])), (spg, .inl (G.2.2.1, 17, .inl (fun _ => 0))), (o, .inl (G.2.2.2.1, 1, .inr (.inl ofn)))] (S := (Nat → Int64)) (fun v u => v = some (.int 0) ∧ (u 0 = 0)) (fun u => [(o, .inl (G.2.2.2.1, 1, .inr (.inl u)))]) := by
  refine Cn.ofW hl (by decide +kernel) rfl (Nat.le_of_ble_eq_true rfl) (fun M hQ hT => ?_)
  refine pb_eq (pc' := 0) (lo' := [(0, .ref h), (1, .int w), (2, .int i), (3, .ref o)]) (rest' := []) (ws' := [(h, .inr (9, [.ref ta, .ref ca, .ref ps, .ref ex_, .ref mk, .ref rd, .ref mu, .ref fi, .ref go, .ref sp, .ref ss])), (sp, .inr (3, [.ref spn, .ref spz, .ref spb, .ref spg, .int 0])), (spg, .inl (G.2.2.1, 17, .inl (fun _ => 0))), (o, .inl (G.2.2.2.1, 1, .inr (.inl ofn)))]) ?_
  have z0 : (0 : Int32).toInt = 0 := by decide
  have z1 : (1 : Int32).toInt = 1 := by decide
  have z2 : (0 : Int32).toNatClampNeg = 0 := by decide
  refine pb_aload_n (pc := 0) d_Law_about_0 3 rfl rfl ?_
  refine pb_iconst (pc := 1) (v := 0) d_Law_about_1 (by decide) ?_
  refine pb_aload_n (pc := 2) d_Law_about_2 0 rfl rfl ?_
  refine pb_iload_n (pc := 3) d_Law_about_3 1 rfl rfl ?_
  refine pb_iload_n (pc := 4) d_Law_about_4 2 rfl rfl ?_
  refine pb_callVX (pc := 5) (qb := 0) (ci := 9) (nA := 2) (rest := [.int 0, .ref o]) (wr := [(o, .inl (G.2.2.2.1, 1, .inr (.inl ofn)))]) d_Law_about_5 (c_Book_about hl G h ta ca ps ex_ mk rd mu fi go sp ss spn spz spb spg w i) rfl rfl [0, 1, 2] [3] (by decide) rfl rfl rfl (by decide) (by decide) k_1052 rfl k_118 k_1049 k_1050 k_1051 (by decide +kernel) (by decide) rfl rfl (Nat.le_of_ble_eq_true rfl) (by decide) (fun E0 u9 hx9 => ?_) (fun v9 u2 h1 => ?_)
  · exact absurd hv hx9.2
  · obtain ⟨eh1, h1⟩ := h1
    have eh1 : v9 = some (.int 0) := eh1
    subst eh1
    have h3 : w.toInt = 0 ∨ w.toInt = 3 := h1
    refine pb_eq (pc' := 8) (lo' := [(0, .ref h), (1, .int w), (2, .int i), (3, .ref o)]) (rest' := [.int 0, .int 0, .ref o]) (ws' := [(o, .inl (G.2.2.2.1, 1, .inr (.inl ofn)))]) ?_
    refine pb_i2l (pc := 8) (v := 0) d_Law_about_8 (by decide) ?_
    refine pb_last (pc := 9) (ws' := [(o, .inl (G.2.2.2.1, 1, .inr (.inl (vp_updL ofn ((0 : Int32).toNatClampNeg) 0))))]) d_Law_about_9 0 rfl (by unfold vp_in; decide) rfl ?_
    refine pb_goto (pc := 10) (tgt := 17) d_Law_about_10 (by decide) ?_
    refine pb_iconst (pc := 17) (v := 0) d_Law_about_17 (by decide) ?_
    exact pb_iret (pc := 18) hQ d_Law_about_18 rfl rfl ((vp_updL ofn ((0 : Int32).toNatClampNeg) 0)) ⟨rfl, (by show vp_updL ofn ((0 : Int32).toNatClampNeg) 0 0 = _; rw [z2, pk_uLs])⟩ [0] (by decide) rfl rfl (by decide) (by decide)

theorem d_Law_press_0 : decode method_10_code 0 = .ok (.aload_n 1, 1) := by decide +kernel
theorem d_Law_press_1 : decode method_10_code 1 = .ok (.iconst 0, 1) := by decide +kernel
theorem d_Law_press_2 : decode method_10_code 2 = .ok (.aload_n 0, 1) := by decide +kernel
theorem d_Law_press_3 : decode method_10_code 3 = .ok (.invokevirtual 39, 3) := by decide +kernel
theorem k_1102 : (Jvm.Cond.methodLink "PackageBookLaw" (39 : Nat) ({ cls := "PackageBook", name := "press", desc := "()I" } : Jvm.MethodName)) ∈ uW := uW_of 1102 (by decide +kernel) (by decide +kernel)
theorem k_1105 : (Jvm.Cond.code ({ cls := "PackageBook", name := "press", desc := "()I" } : Jvm.MethodName) prog_1_method_12_code (2 : Nat) (Option.some Jvm.ClassFile.FieldType.int)) ∈ uW := uW_of 1105 (by decide +kernel) (by decide +kernel)
theorem k_1103 : (Jvm.Cond.instanceMethod ({ cls := "PackageBook", name := "press", desc := "()I" } : Jvm.MethodName)) ∈ uW := uW_of 1103 (by decide +kernel) (by decide +kernel)
theorem k_1104 : (Jvm.Cond.selects "PackageBook" ({ cls := "PackageBook", name := "press", desc := "()I" } : Jvm.MethodName) ({ cls := "PackageBook", name := "press", desc := "()I" } : Jvm.MethodName)) ∈ uW := uW_of 1104 (by decide +kernel) (by decide +kernel)
theorem d_Law_press_6 : decode method_10_code 6 = .ok (.i2l, 1) := by decide +kernel
theorem d_Law_press_7 : decode method_10_code 7 = .ok (.lastore, 1) := by decide +kernel
theorem d_Law_press_8 : decode method_10_code 8 = .ok (.goto 6, 3) := by decide +kernel
theorem d_Law_press_14 : decode method_10_code 14 = .ok (.iconst 0, 1) := by decide +kernel
theorem d_Law_press_15 : decode method_10_code 15 = .ok (.ireturn, 1) := by decide +kernel
abbrev y_Law_press : MethodName := ⟨"PackageBookLaw", "press", "(LPackageBook;[J)I"⟩
abbrev i_Law_press : pb_I := (y_Law_press, method_10_code, 3, (some Jvm.ClassFile.FieldType.int), [(0, 8, 11, 15)], { frames := 4, cells := 0, slots := 0, locals := 125 })
set_option maxRecDepth 100000 in
set_option maxHeartbeats 4000000 in
theorem c_Law_press {l : Launch} (hl : l.stackTraces = false) (G : pb_G) (h : Nat) (ta : Nat) (ca : Nat) (ps : Nat) (ex_ : Nat) (mk : Nat) (rd : Nat) (mu : Nat) (fi : Nat) (go : Nat) (sp : Nat) (ss : Nat) (tb : Nat) (pp : Nat) (pl : Nat) (pe : Nat) (pr : Nat) (pb : Nat) (cb : Nat) (f : Nat → Int32) (fl : Nat → Int32) (fc : Nat → Int32) (pz : Int32) (cz : Int32) (o : Nat) (ofn : Nat → Int64) (h9 : sb_Fit f) : Cn l G i_Law_press [.ref h, .ref o] [(h, .inr (9, [.ref ta, .ref ca, .ref ps, .ref ex_, .ref mk, .ref rd, .ref mu, .ref fi, .ref go, .ref sp, .ref ss])), (ta, .inr (0, [.ref tb, .int 0])), (ps, .inr (4, [.ref pp, .ref pl, .ref pe, .ref pr, .int 0, .int 0, .int 0, .int 0, .int 0])), (pp, .inr (0, [.ref pb, .int pz])), (pb, .inl (G.2.1, 4502, .inl f)), (pl, .inl (G.2.2.1, 1024, .inl fl)), (ca, .inr (0, [.ref cb, .int cz])), (cb, .inl (G.2.1, 4502, .inl fc)), (o, .inl (G.2.2.2.1, 1, .inr (.inl ofn)))] (S := (Nat → Int64)) (fun v u => v = some (.int 0) ∧ (u 0 = 2)) (fun u => [(o, .inl (G.2.2.2.1, 1, .inr (.inl u)))]) := by
  refine Cn.ofW hl (by decide +kernel) rfl (Nat.le_of_ble_eq_true rfl) (fun M hQ hT => ?_)
  refine pb_eq (pc' := 0) (lo' := [(0, .ref h), (1, .ref o)]) (rest' := []) (ws' := [(h, .inr (9, [.ref ta, .ref ca, .ref ps, .ref ex_, .ref mk, .ref rd, .ref mu, .ref fi, .ref go, .ref sp, .ref ss])), (ta, .inr (0, [.ref tb, .int 0])), (ps, .inr (4, [.ref pp, .ref pl, .ref pe, .ref pr, .int 0, .int 0, .int 0, .int 0, .int 0])), (pp, .inr (0, [.ref pb, .int pz])), (pb, .inl (G.2.1, 4502, .inl f)), (pl, .inl (G.2.2.1, 1024, .inl fl)), (ca, .inr (0, [.ref cb, .int cz])), (cb, .inl (G.2.1, 4502, .inl fc)), (o, .inl (G.2.2.2.1, 1, .inr (.inl ofn)))]) ?_
  have z0 : (0 : Int32).toInt = 0 := by decide
  have z1 : (1 : Int32).toInt = 1 := by decide
  have z2 : (0 : Int32).toNatClampNeg = 0 := by decide
  refine pb_aload_n (pc := 0) d_Law_press_0 1 rfl rfl ?_
  refine pb_iconst (pc := 1) (v := 0) d_Law_press_1 (by decide) ?_
  refine pb_aload_n (pc := 2) d_Law_press_2 0 rfl rfl ?_
  refine pb_callV (pc := 3) (qb := 0) (ci := 9) (nA := 0) (rest := [.int 0, .ref o]) (wr := [(o, .inl (G.2.2.2.1, 1, .inr (.inl ofn)))]) d_Law_press_3 (c_Book_press hl G h ta ca ps ex_ mk rd mu fi go sp ss tb pp pl pe pr pb cb f fl fc pz cz (by assumption)) rfl rfl [0, 1, 2, 3, 4, 5, 6, 7] [8] (by decide) rfl rfl rfl (by decide) (by decide) k_1105 rfl k_118 k_1102 k_1103 k_1104 (by decide +kernel) (by decide) rfl rfl (Nat.le_of_ble_eq_true rfl) (by decide) (fun v9 u2 h1 => ?_)
  have eh1 := h1
  have eh1 : v9 = some (.int 2) := eh1
  subst eh1
  refine pb_eq (pc' := 6) (lo' := [(0, .ref h), (1, .ref o)]) (rest' := [.int 2, .int 0, .ref o]) (ws' := [(o, .inl (G.2.2.2.1, 1, .inr (.inl ofn)))]) ?_
  refine pb_i2l (pc := 6) (v := 2) d_Law_press_6 (by decide) ?_
  refine pb_last (pc := 7) (ws' := [(o, .inl (G.2.2.2.1, 1, .inr (.inl (vp_updL ofn ((0 : Int32).toNatClampNeg) 2))))]) d_Law_press_7 0 rfl (by unfold vp_in; decide) rfl ?_
  refine pb_goto (pc := 8) (tgt := 14) d_Law_press_8 (by decide) ?_
  refine pb_iconst (pc := 14) (v := 0) d_Law_press_14 (by decide) ?_
  exact pb_iret (pc := 15) hQ d_Law_press_15 rfl rfl ((vp_updL ofn ((0 : Int32).toNatClampNeg) 2)) ⟨rfl, (by show vp_updL ofn ((0 : Int32).toNatClampNeg) 2 0 = _; rw [z2, pk_uLs])⟩ [0] (by decide) rfl rfl (by decide) (by decide)
