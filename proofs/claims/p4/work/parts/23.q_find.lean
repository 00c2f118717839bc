theorem d_Presser_mixAt_0 : decode prog_8_method_6_code 0 = .ok (.aload_n 0, 1) := sorry
theorem d_Presser_mixAt_1 : decode prog_8_method_6_code 1 = .ok (.getfield 31, 3) := sorry
theorem k_187 : (Jvm.Cond.fieldLink "PackageBook$Presser" (31 : Nat) "PackageBook$Presser" "begin" "I") ∈ uW := sorry
theorem d_Presser_mixAt_4 : decode prog_8_method_6_code 4 = .ok (.iload_n 1, 1) := sorry
theorem d_Presser_mixAt_5 : decode prog_8_method_6_code 5 = .ok (.iadd, 1) := sorry
theorem d_Presser_mixAt_6 : decode prog_8_method_6_code 6 = .ok (.istore_n 2, 1) := sorry
theorem d_Presser_mixAt_7 : decode prog_8_method_6_code 7 = .ok (.aload_n 0, 1) := sorry
theorem d_Presser_mixAt_8 : decode prog_8_method_6_code 8 = .ok (.getfield 27, 3) := sorry
theorem d_Presser_mixAt_11 : decode prog_8_method_6_code 11 = .ok (.iload_n 2, 1) := sorry
theorem d_Presser_mixAt_12 : decode prog_8_method_6_code 12 = .ok (.baload, 1) := sorry
theorem d_Presser_mixAt_13 : decode prog_8_method_6_code 13 = .ok (.bipush 6, 2) := sorry
theorem d_Presser_mixAt_15 : decode prog_8_method_6_code 15 = .ok (.ishl, 1) := sorry
theorem d_Presser_mixAt_16 : decode prog_8_method_6_code 16 = .ok (.aload_n 0, 1) := sorry
theorem d_Presser_mixAt_17 : decode prog_8_method_6_code 17 = .ok (.getfield 27, 3) := sorry
theorem d_Presser_mixAt_20 : decode prog_8_method_6_code 20 = .ok (.iload_n 2, 1) := sorry
theorem d_Presser_mixAt_21 : decode prog_8_method_6_code 21 = .ok (.iconst 1, 1) := sorry
theorem d_Presser_mixAt_22 : decode prog_8_method_6_code 22 = .ok (.iadd, 1) := sorry
theorem d_Presser_mixAt_23 : decode prog_8_method_6_code 23 = .ok (.baload, 1) := sorry
theorem d_Presser_mixAt_24 : decode prog_8_method_6_code 24 = .ok (.iconst 3, 1) := sorry
theorem d_Presser_mixAt_25 : decode prog_8_method_6_code 25 = .ok (.ishl, 1) := sorry
theorem d_Presser_mixAt_26 : decode prog_8_method_6_code 26 = .ok (.ixor, 1) := sorry
theorem d_Presser_mixAt_27 : decode prog_8_method_6_code 27 = .ok (.aload_n 0, 1) := sorry
theorem d_Presser_mixAt_28 : decode prog_8_method_6_code 28 = .ok (.getfield 27, 3) := sorry
theorem d_Presser_mixAt_31 : decode prog_8_method_6_code 31 = .ok (.iload_n 2, 1) := sorry
theorem d_Presser_mixAt_32 : decode prog_8_method_6_code 32 = .ok (.iconst 2, 1) := sorry
theorem d_Presser_mixAt_33 : decode prog_8_method_6_code 33 = .ok (.iadd, 1) := sorry
theorem d_Presser_mixAt_34 : decode prog_8_method_6_code 34 = .ok (.baload, 1) := sorry
theorem d_Presser_mixAt_35 : decode prog_8_method_6_code 35 = .ok (.ixor, 1) := sorry
theorem d_Presser_mixAt_36 : decode prog_8_method_6_code 36 = .ok (.sipush 1023, 3) := sorry
theorem d_Presser_mixAt_39 : decode prog_8_method_6_code 39 = .ok (.iand, 1) := sorry
theorem d_Presser_mixAt_40 : decode prog_8_method_6_code 40 = .ok (.ireturn, 1) := sorry
abbrev y_Presser_mixAt : MethodName := ⟨"PackageBook$Presser", "mixAt", "(I)I"⟩
abbrev i_Presser_mixAt : pb_I := (y_Presser_mixAt, prog_8_method_6_code, 3, (some Jvm.ClassFile.FieldType.int), [], { frames := 0, cells := 0, slots := 0, locals := 0 })
theorem g_Pr_mixAt {l : Launch} (hl : l.stackTraces = false) (G : pb_G) (h : Nat) (pp : Nat) (pl : Nat) (pe : Nat) (pr : Nat) (pb : Nat) (bg : Int32) (sz : Int32) (bt : Int32) (ln : Int32) (ds : Int32) (N : Nat) (fr : Nat → Int32) (x : Int32) (r0 : 0 ≤ bg.toInt) (r1 : bg.toInt + sz.toInt ≤ N) (r2 : N ≤ 100000) (r3 : sz.toInt ≤ 4000) (r4 : 0 ≤ sz.toInt) (x0 : 0 ≤ x.toInt) (x1 : x.toInt + 3 ≤ sz.toInt) (F_fr : sb_Fit fr) : Cn l G i_Presser_mixAt [.ref h, .int x] [(h, .inr (4, [.ref pp, .ref pl, .ref pe, .ref pr, .int bg, .int sz, .int bt, .int ln, .int ds])), (pr, .inl (G.2.1, N, .inl fr))] (S := Int32) (fun rv_ u => rv_ = some (.int u) ∧ (0 ≤ u.toInt) ∧ (u.toInt ≤ 1023) ∧ (u.toInt = mx_ (sq fr bg.toInt sz.toInt) x.toInt)) (fun u => [(h, .inr (4, [.ref pp, .ref pl, .ref pe, .ref pr, .int bg, .int sz, .int bt, .int ln, .int ds])), (pr, .inl (G.2.1, N, .inl fr))]) := sorry
theorem d_Presser_remember_0 : decode prog_8_method_5_code 0 = .ok (.aload_n 0, 1) := sorry
theorem d_Presser_remember_1 : decode prog_8_method_5_code 1 = .ok (.getfield 35, 3) := sorry
theorem k_188 : (Jvm.Cond.fieldLink "PackageBook$Presser" (35 : Nat) "PackageBook$Presser" "size" "I") ∈ uW := sorry
theorem d_Presser_remember_4 : decode prog_8_method_5_code 4 = .ok (.iload_n 1, 1) := sorry
theorem d_Presser_remember_5 : decode prog_8_method_5_code 5 = .ok (.isub, 1) := sorry
theorem d_Presser_remember_6 : decode prog_8_method_5_code 6 = .ok (.iconst 3, 1) := sorry
theorem d_Presser_remember_7 : decode prog_8_method_5_code 7 = .ok (.if_icmp .lt 28, 3) := sorry
theorem d_Presser_remember_35 : decode prog_8_method_5_code 35 = .ok (.return_, 1) := sorry
theorem d_Presser_remember_10 : decode prog_8_method_5_code 10 = .ok (.aload_n 0, 1) := sorry
theorem d_Presser_remember_11 : decode prog_8_method_5_code 11 = .ok (.iload_n 1, 1) := sorry
theorem d_Presser_remember_12 : decode prog_8_method_5_code 12 = .ok (.invokevirtual 76, 3) := sorry
theorem k_516 : (Jvm.Cond.methodLink "PackageBook$Presser" (76 : Nat) ({ cls := "PackageBook$Presser", name := "mixAt", desc := "(I)I" } : Jvm.MethodName)) ∈ uW := sorry
theorem k_519 : (Jvm.Cond.code ({ cls := "PackageBook$Presser", name := "mixAt", desc := "(I)I" } : Jvm.MethodName) prog_8_method_6_code (3 : Nat) (Option.some Jvm.ClassFile.FieldType.int)) ∈ uW := sorry
theorem k_518 : (Jvm.Cond.instanceMethod ({ cls := "PackageBook$Presser", name := "mixAt", desc := "(I)I" } : Jvm.MethodName)) ∈ uW := sorry
theorem k_4 : Cond.selects "PackageBook$Presser" ⟨"PackageBook$Presser", "mixAt", "(I)I"⟩ ⟨"PackageBook$Presser", "mixAt", "(I)I"⟩ ∈ uW := sorry
theorem hy_Presser_mixAt : (y_Presser_mixAt).cls ≠ "java/lang/invoke/MethodHandle" ∧ (y_Presser_mixAt).cls ≠ "java/lang/invoke/VarHandle" ∧ (parseMethodDescriptor (y_Presser_mixAt).desc).map (fun d => d.parameters.length) = some 1 := sorry
theorem d_Presser_remember_15 : decode prog_8_method_5_code 15 = .ok (.istore_n 2, 1) := sorry
theorem d_Presser_remember_16 : decode prog_8_method_5_code 16 = .ok (.aload_n 0, 1) := sorry
theorem d_Presser_remember_17 : decode prog_8_method_5_code 17 = .ok (.getfield 24, 3) := sorry
theorem d_Presser_remember_20 : decode prog_8_method_5_code 20 = .ok (.iload_n 1, 1) := sorry
theorem d_Presser_remember_21 : decode prog_8_method_5_code 21 = .ok (.aload_n 0, 1) := sorry
theorem d_Presser_remember_22 : decode prog_8_method_5_code 22 = .ok (.getfield 20, 3) := sorry
theorem d_Presser_remember_25 : decode prog_8_method_5_code 25 = .ok (.iload_n 2, 1) := sorry
theorem d_Presser_remember_26 : decode prog_8_method_5_code 26 = .ok (.iaload, 1) := sorry
theorem d_Presser_remember_27 : decode prog_8_method_5_code 27 = .ok (.iastore, 1) := sorry
theorem d_Presser_remember_28 : decode prog_8_method_5_code 28 = .ok (.aload_n 0, 1) := sorry
theorem d_Presser_remember_29 : decode prog_8_method_5_code 29 = .ok (.getfield 20, 3) := sorry
theorem d_Presser_remember_32 : decode prog_8_method_5_code 32 = .ok (.iload_n 2, 1) := sorry
theorem d_Presser_remember_33 : decode prog_8_method_5_code 33 = .ok (.iload_n 1, 1) := sorry
theorem d_Presser_remember_34 : decode prog_8_method_5_code 34 = .ok (.iastore, 1) := sorry
abbrev y_Presser_remember : MethodName := ⟨"PackageBook$Presser", "remember", "(I)V"⟩
abbrev i_Presser_remember : pb_I := (y_Presser_remember, prog_8_method_5_code, 3, (Option.none : Option Jvm.ClassFile.FieldType), [], { frames := 1, cells := 0, slots := 0, locals := 22 })
theorem g_Pr_remember {l : Launch} (hl : l.stackTraces = false) (G : pb_G) (h : Nat) (pp : Nat) (pl : Nat) (pe : Nat) (pr : Nat) (pb : Nat) (bg : Int32) (sz : Int32) (bt : Int32) (ln : Int32) (ds : Int32) (N : Nat) (fr : Nat → Int32) (fl : Nat → Int32) (fe : Nat → Int32) (x : Int32) (r0 : 0 ≤ bg.toInt) (r1 : bg.toInt + sz.toInt ≤ N) (r2 : N ≤ 100000) (r3 : sz.toInt ≤ 4000) (r4 : 0 ≤ sz.toInt) (x0 : 0 ≤ x.toInt) (x1 : x.toInt < sz.toInt) (I : ch_I (sq fr bg.toInt sz.toInt) sz.toInt x.toInt fl fe) (F_fr : sb_Fit fr) : Cn l G i_Presser_remember [.ref h, .int x] [(h, .inr (4, [.ref pp, .ref pl, .ref pe, .ref pr, .int bg, .int sz, .int bt, .int ln, .int ds])), (pr, .inl (G.2.1, N, .inl fr)), (pl, .inl (G.2.2.1, 1024, .inl fl)), (pe, .inl (G.2.2.1, 4000, .inl fe))] (S := (Nat → Int32) × (Nat → Int32)) (fun rv_ u => rv_ = none ∧ (ch_I (sq fr bg.toInt sz.toInt) sz.toInt (x.toInt + 1) u.1 u.2)) (fun u => [(h, .inr (4, [.ref pp, .ref pl, .ref pe, .ref pr, .int bg, .int sz, .int bt, .int ln, .int ds])), (pr, .inl (G.2.1, N, .inl fr)), (pl, .inl (G.2.2.1, 1024, .inl u.1)), (pe, .inl (G.2.2.1, 4000, .inl u.2))]) := sorry
theorem d_Presser_sameFrom_0 : decode prog_8_method_4_code 0 = .ok (.iconst 0, 1) := sorry
theorem d_Presser_sameFrom_1 : decode prog_8_method_4_code 1 = .ok (.istore 4, 2) := sorry
theorem d_Presser_sameFrom_3 : decode prog_8_method_4_code 3 = .ok (.iload 4, 2) := sorry
theorem d_Presser_sameFrom_5 : decode prog_8_method_4_code 5 = .ok (.iload_n 3, 1) := sorry
theorem d_Presser_sameFrom_6 : decode prog_8_method_4_code 6 = .ok (.if_icmp .ge 40, 3) := sorry
theorem d_Presser_sameFrom_46 : decode prog_8_method_4_code 46 = .ok (.iload 4, 2) := sorry
theorem d_Presser_sameFrom_48 : decode prog_8_method_4_code 48 = .ok (.ireturn, 1) := sorry
theorem d_Presser_sameFrom_9 : decode prog_8_method_4_code 9 = .ok (.aload_n 0, 1) := sorry
theorem d_Presser_sameFrom_10 : decode prog_8_method_4_code 10 = .ok (.getfield 27, 3) := sorry
theorem d_Presser_sameFrom_13 : decode prog_8_method_4_code 13 = .ok (.aload_n 0, 1) := sorry
theorem d_Presser_sameFrom_14 : decode prog_8_method_4_code 14 = .ok (.getfield 31, 3) := sorry
theorem d_Presser_sameFrom_17 : decode prog_8_method_4_code 17 = .ok (.iload_n 1, 1) := sorry
theorem d_Presser_sameFrom_18 : decode prog_8_method_4_code 18 = .ok (.iadd, 1) := sorry
theorem d_Presser_sameFrom_19 : decode prog_8_method_4_code 19 = .ok (.iload 4, 2) := sorry
theorem d_Presser_sameFrom_21 : decode prog_8_method_4_code 21 = .ok (.iadd, 1) := sorry
theorem d_Presser_sameFrom_22 : decode prog_8_method_4_code 22 = .ok (.baload, 1) := sorry
theorem d_Presser_sameFrom_23 : decode prog_8_method_4_code 23 = .ok (.aload_n 0, 1) := sorry
theorem d_Presser_sameFrom_24 : decode prog_8_method_4_code 24 = .ok (.getfield 27, 3) := sorry
theorem d_Presser_sameFrom_27 : decode prog_8_method_4_code 27 = .ok (.aload_n 0, 1) := sorry
theorem d_Presser_sameFrom_28 : decode prog_8_method_4_code 28 = .ok (.getfield 31, 3) := sorry
theorem d_Presser_sameFrom_31 : decode prog_8_method_4_code 31 = .ok (.iload_n 2, 1) := sorry
theorem d_Presser_sameFrom_32 : decode prog_8_method_4_code 32 = .ok (.iadd, 1) := sorry
theorem d_Presser_sameFrom_33 : decode prog_8_method_4_code 33 = .ok (.iload 4, 2) := sorry
theorem d_Presser_sameFrom_35 : decode prog_8_method_4_code 35 = .ok (.iadd, 1) := sorry
theorem d_Presser_sameFrom_36 : decode prog_8_method_4_code 36 = .ok (.baload, 1) := sorry
theorem d_Presser_sameFrom_37 : decode prog_8_method_4_code 37 = .ok (.if_icmp .ne 9, 3) := sorry
theorem d_Presser_sameFrom_40 : decode prog_8_method_4_code 40 = .ok (.iinc 4 1, 3) := sorry
theorem d_Presser_sameFrom_43 : decode prog_8_method_4_code 43 = .ok (.goto (-40), 3) := sorry
abbrev y_Presser_sameFrom : MethodName := ⟨"PackageBook$Presser", "sameFrom", "(III)I"⟩
abbrev i_Presser_sameFrom : pb_I := (y_Presser_sameFrom, prog_8_method_4_code, 5, (some Jvm.ClassFile.FieldType.int), [], { frames := 0, cells := 0, slots := 0, locals := 0 })
theorem g_Pr_sameFrom {l : Launch} (hl : l.stackTraces = false) (G : pb_G) (h : Nat) (pp : Nat) (pl : Nat) (pe : Nat) (pr : Nat) (pb : Nat) (bg : Int32) (sz : Int32) (bt : Int32) (ln : Int32) (ds : Int32) (N : Nat) (fr : Nat → Int32) (x : Int32) (y : Int32) (n : Int32) (r0 : 0 ≤ bg.toInt) (r1 : bg.toInt + sz.toInt ≤ N) (r2 : N ≤ 100000) (r3 : sz.toInt ≤ 4000) (r4 : 0 ≤ sz.toInt) (x0 : 0 ≤ x.toInt) (x1 : x.toInt ≤ y.toInt) (x2 : y.toInt + n.toInt ≤ sz.toInt) (x3 : 0 ≤ n.toInt) (F_fr : sb_Fit fr) : Cn l G i_Presser_sameFrom [.ref h, .int x, .int y, .int n] [(h, .inr (4, [.ref pp, .ref pl, .ref pe, .ref pr, .int bg, .int sz, .int bt, .int ln, .int ds])), (pr, .inl (G.2.1, N, .inl fr))] (S := Int32) (fun rv_ u => rv_ = some (.int u) ∧ (sm_R (sq fr bg.toInt sz.toInt) x.toInt y.toInt n.toInt u.toInt)) (fun u => [(h, .inr (4, [.ref pp, .ref pl, .ref pe, .ref pr, .int bg, .int sz, .int bt, .int ln, .int ds])), (pr, .inl (G.2.1, N, .inl fr))]) := sorry
theorem d_Presser_findLongest_0 : decode prog_8_method_3_code 0 = .ok (.sipush 258, 3) := sorry
theorem d_Presser_findLongest_3 : decode prog_8_method_3_code 3 = .ok (.aload_n 0, 1) := sorry
theorem d_Presser_findLongest_4 : decode prog_8_method_3_code 4 = .ok (.getfield 35, 3) := sorry
theorem d_Presser_findLongest_7 : decode prog_8_method_3_code 7 = .ok (.iload_n 1, 1) := sorry
theorem d_Presser_findLongest_8 : decode prog_8_method_3_code 8 = .ok (.isub, 1) := sorry
theorem d_Presser_findLongest_9 : decode prog_8_method_3_code 9 = .ok (.invokestatic 70, 3) := sorry
theorem k_513 : (Jvm.Cond.methodLink "PackageBook$Presser" (70 : Nat) ({ cls := "java/lang/Math", name := "min", desc := "(II)I" } : Jvm.MethodName)) ∈ uW := sorry
theorem k_514 : (Jvm.Cond.static ({ cls := "java/lang/Math", name := "min", desc := "(II)I" } : Jvm.MethodName)) ∈ uW := sorry
theorem k_137 : (Jvm.Cond.initialized "java/lang/Math") ∈ uW := sorry
theorem k_515 : (Jvm.Cond.code ({ cls := "java/lang/Math", name := "min", desc := "(II)I" } : Jvm.MethodName) prog_16_method_69_code (2 : Nat) (Option.some Jvm.ClassFile.FieldType.int)) ∈ uW := sorry
theorem d_Presser_findLongest_12 : decode prog_8_method_3_code 12 = .ok (.istore_n 2, 1) := sorry
theorem d_Presser_findLongest_13 : decode prog_8_method_3_code 13 = .ok (.aload_n 0, 1) := sorry
theorem d_Presser_findLongest_14 : decode prog_8_method_3_code 14 = .ok (.iconst 1, 1) := sorry
theorem d_Presser_findLongest_15 : decode prog_8_method_3_code 15 = .ok (.putfield 55, 3) := sorry
theorem d_Presser_findLongest_18 : decode prog_8_method_3_code 18 = .ok (.iload_n 2, 1) := sorry
theorem d_Presser_findLongest_19 : decode prog_8_method_3_code 19 = .ok (.iconst 3, 1) := sorry
theorem d_Presser_findLongest_20 : decode prog_8_method_3_code 20 = .ok (.if_icmp .ge 4, 3) := sorry
theorem d_Presser_findLongest_24 : decode prog_8_method_3_code 24 = .ok (.aload_n 0, 1) := sorry
theorem d_Presser_findLongest_25 : decode prog_8_method_3_code 25 = .ok (.getfield 20, 3) := sorry
theorem d_Presser_findLongest_28 : decode prog_8_method_3_code 28 = .ok (.aload_n 0, 1) := sorry
theorem d_Presser_findLongest_29 : decode prog_8_method_3_code 29 = .ok (.iload_n 1, 1) := sorry
theorem d_Presser_findLongest_30 : decode prog_8_method_3_code 30 = .ok (.invokevirtual 76, 3) := sorry
theorem d_Presser_findLongest_33 : decode prog_8_method_3_code 33 = .ok (.iaload, 1) := sorry
theorem d_Presser_findLongest_34 : decode prog_8_method_3_code 34 = .ok (.istore_n 3, 1) := sorry
theorem d_Presser_findLongest_35 : decode prog_8_method_3_code 35 = .ok (.iconst 0, 1) := sorry
theorem d_Presser_findLongest_36 : decode prog_8_method_3_code 36 = .ok (.istore 4, 2) := sorry
theorem d_Presser_findLongest_38 : decode prog_8_method_3_code 38 = .ok (.iload 4, 2) := sorry
theorem d_Presser_findLongest_40 : decode prog_8_method_3_code 40 = .ok (.iload_n 1, 1) := sorry
theorem d_Presser_findLongest_41 : decode prog_8_method_3_code 41 = .ok (.if_icmp .ge 65, 3) := sorry
theorem d_Presser_findLongest_106 : decode prog_8_method_3_code 106 = .ok (.return_, 1) := sorry
theorem d_Presser_findLongest_44 : decode prog_8_method_3_code 44 = .ok (.iload_n 3, 1) := sorry
theorem d_Presser_findLongest_45 : decode prog_8_method_3_code 45 = .ok (.ifCond .lt 61, 3) := sorry
theorem d_Presser_findLongest_48 : decode prog_8_method_3_code 48 = .ok (.aload_n 0, 1) := sorry
theorem d_Presser_findLongest_49 : decode prog_8_method_3_code 49 = .ok (.getfield 55, 3) := sorry
theorem d_Presser_findLongest_52 : decode prog_8_method_3_code 52 = .ok (.iload_n 2, 1) := sorry
theorem d_Presser_findLongest_53 : decode prog_8_method_3_code 53 = .ok (.if_icmp .ge 53, 3) := sorry
theorem d_Presser_findLongest_56 : decode prog_8_method_3_code 56 = .ok (.aload_n 0, 1) := sorry
theorem d_Presser_findLongest_57 : decode prog_8_method_3_code 57 = .ok (.iload_n 3, 1) := sorry
theorem d_Presser_findLongest_58 : decode prog_8_method_3_code 58 = .ok (.iload_n 1, 1) := sorry
theorem d_Presser_findLongest_59 : decode prog_8_method_3_code 59 = .ok (.iload_n 2, 1) := sorry
theorem d_Presser_findLongest_60 : decode prog_8_method_3_code 60 = .ok (.invokevirtual 80, 3) := sorry
theorem k_520 : (Jvm.Cond.methodLink "PackageBook$Presser" (80 : Nat) ({ cls := "PackageBook$Presser", name := "sameFrom", desc := "(III)I" } : Jvm.MethodName)) ∈ uW := sorry
theorem k_523 : (Jvm.Cond.code ({ cls := "PackageBook$Presser", name := "sameFrom", desc := "(III)I" } : Jvm.MethodName) prog_8_method_4_code (5 : Nat) (Option.some Jvm.ClassFile.FieldType.int)) ∈ uW := sorry
theorem k_522 : (Jvm.Cond.instanceMethod ({ cls := "PackageBook$Presser", name := "sameFrom", desc := "(III)I" } : Jvm.MethodName)) ∈ uW := sorry
theorem k_5 : Cond.selects "PackageBook$Presser" ⟨"PackageBook$Presser", "sameFrom", "(III)I"⟩ ⟨"PackageBook$Presser", "sameFrom", "(III)I"⟩ ∈ uW := sorry
theorem hy_Presser_sameFrom : (y_Presser_sameFrom).cls ≠ "java/lang/invoke/MethodHandle" ∧ (y_Presser_sameFrom).cls ≠ "java/lang/invoke/VarHandle" ∧ (parseMethodDescriptor (y_Presser_sameFrom).desc).map (fun d => d.parameters.length) = some 3 := sorry
theorem d_Presser_findLongest_63 : decode prog_8_method_3_code 63 = .ok (.istore 5, 2) := sorry
theorem d_Presser_findLongest_93 : decode prog_8_method_3_code 93 = .ok (.aload_n 0, 1) := sorry
theorem d_Presser_findLongest_94 : decode prog_8_method_3_code 94 = .ok (.getfield 24, 3) := sorry
theorem d_Presser_findLongest_97 : decode prog_8_method_3_code 97 = .ok (.iload_n 3, 1) := sorry
theorem d_Presser_findLongest_98 : decode prog_8_method_3_code 98 = .ok (.iaload, 1) := sorry
theorem d_Presser_findLongest_99 : decode prog_8_method_3_code 99 = .ok (.istore_n 3, 1) := sorry
theorem d_Presser_findLongest_100 : decode prog_8_method_3_code 100 = .ok (.iinc 4 1, 3) := sorry
theorem d_Presser_findLongest_103 : decode prog_8_method_3_code 103 = .ok (.goto (-65), 3) := sorry
theorem d_Presser_findLongest_65 : decode prog_8_method_3_code 65 = .ok (.iload 5, 2) := sorry
theorem d_Presser_findLongest_67 : decode prog_8_method_3_code 67 = .ok (.iconst 3, 1) := sorry
theorem d_Presser_findLongest_68 : decode prog_8_method_3_code 68 = .ok (.if_icmp .lt 25, 3) := sorry
theorem d_Presser_findLongest_71 : decode prog_8_method_3_code 71 = .ok (.iload 5, 2) := sorry
theorem d_Presser_findLongest_73 : decode prog_8_method_3_code 73 = .ok (.aload_n 0, 1) := sorry
theorem d_Presser_findLongest_74 : decode prog_8_method_3_code 74 = .ok (.getfield 55, 3) := sorry
theorem d_Presser_findLongest_77 : decode prog_8_method_3_code 77 = .ok (.if_icmp .le 16, 3) := sorry
theorem d_Presser_findLongest_80 : decode prog_8_method_3_code 80 = .ok (.aload_n 0, 1) := sorry
theorem d_Presser_findLongest_81 : decode prog_8_method_3_code 81 = .ok (.iload 5, 2) := sorry
theorem d_Presser_findLongest_83 : decode prog_8_method_3_code 83 = .ok (.putfield 55, 3) := sorry
theorem d_Presser_findLongest_86 : decode prog_8_method_3_code 86 = .ok (.aload_n 0, 1) := sorry
theorem d_Presser_findLongest_87 : decode prog_8_method_3_code 87 = .ok (.iload_n 1, 1) := sorry
theorem d_Presser_findLongest_88 : decode prog_8_method_3_code 88 = .ok (.iload_n 3, 1) := sorry
theorem d_Presser_findLongest_89 : decode prog_8_method_3_code 89 = .ok (.isub, 1) := sorry
theorem d_Presser_findLongest_90 : decode prog_8_method_3_code 90 = .ok (.putfield 84, 3) := sorry
theorem d_Presser_findLongest_23 : decode prog_8_method_3_code 23 = .ok (.return_, 1) := sorry
abbrev y_Presser_findLongest : MethodName := ⟨"PackageBook$Presser", "findLongest", "(I)V"⟩
abbrev i_Presser_findLongest : pb_I := (y_Presser_findLongest, prog_8_method_3_code, 6, (Option.none : Option Jvm.ClassFile.FieldType), [], { frames := 1, cells := 0, slots := 0, locals := 40 })
theorem g_Pr_findLongest {l : Launch} (hl : l.stackTraces = false) (G : pb_G) (h : Nat) (pp : Nat) (pl : Nat) (pe : Nat) (pr : Nat) (pb : Nat) (bg : Int32) (sz : Int32) (bt : Int32) (ln : Int32) (ds : Int32) (N : Nat) (fr : Nat → Int32) (fl : Nat → Int32) (fe : Nat → Int32) (x : Int32) (r0 : 0 ≤ bg.toInt) (r1 : bg.toInt + sz.toInt ≤ N) (r2 : N ≤ 100000) (r3 : sz.toInt ≤ 4000) (r4 : 0 ≤ sz.toInt) (x0 : 0 ≤ x.toInt) (x1 : x.toInt < sz.toInt) (I : ch_I (sq fr bg.toInt sz.toInt) sz.toInt x.toInt fl fe) (F_fr : sb_Fit fr) : Cn l G i_Presser_findLongest [.ref h, .int x] [(h, .inr (4, [.ref pp, .ref pl, .ref pe, .ref pr, .int bg, .int sz, .int bt, .int ln, .int ds])), (pr, .inl (G.2.1, N, .inl fr)), (pl, .inl (G.2.2.1, 1024, .inl fl)), (pe, .inl (G.2.2.1, 4000, .inl fe))] (S := Int32 × Int32) (fun rv_ u => rv_ = none ∧ (fl_R (sq fr bg.toInt sz.toInt) sz.toInt x.toInt u.1.toInt u.2.toInt)) (fun u => [(h, .inr (4, [.ref pp, .ref pl, .ref pe, .ref pr, .int bg, .int sz, .int bt, .int u.1, .int u.2])), (pr, .inl (G.2.1, N, .inl fr)), (pl, .inl (G.2.2.1, 1024, .inl fl)), (pe, .inl (G.2.2.1, 4000, .inl fe))]) := sorry
