theorem d_FileReader_isRecordOf_0 : decode prog_5_method_7_code 0 = .ok (.aload_n 0, 1) := sorry
theorem d_FileReader_isRecordOf_1 : decode prog_5_method_7_code 1 = .ok (.getfield 9, 3) := sorry
theorem d_FileReader_isRecordOf_4 : decode prog_5_method_7_code 4 = .ok (.iload_n 2, 1) := sorry
theorem d_FileReader_isRecordOf_5 : decode prog_5_method_7_code 5 = .ok (.invokestatic 28, 3) := sorry
theorem d_FileReader_isRecordOf_8 : decode prog_5_method_7_code 8 = .ok (.ldc2_w 85, 3) := sorry
theorem k_618 : (Jvm.Cond.constantLong "PackageBook$FileReader" (85 : Nat) (67324752 : Int64)) ∈ uW := sorry
theorem d_FileReader_isRecordOf_11 : decode prog_5_method_7_code 11 = .ok (.lcmp, 1) := sorry
theorem d_FileReader_isRecordOf_12 : decode prog_5_method_7_code 12 = .ok (.ifCond .ne 53, 3) := sorry
theorem d_FileReader_isRecordOf_65 : decode prog_5_method_7_code 65 = .ok (.iconst 0, 1) := sorry
theorem d_FileReader_isRecordOf_66 : decode prog_5_method_7_code 66 = .ok (.ireturn, 1) := sorry
theorem d_FileReader_isRecordOf_15 : decode prog_5_method_7_code 15 = .ok (.aload_n 0, 1) := sorry
theorem d_FileReader_isRecordOf_16 : decode prog_5_method_7_code 16 = .ok (.getfield 9, 3) := sorry
theorem d_FileReader_isRecordOf_19 : decode prog_5_method_7_code 19 = .ok (.iload_n 1, 1) := sorry
theorem d_FileReader_isRecordOf_20 : decode prog_5_method_7_code 20 = .ok (.bipush 6, 2) := sorry
theorem d_FileReader_isRecordOf_22 : decode prog_5_method_7_code 22 = .ok (.iadd, 1) := sorry
theorem d_FileReader_isRecordOf_23 : decode prog_5_method_7_code 23 = .ok (.aload_n 0, 1) := sorry
theorem d_FileReader_isRecordOf_24 : decode prog_5_method_7_code 24 = .ok (.getfield 9, 3) := sorry
theorem d_FileReader_isRecordOf_27 : decode prog_5_method_7_code 27 = .ok (.iload_n 2, 1) := sorry
theorem d_FileReader_isRecordOf_28 : decode prog_5_method_7_code 28 = .ok (.iconst 4, 1) := sorry
theorem d_FileReader_isRecordOf_29 : decode prog_5_method_7_code 29 = .ok (.iadd, 1) := sorry
theorem d_FileReader_isRecordOf_30 : decode prog_5_method_7_code 30 = .ok (.bipush 26, 2) := sorry
theorem d_FileReader_isRecordOf_32 : decode prog_5_method_7_code 32 = .ok (.invokestatic 87, 3) := sorry
theorem k_619 : (Jvm.Cond.methodLinkNest "PackageBook$FileReader" (87 : Nat) ({ cls := "PackageBook", name := "isSame", desc := "([BI[BII)Z" } : Jvm.MethodName) "PackageBook") ∈ uN := sorry
theorem d_FileReader_isRecordOf_35 : decode prog_5_method_7_code 35 = .ok (.ifCond .eq 30, 3) := sorry
theorem d_FileReader_isRecordOf_38 : decode prog_5_method_7_code 38 = .ok (.aload_n 0, 1) := sorry
theorem d_FileReader_isRecordOf_39 : decode prog_5_method_7_code 39 = .ok (.getfield 9, 3) := sorry
theorem d_FileReader_isRecordOf_42 : decode prog_5_method_7_code 42 = .ok (.iload_n 1, 1) := sorry
theorem d_FileReader_isRecordOf_43 : decode prog_5_method_7_code 43 = .ok (.bipush 46, 2) := sorry
theorem d_FileReader_isRecordOf_45 : decode prog_5_method_7_code 45 = .ok (.iadd, 1) := sorry
theorem d_FileReader_isRecordOf_46 : decode prog_5_method_7_code 46 = .ok (.aload_n 0, 1) := sorry
theorem d_FileReader_isRecordOf_47 : decode prog_5_method_7_code 47 = .ok (.getfield 9, 3) := sorry
theorem d_FileReader_isRecordOf_50 : decode prog_5_method_7_code 50 = .ok (.iload_n 2, 1) := sorry
theorem d_FileReader_isRecordOf_51 : decode prog_5_method_7_code 51 = .ok (.bipush 30, 2) := sorry
theorem d_FileReader_isRecordOf_53 : decode prog_5_method_7_code 53 = .ok (.iadd, 1) := sorry
theorem d_FileReader_isRecordOf_54 : decode prog_5_method_7_code 54 = .ok (.iload_n 3, 1) := sorry
theorem d_FileReader_isRecordOf_55 : decode prog_5_method_7_code 55 = .ok (.invokestatic 87, 3) := sorry
theorem d_FileReader_isRecordOf_58 : decode prog_5_method_7_code 58 = .ok (.ifCond .eq 7, 3) := sorry
theorem d_FileReader_isRecordOf_61 : decode prog_5_method_7_code 61 = .ok (.iconst 1, 1) := sorry
theorem d_FileReader_isRecordOf_62 : decode prog_5_method_7_code 62 = .ok (.goto 4, 3) := sorry
abbrev y_FileReader_isRecordOf : MethodName := ⟨"PackageBook$FileReader", "isRecordOf", "(III)Z"⟩
abbrev i_FileReader_isRecordOf : pb_I := (y_FileReader_isRecordOf, prog_5_method_7_code, 4, (some Jvm.ClassFile.FieldType.boolean), [], { frames := 2, cells := 0, slots := 0, locals := 42 })
theorem g_Rd_isRecordOf {l : Launch} (hl : l.stackTraces = false) (G : pb_G) (h : Nat) (b : Nat) (N : Nat) (f : Nat → Int32) (x : Int32) (y : Int32) (n : Int32) (A : Int → Int32) (Zs : Int) (h0 : 0 ≤ x.toInt) (h1 : x.toInt + 46 + n.toInt ≤ N) (h2 : 0 ≤ y.toInt) (h3 : y.toInt + 30 + n.toInt ≤ N) (h4 : 0 ≤ n.toInt) (hN : N ≤ 100000) (hA : ∀ j : Int, 0 ≤ j → j < Zs → A j = gr f j) (hZ : x.toInt + 46 + n.toInt ≤ Zs) (hZ2 : y.toInt + 30 + n.toInt ≤ Zs) (F_f : sb_Fit f) : Cn l G i_FileReader_isRecordOf [.ref h, .int x, .int y, .int n] [(h, .inr (7, [.ref b])), (b, .inl (G.2.1, N, .inl f))] (S := Int32) (fun rv_ u => rv_ = some (.int u) ∧ (u.toInt = 0 ∨ u.toInt = 1) ∧ (u.toInt = 1 → aw A y.toInt 4 = 67324752 ∧ (∀ k : Int, 0 ≤ k → k < 26 → A (x.toInt + 6 + k) = A (y.toInt + 4 + k)) ∧ ∀ k : Int, 0 ≤ k → k < n.toInt → A (x.toInt + 46 + k) = A (y.toInt + 30 + k)) ∧ (u.toInt = 0 → ¬ (aw A y.toInt 4 = 67324752 ∧ (∀ k : Int, 0 ≤ k → k < 26 → A (x.toInt + 6 + k) = A (y.toInt + 4 + k)) ∧ ∀ k : Int, 0 ≤ k → k < n.toInt → A (x.toInt + 46 + k) = A (y.toInt + 30 + k)))) (fun u => [(h, .inr (7, [.ref b])), (b, .inl (G.2.1, N, .inl f))]) := sorry
theorem d_FileReader_isDirectory_0 : decode prog_5_method_4_code 0 = .ok (.iload_n 1, 1) := sorry
theorem d_FileReader_isDirectory_1 : decode prog_5_method_4_code 1 = .ok (.istore 4, 2) := sorry
theorem d_FileReader_isDirectory_3 : decode prog_5_method_4_code 3 = .ok (.iconst 0, 1) := sorry
theorem d_FileReader_isDirectory_4 : decode prog_5_method_4_code 4 = .ok (.istore 5, 2) := sorry
theorem d_FileReader_isDirectory_6 : decode prog_5_method_4_code 6 = .ok (.iload 5, 2) := sorry
theorem d_FileReader_isDirectory_8 : decode prog_5_method_4_code 8 = .ok (.iload_n 3, 1) := sorry
theorem d_FileReader_isDirectory_9 : decode prog_5_method_4_code 9 = .ok (.if_icmp .ge 49, 3) := sorry
theorem d_FileReader_isDirectory_58 : decode prog_5_method_4_code 58 = .ok (.iload 4, 2) := sorry
theorem d_FileReader_isDirectory_60 : decode prog_5_method_4_code 60 = .ok (.iload_n 2, 1) := sorry
theorem d_FileReader_isDirectory_61 : decode prog_5_method_4_code 61 = .ok (.if_icmp .ne 7, 3) := sorry
theorem d_FileReader_isDirectory_68 : decode prog_5_method_4_code 68 = .ok (.iconst 0, 1) := sorry
theorem d_FileReader_isDirectory_69 : decode prog_5_method_4_code 69 = .ok (.ireturn, 1) := sorry
theorem d_FileReader_isDirectory_64 : decode prog_5_method_4_code 64 = .ok (.iconst 1, 1) := sorry
theorem d_FileReader_isDirectory_65 : decode prog_5_method_4_code 65 = .ok (.goto 4, 3) := sorry
theorem d_FileReader_isDirectory_12 : decode prog_5_method_4_code 12 = .ok (.iload_n 2, 1) := sorry
theorem d_FileReader_isDirectory_13 : decode prog_5_method_4_code 13 = .ok (.iload 4, 2) := sorry
theorem d_FileReader_isDirectory_15 : decode prog_5_method_4_code 15 = .ok (.isub, 1) := sorry
theorem d_FileReader_isDirectory_16 : decode prog_5_method_4_code 16 = .ok (.bipush 46, 2) := sorry
theorem d_FileReader_isDirectory_18 : decode prog_5_method_4_code 18 = .ok (.if_icmp .lt 12, 3) := sorry
theorem d_FileReader_isDirectory_30 : decode prog_5_method_4_code 30 = .ok (.iconst 0, 1) := sorry
theorem d_FileReader_isDirectory_31 : decode prog_5_method_4_code 31 = .ok (.ireturn, 1) := sorry
theorem d_FileReader_isDirectory_21 : decode prog_5_method_4_code 21 = .ok (.aload_n 0, 1) := sorry
theorem d_FileReader_isDirectory_22 : decode prog_5_method_4_code 22 = .ok (.iload 4, 2) := sorry
theorem d_FileReader_isDirectory_24 : decode prog_5_method_4_code 24 = .ok (.invokevirtual 42, 3) := sorry
theorem k_604 : (Jvm.Cond.methodLink "PackageBook$FileReader" (42 : Nat) ({ cls := "PackageBook$FileReader", name := "isEntry", desc := "(I)Z" } : Jvm.MethodName)) ∈ uW := sorry
theorem k_607 : (Jvm.Cond.code ({ cls := "PackageBook$FileReader", name := "isEntry", desc := "(I)Z" } : Jvm.MethodName) prog_5_method_5_code (3 : Nat) (Option.some Jvm.ClassFile.FieldType.boolean)) ∈ uW := sorry
theorem k_606 : (Jvm.Cond.instanceMethod ({ cls := "PackageBook$FileReader", name := "isEntry", desc := "(I)Z" } : Jvm.MethodName)) ∈ uW := sorry
theorem k_14 : Cond.selects "PackageBook$FileReader" ⟨"PackageBook$FileReader", "isEntry", "(I)Z"⟩ ⟨"PackageBook$FileReader", "isEntry", "(I)Z"⟩ ∈ uW := sorry
theorem hy_FileReader_isEntry : (y_FileReader_isEntry).cls ≠ "java/lang/invoke/MethodHandle" ∧ (y_FileReader_isEntry).cls ≠ "java/lang/invoke/VarHandle" ∧ (parseMethodDescriptor (y_FileReader_isEntry).desc).map (fun d => d.parameters.length) = some 1 := sorry
theorem d_FileReader_isDirectory_27 : decode prog_5_method_4_code 27 = .ok (.ifCond .ne 5, 3) := sorry
theorem d_FileReader_isDirectory_32 : decode prog_5_method_4_code 32 = .ok (.iload 4, 2) := sorry
theorem d_FileReader_isDirectory_34 : decode prog_5_method_4_code 34 = .ok (.bipush 46, 2) := sorry
theorem d_FileReader_isDirectory_36 : decode prog_5_method_4_code 36 = .ok (.aload_n 0, 1) := sorry
theorem d_FileReader_isDirectory_37 : decode prog_5_method_4_code 37 = .ok (.getfield 9, 3) := sorry
theorem d_FileReader_isDirectory_40 : decode prog_5_method_4_code 40 = .ok (.iload 4, 2) := sorry
theorem d_FileReader_isDirectory_42 : decode prog_5_method_4_code 42 = .ok (.bipush 28, 2) := sorry
theorem d_FileReader_isDirectory_44 : decode prog_5_method_4_code 44 = .ok (.iadd, 1) := sorry
theorem d_FileReader_isDirectory_45 : decode prog_5_method_4_code 45 = .ok (.invokestatic 24, 3) := sorry
theorem d_FileReader_isDirectory_48 : decode prog_5_method_4_code 48 = .ok (.iadd, 1) := sorry
theorem d_FileReader_isDirectory_49 : decode prog_5_method_4_code 49 = .ok (.iadd, 1) := sorry
theorem d_FileReader_isDirectory_50 : decode prog_5_method_4_code 50 = .ok (.istore 4, 2) := sorry
theorem d_FileReader_isDirectory_52 : decode prog_5_method_4_code 52 = .ok (.iinc 5 1, 3) := sorry
theorem d_FileReader_isDirectory_55 : decode prog_5_method_4_code 55 = .ok (.goto (-49), 3) := sorry
abbrev y_FileReader_isDirectory : MethodName := ⟨"PackageBook$FileReader", "isDirectory", "(III)Z"⟩
abbrev i_FileReader_isDirectory : pb_I := (y_FileReader_isDirectory, prog_5_method_4_code, 6, (some Jvm.ClassFile.FieldType.boolean), [], { frames := 3, cells := 0, slots := 0, locals := 64 })
theorem g_Rd_isDirectory {l : Launch} (hl : l.stackTraces = false) (G : pb_G) (h : Nat) (b : Nat) (N : Nat) (f : Nat → Int32) (x : Int32) (e : Int32) (n : Int32) (D : Int) (A : Int → Int32) (Zs : Int) (hD : x.toInt = D) (h0 : 0 ≤ x.toInt) (h1 : e.toInt ≤ N) (h2 : 0 ≤ n.toInt) (h3 : x.toInt ≤ e.toInt) (hN : N ≤ 100000) (hA : ∀ j : Int, 0 ≤ j → j < Zs → A j = gr f j) (hZ : e.toInt ≤ Zs) (F_f : sb_Fit f) : Cn l G i_FileReader_isDirectory [.ref h, .int x, .int e, .int n] [(h, .inr (7, [.ref b])), (b, .inl (G.2.1, N, .inl f))] (S := Int32) (fun rv_ u => rv_ = some (.int u) ∧ (u.toInt = 0 ∨ u.toInt = 1) ∧ (u.toInt = 1 → dp f D n.toInt = e.toInt ∧ ∀ j : Int, 0 ≤ j → j < n.toInt → dp f D j + 46 ≤ e.toInt) ∧ (u.toInt = 1 → dy_ A D e.toInt n.toInt.toNat) ∧ (u.toInt = 0 → ¬ dy_ A D e.toInt n.toInt.toNat)) (fun u => [(h, .inr (7, [.ref b])), (b, .inl (G.2.1, N, .inl f))]) := sorry
theorem d_FileReader_readEntry_0 : decode prog_5_method_6_code 0 = .ok (.aload_n 0, 1) := sorry
theorem d_FileReader_readEntry_1 : decode prog_5_method_6_code 1 = .ok (.getfield 9, 3) := sorry
theorem d_FileReader_readEntry_4 : decode prog_5_method_6_code 4 = .ok (.iload_n 1, 1) := sorry
theorem d_FileReader_readEntry_5 : decode prog_5_method_6_code 5 = .ok (.bipush 42, 2) := sorry
theorem d_FileReader_readEntry_7 : decode prog_5_method_6_code 7 = .ok (.iadd, 1) := sorry
theorem d_FileReader_readEntry_8 : decode prog_5_method_6_code 8 = .ok (.invokestatic 28, 3) := sorry
theorem d_FileReader_readEntry_11 : decode prog_5_method_6_code 11 = .ok (.lstore 6, 2) := sorry
theorem d_FileReader_readEntry_13 : decode prog_5_method_6_code 13 = .ok (.aload_n 0, 1) := sorry
theorem d_FileReader_readEntry_14 : decode prog_5_method_6_code 14 = .ok (.getfield 9, 3) := sorry
theorem d_FileReader_readEntry_17 : decode prog_5_method_6_code 17 = .ok (.iload_n 1, 1) := sorry
theorem d_FileReader_readEntry_18 : decode prog_5_method_6_code 18 = .ok (.bipush 20, 2) := sorry
theorem d_FileReader_readEntry_20 : decode prog_5_method_6_code 20 = .ok (.iadd, 1) := sorry
theorem d_FileReader_readEntry_21 : decode prog_5_method_6_code 21 = .ok (.invokestatic 28, 3) := sorry
theorem d_FileReader_readEntry_24 : decode prog_5_method_6_code 24 = .ok (.lstore 8, 2) := sorry
theorem d_FileReader_readEntry_26 : decode prog_5_method_6_code 26 = .ok (.aload_n 0, 1) := sorry
theorem d_FileReader_readEntry_27 : decode prog_5_method_6_code 27 = .ok (.getfield 9, 3) := sorry
theorem d_FileReader_readEntry_30 : decode prog_5_method_6_code 30 = .ok (.iload_n 1, 1) := sorry
theorem d_FileReader_readEntry_31 : decode prog_5_method_6_code 31 = .ok (.bipush 28, 2) := sorry
theorem d_FileReader_readEntry_33 : decode prog_5_method_6_code 33 = .ok (.iadd, 1) := sorry
theorem d_FileReader_readEntry_34 : decode prog_5_method_6_code 34 = .ok (.invokestatic 24, 3) := sorry
theorem d_FileReader_readEntry_37 : decode prog_5_method_6_code 37 = .ok (.istore 10, 2) := sorry
theorem d_FileReader_readEntry_39 : decode prog_5_method_6_code 39 = .ok (.lload 6, 2) := sorry
theorem d_FileReader_readEntry_41 : decode prog_5_method_6_code 41 = .ok (.ldc2_w 47, 3) := sorry
theorem k_613 : (Jvm.Cond.constantLong "PackageBook$FileReader" (47 : Nat) (30 : Int64)) ∈ uW := sorry
theorem d_FileReader_readEntry_44 : decode prog_5_method_6_code 44 = .ok (.ladd, 1) := sorry
theorem d_FileReader_readEntry_45 : decode prog_5_method_6_code 45 = .ok (.iload 10, 2) := sorry
theorem d_FileReader_readEntry_47 : decode prog_5_method_6_code 47 = .ok (.i2l, 1) := sorry
theorem d_FileReader_readEntry_48 : decode prog_5_method_6_code 48 = .ok (.ladd, 1) := sorry
theorem d_FileReader_readEntry_49 : decode prog_5_method_6_code 49 = .ok (.lstore 11, 2) := sorry
theorem d_FileReader_readEntry_51 : decode prog_5_method_6_code 51 = .ok (.lload 11, 2) := sorry
theorem d_FileReader_readEntry_53 : decode prog_5_method_6_code 53 = .ok (.lload 8, 2) := sorry
theorem d_FileReader_readEntry_55 : decode prog_5_method_6_code 55 = .ok (.ladd, 1) := sorry
theorem d_FileReader_readEntry_56 : decode prog_5_method_6_code 56 = .ok (.lload_n 2, 1) := sorry
theorem d_FileReader_readEntry_57 : decode prog_5_method_6_code 57 = .ok (.lcmp, 1) := sorry
theorem d_FileReader_readEntry_58 : decode prog_5_method_6_code 58 = .ok (.ifCond .gt 16, 3) := sorry
theorem d_FileReader_readEntry_74 : decode prog_5_method_6_code 74 = .ok (.iconst 3, 1) := sorry
theorem d_FileReader_readEntry_75 : decode prog_5_method_6_code 75 = .ok (.ireturn, 1) := sorry
theorem d_FileReader_readEntry_61 : decode prog_5_method_6_code 61 = .ok (.aload_n 0, 1) := sorry
theorem d_FileReader_readEntry_62 : decode prog_5_method_6_code 62 = .ok (.iload_n 1, 1) := sorry
theorem d_FileReader_readEntry_63 : decode prog_5_method_6_code 63 = .ok (.lload 6, 2) := sorry
theorem d_FileReader_readEntry_65 : decode prog_5_method_6_code 65 = .ok (.l2i, 1) := sorry
theorem d_FileReader_readEntry_66 : decode prog_5_method_6_code 66 = .ok (.iload 10, 2) := sorry
theorem d_FileReader_readEntry_68 : decode prog_5_method_6_code 68 = .ok (.invokevirtual 49, 3) := sorry
theorem k_614 : (Jvm.Cond.methodLink "PackageBook$FileReader" (49 : Nat) ({ cls := "PackageBook$FileReader", name := "isRecordOf", desc := "(III)Z" } : Jvm.MethodName)) ∈ uW := sorry
theorem k_617 : (Jvm.Cond.code ({ cls := "PackageBook$FileReader", name := "isRecordOf", desc := "(III)Z" } : Jvm.MethodName) prog_5_method_7_code (4 : Nat) (Option.some Jvm.ClassFile.FieldType.boolean)) ∈ uW := sorry
theorem k_616 : (Jvm.Cond.instanceMethod ({ cls := "PackageBook$FileReader", name := "isRecordOf", desc := "(III)Z" } : Jvm.MethodName)) ∈ uW := sorry
theorem k_16 : Cond.selects "PackageBook$FileReader" ⟨"PackageBook$FileReader", "isRecordOf", "(III)Z"⟩ ⟨"PackageBook$FileReader", "isRecordOf", "(III)Z"⟩ ∈ uW := sorry
theorem hy_FileReader_isRecordOf : (y_FileReader_isRecordOf).cls ≠ "java/lang/invoke/MethodHandle" ∧ (y_FileReader_isRecordOf).cls ≠ "java/lang/invoke/VarHandle" ∧ (parseMethodDescriptor (y_FileReader_isRecordOf).desc).map (fun d => d.parameters.length) = some 3 := sorry
theorem d_FileReader_readEntry_71 : decode prog_5_method_6_code 71 = .ok (.ifCond .ne 5, 3) := sorry
theorem d_FileReader_readEntry_76 : decode prog_5_method_6_code 76 = .ok (.iload_n 1, 1) := sorry
theorem d_FileReader_readEntry_77 : decode prog_5_method_6_code 77 = .ok (.bipush 46, 2) := sorry
theorem d_FileReader_readEntry_79 : decode prog_5_method_6_code 79 = .ok (.iadd, 1) := sorry
theorem d_FileReader_readEntry_80 : decode prog_5_method_6_code 80 = .ok (.istore 13, 2) := sorry
theorem d_FileReader_readEntry_82 : decode prog_5_method_6_code 82 = .ok (.aload_n 0, 1) := sorry
theorem d_FileReader_readEntry_83 : decode prog_5_method_6_code 83 = .ok (.getfield 9, 3) := sorry
theorem d_FileReader_readEntry_86 : decode prog_5_method_6_code 86 = .ok (.iload 13, 2) := sorry
theorem d_FileReader_readEntry_88 : decode prog_5_method_6_code 88 = .ok (.iload 10, 2) := sorry
theorem d_FileReader_readEntry_90 : decode prog_5_method_6_code 90 = .ok (.invokestatic 52, 3) := sorry
theorem k_620 : (Jvm.Cond.methodLinkNest "PackageBook$FileReader" (52 : Nat) ({ cls := "PackageBook", name := "isName", desc := "([BII)Z" } : Jvm.MethodName) "PackageBook") ∈ uN := sorry
theorem k_622 : (Jvm.Cond.code ({ cls := "PackageBook", name := "isName", desc := "([BII)Z" } : Jvm.MethodName) prog_1_method_26_code (6 : Nat) (Option.some Jvm.ClassFile.FieldType.boolean)) ∈ uW := sorry
theorem k_621 : (Jvm.Cond.static ({ cls := "PackageBook", name := "isName", desc := "([BII)Z" } : Jvm.MethodName)) ∈ uW := sorry
theorem hy_Book_isName : (y_Book_isName).cls ≠ "java/lang/invoke/MethodHandle" ∧ (y_Book_isName).cls ≠ "java/lang/invoke/VarHandle" ∧ (parseMethodDescriptor (y_Book_isName).desc).map (fun d => d.parameters.length) = some 3 := sorry
theorem d_FileReader_readEntry_93 : decode prog_5_method_6_code 93 = .ok (.ifCond .eq 19, 3) := sorry
theorem d_FileReader_readEntry_112 : decode prog_5_method_6_code 112 = .ok (.iconst 4, 1) := sorry
theorem d_FileReader_readEntry_113 : decode prog_5_method_6_code 113 = .ok (.ireturn, 1) := sorry
theorem d_FileReader_readEntry_96 : decode prog_5_method_6_code 96 = .ok (.aload 4, 2) := sorry
theorem d_FileReader_readEntry_98 : decode prog_5_method_6_code 98 = .ok (.aload_n 0, 1) := sorry
theorem d_FileReader_readEntry_99 : decode prog_5_method_6_code 99 = .ok (.getfield 9, 3) := sorry
theorem d_FileReader_readEntry_102 : decode prog_5_method_6_code 102 = .ok (.iload 13, 2) := sorry
theorem d_FileReader_readEntry_104 : decode prog_5_method_6_code 104 = .ok (.iload 10, 2) := sorry
theorem d_FileReader_readEntry_106 : decode prog_5_method_6_code 106 = .ok (.invokevirtual 56, 3) := sorry
theorem k_626 : (Jvm.Cond.methodLink "PackageBook$FileReader" (56 : Nat) ({ cls := "PackageBook$Shelf", name := "find", desc := "([BII)I" } : Jvm.MethodName)) ∈ uW := sorry
theorem d_FileReader_readEntry_109 : decode prog_5_method_6_code 109 = .ok (.ifCond .lt 5, 3) := sorry
theorem d_FileReader_readEntry_114 : decode prog_5_method_6_code 114 = .ok (.aload_n 0, 1) := sorry
theorem d_FileReader_readEntry_115 : decode prog_5_method_6_code 115 = .ok (.getfield 9, 3) := sorry
theorem d_FileReader_readEntry_118 : decode prog_5_method_6_code 118 = .ok (.iload_n 1, 1) := sorry
theorem d_FileReader_readEntry_119 : decode prog_5_method_6_code 119 = .ok (.bipush 10, 2) := sorry
theorem d_FileReader_readEntry_121 : decode prog_5_method_6_code 121 = .ok (.iadd, 1) := sorry
theorem d_FileReader_readEntry_122 : decode prog_5_method_6_code 122 = .ok (.invokestatic 24, 3) := sorry
theorem d_FileReader_readEntry_125 : decode prog_5_method_6_code 125 = .ok (.bipush 8, 2) := sorry
theorem d_FileReader_readEntry_127 : decode prog_5_method_6_code 127 = .ok (.if_icmp .ne 7, 3) := sorry
theorem d_FileReader_readEntry_134 : decode prog_5_method_6_code 134 = .ok (.iconst 0, 1) := sorry
theorem d_FileReader_readEntry_135 : decode prog_5_method_6_code 135 = .ok (.istore 14, 2) := sorry
theorem d_FileReader_readEntry_137 : decode prog_5_method_6_code 137 = .ok (.iload 14, 2) := sorry
theorem d_FileReader_readEntry_139 : decode prog_5_method_6_code 139 = .ok (.ifCond .eq 21, 3) := sorry
theorem d_FileReader_readEntry_160 : decode prog_5_method_6_code 160 = .ok (.lload 8, 2) := sorry
theorem d_FileReader_readEntry_162 : decode prog_5_method_6_code 162 = .ok (.l2i, 1) := sorry
theorem d_FileReader_readEntry_163 : decode prog_5_method_6_code 163 = .ok (.istore 15, 2) := sorry
theorem d_FileReader_readEntry_165 : decode prog_5_method_6_code 165 = .ok (.iload 14, 2) := sorry
theorem d_FileReader_readEntry_167 : decode prog_5_method_6_code 167 = .ok (.ifCond .eq 14, 3) := sorry
theorem d_FileReader_readEntry_181 : decode prog_5_method_6_code 181 = .ok (.aload_n 0, 1) := sorry
theorem d_FileReader_readEntry_182 : decode prog_5_method_6_code 182 = .ok (.getfield 9, 3) := sorry
theorem d_FileReader_readEntry_185 : decode prog_5_method_6_code 185 = .ok (.astore 16, 2) := sorry
theorem d_FileReader_readEntry_187 : decode prog_5_method_6_code 187 = .ok (.iload 14, 2) := sorry
theorem d_FileReader_readEntry_189 : decode prog_5_method_6_code 189 = .ok (.ifCond .eq 7, 3) := sorry
theorem d_FileReader_readEntry_196 : decode prog_5_method_6_code 196 = .ok (.lload 11, 2) := sorry
theorem d_FileReader_readEntry_198 : decode prog_5_method_6_code 198 = .ok (.l2i, 1) := sorry
theorem d_FileReader_readEntry_199 : decode prog_5_method_6_code 199 = .ok (.istore 17, 2) := sorry
theorem d_FileReader_readEntry_201 : decode prog_5_method_6_code 201 = .ok (.iload 15, 2) := sorry
theorem d_FileReader_readEntry_203 : decode prog_5_method_6_code 203 = .ok (.i2l, 1) := sorry
theorem d_FileReader_readEntry_204 : decode prog_5_method_6_code 204 = .ok (.aload_n 0, 1) := sorry
theorem d_FileReader_readEntry_205 : decode prog_5_method_6_code 205 = .ok (.getfield 9, 3) := sorry
theorem d_FileReader_readEntry_208 : decode prog_5_method_6_code 208 = .ok (.iload_n 1, 1) := sorry
theorem d_FileReader_readEntry_209 : decode prog_5_method_6_code 209 = .ok (.bipush 24, 2) := sorry
theorem d_FileReader_readEntry_211 : decode prog_5_method_6_code 211 = .ok (.iadd, 1) := sorry
theorem d_FileReader_readEntry_212 : decode prog_5_method_6_code 212 = .ok (.invokestatic 28, 3) := sorry
theorem d_FileReader_readEntry_215 : decode prog_5_method_6_code 215 = .ok (.lcmp, 1) := sorry
theorem d_FileReader_readEntry_216 : decode prog_5_method_6_code 216 = .ok (.ifCond .ne 27, 3) := sorry
theorem d_FileReader_readEntry_243 : decode prog_5_method_6_code 243 = .ok (.iconst 5, 1) := sorry
theorem d_FileReader_readEntry_244 : decode prog_5_method_6_code 244 = .ok (.ireturn, 1) := sorry
theorem d_FileReader_readEntry_219 : decode prog_5_method_6_code 219 = .ok (.aload 16, 2) := sorry
theorem d_FileReader_readEntry_221 : decode prog_5_method_6_code 221 = .ok (.iload 17, 2) := sorry
theorem d_FileReader_readEntry_223 : decode prog_5_method_6_code 223 = .ok (.iload 15, 2) := sorry
theorem d_FileReader_readEntry_225 : decode prog_5_method_6_code 225 = .ok (.invokestatic 74, 3) := sorry
theorem k_692 : (Jvm.Cond.methodLinkNest "PackageBook$FileReader" (74 : Nat) ({ cls := "PackageBook", name := "sumOf", desc := "([BII)I" } : Jvm.MethodName) "PackageBook") ∈ uN := sorry
theorem d_FileReader_readEntry_228 : decode prog_5_method_6_code 228 = .ok (.aload_n 0, 1) := sorry
theorem d_FileReader_readEntry_229 : decode prog_5_method_6_code 229 = .ok (.getfield 9, 3) := sorry
theorem d_FileReader_readEntry_232 : decode prog_5_method_6_code 232 = .ok (.iload_n 1, 1) := sorry
theorem d_FileReader_readEntry_233 : decode prog_5_method_6_code 233 = .ok (.bipush 16, 2) := sorry
theorem d_FileReader_readEntry_235 : decode prog_5_method_6_code 235 = .ok (.iadd, 1) := sorry
theorem d_FileReader_readEntry_236 : decode prog_5_method_6_code 236 = .ok (.invokestatic 28, 3) := sorry
theorem d_FileReader_readEntry_239 : decode prog_5_method_6_code 239 = .ok (.l2i, 1) := sorry
theorem d_FileReader_readEntry_240 : decode prog_5_method_6_code 240 = .ok (.if_icmp .eq 5, 3) := sorry
theorem d_FileReader_readEntry_245 : decode prog_5_method_6_code 245 = .ok (.aload 4, 2) := sorry
theorem d_FileReader_readEntry_247 : decode prog_5_method_6_code 247 = .ok (.iconst (-1), 1) := sorry
theorem d_FileReader_readEntry_248 : decode prog_5_method_6_code 248 = .ok (.iload 15, 2) := sorry
theorem d_FileReader_readEntry_250 : decode prog_5_method_6_code 250 = .ok (.invokevirtual 77, 3) := sorry
theorem k_693 : (Jvm.Cond.methodLink "PackageBook$FileReader" (77 : Nat) ({ cls := "PackageBook$Shelf", name := "hasRoom", desc := "(II)Z" } : Jvm.MethodName)) ∈ uW := sorry
theorem k_696 : (Jvm.Cond.code ({ cls := "PackageBook$Shelf", name := "hasRoom", desc := "(II)Z" } : Jvm.MethodName) prog_10_method_7_code (4 : Nat) (Option.some Jvm.ClassFile.FieldType.boolean)) ∈ uW := sorry
theorem k_694 : (Jvm.Cond.instanceMethod ({ cls := "PackageBook$Shelf", name := "hasRoom", desc := "(II)Z" } : Jvm.MethodName)) ∈ uW := sorry
theorem k_695 : (Jvm.Cond.selects "PackageBook$Shelf" ({ cls := "PackageBook$Shelf", name := "hasRoom", desc := "(II)Z" } : Jvm.MethodName) ({ cls := "PackageBook$Shelf", name := "hasRoom", desc := "(II)Z" } : Jvm.MethodName)) ∈ uW := sorry
theorem hy_Shelf_hasRoom : (y_Shelf_hasRoom).cls ≠ "java/lang/invoke/MethodHandle" ∧ (y_Shelf_hasRoom).cls ≠ "java/lang/invoke/VarHandle" ∧ (parseMethodDescriptor (y_Shelf_hasRoom).desc).map (fun d => d.parameters.length) = some 2 := sorry
theorem d_FileReader_readEntry_253 : decode prog_5_method_6_code 253 = .ok (.ifCond .ne 6, 3) := sorry
theorem d_FileReader_readEntry_259 : decode prog_5_method_6_code 259 = .ok (.aload 4, 2) := sorry
theorem d_FileReader_readEntry_261 : decode prog_5_method_6_code 261 = .ok (.aload_n 0, 1) := sorry
theorem d_FileReader_readEntry_262 : decode prog_5_method_6_code 262 = .ok (.getfield 9, 3) := sorry
theorem d_FileReader_readEntry_265 : decode prog_5_method_6_code 265 = .ok (.iload 13, 2) := sorry
theorem d_FileReader_readEntry_267 : decode prog_5_method_6_code 267 = .ok (.iload 10, 2) := sorry
theorem d_FileReader_readEntry_269 : decode prog_5_method_6_code 269 = .ok (.aload 16, 2) := sorry
theorem d_FileReader_readEntry_271 : decode prog_5_method_6_code 271 = .ok (.iload 17, 2) := sorry
theorem d_FileReader_readEntry_273 : decode prog_5_method_6_code 273 = .ok (.iload 15, 2) := sorry
theorem d_FileReader_readEntry_275 : decode prog_5_method_6_code 275 = .ok (.invokevirtual 81, 3) := sorry
theorem k_697 : (Jvm.Cond.methodLink "PackageBook$FileReader" (81 : Nat) ({ cls := "PackageBook$Shelf", name := "bringIn", desc := "([BII[BII)V" } : Jvm.MethodName)) ∈ uW := sorry
theorem k_700 : (Jvm.Cond.code ({ cls := "PackageBook$Shelf", name := "bringIn", desc := "([BII[BII)V" } : Jvm.MethodName) prog_10_method_9_code (10 : Nat) (Option.none : Option Jvm.ClassFile.FieldType)) ∈ uW := sorry
theorem k_698 : (Jvm.Cond.instanceMethod ({ cls := "PackageBook$Shelf", name := "bringIn", desc := "([BII[BII)V" } : Jvm.MethodName)) ∈ uW := sorry
theorem k_699 : (Jvm.Cond.selects "PackageBook$Shelf" ({ cls := "PackageBook$Shelf", name := "bringIn", desc := "([BII[BII)V" } : Jvm.MethodName) ({ cls := "PackageBook$Shelf", name := "bringIn", desc := "([BII[BII)V" } : Jvm.MethodName)) ∈ uW := sorry
theorem hy_Shelf_bringIn : (y_Shelf_bringIn).cls ≠ "java/lang/invoke/MethodHandle" ∧ (y_Shelf_bringIn).cls ≠ "java/lang/invoke/VarHandle" ∧ (parseMethodDescriptor (y_Shelf_bringIn).desc).map (fun d => d.parameters.length) = some 6 := sorry
theorem d_FileReader_readEntry_278 : decode prog_5_method_6_code 278 = .ok (.iconst 0, 1) := sorry
theorem d_FileReader_readEntry_279 : decode prog_5_method_6_code 279 = .ok (.ireturn, 1) := sorry
theorem d_FileReader_readEntry_256 : decode prog_5_method_6_code 256 = .ok (.bipush 6, 2) := sorry
theorem d_FileReader_readEntry_258 : decode prog_5_method_6_code 258 = .ok (.ireturn, 1) := sorry
theorem d_FileReader_readEntry_130 : decode prog_5_method_6_code 130 = .ok (.iconst 1, 1) := sorry
theorem d_FileReader_readEntry_131 : decode prog_5_method_6_code 131 = .ok (.goto 4, 3) := sorry
theorem d_FileReader_readEntry_142 : decode prog_5_method_6_code 142 = .ok (.aload 5, 2) := sorry
theorem d_FileReader_readEntry_144 : decode prog_5_method_6_code 144 = .ok (.aload_n 0, 1) := sorry
theorem d_FileReader_readEntry_145 : decode prog_5_method_6_code 145 = .ok (.getfield 9, 3) := sorry
theorem d_FileReader_readEntry_148 : decode prog_5_method_6_code 148 = .ok (.lload 11, 2) := sorry
theorem d_FileReader_readEntry_150 : decode prog_5_method_6_code 150 = .ok (.l2i, 1) := sorry
theorem d_FileReader_readEntry_151 : decode prog_5_method_6_code 151 = .ok (.lload 8, 2) := sorry
theorem d_FileReader_readEntry_153 : decode prog_5_method_6_code 153 = .ok (.l2i, 1) := sorry
theorem d_FileReader_readEntry_154 : decode prog_5_method_6_code 154 = .ok (.invokevirtual 60, 3) := sorry
theorem k_627 : (Jvm.Cond.methodLink "PackageBook$FileReader" (60 : Nat) ({ cls := "PackageBook$Expander", name := "run", desc := "([BII)I" } : Jvm.MethodName)) ∈ uW := sorry
theorem k_630 : (Jvm.Cond.code ({ cls := "PackageBook$Expander", name := "run", desc := "([BII)I" } : Jvm.MethodName) prog_3_method_3_code (7 : Nat) (Option.some Jvm.ClassFile.FieldType.int)) ∈ uW := sorry
theorem k_628 : (Jvm.Cond.instanceMethod ({ cls := "PackageBook$Expander", name := "run", desc := "([BII)I" } : Jvm.MethodName)) ∈ uW := sorry
theorem k_629 : (Jvm.Cond.selects "PackageBook$Expander" ({ cls := "PackageBook$Expander", name := "run", desc := "([BII)I" } : Jvm.MethodName) ({ cls := "PackageBook$Expander", name := "run", desc := "([BII)I" } : Jvm.MethodName)) ∈ uW := sorry
theorem hy_Expander_run : (y_Expander_run).cls ≠ "java/lang/invoke/MethodHandle" ∧ (y_Expander_run).cls ≠ "java/lang/invoke/VarHandle" ∧ (parseMethodDescriptor (y_Expander_run).desc).map (fun d => d.parameters.length) = some 3 := sorry
theorem d_FileReader_readEntry_157 : decode prog_5_method_6_code 157 = .ok (.goto 6, 3) := sorry
theorem d_FileReader_readEntry_170 : decode prog_5_method_6_code 170 = .ok (.aload 5, 2) := sorry
theorem d_FileReader_readEntry_172 : decode prog_5_method_6_code 172 = .ok (.getfield 65, 3) := sorry
theorem k_249 : (Jvm.Cond.fieldLinkNest "PackageBook$FileReader" (65 : Nat) "PackageBook$Expander" "expanded" "LPackageBook$Row;" "PackageBook") ∈ uN := sorry
theorem d_FileReader_readEntry_175 : decode prog_5_method_6_code 175 = .ok (.getfield 69, 3) := sorry
theorem k_159 : (Jvm.Cond.fieldLinkNest "PackageBook$FileReader" (69 : Nat) "PackageBook$Row" "bytes" "[B" "PackageBook") ∈ uN := sorry
theorem d_FileReader_readEntry_178 : decode prog_5_method_6_code 178 = .ok (.goto 7, 3) := sorry
theorem d_FileReader_readEntry_192 : decode prog_5_method_6_code 192 = .ok (.iconst 0, 1) := sorry
theorem d_FileReader_readEntry_193 : decode prog_5_method_6_code 193 = .ok (.goto 6, 3) := sorry
abbrev y_FileReader_readEntry : MethodName := ⟨"PackageBook$FileReader", "readEntry", "(IJLPackageBook$Shelf;LPackageBook$Expander;)I"⟩
abbrev i_FileReader_readEntry : pb_I := (y_FileReader_readEntry, prog_5_method_6_code, 18, (some Jvm.ClassFile.FieldType.int), [], { frames := 4, cells := 0, slots := 0, locals := 103 })
theorem g_Rd_readEntry {l : Launch} (hl : l.stackTraces = false) (G : pb_G) (h : Nat) (b : Nat) (N : Nat) (f : Nat → Int32) (sp : Nat) (tn : Nat) (tz : Nat) (tb : Nat) (tg : Nat) (c : Int32) (tfn : Nat → Int32) (tfz : Nat → Int32) (tfb : Nat → Int32) (tfg : Nat → Int32) (q : Nat) (ex : Nat) (et : Nat) (ea : Nat) (eb : Nat) (ec : Nat) (ed : Nat) (ef : Nat) (er : Nat) (at_ : Int32) (en : Int32) (fl : Int32) (ey : Nat) (xf : Nat → Int32) (xs : Int32) (tf : Nat → Int32) (ea1 : Nat) (ea2 : Nat) (eas : Int32) (eac : Nat → Int32) (eay : Nat → Int32) (eb1 : Nat) (eb2 : Nat) (ebs : Int32) (ebc : Nat → Int32) (eby : Nat → Int32) (ef1 : Nat) (ef2 : Nat) (efs : Int32) (efc : Nat → Int32) (efy : Nat → Int32) (ec1 : Nat) (ec2 : Nat) (ecs : Int32) (ecc : Nat → Int32) (ecy : Nat → Int32) (ed1 : Nat) (ed2 : Nat) (eds : Int32) (edc : Nat → Int32) (edy : Nat → Int32) (x : Int32) (lm : Int64) (V : VW_) (A : Int → Int32) (Zs : Int) (I : sh_I c.toInt tfz tfg) (Ia : co_I eas.toInt eac eay 288) (Ma : eas.toInt ≤ 288) (Ib : co_I ebs.toInt ebc eby 32) (Mb : ebs.toInt ≤ 32) (Fa : cs_R eas.toInt eac eay fx_1 288) (Fb : cs_R ebs.toInt ebc eby fx_2 32) (If : co_I efs.toInt efc efy 19) (Mf : efs.toInt ≤ 19) (Ic : co_I ecs.toInt ecc ecy 288) (Mc : ecs.toInt ≤ 286) (Id : co_I eds.toInt edc edy 32) (Md : eds.toInt ≤ 30) (a0_ : 0 ≤ xs.toInt) (a1_ : xs.toInt ≤ 4000) (h0 : 0 ≤ x.toInt) (h1 : x.toInt + (46 + tw f (x.toInt + 28)) ≤ N) (h2 : lm.toInt ≤ N) (hN : N ≤ 100000) (R : rC_ c.toInt tfn tfz tfb tfg V) (hsV : srt_ V) (hA : ∀ j : Int, 0 ≤ j → j < Zs → A j = gr f j) (hZ : x.toInt + 46 + aw A (x.toInt + 28) 2 ≤ Zs) (hZ2 : lm.toInt ≤ Zs) (F_f : sb_Fit f) (F_tfn : sb_Fit tfn) (F_tfb : sb_Fit tfb) (F_xf : sb_Fit xf) : Cn l G i_FileReader_readEntry [.ref h, .int x, .long lm, .ref sp, .ref q] [(h, .inr (7, [.ref b])), (b, .inl (G.2.1, N, .inl f)), (sp, .inr (3, [.ref tn, .ref tz, .ref tb, .ref tg, .int c])), (tn, .inl (G.2.1, 384, .inl tfn)), (tz, .inl (G.2.2.1, 16, .inl tfz)), (tb, .inl (G.2.1, 12000, .inl tfb)), (tg, .inl (G.2.2.1, 17, .inl tfg)), (q, .inr (5, [.ref ex, .ref et, .ref ea, .ref eb, .ref ec, .ref ed, .ref ef, .ref er, .int at_, .int en, .int fl])), (ex, .inr (0, [.ref ey, .int xs])), (ey, .inl (G.2.1, 4000, .inl xf)), (et, .inl (G.2.2.1, 316, .inl tf)), (ea, .inr (1, [.ref ea1, .ref ea2, .int eas])), (ea1, .inl (G.2.2.1, 16, .inl eac)), (ea2, .inl (G.2.2.1, 288, .inl eay)), (eb, .inr (1, [.ref eb1, .ref eb2, .int ebs])), (eb1, .inl (G.2.2.1, 16, .inl ebc)), (eb2, .inl (G.2.2.1, 32, .inl eby)), (ef, .inr (1, [.ref ef1, .ref ef2, .int efs])), (ef1, .inl (G.2.2.1, 16, .inl efc)), (ef2, .inl (G.2.2.1, 19, .inl efy)), (ec, .inr (1, [.ref ec1, .ref ec2, .int ecs])), (ec1, .inl (G.2.2.1, 16, .inl ecc)), (ec2, .inl (G.2.2.1, 286, .inl ecy)), (ed, .inr (1, [.ref ed1, .ref ed2, .int eds])), (ed1, .inl (G.2.2.1, 16, .inl edc)), (ed2, .inl (G.2.2.1, 30, .inl edy))] (S := Int32 × Int32 × (Nat → Int32) × (Nat → Int32) × (Nat → Int32) × (Nat → Int32) × Nat × Int32 × Int32 × Int32 × Int32 × (Nat → Int32) × (Nat → Int32) × Int32 × (Nat → Int32) × (Nat → Int32) × Int32 × (Nat → Int32) × (Nat → Int32) × Int32 × (Nat → Int32) × (Nat → Int32)) (fun rv_ u => rv_ = some (.int u.1) ∧ (sh_I u.2.1.toInt u.2.2.2.1 u.2.2.2.2.2.1) ∧ (0 ≤ u.2.2.2.2.2.2.2.2.2.2.1.toInt) ∧ (u.2.2.2.2.2.2.2.2.2.2.1.toInt ≤ 4000) ∧ (co_I u.2.2.2.2.2.2.2.2.2.2.2.2.2.1.toInt u.2.2.2.2.2.2.2.2.2.2.2.2.2.2.1 u.2.2.2.2.2.2.2.2.2.2.2.2.2.2.2.1 19) ∧ (u.2.2.2.2.2.2.2.2.2.2.2.2.2.1.toInt ≤ 19) ∧ (co_I u.2.2.2.2.2.2.2.2.2.2.2.2.2.2.2.2.1.toInt u.2.2.2.2.2.2.2.2.2.2.2.2.2.2.2.2.2.1 u.2.2.2.2.2.2.2.2.2.2.2.2.2.2.2.2.2.2.1 288) ∧ (u.2.2.2.2.2.2.2.2.2.2.2.2.2.2.2.2.1.toInt ≤ 286) ∧ (co_I u.2.2.2.2.2.2.2.2.2.2.2.2.2.2.2.2.2.2.2.1.toInt u.2.2.2.2.2.2.2.2.2.2.2.2.2.2.2.2.2.2.2.2.1 u.2.2.2.2.2.2.2.2.2.2.2.2.2.2.2.2.2.2.2.2.2 32) ∧ (u.2.2.2.2.2.2.2.2.2.2.2.2.2.2.2.2.2.2.2.1.toInt ≤ 30) ∧ (hid_ (∃ W : VW_, en_R A lm.toInt x.toInt V u.1.toInt W ∧ (u.1.toInt = 0 → rC_ u.2.1.toInt u.2.2.1 u.2.2.2.1 u.2.2.2.2.1 u.2.2.2.2.2.1 W))) ∧ (sb_Fit u.2.2.1) ∧ (sb_Fit u.2.2.2.2.1) ∧ (sb_Fit u.2.2.2.2.2.2.2.2.2.2.2.1)) (fun u => [(h, .inr (7, [.ref b])), (b, .inl (G.2.1, N, .inl f)), (sp, .inr (3, [.ref tn, .ref tz, .ref tb, .ref tg, .int u.2.1])), (tn, .inl (G.2.1, 384, .inl u.2.2.1)), (tz, .inl (G.2.2.1, 16, .inl u.2.2.2.1)), (tb, .inl (G.2.1, 12000, .inl u.2.2.2.2.1)), (tg, .inl (G.2.2.1, 17, .inl u.2.2.2.2.2.1)), (q, .inr (5, [.ref ex, .ref et, .ref ea, .ref eb, .ref ec, .ref ed, .ref ef, .ref u.2.2.2.2.2.2.1, .int u.2.2.2.2.2.2.2.1, .int u.2.2.2.2.2.2.2.2.1, .int u.2.2.2.2.2.2.2.2.2.1])), (ex, .inr (0, [.ref ey, .int u.2.2.2.2.2.2.2.2.2.2.1])), (ey, .inl (G.2.1, 4000, .inl u.2.2.2.2.2.2.2.2.2.2.2.1)), (et, .inl (G.2.2.1, 316, .inl u.2.2.2.2.2.2.2.2.2.2.2.2.1)), (ea, .inr (1, [.ref ea1, .ref ea2, .int eas])), (ea1, .inl (G.2.2.1, 16, .inl eac)), (ea2, .inl (G.2.2.1, 288, .inl eay)), (eb, .inr (1, [.ref eb1, .ref eb2, .int ebs])), (eb1, .inl (G.2.2.1, 16, .inl ebc)), (eb2, .inl (G.2.2.1, 32, .inl eby)), (ef, .inr (1, [.ref ef1, .ref ef2, .int u.2.2.2.2.2.2.2.2.2.2.2.2.2.1])), (ef1, .inl (G.2.2.1, 16, .inl u.2.2.2.2.2.2.2.2.2.2.2.2.2.2.1)), (ef2, .inl (G.2.2.1, 19, .inl u.2.2.2.2.2.2.2.2.2.2.2.2.2.2.2.1)), (ec, .inr (1, [.ref ec1, .ref ec2, .int u.2.2.2.2.2.2.2.2.2.2.2.2.2.2.2.2.1])), (ec1, .inl (G.2.2.1, 16, .inl u.2.2.2.2.2.2.2.2.2.2.2.2.2.2.2.2.2.1)), (ec2, .inl (G.2.2.1, 286, .inl u.2.2.2.2.2.2.2.2.2.2.2.2.2.2.2.2.2.2.1)), (ed, .inr (1, [.ref ed1, .ref ed2, .int u.2.2.2.2.2.2.2.2.2.2.2.2.2.2.2.2.2.2.2.1])), (ed1, .inl (G.2.2.1, 16, .inl u.2.2.2.2.2.2.2.2.2.2.2.2.2.2.2.2.2.2.2.2.1)), (ed2, .inl (G.2.2.1, 30, .inl u.2.2.2.2.2.2.2.2.2.2.2.2.2.2.2.2.2.2.2.2.2))]) := sorry
