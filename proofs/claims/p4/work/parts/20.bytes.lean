theorem d_Book_isSame_0 : decode prog_1_method_28_code 0 = .ok (.iconst 0, 1) := sorry
theorem d_Book_isSame_1 : decode prog_1_method_28_code 1 = .ok (.istore 5, 2) := sorry
theorem d_Book_isSame_3 : decode prog_1_method_28_code 3 = .ok (.iload 5, 2) := sorry
theorem d_Book_isSame_5 : decode prog_1_method_28_code 5 = .ok (.iload 4, 2) := sorry
theorem d_Book_isSame_7 : decode prog_1_method_28_code 7 = .ok (.if_icmp .ge 26, 3) := sorry
theorem d_Book_isSame_33 : decode prog_1_method_28_code 33 = .ok (.iconst 1, 1) := sorry
theorem d_Book_isSame_34 : decode prog_1_method_28_code 34 = .ok (.ireturn, 1) := sorry
theorem d_Book_isSame_10 : decode prog_1_method_28_code 10 = .ok (.aload_n 0, 1) := sorry
theorem d_Book_isSame_11 : decode prog_1_method_28_code 11 = .ok (.iload_n 1, 1) := sorry
theorem d_Book_isSame_12 : decode prog_1_method_28_code 12 = .ok (.iload 5, 2) := sorry
theorem d_Book_isSame_14 : decode prog_1_method_28_code 14 = .ok (.iadd, 1) := sorry
theorem d_Book_isSame_15 : decode prog_1_method_28_code 15 = .ok (.baload, 1) := sorry
theorem d_Book_isSame_16 : decode prog_1_method_28_code 16 = .ok (.aload_n 2, 1) := sorry
theorem d_Book_isSame_17 : decode prog_1_method_28_code 17 = .ok (.iload_n 3, 1) := sorry
theorem d_Book_isSame_18 : decode prog_1_method_28_code 18 = .ok (.iload 5, 2) := sorry
theorem d_Book_isSame_20 : decode prog_1_method_28_code 20 = .ok (.iadd, 1) := sorry
theorem d_Book_isSame_21 : decode prog_1_method_28_code 21 = .ok (.baload, 1) := sorry
theorem d_Book_isSame_22 : decode prog_1_method_28_code 22 = .ok (.if_icmp .eq 5, 3) := sorry
theorem d_Book_isSame_27 : decode prog_1_method_28_code 27 = .ok (.iinc 5 1, 3) := sorry
theorem d_Book_isSame_30 : decode prog_1_method_28_code 30 = .ok (.goto (-27), 3) := sorry
theorem d_Book_isSame_25 : decode prog_1_method_28_code 25 = .ok (.iconst 0, 1) := sorry
theorem d_Book_isSame_26 : decode prog_1_method_28_code 26 = .ok (.ireturn, 1) := sorry
abbrev y_Book_isSame : MethodName := ⟨"PackageBook", "isSame", "([BI[BII)Z"⟩
abbrev i_Book_isSame : pb_I := (y_Book_isSame, prog_1_method_28_code, 6, (some Jvm.ClassFile.FieldType.boolean), [], { frames := 0, cells := 0, slots := 0, locals := 0 })
theorem g_isSame {l : Launch} (hl : l.stackTraces = false) (G : pb_G) (a : Nat) (b : Nat) (Na : Nat) (Nb : Nat) (f : Nat → Int32) (g : Nat → Int32) (x : Int32) (y : Int32) (n : Int32) (h0 : 0 ≤ x.toInt) (h1 : 0 ≤ y.toInt) (h2 : x.toInt + n.toInt ≤ Na) (h3 : y.toInt + n.toInt ≤ Nb) (h4 : Na ≤ 1000000) (h5 : Nb ≤ 1000000) (F_f : sb_Fit f) (F_g : sb_Fit g) : Cn l G i_Book_isSame [.ref a, .int x, .ref b, .int y, .int n] [(a, .inl (G.2.1, Na, .inl f)), (b, .inl (G.2.1, Nb, .inl g))] (S := Int32) (fun rv_ u => rv_ = some (.int u) ∧ (u.toInt = 0 ∨ u.toInt = 1) ∧ (u.toInt = 1 → ∀ j : Int, 0 ≤ j → j < n.toInt → gx f (x.toInt + j) = gx g (y.toInt + j)) ∧ (u.toInt = 0 → ¬ (∀ j : Int, 0 ≤ j → j < n.toInt → gx f (x.toInt + j) = gx g (y.toInt + j)))) (fun u => [(a, .inl (G.2.1, Na, .inl f)), (b, .inl (G.2.1, Nb, .inl g))]) := sorry
theorem g_isSame1 {l : Launch} (hl : l.stackTraces = false) (G : pb_G) (a : Nat) (Na : Nat) (f : Nat → Int32) (x : Int32) (y : Int32) (n : Int32) (h0 : 0 ≤ x.toInt) (h1 : 0 ≤ y.toInt) (h2 : x.toInt + n.toInt ≤ Na) (h3 : y.toInt + n.toInt ≤ Na) (h4 : Na ≤ 1000000) (h5 : Na ≤ 1000000) (F_f : sb_Fit f) : Cn l G i_Book_isSame [.ref a, .int x, .ref a, .int y, .int n] [(a, .inl (G.2.1, Na, .inl f))] (S := Int32) (fun rv_ u => rv_ = some (.int u) ∧ (u.toInt = 0 ∨ u.toInt = 1) ∧ (u.toInt = 1 → ∀ j : Int, 0 ≤ j → j < n.toInt → gx f (x.toInt + j) = gx f (y.toInt + j)) ∧ (u.toInt = 0 → ¬ (∀ j : Int, 0 ≤ j → j < n.toInt → gx f (x.toInt + j) = gx f (y.toInt + j)))) (fun u => [(a, .inl (G.2.1, Na, .inl f))]) := sorry
theorem d_Book_isPiece_0 : decode prog_1_method_27_code 0 = .ok (.iconst 0, 1) := sorry
theorem d_Book_isPiece_1 : decode prog_1_method_27_code 1 = .ok (.istore_n 3, 1) := sorry
theorem d_Book_isPiece_2 : decode prog_1_method_27_code 2 = .ok (.iload_n 1, 1) := sorry
theorem d_Book_isPiece_3 : decode prog_1_method_27_code 3 = .ok (.istore 4, 2) := sorry
theorem d_Book_isPiece_5 : decode prog_1_method_27_code 5 = .ok (.iload 4, 2) := sorry
theorem d_Book_isPiece_7 : decode prog_1_method_27_code 7 = .ok (.iload_n 2, 1) := sorry
theorem d_Book_isPiece_8 : decode prog_1_method_27_code 8 = .ok (.if_icmp .ge 65, 3) := sorry
theorem d_Book_isPiece_73 : decode prog_1_method_27_code 73 = .ok (.iload_n 2, 1) := sorry
theorem d_Book_isPiece_74 : decode prog_1_method_27_code 74 = .ok (.iload_n 1, 1) := sorry
theorem d_Book_isPiece_75 : decode prog_1_method_27_code 75 = .ok (.if_icmp .le 19, 3) := sorry
theorem d_Book_isPiece_94 : decode prog_1_method_27_code 94 = .ok (.iconst 0, 1) := sorry
theorem d_Book_isPiece_95 : decode prog_1_method_27_code 95 = .ok (.ireturn, 1) := sorry
theorem d_Book_isPiece_78 : decode prog_1_method_27_code 78 = .ok (.iload_n 3, 1) := sorry
theorem d_Book_isPiece_79 : decode prog_1_method_27_code 79 = .ok (.iload_n 2, 1) := sorry
theorem d_Book_isPiece_80 : decode prog_1_method_27_code 80 = .ok (.iload_n 1, 1) := sorry
theorem d_Book_isPiece_81 : decode prog_1_method_27_code 81 = .ok (.isub, 1) := sorry
theorem d_Book_isPiece_82 : decode prog_1_method_27_code 82 = .ok (.if_icmp .lt 8, 3) := sorry
theorem d_Book_isPiece_90 : decode prog_1_method_27_code 90 = .ok (.iconst 1, 1) := sorry
theorem d_Book_isPiece_91 : decode prog_1_method_27_code 91 = .ok (.goto 4, 3) := sorry
theorem d_Book_isPiece_85 : decode prog_1_method_27_code 85 = .ok (.iload_n 3, 1) := sorry
theorem d_Book_isPiece_86 : decode prog_1_method_27_code 86 = .ok (.iconst 2, 1) := sorry
theorem d_Book_isPiece_87 : decode prog_1_method_27_code 87 = .ok (.if_icmp .le 7, 3) := sorry
theorem d_Book_isPiece_11 : decode prog_1_method_27_code 11 = .ok (.aload_n 0, 1) := sorry
theorem d_Book_isPiece_12 : decode prog_1_method_27_code 12 = .ok (.iload 4, 2) := sorry
theorem d_Book_isPiece_14 : decode prog_1_method_27_code 14 = .ok (.baload, 1) := sorry
theorem d_Book_isPiece_15 : decode prog_1_method_27_code 15 = .ok (.istore 5, 2) := sorry
theorem d_Book_isPiece_17 : decode prog_1_method_27_code 17 = .ok (.iload 5, 2) := sorry
theorem d_Book_isPiece_19 : decode prog_1_method_27_code 19 = .ok (.bipush 46, 2) := sorry
theorem d_Book_isPiece_21 : decode prog_1_method_27_code 21 = .ok (.if_icmp .ne 9, 3) := sorry
theorem d_Book_isPiece_30 : decode prog_1_method_27_code 30 = .ok (.iload 5, 2) := sorry
theorem d_Book_isPiece_32 : decode prog_1_method_27_code 32 = .ok (.bipush 97, 2) := sorry
theorem d_Book_isPiece_34 : decode prog_1_method_27_code 34 = .ok (.if_icmp .lt 10, 3) := sorry
theorem d_Book_isPiece_44 : decode prog_1_method_27_code 44 = .ok (.iload 5, 2) := sorry
theorem d_Book_isPiece_46 : decode prog_1_method_27_code 46 = .ok (.bipush 48, 2) := sorry
theorem d_Book_isPiece_48 : decode prog_1_method_27_code 48 = .ok (.if_icmp .lt 10, 3) := sorry
theorem d_Book_isPiece_58 : decode prog_1_method_27_code 58 = .ok (.iload 5, 2) := sorry
theorem d_Book_isPiece_60 : decode prog_1_method_27_code 60 = .ok (.bipush 95, 2) := sorry
theorem d_Book_isPiece_62 : decode prog_1_method_27_code 62 = .ok (.if_icmp .eq 5, 3) := sorry
theorem d_Book_isPiece_67 : decode prog_1_method_27_code 67 = .ok (.iinc 4 1, 3) := sorry
theorem d_Book_isPiece_70 : decode prog_1_method_27_code 70 = .ok (.goto (-65), 3) := sorry
theorem d_Book_isPiece_65 : decode prog_1_method_27_code 65 = .ok (.iconst 0, 1) := sorry
theorem d_Book_isPiece_66 : decode prog_1_method_27_code 66 = .ok (.ireturn, 1) := sorry
theorem d_Book_isPiece_51 : decode prog_1_method_27_code 51 = .ok (.iload 5, 2) := sorry
theorem d_Book_isPiece_53 : decode prog_1_method_27_code 53 = .ok (.bipush 57, 2) := sorry
theorem d_Book_isPiece_55 : decode prog_1_method_27_code 55 = .ok (.if_icmp .le 12, 3) := sorry
theorem d_Book_isPiece_37 : decode prog_1_method_27_code 37 = .ok (.iload 5, 2) := sorry
theorem d_Book_isPiece_39 : decode prog_1_method_27_code 39 = .ok (.bipush 122, 2) := sorry
theorem d_Book_isPiece_41 : decode prog_1_method_27_code 41 = .ok (.if_icmp .le 26, 3) := sorry
theorem d_Book_isPiece_24 : decode prog_1_method_27_code 24 = .ok (.iinc 3 1, 3) := sorry
theorem d_Book_isPiece_27 : decode prog_1_method_27_code 27 = .ok (.goto 40, 3) := sorry
abbrev y_Book_isPiece : MethodName := ⟨"PackageBook", "isPiece", "([BII)Z"⟩
abbrev i_Book_isPiece : pb_I := (y_Book_isPiece, prog_1_method_27_code, 6, (some Jvm.ClassFile.FieldType.boolean), [], { frames := 0, cells := 0, slots := 0, locals := 0 })
theorem g_isPiece {l : Launch} (hl : l.stackTraces = false) (G : pb_G) (a : Nat) (Na : Nat) (f : Nat → Int32) (x : Int32) (e : Int32) (h0 : 0 ≤ x.toInt) (h1 : e.toInt ≤ Na) (h2 : Na ≤ 1000000) (h3 : x.toInt ≤ 1000000) (F_f : sb_Fit f) : Cn l G i_Book_isPiece [.ref a, .int x, .int e] [(a, .inl (G.2.1, Na, .inl f))] (S := Int32) (fun rv_ u => rv_ = some (.int u) ∧ (u.toInt = 0 ∨ u.toInt = 1) ∧ (u.toInt = 1 → pe_ (gx f) x.toInt e.toInt) ∧ (u.toInt = 0 → ¬ pe_ (gx f) x.toInt e.toInt)) (fun u => [(a, .inl (G.2.1, Na, .inl f))]) := sorry
theorem d_Book_isName_0 : decode prog_1_method_26_code 0 = .ok (.iload_n 2, 1) := sorry
theorem d_Book_isName_1 : decode prog_1_method_26_code 1 = .ok (.iconst 1, 1) := sorry
theorem d_Book_isName_2 : decode prog_1_method_26_code 2 = .ok (.if_icmp .lt 9, 3) := sorry
theorem d_Book_isName_11 : decode prog_1_method_26_code 11 = .ok (.iconst 0, 1) := sorry
theorem d_Book_isName_12 : decode prog_1_method_26_code 12 = .ok (.ireturn, 1) := sorry
theorem d_Book_isName_5 : decode prog_1_method_26_code 5 = .ok (.iload_n 2, 1) := sorry
theorem d_Book_isName_6 : decode prog_1_method_26_code 6 = .ok (.bipush 24, 2) := sorry
theorem d_Book_isName_8 : decode prog_1_method_26_code 8 = .ok (.if_icmp .le 5, 3) := sorry
theorem d_Book_isName_13 : decode prog_1_method_26_code 13 = .ok (.iload_n 1, 1) := sorry
theorem d_Book_isName_14 : decode prog_1_method_26_code 14 = .ok (.iload_n 2, 1) := sorry
theorem d_Book_isName_15 : decode prog_1_method_26_code 15 = .ok (.iadd, 1) := sorry
theorem d_Book_isName_16 : decode prog_1_method_26_code 16 = .ok (.istore_n 3, 1) := sorry
theorem d_Book_isName_17 : decode prog_1_method_26_code 17 = .ok (.iload_n 1, 1) := sorry
theorem d_Book_isName_18 : decode prog_1_method_26_code 18 = .ok (.istore 4, 2) := sorry
theorem d_Book_isName_20 : decode prog_1_method_26_code 20 = .ok (.iload_n 1, 1) := sorry
theorem d_Book_isName_21 : decode prog_1_method_26_code 21 = .ok (.istore 5, 2) := sorry
theorem d_Book_isName_23 : decode prog_1_method_26_code 23 = .ok (.iload 5, 2) := sorry
theorem d_Book_isName_25 : decode prog_1_method_26_code 25 = .ok (.iload_n 3, 1) := sorry
theorem d_Book_isName_26 : decode prog_1_method_26_code 26 = .ok (.if_icmp .ge 37, 3) := sorry
theorem d_Book_isName_63 : decode prog_1_method_26_code 63 = .ok (.aload_n 0, 1) := sorry
theorem d_Book_isName_64 : decode prog_1_method_26_code 64 = .ok (.iload 4, 2) := sorry
theorem d_Book_isName_66 : decode prog_1_method_26_code 66 = .ok (.iload_n 3, 1) := sorry
theorem d_Book_isName_67 : decode prog_1_method_26_code 67 = .ok (.invokestatic 262, 3) := sorry
theorem k_623 : (Jvm.Cond.methodLink "PackageBook" (262 : Nat) ({ cls := "PackageBook", name := "isPiece", desc := "([BII)Z" } : Jvm.MethodName)) ∈ uW := sorry
theorem k_118 : (Jvm.Cond.initialized "PackageBook") ∈ uW := sorry
theorem k_625 : (Jvm.Cond.code ({ cls := "PackageBook", name := "isPiece", desc := "([BII)Z" } : Jvm.MethodName) prog_1_method_27_code (6 : Nat) (Option.some Jvm.ClassFile.FieldType.boolean)) ∈ uW := sorry
theorem k_624 : (Jvm.Cond.static ({ cls := "PackageBook", name := "isPiece", desc := "([BII)Z" } : Jvm.MethodName)) ∈ uW := sorry
theorem hy_Book_isPiece : (y_Book_isPiece).cls ≠ "java/lang/invoke/MethodHandle" ∧ (y_Book_isPiece).cls ≠ "java/lang/invoke/VarHandle" ∧ (parseMethodDescriptor (y_Book_isPiece).desc).map (fun d => d.parameters.length) = some 3 := sorry
theorem d_Book_isName_70 : decode prog_1_method_26_code 70 = .ok (.ireturn, 1) := sorry
theorem d_Book_isName_29 : decode prog_1_method_26_code 29 = .ok (.aload_n 0, 1) := sorry
theorem d_Book_isName_30 : decode prog_1_method_26_code 30 = .ok (.iload 5, 2) := sorry
theorem d_Book_isName_32 : decode prog_1_method_26_code 32 = .ok (.baload, 1) := sorry
theorem d_Book_isName_33 : decode prog_1_method_26_code 33 = .ok (.bipush 47, 2) := sorry
theorem d_Book_isName_35 : decode prog_1_method_26_code 35 = .ok (.if_icmp .ne 22, 3) := sorry
theorem d_Book_isName_57 : decode prog_1_method_26_code 57 = .ok (.iinc 5 1, 3) := sorry
theorem d_Book_isName_60 : decode prog_1_method_26_code 60 = .ok (.goto (-37), 3) := sorry
theorem d_Book_isName_38 : decode prog_1_method_26_code 38 = .ok (.aload_n 0, 1) := sorry
theorem d_Book_isName_39 : decode prog_1_method_26_code 39 = .ok (.iload 4, 2) := sorry
theorem d_Book_isName_41 : decode prog_1_method_26_code 41 = .ok (.iload 5, 2) := sorry
theorem d_Book_isName_43 : decode prog_1_method_26_code 43 = .ok (.invokestatic 262, 3) := sorry
theorem d_Book_isName_46 : decode prog_1_method_26_code 46 = .ok (.ifCond .ne 5, 3) := sorry
theorem d_Book_isName_51 : decode prog_1_method_26_code 51 = .ok (.iload 5, 2) := sorry
theorem d_Book_isName_53 : decode prog_1_method_26_code 53 = .ok (.iconst 1, 1) := sorry
theorem d_Book_isName_54 : decode prog_1_method_26_code 54 = .ok (.iadd, 1) := sorry
theorem d_Book_isName_55 : decode prog_1_method_26_code 55 = .ok (.istore 4, 2) := sorry
theorem d_Book_isName_49 : decode prog_1_method_26_code 49 = .ok (.iconst 0, 1) := sorry
theorem d_Book_isName_50 : decode prog_1_method_26_code 50 = .ok (.ireturn, 1) := sorry
abbrev y_Book_isName : MethodName := ⟨"PackageBook", "isName", "([BII)Z"⟩
abbrev i_Book_isName : pb_I := (y_Book_isName, prog_1_method_26_code, 6, (some Jvm.ClassFile.FieldType.boolean), [], { frames := 1, cells := 0, slots := 0, locals := 25 })
theorem g_isName {l : Launch} (hl : l.stackTraces = false) (G : pb_G) (a : Nat) (Na : Nat) (f : Nat → Int32) (x : Int32) (n : Int32) (h0 : 0 ≤ x.toInt) (h1 : 1 ≤ n.toInt → n.toInt ≤ 24 → x.toInt + n.toInt ≤ Na) (h2 : Na ≤ 1000000) (h3 : x.toInt ≤ 1000000) (F_f : sb_Fit f) : Cn l G i_Book_isName [.ref a, .int x, .int n] [(a, .inl (G.2.1, Na, .inl f))] (S := Int32) (fun rv_ u => rv_ = some (.int u) ∧ (u.toInt = 0 ∨ u.toInt = 1) ∧ (u.toInt = 1 → 1 ≤ n.toInt ∧ n.toInt ≤ 24) ∧ (u.toInt = 1 → iA_ (gx f) x.toInt n.toInt) ∧ (u.toInt = 0 → ¬ iA_ (gx f) x.toInt n.toInt)) (fun u => [(a, .inl (G.2.1, Na, .inl f))]) := sorry
theorem d_Book_sumOf_0 : decode prog_1_method_29_code 0 = .ok (.iconst (-1), 1) := sorry
theorem d_Book_sumOf_1 : decode prog_1_method_29_code 1 = .ok (.istore_n 3, 1) := sorry
theorem d_Book_sumOf_2 : decode prog_1_method_29_code 2 = .ok (.iload_n 1, 1) := sorry
theorem d_Book_sumOf_3 : decode prog_1_method_29_code 3 = .ok (.istore 4, 2) := sorry
theorem d_Book_sumOf_5 : decode prog_1_method_29_code 5 = .ok (.iload 4, 2) := sorry
theorem d_Book_sumOf_7 : decode prog_1_method_29_code 7 = .ok (.iload_n 1, 1) := sorry
theorem d_Book_sumOf_8 : decode prog_1_method_29_code 8 = .ok (.iload_n 2, 1) := sorry
theorem d_Book_sumOf_9 : decode prog_1_method_29_code 9 = .ok (.iadd, 1) := sorry
theorem d_Book_sumOf_10 : decode prog_1_method_29_code 10 = .ok (.if_icmp .ge 59, 3) := sorry
theorem d_Book_sumOf_69 : decode prog_1_method_29_code 69 = .ok (.iload_n 3, 1) := sorry
theorem d_Book_sumOf_70 : decode prog_1_method_29_code 70 = .ok (.iconst (-1), 1) := sorry
theorem d_Book_sumOf_71 : decode prog_1_method_29_code 71 = .ok (.ixor, 1) := sorry
theorem d_Book_sumOf_72 : decode prog_1_method_29_code 72 = .ok (.ireturn, 1) := sorry
theorem d_Book_sumOf_13 : decode prog_1_method_29_code 13 = .ok (.iload_n 3, 1) := sorry
theorem d_Book_sumOf_14 : decode prog_1_method_29_code 14 = .ok (.aload_n 0, 1) := sorry
theorem d_Book_sumOf_15 : decode prog_1_method_29_code 15 = .ok (.iload 4, 2) := sorry
theorem d_Book_sumOf_17 : decode prog_1_method_29_code 17 = .ok (.baload, 1) := sorry
theorem d_Book_sumOf_18 : decode prog_1_method_29_code 18 = .ok (.sipush 255, 3) := sorry
theorem d_Book_sumOf_21 : decode prog_1_method_29_code 21 = .ok (.iand, 1) := sorry
theorem d_Book_sumOf_22 : decode prog_1_method_29_code 22 = .ok (.ixor, 1) := sorry
theorem d_Book_sumOf_23 : decode prog_1_method_29_code 23 = .ok (.istore_n 3, 1) := sorry
theorem d_Book_sumOf_24 : decode prog_1_method_29_code 24 = .ok (.iconst 0, 1) := sorry
theorem d_Book_sumOf_25 : decode prog_1_method_29_code 25 = .ok (.istore 5, 2) := sorry
theorem d_Book_sumOf_27 : decode prog_1_method_29_code 27 = .ok (.iload 5, 2) := sorry
theorem d_Book_sumOf_29 : decode prog_1_method_29_code 29 = .ok (.bipush 8, 2) := sorry
theorem d_Book_sumOf_31 : decode prog_1_method_29_code 31 = .ok (.if_icmp .ge 32, 3) := sorry
theorem d_Book_sumOf_63 : decode prog_1_method_29_code 63 = .ok (.iinc 4 1, 3) := sorry
theorem d_Book_sumOf_66 : decode prog_1_method_29_code 66 = .ok (.goto (-61), 3) := sorry
theorem d_Book_sumOf_34 : decode prog_1_method_29_code 34 = .ok (.iload_n 3, 1) := sorry
theorem d_Book_sumOf_35 : decode prog_1_method_29_code 35 = .ok (.iconst 1, 1) := sorry
theorem d_Book_sumOf_36 : decode prog_1_method_29_code 36 = .ok (.iand, 1) := sorry
theorem d_Book_sumOf_37 : decode prog_1_method_29_code 37 = .ok (.istore 6, 2) := sorry
theorem d_Book_sumOf_39 : decode prog_1_method_29_code 39 = .ok (.iload_n 3, 1) := sorry
theorem d_Book_sumOf_40 : decode prog_1_method_29_code 40 = .ok (.iconst 1, 1) := sorry
theorem d_Book_sumOf_41 : decode prog_1_method_29_code 41 = .ok (.iushr, 1) := sorry
theorem d_Book_sumOf_42 : decode prog_1_method_29_code 42 = .ok (.iload 6, 2) := sorry
theorem d_Book_sumOf_44 : decode prog_1_method_29_code 44 = .ok (.iconst 1, 1) := sorry
theorem d_Book_sumOf_45 : decode prog_1_method_29_code 45 = .ok (.if_icmp .ne 9, 3) := sorry
theorem d_Book_sumOf_54 : decode prog_1_method_29_code 54 = .ok (.iconst 0, 1) := sorry
theorem d_Book_sumOf_55 : decode prog_1_method_29_code 55 = .ok (.ixor, 1) := sorry
theorem d_Book_sumOf_56 : decode prog_1_method_29_code 56 = .ok (.istore_n 3, 1) := sorry
theorem d_Book_sumOf_57 : decode prog_1_method_29_code 57 = .ok (.iinc 5 1, 3) := sorry
theorem d_Book_sumOf_60 : decode prog_1_method_29_code 60 = .ok (.goto (-33), 3) := sorry
theorem d_Book_sumOf_48 : decode prog_1_method_29_code 48 = .ok (.ldc_w 265, 3) := sorry
theorem k_560 : (Jvm.Cond.constant "PackageBook" (265 : Nat) (-306674912 : Int32)) ∈ uW := sorry
theorem d_Book_sumOf_51 : decode prog_1_method_29_code 51 = .ok (.goto 4, 3) := sorry
abbrev y_Book_sumOf : MethodName := ⟨"PackageBook", "sumOf", "([BII)I"⟩
abbrev i_Book_sumOf : pb_I := (y_Book_sumOf, prog_1_method_29_code, 7, (some Jvm.ClassFile.FieldType.int), [], { frames := 0, cells := 0, slots := 0, locals := 0 })
theorem g_sumOf {l : Launch} (hl : l.stackTraces = false) (G : pb_G) (a : Nat) (Na : Nat) (f : Nat → Int32) (x : Int32) (n : Int32) (h0 : 0 ≤ x.toInt) (h1 : 0 ≤ n.toInt) (h2 : x.toInt + n.toInt ≤ Na) (h3 : Na ≤ 1000000) (F_f : sb_Fit f) : Cn l G i_Book_sumOf [.ref a, .int x, .int n] [(a, .inl (G.2.1, Na, .inl f))] (S := Int32) (fun rv_ u => rv_ = some (.int u) ∧ (u = cr_n f x.toInt n.toInt.toNat ^^^ (-1))) (fun u => [(a, .inl (G.2.1, Na, .inl f))]) := sorry
/-- the two bytes at a place, as a number -/
def tw_r (f : Nat → Int32) (k : Int) : Int32 := (gr f k &&& 255) ||| ((gr f (k + 1) &&& 255) <<< ((8 : Int32) &&& 31))
def tw (f : Nat → Int32) (k : Int) : Int := (tw_r f k).toInt

theorem d_Book_twoAt_0 : decode prog_1_method_30_code 0 = .ok (.aload_n 0, 1) := sorry
theorem d_Book_twoAt_1 : decode prog_1_method_30_code 1 = .ok (.iload_n 1, 1) := sorry
theorem d_Book_twoAt_2 : decode prog_1_method_30_code 2 = .ok (.baload, 1) := sorry
theorem d_Book_twoAt_3 : decode prog_1_method_30_code 3 = .ok (.sipush 255, 3) := sorry
theorem d_Book_twoAt_6 : decode prog_1_method_30_code 6 = .ok (.iand, 1) := sorry
theorem d_Book_twoAt_7 : decode prog_1_method_30_code 7 = .ok (.aload_n 0, 1) := sorry
theorem d_Book_twoAt_8 : decode prog_1_method_30_code 8 = .ok (.iload_n 1, 1) := sorry
theorem d_Book_twoAt_9 : decode prog_1_method_30_code 9 = .ok (.iconst 1, 1) := sorry
theorem d_Book_twoAt_10 : decode prog_1_method_30_code 10 = .ok (.iadd, 1) := sorry
theorem d_Book_twoAt_11 : decode prog_1_method_30_code 11 = .ok (.baload, 1) := sorry
theorem d_Book_twoAt_12 : decode prog_1_method_30_code 12 = .ok (.sipush 255, 3) := sorry
theorem d_Book_twoAt_15 : decode prog_1_method_30_code 15 = .ok (.iand, 1) := sorry
theorem d_Book_twoAt_16 : decode prog_1_method_30_code 16 = .ok (.bipush 8, 2) := sorry
theorem d_Book_twoAt_18 : decode prog_1_method_30_code 18 = .ok (.ishl, 1) := sorry
theorem d_Book_twoAt_19 : decode prog_1_method_30_code 19 = .ok (.ior, 1) := sorry
theorem d_Book_twoAt_20 : decode prog_1_method_30_code 20 = .ok (.ireturn, 1) := sorry
abbrev y_Book_twoAt : MethodName := ⟨"PackageBook", "twoAt", "([BI)I"⟩
abbrev i_Book_twoAt : pb_I := (y_Book_twoAt, prog_1_method_30_code, 2, (some Jvm.ClassFile.FieldType.int), [], { frames := 0, cells := 0, slots := 0, locals := 0 })
theorem g_twoAt {l : Launch} (hl : l.stackTraces = false) (G : pb_G) (a : Nat) (Na : Nat) (f : Nat → Int32) (x : Int32) (h0 : 0 ≤ x.toInt) (h1 : x.toInt + 2 ≤ Na) (h2 : Na ≤ 1000000) (F_f : sb_Fit f) : Cn l G i_Book_twoAt [.ref a, .int x] [(a, .inl (G.2.1, Na, .inl f))] (S := Int32) (fun rv_ u => rv_ = some (.int u) ∧ (0 ≤ u.toInt) ∧ (u.toInt ≤ 65535) ∧ (u.toInt = tw f x.toInt) ∧ (u.toInt = av f x.toInt 2)) (fun u => [(a, .inl (G.2.1, Na, .inl f))]) := sorry
theorem d_Book_fourAt_0 : decode prog_1_method_31_code 0 = .ok (.aload_n 0, 1) := sorry
theorem d_Book_fourAt_1 : decode prog_1_method_31_code 1 = .ok (.iload_n 1, 1) := sorry
theorem d_Book_fourAt_2 : decode prog_1_method_31_code 2 = .ok (.invokestatic 266, 3) := sorry
theorem k_595 : (Jvm.Cond.methodLink "PackageBook" (266 : Nat) ({ cls := "PackageBook", name := "twoAt", desc := "([BI)I" } : Jvm.MethodName)) ∈ uW := sorry
theorem k_597 : (Jvm.Cond.code ({ cls := "PackageBook", name := "twoAt", desc := "([BI)I" } : Jvm.MethodName) prog_1_method_30_code (2 : Nat) (Option.some Jvm.ClassFile.FieldType.int)) ∈ uW := sorry
theorem k_596 : (Jvm.Cond.static ({ cls := "PackageBook", name := "twoAt", desc := "([BI)I" } : Jvm.MethodName)) ∈ uW := sorry
theorem hy_Book_twoAt : (y_Book_twoAt).cls ≠ "java/lang/invoke/MethodHandle" ∧ (y_Book_twoAt).cls ≠ "java/lang/invoke/VarHandle" ∧ (parseMethodDescriptor (y_Book_twoAt).desc).map (fun d => d.parameters.length) = some 2 := sorry
theorem d_Book_fourAt_5 : decode prog_1_method_31_code 5 = .ok (.i2l, 1) := sorry
theorem d_Book_fourAt_6 : decode prog_1_method_31_code 6 = .ok (.aload_n 0, 1) := sorry
theorem d_Book_fourAt_7 : decode prog_1_method_31_code 7 = .ok (.iload_n 1, 1) := sorry
theorem d_Book_fourAt_8 : decode prog_1_method_31_code 8 = .ok (.iconst 2, 1) := sorry
theorem d_Book_fourAt_9 : decode prog_1_method_31_code 9 = .ok (.iadd, 1) := sorry
theorem d_Book_fourAt_10 : decode prog_1_method_31_code 10 = .ok (.invokestatic 266, 3) := sorry
theorem d_Book_fourAt_13 : decode prog_1_method_31_code 13 = .ok (.i2l, 1) := sorry
theorem d_Book_fourAt_14 : decode prog_1_method_31_code 14 = .ok (.bipush 16, 2) := sorry
theorem d_Book_fourAt_16 : decode prog_1_method_31_code 16 = .ok (.lshl, 1) := sorry
theorem d_Book_fourAt_17 : decode prog_1_method_31_code 17 = .ok (.lor, 1) := sorry
theorem d_Book_fourAt_18 : decode prog_1_method_31_code 18 = .ok (.lreturn, 1) := sorry
abbrev y_Book_fourAt : MethodName := ⟨"PackageBook", "fourAt", "([BI)J"⟩
abbrev i_Book_fourAt : pb_I := (y_Book_fourAt, prog_1_method_31_code, 2, (some Jvm.ClassFile.FieldType.long), [], { frames := 1, cells := 0, slots := 0, locals := 21 })
theorem g_fourAt {l : Launch} (hl : l.stackTraces = false) (G : pb_G) (a : Nat) (Na : Nat) (f : Nat → Int32) (x : Int32) (h0 : 0 ≤ x.toInt) (h1 : x.toInt + 4 ≤ Na) (h2 : Na ≤ 1000000) (F_f : sb_Fit f) : Cn l G i_Book_fourAt [.ref a, .int x] [(a, .inl (G.2.1, Na, .inl f))] (S := Int64) (fun rv_ u => rv_ = some (.long u) ∧ (0 ≤ u.toInt) ∧ (u.toInt < 4294967296) ∧ (u.toInt = av f x.toInt 4)) (fun u => [(a, .inl (G.2.1, Na, .inl f))]) := sorry
