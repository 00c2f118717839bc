theorem d_Expander_readTold_0 : decode prog_3_method_6_code 0 = .ok (.iconst 0, 1) := sorry
theorem d_Expander_readTold_1 : decode prog_3_method_6_code 1 = .ok (.istore_n 2, 1) := sorry
theorem d_Expander_readTold_2 : decode prog_3_method_6_code 2 = .ok (.iconst 0, 1) := sorry
theorem d_Expander_readTold_3 : decode prog_3_method_6_code 3 = .ok (.istore_n 3, 1) := sorry
theorem d_Expander_readTold_4 : decode prog_3_method_6_code 4 = .ok (.iload_n 3, 1) := sorry
theorem d_Expander_readTold_5 : decode prog_3_method_6_code 5 = .ok (.iload_n 1, 1) := sorry
theorem d_Expander_readTold_6 : decode prog_3_method_6_code 6 = .ok (.if_icmp .ge 140, 3) := sorry
theorem d_Expander_readTold_146 : decode prog_3_method_6_code 146 = .ok (.return_, 1) := sorry
theorem d_Expander_readTold_9 : decode prog_3_method_6_code 9 = .ok (.iload_n 2, 1) := sorry
theorem d_Expander_readTold_10 : decode prog_3_method_6_code 10 = .ok (.iload_n 1, 1) := sorry
theorem d_Expander_readTold_11 : decode prog_3_method_6_code 11 = .ok (.if_icmp .ge 135, 3) := sorry
theorem d_Expander_readTold_14 : decode prog_3_method_6_code 14 = .ok (.aload_n 0, 1) := sorry
theorem d_Expander_readTold_15 : decode prog_3_method_6_code 15 = .ok (.getfield 65, 3) := sorry
theorem d_Expander_readTold_18 : decode prog_3_method_6_code 18 = .ok (.ifCond .ne 128, 3) := sorry
theorem d_Expander_readTold_21 : decode prog_3_method_6_code 21 = .ok (.aload_n 0, 1) := sorry
theorem d_Expander_readTold_22 : decode prog_3_method_6_code 22 = .ok (.aload_n 0, 1) := sorry
theorem d_Expander_readTold_23 : decode prog_3_method_6_code 23 = .ok (.getfield 43, 3) := sorry
theorem k_256 : (Jvm.Cond.fieldLink "PackageBook$Expander" (43 : Nat) "PackageBook$Expander" "third" "LPackageBook$Code;") ∈ uW := sorry
theorem d_Expander_readTold_26 : decode prog_3_method_6_code 26 = .ok (.invokevirtual 106, 3) := sorry
theorem d_Expander_readTold_29 : decode prog_3_method_6_code 29 = .ok (.istore 4, 2) := sorry
theorem d_Expander_readTold_84 : decode prog_3_method_6_code 84 = .ok (.iload 4, 2) := sorry
theorem d_Expander_readTold_86 : decode prog_3_method_6_code 86 = .ok (.invokestatic 110, 3) := sorry
theorem k_686 : (Jvm.Cond.methodLink "PackageBook$Expander" (110 : Nat) ({ cls := "PackageBook$Expander", name := "leastTimes", desc := "(I)I" } : Jvm.MethodName)) ∈ uW := sorry
theorem k_688 : (Jvm.Cond.code ({ cls := "PackageBook$Expander", name := "leastTimes", desc := "(I)I" } : Jvm.MethodName) prog_3_method_7_code (1 : Nat) (Option.some Jvm.ClassFile.FieldType.int)) ∈ uW := sorry
theorem k_687 : (Jvm.Cond.static ({ cls := "PackageBook$Expander", name := "leastTimes", desc := "(I)I" } : Jvm.MethodName)) ∈ uW := sorry
theorem hy_Expander_leastTimes : (y_Expander_leastTimes).cls ≠ "java/lang/invoke/MethodHandle" ∧ (y_Expander_leastTimes).cls ≠ "java/lang/invoke/VarHandle" ∧ (parseMethodDescriptor (y_Expander_leastTimes).desc).map (fun d => d.parameters.length) = some 1 := sorry
theorem d_Expander_readTold_89 : decode prog_3_method_6_code 89 = .ok (.aload_n 0, 1) := sorry
theorem d_Expander_readTold_90 : decode prog_3_method_6_code 90 = .ok (.iload 4, 2) := sorry
theorem d_Expander_readTold_92 : decode prog_3_method_6_code 92 = .ok (.invokestatic 113, 3) := sorry
theorem k_689 : (Jvm.Cond.methodLink "PackageBook$Expander" (113 : Nat) ({ cls := "PackageBook$Expander", name := "bitsOfTimes", desc := "(I)I" } : Jvm.MethodName)) ∈ uW := sorry
theorem k_691 : (Jvm.Cond.code ({ cls := "PackageBook$Expander", name := "bitsOfTimes", desc := "(I)I" } : Jvm.MethodName) prog_3_method_8_code (1 : Nat) (Option.some Jvm.ClassFile.FieldType.int)) ∈ uW := sorry
theorem k_690 : (Jvm.Cond.static ({ cls := "PackageBook$Expander", name := "bitsOfTimes", desc := "(I)I" } : Jvm.MethodName)) ∈ uW := sorry
theorem hy_Expander_bitsOfTimes : (y_Expander_bitsOfTimes).cls ≠ "java/lang/invoke/MethodHandle" ∧ (y_Expander_bitsOfTimes).cls ≠ "java/lang/invoke/VarHandle" ∧ (parseMethodDescriptor (y_Expander_bitsOfTimes).desc).map (fun d => d.parameters.length) = some 1 := sorry
theorem d_Expander_readTold_95 : decode prog_3_method_6_code 95 = .ok (.invokevirtual 71, 3) := sorry
theorem d_Expander_readTold_98 : decode prog_3_method_6_code 98 = .ok (.iadd, 1) := sorry
theorem d_Expander_readTold_99 : decode prog_3_method_6_code 99 = .ok (.istore 6, 2) := sorry
theorem d_Expander_readTold_114 : decode prog_3_method_6_code 114 = .ok (.aload_n 0, 1) := sorry
theorem d_Expander_readTold_115 : decode prog_3_method_6_code 115 = .ok (.getfield 65, 3) := sorry
theorem d_Expander_readTold_118 : decode prog_3_method_6_code 118 = .ok (.ifCond .ne 22, 3) := sorry
theorem d_Expander_readTold_140 : decode prog_3_method_6_code 140 = .ok (.iinc 3 1, 3) := sorry
theorem d_Expander_readTold_143 : decode prog_3_method_6_code 143 = .ok (.goto (-139), 3) := sorry
theorem d_Expander_readTold_121 : decode prog_3_method_6_code 121 = .ok (.aload_n 0, 1) := sorry
theorem d_Expander_readTold_122 : decode prog_3_method_6_code 122 = .ok (.getfield 20, 3) := sorry
theorem k_251 : (Jvm.Cond.fieldLink "PackageBook$Expander" (20 : Nat) "PackageBook$Expander" "told" "[I") ∈ uW := sorry
theorem d_Expander_readTold_125 : decode prog_3_method_6_code 125 = .ok (.iload_n 2, 1) := sorry
theorem d_Expander_readTold_126 : decode prog_3_method_6_code 126 = .ok (.iload_n 2, 1) := sorry
theorem d_Expander_readTold_127 : decode prog_3_method_6_code 127 = .ok (.iload 6, 2) := sorry
theorem d_Expander_readTold_129 : decode prog_3_method_6_code 129 = .ok (.iadd, 1) := sorry
theorem d_Expander_readTold_130 : decode prog_3_method_6_code 130 = .ok (.iload 5, 2) := sorry
theorem d_Expander_readTold_132 : decode prog_3_method_6_code 132 = .ok (.invokestatic 50, 3) := sorry
theorem k_241 : (Jvm.Cond.methodLink "PackageBook$Expander" (50 : Nat) ({ cls := "PackageBook$Expander", name := "setAll", desc := "([IIII)V" } : Jvm.MethodName)) ∈ uW := sorry
theorem k_243 : (Jvm.Cond.code ({ cls := "PackageBook$Expander", name := "setAll", desc := "([IIII)V" } : Jvm.MethodName) prog_3_method_2_code (5 : Nat) (Option.none : Option Jvm.ClassFile.FieldType)) ∈ uW := sorry
theorem k_242 : (Jvm.Cond.static ({ cls := "PackageBook$Expander", name := "setAll", desc := "([IIII)V" } : Jvm.MethodName)) ∈ uW := sorry
theorem hy_Expander_setAll : (y_Expander_setAll).cls ≠ "java/lang/invoke/MethodHandle" ∧ (y_Expander_setAll).cls ≠ "java/lang/invoke/VarHandle" ∧ (parseMethodDescriptor (y_Expander_setAll).desc).map (fun d => d.parameters.length) = some 4 := sorry
theorem d_Expander_readTold_135 : decode prog_3_method_6_code 135 = .ok (.iload_n 2, 1) := sorry
theorem d_Expander_readTold_136 : decode prog_3_method_6_code 136 = .ok (.iload 6, 2) := sorry
theorem d_Expander_readTold_138 : decode prog_3_method_6_code 138 = .ok (.iadd, 1) := sorry
theorem d_Expander_readTold_139 : decode prog_3_method_6_code 139 = .ok (.istore_n 2, 1) := sorry
theorem d_Expander_readTold_101 : decode prog_3_method_6_code 101 = .ok (.iload 6, 2) := sorry
theorem d_Expander_readTold_103 : decode prog_3_method_6_code 103 = .ok (.iload_n 1, 1) := sorry
theorem d_Expander_readTold_104 : decode prog_3_method_6_code 104 = .ok (.iload_n 2, 1) := sorry
theorem d_Expander_readTold_105 : decode prog_3_method_6_code 105 = .ok (.isub, 1) := sorry
theorem d_Expander_readTold_106 : decode prog_3_method_6_code 106 = .ok (.if_icmp .le 8, 3) := sorry
theorem d_Expander_readTold_109 : decode prog_3_method_6_code 109 = .ok (.aload_n 0, 1) := sorry
theorem d_Expander_readTold_110 : decode prog_3_method_6_code 110 = .ok (.iconst 4, 1) := sorry
theorem d_Expander_readTold_111 : decode prog_3_method_6_code 111 = .ok (.invokevirtual 85, 3) := sorry
theorem d_Expander_readTold_47 : decode prog_3_method_6_code 47 = .ok (.iload 4, 2) := sorry
theorem d_Expander_readTold_49 : decode prog_3_method_6_code 49 = .ok (.bipush 16, 2) := sorry
theorem d_Expander_readTold_51 : decode prog_3_method_6_code 51 = .ok (.if_icmp .ge 8, 3) := sorry
theorem d_Expander_readTold_59 : decode prog_3_method_6_code 59 = .ok (.iload 4, 2) := sorry
theorem d_Expander_readTold_61 : decode prog_3_method_6_code 61 = .ok (.bipush 16, 2) := sorry
theorem d_Expander_readTold_63 : decode prog_3_method_6_code 63 = .ok (.if_icmp .ne 18, 3) := sorry
theorem d_Expander_readTold_81 : decode prog_3_method_6_code 81 = .ok (.iconst 0, 1) := sorry
theorem d_Expander_readTold_82 : decode prog_3_method_6_code 82 = .ok (.istore 5, 2) := sorry
theorem d_Expander_readTold_66 : decode prog_3_method_6_code 66 = .ok (.iload_n 2, 1) := sorry
theorem d_Expander_readTold_67 : decode prog_3_method_6_code 67 = .ok (.ifCond .le 14, 3) := sorry
theorem d_Expander_readTold_70 : decode prog_3_method_6_code 70 = .ok (.aload_n 0, 1) := sorry
theorem d_Expander_readTold_71 : decode prog_3_method_6_code 71 = .ok (.getfield 20, 3) := sorry
theorem d_Expander_readTold_74 : decode prog_3_method_6_code 74 = .ok (.iload_n 2, 1) := sorry
theorem d_Expander_readTold_75 : decode prog_3_method_6_code 75 = .ok (.iconst 1, 1) := sorry
theorem d_Expander_readTold_76 : decode prog_3_method_6_code 76 = .ok (.isub, 1) := sorry
theorem d_Expander_readTold_77 : decode prog_3_method_6_code 77 = .ok (.iaload, 1) := sorry
theorem d_Expander_readTold_78 : decode prog_3_method_6_code 78 = .ok (.goto 4, 3) := sorry
theorem d_Expander_readTold_54 : decode prog_3_method_6_code 54 = .ok (.iload 4, 2) := sorry
theorem d_Expander_readTold_56 : decode prog_3_method_6_code 56 = .ok (.goto 26, 3) := sorry
theorem d_Expander_readTold_31 : decode prog_3_method_6_code 31 = .ok (.iload 4, 2) := sorry
theorem d_Expander_readTold_33 : decode prog_3_method_6_code 33 = .ok (.bipush 16, 2) := sorry
theorem d_Expander_readTold_35 : decode prog_3_method_6_code 35 = .ok (.if_icmp .ne 12, 3) := sorry
theorem d_Expander_readTold_38 : decode prog_3_method_6_code 38 = .ok (.iload_n 2, 1) := sorry
theorem d_Expander_readTold_39 : decode prog_3_method_6_code 39 = .ok (.ifCond .ne 8, 3) := sorry
theorem d_Expander_readTold_42 : decode prog_3_method_6_code 42 = .ok (.aload_n 0, 1) := sorry
theorem d_Expander_readTold_43 : decode prog_3_method_6_code 43 = .ok (.iconst 4, 1) := sorry
theorem d_Expander_readTold_44 : decode prog_3_method_6_code 44 = .ok (.invokevirtual 85, 3) := sorry
abbrev y_Expander_readTold : MethodName := ⟨"PackageBook$Expander", "readTold", "(I)V"⟩
abbrev i_Expander_readTold : pb_I := (y_Expander_readTold, prog_3_method_6_code, 7, (Option.none : Option Jvm.ClassFile.FieldType), [], { frames := 1, cells := 0, slots := 0, locals := 26 })
theorem g_Exp_readTold {l : Launch} (hl : l.stackTraces = false) (G : pb_G) (h : Nat) (ex : Nat) (et : Nat) (ea : Nat) (eb : Nat) (ec : Nat) (ed : Nat) (ef : Nat) (er : Nat) (at_ : Int32) (en : Int32) (fl : Int32) (N : Nat) (fr : Nat → Int32) (tf : Nat → Int32) (ef1 : Nat) (ef2 : Nat) (efs : Int32) (efc : Nat → Int32) (efy : Nat → Int32) (al : Int32) (A : Int → Int32) (L : Int → Int) (a0 : 0 ≤ at_.toInt) (a1 : at_.toInt ≤ en.toInt) (a2 : en.toInt ≤ 8 * N) (a3 : N ≤ 100000) (a4 : 0 ≤ fl.toInt) (If : co_I efs.toInt efc efy 19) (Mf : efs.toInt ≤ 19) (l0 : 0 ≤ al.toInt) (l1 : al.toInt ≤ 316) (hcs : fl.toInt = 0 → cs_R efs.toInt efc efy L 19) (hA : ∀ j : Int, 0 ≤ j → 8 * j < en.toInt → A j = gr fr j) (F_fr : sb_Fit fr) : Cn l G i_Expander_readTold [.ref h, .int al] [(h, .inr (5, [.ref ex, .ref et, .ref ea, .ref eb, .ref ec, .ref ed, .ref ef, .ref er, .int at_, .int en, .int fl])), (er, .inl (G.2.1, N, .inl fr)), (et, .inl (G.2.2.1, 316, .inl tf)), (ef, .inr (1, [.ref ef1, .ref ef2, .int efs])), (ef1, .inl (G.2.2.1, 16, .inl efc)), (ef2, .inl (G.2.2.1, 19, .inl efy))] (S := Int32 × Int32 × (Nat → Int32)) (fun rv_ u => rv_ = none ∧ (at_.toInt ≤ u.1.toInt) ∧ (u.1.toInt ≤ en.toInt) ∧ (0 ≤ u.2.1.toInt) ∧ (fl.toInt ≠ 0 → u.2.1.toInt ≠ 0) ∧ (td_g A en.toInt L al.toInt al.toInt.toNat fl.toInt 0 at_.toInt (fun _ => 0) = tz_ u.2.1.toInt u.1.toInt (tn_ u.2.2 al.toInt)) ∧ (u.2.1.toInt = 0 → ∀ j : Int, 0 ≤ j → j < al.toInt → 0 ≤ gx u.2.2 j ∧ gx u.2.2 j ≤ 15)) (fun u => [(h, .inr (5, [.ref ex, .ref et, .ref ea, .ref eb, .ref ec, .ref ed, .ref ef, .ref er, .int u.1, .int en, .int u.2.1])), (er, .inl (G.2.1, N, .inl fr)), (et, .inl (G.2.2.1, 316, .inl u.2.2)), (ef, .inr (1, [.ref ef1, .ref ef2, .int efs])), (ef1, .inl (G.2.2.1, 16, .inl efc)), (ef2, .inl (G.2.2.1, 19, .inl efy))]) := sorry
