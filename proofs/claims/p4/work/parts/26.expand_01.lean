theorem d_Expander_putByte_0 : decode prog_3_method_15_code 0 = .ok (.aload_n 0, 1) := sorry
theorem d_Expander_putByte_1 : decode prog_3_method_15_code 1 = .ok (.getfield 14, 3) := sorry
theorem k_248 : (Jvm.Cond.fieldLink "PackageBook$Expander" (14 : Nat) "PackageBook$Expander" "expanded" "LPackageBook$Row;") ∈ uW := sorry
theorem d_Expander_putByte_4 : decode prog_3_method_15_code 4 = .ok (.getfield 68, 3) := sorry
theorem k_166 : (Jvm.Cond.fieldLinkNest "PackageBook$Expander" (68 : Nat) "PackageBook$Row" "size" "I" "PackageBook") ∈ uN := sorry
theorem d_Expander_putByte_7 : decode prog_3_method_15_code 7 = .ok (.sipush 4000, 3) := sorry
theorem d_Expander_putByte_10 : decode prog_3_method_15_code 10 = .ok (.if_icmp .ne 9, 3) := sorry
theorem d_Expander_putByte_19 : decode prog_3_method_15_code 19 = .ok (.aload_n 0, 1) := sorry
theorem d_Expander_putByte_20 : decode prog_3_method_15_code 20 = .ok (.getfield 65, 3) := sorry
theorem d_Expander_putByte_23 : decode prog_3_method_15_code 23 = .ok (.ifCond .ne 11, 3) := sorry
theorem d_Expander_putByte_34 : decode prog_3_method_15_code 34 = .ok (.return_, 1) := sorry
theorem d_Expander_putByte_26 : decode prog_3_method_15_code 26 = .ok (.aload_n 0, 1) := sorry
theorem d_Expander_putByte_27 : decode prog_3_method_15_code 27 = .ok (.getfield 14, 3) := sorry
theorem d_Expander_putByte_30 : decode prog_3_method_15_code 30 = .ok (.iload_n 1, 1) := sorry
theorem d_Expander_putByte_31 : decode prog_3_method_15_code 31 = .ok (.invokevirtual 135, 3) := sorry
theorem k_648 : (Jvm.Cond.methodLink "PackageBook$Expander" (135 : Nat) ({ cls := "PackageBook$Row", name := "putByte", desc := "(I)V" } : Jvm.MethodName)) ∈ uW := sorry
theorem d_Expander_putByte_13 : decode prog_3_method_15_code 13 = .ok (.aload_n 0, 1) := sorry
theorem d_Expander_putByte_14 : decode prog_3_method_15_code 14 = .ok (.bipush 7, 2) := sorry
theorem d_Expander_putByte_16 : decode prog_3_method_15_code 16 = .ok (.invokevirtual 85, 3) := sorry
theorem k_640 : (Jvm.Cond.methodLink "PackageBook$Expander" (85 : Nat) ({ cls := "PackageBook$Expander", name := "fail", desc := "(I)V" } : Jvm.MethodName)) ∈ uW := sorry
theorem k_121 : (Jvm.Cond.initialized "PackageBook$Expander") ∈ uW := sorry
theorem k_643 : (Jvm.Cond.code ({ cls := "PackageBook$Expander", name := "fail", desc := "(I)V" } : Jvm.MethodName) prog_3_method_18_code (2 : Nat) (Option.none : Option Jvm.ClassFile.FieldType)) ∈ uW := sorry
theorem k_642 : (Jvm.Cond.instanceMethod ({ cls := "PackageBook$Expander", name := "fail", desc := "(I)V" } : Jvm.MethodName)) ∈ uW := sorry
theorem k_19 : Cond.selects "PackageBook$Expander" ⟨"PackageBook$Expander", "fail", "(I)V"⟩ ⟨"PackageBook$Expander", "fail", "(I)V"⟩ ∈ uW := sorry
theorem hy_Expander_fail : (y_Expander_fail).cls ≠ "java/lang/invoke/MethodHandle" ∧ (y_Expander_fail).cls ≠ "java/lang/invoke/VarHandle" ∧ (parseMethodDescriptor (y_Expander_fail).desc).map (fun d => d.parameters.length) = some 1 := sorry
abbrev y_Expander_putByte : MethodName := ⟨"PackageBook$Expander", "putByte", "(I)V"⟩
abbrev i_Expander_putByte : pb_I := (y_Expander_putByte, prog_3_method_15_code, 2, (Option.none : Option Jvm.ClassFile.FieldType), [], { frames := 1, cells := 0, slots := 0, locals := 21 })
theorem g_Exp_putByte {l : Launch} (hl : l.stackTraces = false) (G : pb_G) (h : Nat) (ex : Nat) (et : Nat) (ea : Nat) (eb : Nat) (ec : Nat) (ed : Nat) (ef : Nat) (er : Nat) (at_ : Int32) (en : Int32) (fl : Int32) (ey : Nat) (xf : Nat → Int32) (xs : Int32) (v : Int32) (a4 : 0 ≤ fl.toInt) (b0 : 0 ≤ xs.toInt) (b1 : xs.toInt ≤ 4000) (F_xf : sb_Fit xf) : Cn l G i_Expander_putByte [.ref h, .int v] [(h, .inr (5, [.ref ex, .ref et, .ref ea, .ref eb, .ref ec, .ref ed, .ref ef, .ref er, .int at_, .int en, .int fl])), (ex, .inr (0, [.ref ey, .int xs])), (ey, .inl (G.2.1, 4000, .inl xf))] (S := Int32 × Int32 × (Nat → Int32)) (fun rv_ u => rv_ = none ∧ (0 ≤ u.1.toInt) ∧ (fl.toInt ≠ 0 → u.1.toInt ≠ 0) ∧ (0 ≤ u.2.1.toInt) ∧ (u.2.1.toInt ≤ 4000) ∧ (¬ fl.toInt = 0 ∧ u.1.toInt = fl.toInt ∨ fl.toInt = 0 ∧ xs.toInt = 4000 ∧ u.1.toInt = 7 ∨ fl.toInt = 0 ∧ ¬ xs.toInt = 4000 ∧ u.1.toInt = 0 ∧ u.2.1.toInt = xs.toInt + 1) ∧ (u.1.toInt = 0 → (sq u.2.2 0 u.2.1.toInt) = pu_ (sq xf 0 xs.toInt) xs.toInt v.toInt8.toInt32) ∧ (sb_Fit u.2.2)) (fun u => [(h, .inr (5, [.ref ex, .ref et, .ref ea, .ref eb, .ref ec, .ref ed, .ref ef, .ref er, .int at_, .int en, .int u.1])), (ex, .inr (0, [.ref ey, .int u.2.1])), (ey, .inl (G.2.1, 4000, .inl u.2.2))]) := sorry
theorem d_Expander_repeat_11 : decode prog_3_method_10_code 11 = .ok (.iload_n 1, 1) := sorry
theorem d_Expander_repeat_12 : decode prog_3_method_10_code 12 = .ok (.invokestatic 120, 3) := sorry
theorem k_661 : (Jvm.Cond.methodLink "PackageBook$Expander" (120 : Nat) ({ cls := "PackageBook$Expander", name := "leastLength", desc := "(I)I" } : Jvm.MethodName)) ∈ uW := sorry
theorem k_663 : (Jvm.Cond.code ({ cls := "PackageBook$Expander", name := "leastLength", desc := "(I)I" } : Jvm.MethodName) prog_3_method_12_code (1 : Nat) (Option.some Jvm.ClassFile.FieldType.int)) ∈ uW := sorry
theorem k_662 : (Jvm.Cond.static ({ cls := "PackageBook$Expander", name := "leastLength", desc := "(I)I" } : Jvm.MethodName)) ∈ uW := sorry
theorem hy_Expander_leastLength : (y_Expander_leastLength).cls ≠ "java/lang/invoke/MethodHandle" ∧ (y_Expander_leastLength).cls ≠ "java/lang/invoke/VarHandle" ∧ (parseMethodDescriptor (y_Expander_leastLength).desc).map (fun d => d.parameters.length) = some 1 := sorry
theorem d_Expander_repeat_15 : decode prog_3_method_10_code 15 = .ok (.aload_n 0, 1) := sorry
theorem d_Expander_repeat_16 : decode prog_3_method_10_code 16 = .ok (.iload_n 1, 1) := sorry
theorem d_Expander_repeat_17 : decode prog_3_method_10_code 17 = .ok (.invokestatic 123, 3) := sorry
theorem k_664 : (Jvm.Cond.methodLink "PackageBook$Expander" (123 : Nat) ({ cls := "PackageBook$Expander", name := "bitsOfLength", desc := "(I)I" } : Jvm.MethodName)) ∈ uW := sorry
theorem k_666 : (Jvm.Cond.code ({ cls := "PackageBook$Expander", name := "bitsOfLength", desc := "(I)I" } : Jvm.MethodName) prog_3_method_11_code (1 : Nat) (Option.some Jvm.ClassFile.FieldType.int)) ∈ uW := sorry
theorem k_665 : (Jvm.Cond.static ({ cls := "PackageBook$Expander", name := "bitsOfLength", desc := "(I)I" } : Jvm.MethodName)) ∈ uW := sorry
theorem hy_Expander_bitsOfLength : (y_Expander_bitsOfLength).cls ≠ "java/lang/invoke/MethodHandle" ∧ (y_Expander_bitsOfLength).cls ≠ "java/lang/invoke/VarHandle" ∧ (parseMethodDescriptor (y_Expander_bitsOfLength).desc).map (fun d => d.parameters.length) = some 1 := sorry
theorem d_Expander_repeat_20 : decode prog_3_method_10_code 20 = .ok (.invokevirtual 71, 3) := sorry
theorem k_631 : (Jvm.Cond.methodLink "PackageBook$Expander" (71 : Nat) ({ cls := "PackageBook$Expander", name := "number", desc := "(I)I" } : Jvm.MethodName)) ∈ uW := sorry
theorem k_634 : (Jvm.Cond.code ({ cls := "PackageBook$Expander", name := "number", desc := "(I)I" } : Jvm.MethodName) prog_3_method_17_code (4 : Nat) (Option.some Jvm.ClassFile.FieldType.int)) ∈ uW := sorry
theorem k_633 : (Jvm.Cond.instanceMethod ({ cls := "PackageBook$Expander", name := "number", desc := "(I)I" } : Jvm.MethodName)) ∈ uW := sorry
theorem k_17 : Cond.selects "PackageBook$Expander" ⟨"PackageBook$Expander", "number", "(I)I"⟩ ⟨"PackageBook$Expander", "number", "(I)I"⟩ ∈ uW := sorry
theorem hy_Expander_number : (y_Expander_number).cls ≠ "java/lang/invoke/MethodHandle" ∧ (y_Expander_number).cls ≠ "java/lang/invoke/VarHandle" ∧ (parseMethodDescriptor (y_Expander_number).desc).map (fun d => d.parameters.length) = some 1 := sorry
theorem d_Expander_repeat_23 : decode prog_3_method_10_code 23 = .ok (.iadd, 1) := sorry
theorem d_Expander_repeat_24 : decode prog_3_method_10_code 24 = .ok (.istore_n 3, 1) := sorry
theorem d_Expander_repeat_25 : decode prog_3_method_10_code 25 = .ok (.aload_n 0, 1) := sorry
theorem d_Expander_repeat_26 : decode prog_3_method_10_code 26 = .ok (.aload_n 2, 1) := sorry
theorem d_Expander_repeat_27 : decode prog_3_method_10_code 27 = .ok (.invokevirtual 106, 3) := sorry
theorem k_653 : (Jvm.Cond.methodLink "PackageBook$Expander" (106 : Nat) ({ cls := "PackageBook$Expander", name := "symbol", desc := "(LPackageBook$Code;)I" } : Jvm.MethodName)) ∈ uW := sorry
theorem k_656 : (Jvm.Cond.code ({ cls := "PackageBook$Expander", name := "symbol", desc := "(LPackageBook$Code;)I" } : Jvm.MethodName) prog_3_method_16_code (7 : Nat) (Option.some Jvm.ClassFile.FieldType.int)) ∈ uW := sorry
theorem k_655 : (Jvm.Cond.instanceMethod ({ cls := "PackageBook$Expander", name := "symbol", desc := "(LPackageBook$Code;)I" } : Jvm.MethodName)) ∈ uW := sorry
theorem k_22 : Cond.selects "PackageBook$Expander" ⟨"PackageBook$Expander", "symbol", "(LPackageBook$Code;)I"⟩ ⟨"PackageBook$Expander", "symbol", "(LPackageBook$Code;)I"⟩ ∈ uW := sorry
theorem hy_Expander_symbol : (y_Expander_symbol).cls ≠ "java/lang/invoke/MethodHandle" ∧ (y_Expander_symbol).cls ≠ "java/lang/invoke/VarHandle" ∧ (parseMethodDescriptor (y_Expander_symbol).desc).map (fun d => d.parameters.length) = some 1 := sorry
theorem d_Expander_repeat_30 : decode prog_3_method_10_code 30 = .ok (.istore 4, 2) := sorry
theorem d_Expander_repeat_44 : decode prog_3_method_10_code 44 = .ok (.iload 4, 2) := sorry
theorem d_Expander_repeat_46 : decode prog_3_method_10_code 46 = .ok (.invokestatic 126, 3) := sorry
theorem k_667 : (Jvm.Cond.methodLink "PackageBook$Expander" (126 : Nat) ({ cls := "PackageBook$Expander", name := "leastDistance", desc := "(I)I" } : Jvm.MethodName)) ∈ uW := sorry
theorem k_669 : (Jvm.Cond.code ({ cls := "PackageBook$Expander", name := "leastDistance", desc := "(I)I" } : Jvm.MethodName) prog_3_method_14_code (1 : Nat) (Option.some Jvm.ClassFile.FieldType.int)) ∈ uW := sorry
theorem k_668 : (Jvm.Cond.static ({ cls := "PackageBook$Expander", name := "leastDistance", desc := "(I)I" } : Jvm.MethodName)) ∈ uW := sorry
theorem hy_Expander_leastDistance : (y_Expander_leastDistance).cls ≠ "java/lang/invoke/MethodHandle" ∧ (y_Expander_leastDistance).cls ≠ "java/lang/invoke/VarHandle" ∧ (parseMethodDescriptor (y_Expander_leastDistance).desc).map (fun d => d.parameters.length) = some 1 := sorry
theorem d_Expander_repeat_49 : decode prog_3_method_10_code 49 = .ok (.aload_n 0, 1) := sorry
theorem d_Expander_repeat_50 : decode prog_3_method_10_code 50 = .ok (.iload 4, 2) := sorry
theorem d_Expander_repeat_52 : decode prog_3_method_10_code 52 = .ok (.invokestatic 129, 3) := sorry
theorem k_670 : (Jvm.Cond.methodLink "PackageBook$Expander" (129 : Nat) ({ cls := "PackageBook$Expander", name := "bitsOfDistance", desc := "(I)I" } : Jvm.MethodName)) ∈ uW := sorry
theorem k_672 : (Jvm.Cond.code ({ cls := "PackageBook$Expander", name := "bitsOfDistance", desc := "(I)I" } : Jvm.MethodName) prog_3_method_13_code (1 : Nat) (Option.some Jvm.ClassFile.FieldType.int)) ∈ uW := sorry
theorem k_671 : (Jvm.Cond.static ({ cls := "PackageBook$Expander", name := "bitsOfDistance", desc := "(I)I" } : Jvm.MethodName)) ∈ uW := sorry
theorem hy_Expander_bitsOfDistance : (y_Expander_bitsOfDistance).cls ≠ "java/lang/invoke/MethodHandle" ∧ (y_Expander_bitsOfDistance).cls ≠ "java/lang/invoke/VarHandle" ∧ (parseMethodDescriptor (y_Expander_bitsOfDistance).desc).map (fun d => d.parameters.length) = some 1 := sorry
theorem d_Expander_repeat_55 : decode prog_3_method_10_code 55 = .ok (.invokevirtual 71, 3) := sorry
theorem d_Expander_repeat_58 : decode prog_3_method_10_code 58 = .ok (.iadd, 1) := sorry
theorem d_Expander_repeat_59 : decode prog_3_method_10_code 59 = .ok (.istore 5, 2) := sorry
theorem d_Expander_repeat_100 : decode prog_3_method_10_code 100 = .ok (.iconst 0, 1) := sorry
theorem d_Expander_repeat_101 : decode prog_3_method_10_code 101 = .ok (.istore 6, 2) := sorry
theorem d_Expander_repeat_103 : decode prog_3_method_10_code 103 = .ok (.iload 6, 2) := sorry
theorem d_Expander_repeat_105 : decode prog_3_method_10_code 105 = .ok (.iload_n 3, 1) := sorry
theorem d_Expander_repeat_106 : decode prog_3_method_10_code 106 = .ok (.if_icmp .ge 41, 3) := sorry
theorem d_Expander_repeat_147 : decode prog_3_method_10_code 147 = .ok (.return_, 1) := sorry
theorem d_Expander_repeat_109 : decode prog_3_method_10_code 109 = .ok (.aload_n 0, 1) := sorry
theorem d_Expander_repeat_110 : decode prog_3_method_10_code 110 = .ok (.getfield 65, 3) := sorry
theorem d_Expander_repeat_113 : decode prog_3_method_10_code 113 = .ok (.ifCond .ne 34, 3) := sorry
theorem d_Expander_repeat_116 : decode prog_3_method_10_code 116 = .ok (.aload_n 0, 1) := sorry
theorem d_Expander_repeat_117 : decode prog_3_method_10_code 117 = .ok (.getfield 14, 3) := sorry
theorem d_Expander_repeat_120 : decode prog_3_method_10_code 120 = .ok (.aload_n 0, 1) := sorry
theorem d_Expander_repeat_121 : decode prog_3_method_10_code 121 = .ok (.getfield 14, 3) := sorry
theorem d_Expander_repeat_124 : decode prog_3_method_10_code 124 = .ok (.getfield 132, 3) := sorry
theorem k_160 : (Jvm.Cond.fieldLinkNest "PackageBook$Expander" (132 : Nat) "PackageBook$Row" "bytes" "[B" "PackageBook") ∈ uN := sorry
theorem d_Expander_repeat_127 : decode prog_3_method_10_code 127 = .ok (.aload_n 0, 1) := sorry
theorem d_Expander_repeat_128 : decode prog_3_method_10_code 128 = .ok (.getfield 14, 3) := sorry
theorem d_Expander_repeat_131 : decode prog_3_method_10_code 131 = .ok (.getfield 68, 3) := sorry
theorem d_Expander_repeat_134 : decode prog_3_method_10_code 134 = .ok (.iload 5, 2) := sorry
theorem d_Expander_repeat_136 : decode prog_3_method_10_code 136 = .ok (.isub, 1) := sorry
theorem d_Expander_repeat_137 : decode prog_3_method_10_code 137 = .ok (.baload, 1) := sorry
theorem d_Expander_repeat_138 : decode prog_3_method_10_code 138 = .ok (.invokevirtual 135, 3) := sorry
theorem d_Expander_repeat_141 : decode prog_3_method_10_code 141 = .ok (.iinc 6 1, 3) := sorry
theorem d_Expander_repeat_144 : decode prog_3_method_10_code 144 = .ok (.goto (-41), 3) := sorry
theorem d_Expander_repeat_79 : decode prog_3_method_10_code 79 = .ok (.iload_n 3, 1) := sorry
theorem d_Expander_repeat_80 : decode prog_3_method_10_code 80 = .ok (.sipush 4000, 3) := sorry
theorem d_Expander_repeat_83 : decode prog_3_method_10_code 83 = .ok (.aload_n 0, 1) := sorry
theorem d_Expander_repeat_84 : decode prog_3_method_10_code 84 = .ok (.getfield 14, 3) := sorry
theorem d_Expander_repeat_87 : decode prog_3_method_10_code 87 = .ok (.getfield 68, 3) := sorry
theorem d_Expander_repeat_90 : decode prog_3_method_10_code 90 = .ok (.isub, 1) := sorry
theorem d_Expander_repeat_91 : decode prog_3_method_10_code 91 = .ok (.if_icmp .le 9, 3) := sorry
theorem d_Expander_repeat_94 : decode prog_3_method_10_code 94 = .ok (.aload_n 0, 1) := sorry
theorem d_Expander_repeat_95 : decode prog_3_method_10_code 95 = .ok (.bipush 7, 2) := sorry
theorem d_Expander_repeat_97 : decode prog_3_method_10_code 97 = .ok (.invokevirtual 85, 3) := sorry
theorem d_Expander_repeat_61 : decode prog_3_method_10_code 61 = .ok (.iload 5, 2) := sorry
theorem d_Expander_repeat_63 : decode prog_3_method_10_code 63 = .ok (.aload_n 0, 1) := sorry
theorem d_Expander_repeat_64 : decode prog_3_method_10_code 64 = .ok (.getfield 14, 3) := sorry
theorem d_Expander_repeat_67 : decode prog_3_method_10_code 67 = .ok (.getfield 68, 3) := sorry
theorem d_Expander_repeat_70 : decode prog_3_method_10_code 70 = .ok (.if_icmp .le 9, 3) := sorry
theorem d_Expander_repeat_73 : decode prog_3_method_10_code 73 = .ok (.aload_n 0, 1) := sorry
theorem d_Expander_repeat_74 : decode prog_3_method_10_code 74 = .ok (.bipush 6, 2) := sorry
theorem d_Expander_repeat_76 : decode prog_3_method_10_code 76 = .ok (.invokevirtual 85, 3) := sorry
theorem d_Expander_repeat_32 : decode prog_3_method_10_code 32 = .ok (.iload 4, 2) := sorry
theorem d_Expander_repeat_34 : decode prog_3_method_10_code 34 = .ok (.bipush 30, 2) := sorry
theorem d_Expander_repeat_36 : decode prog_3_method_10_code 36 = .ok (.if_icmp .lt 8, 3) := sorry
theorem d_Expander_repeat_39 : decode prog_3_method_10_code 39 = .ok (.aload_n 0, 1) := sorry
theorem d_Expander_repeat_40 : decode prog_3_method_10_code 40 = .ok (.iconst 5, 1) := sorry
theorem d_Expander_repeat_41 : decode prog_3_method_10_code 41 = .ok (.invokevirtual 85, 3) := sorry
theorem d_Expander_repeat_0 : decode prog_3_method_10_code 0 = .ok (.iload_n 1, 1) := sorry
theorem d_Expander_repeat_1 : decode prog_3_method_10_code 1 = .ok (.bipush 28, 2) := sorry
theorem d_Expander_repeat_3 : decode prog_3_method_10_code 3 = .ok (.if_icmp .le 8, 3) := sorry
theorem d_Expander_repeat_6 : decode prog_3_method_10_code 6 = .ok (.aload_n 0, 1) := sorry
theorem d_Expander_repeat_7 : decode prog_3_method_10_code 7 = .ok (.iconst 5, 1) := sorry
theorem d_Expander_repeat_8 : decode prog_3_method_10_code 8 = .ok (.invokevirtual 85, 3) := sorry
abbrev y_Expander_repeat : MethodName := ⟨"PackageBook$Expander", "repeat", "(ILPackageBook$Code;)V"⟩
abbrev i_Expander_repeat : pb_I := (y_Expander_repeat, prog_3_method_10_code, 7, (Option.none : Option Jvm.ClassFile.FieldType), [], { frames := 1, cells := 0, slots := 0, locals := 26 })
theorem g_Exp_repeat {l : Launch} (hl : l.stackTraces = false) (G : pb_G) (h : Nat) (ex : Nat) (et : Nat) (ea : Nat) (eb : Nat) (ec : Nat) (ed : Nat) (ef : Nat) (er : Nat) (at_ : Int32) (en : Int32) (fl : Int32) (N : Nat) (fr : Nat → Int32) (ey : Nat) (xf : Nat → Int32) (xs : Int32) (kh : Nat) (kc : Nat) (ky : Nat) (Ny : Nat) (ks : Int32) (kfc : Nat → Int32) (kfy : Nat → Int32) (B : Int) (L : Int → Int) (nL : Int) (k : Int32) (A : Int → Int32) (a0 : 0 ≤ at_.toInt) (a1 : at_.toInt ≤ en.toInt) (a2 : en.toInt ≤ 8 * N) (a3 : N ≤ 100000) (a4 : 0 ≤ fl.toInt) (b0 : 0 ≤ xs.toInt) (b1 : xs.toInt ≤ 4000) (hco : co_I ks.toInt kfc kfy B) (hB : 1 ≤ B) (hNy : ks.toInt ≤ Ny) (hNy2 : Ny ≤ 100000) (hcs : fl.toInt = 0 → cs_R ks.toInt kfc kfy L nL) (hnL : 0 ≤ nL) (hB2 : B ≤ 32) (hk0 : 0 ≤ k.toInt) (hA : ∀ j : Int, 0 ≤ j → 8 * j < en.toInt → A j = gr fr j) (F_fr : sb_Fit fr) (F_xf : sb_Fit xf) : Cn l G i_Expander_repeat [.ref h, .int k, .ref kh] [(h, .inr (5, [.ref ex, .ref et, .ref ea, .ref eb, .ref ec, .ref ed, .ref ef, .ref er, .int at_, .int en, .int fl])), (er, .inl (G.2.1, N, .inl fr)), (ex, .inr (0, [.ref ey, .int xs])), (ey, .inl (G.2.1, 4000, .inl xf)), (kh, .inr (1, [.ref kc, .ref ky, .int ks])), (kc, .inl (G.2.2.1, 16, .inl kfc)), (ky, .inl (G.2.2.1, Ny, .inl kfy))] (S := Int32 × Int32 × Int32 × (Nat → Int32)) (fun rv_ u => rv_ = none ∧ (at_.toInt ≤ u.1.toInt) ∧ (u.1.toInt ≤ en.toInt) ∧ (0 ≤ u.2.1.toInt) ∧ (fl.toInt ≠ 0 → u.2.1.toInt ≠ 0) ∧ (0 ≤ u.2.2.1.toInt) ∧ (u.2.2.1.toInt ≤ 4000) ∧ (rp_f A en.toInt L nL xs.toInt (sq xf 0 xs.toInt) k.toInt fl.toInt at_.toInt = oz_ u.2.1.toInt u.1.toInt u.2.2.1.toInt (sq u.2.2.2 0 u.2.2.1.toInt)) ∧ (sb_Fit u.2.2.2)) (fun u => [(h, .inr (5, [.ref ex, .ref et, .ref ea, .ref eb, .ref ec, .ref ed, .ref ef, .ref er, .int u.1, .int en, .int u.2.1])), (er, .inl (G.2.1, N, .inl fr)), (ex, .inr (0, [.ref ey, .int u.2.2.1])), (ey, .inl (G.2.1, 4000, .inl u.2.2.2)), (kh, .inr (1, [.ref kc, .ref ky, .int ks])), (kc, .inl (G.2.2.1, 16, .inl kfc)), (ky, .inl (G.2.2.1, Ny, .inl kfy))]) := sorry
theorem d_Expander_readStored_0 : decode prog_3_method_4_code 0 = .ok (.aload_n 0, 1) := sorry
theorem d_Expander_readStored_1 : decode prog_3_method_4_code 1 = .ok (.aload_n 0, 1) := sorry
theorem d_Expander_readStored_2 : decode prog_3_method_4_code 2 = .ok (.getfield 58, 3) := sorry
theorem d_Expander_readStored_5 : decode prog_3_method_4_code 5 = .ok (.bipush 7, 2) := sorry
theorem d_Expander_readStored_7 : decode prog_3_method_4_code 7 = .ok (.iadd, 1) := sorry
theorem d_Expander_readStored_8 : decode prog_3_method_4_code 8 = .ok (.bipush 8, 2) := sorry
theorem d_Expander_readStored_10 : decode prog_3_method_4_code 10 = .ok (.idiv, 1) := sorry
theorem d_Expander_readStored_11 : decode prog_3_method_4_code 11 = .ok (.bipush 8, 2) := sorry
theorem d_Expander_readStored_13 : decode prog_3_method_4_code 13 = .ok (.imul, 1) := sorry
theorem d_Expander_readStored_14 : decode prog_3_method_4_code 14 = .ok (.putfield 58, 3) := sorry
theorem d_Expander_readStored_17 : decode prog_3_method_4_code 17 = .ok (.aload_n 0, 1) := sorry
theorem d_Expander_readStored_18 : decode prog_3_method_4_code 18 = .ok (.bipush 16, 2) := sorry
theorem d_Expander_readStored_20 : decode prog_3_method_4_code 20 = .ok (.invokevirtual 71, 3) := sorry
theorem d_Expander_readStored_23 : decode prog_3_method_4_code 23 = .ok (.istore_n 1, 1) := sorry
theorem d_Expander_readStored_42 : decode prog_3_method_4_code 42 = .ok (.iconst 0, 1) := sorry
theorem d_Expander_readStored_43 : decode prog_3_method_4_code 43 = .ok (.istore_n 2, 1) := sorry
theorem d_Expander_readStored_44 : decode prog_3_method_4_code 44 = .ok (.iload_n 2, 1) := sorry
theorem d_Expander_readStored_45 : decode prog_3_method_4_code 45 = .ok (.iload_n 1, 1) := sorry
theorem d_Expander_readStored_46 : decode prog_3_method_4_code 46 = .ok (.if_icmp .ge 26, 3) := sorry
theorem d_Expander_readStored_72 : decode prog_3_method_4_code 72 = .ok (.return_, 1) := sorry
theorem d_Expander_readStored_49 : decode prog_3_method_4_code 49 = .ok (.aload_n 0, 1) := sorry
theorem d_Expander_readStored_50 : decode prog_3_method_4_code 50 = .ok (.getfield 65, 3) := sorry
theorem d_Expander_readStored_53 : decode prog_3_method_4_code 53 = .ok (.ifCond .ne 19, 3) := sorry
theorem d_Expander_readStored_56 : decode prog_3_method_4_code 56 = .ok (.aload_n 0, 1) := sorry
theorem d_Expander_readStored_57 : decode prog_3_method_4_code 57 = .ok (.aload_n 0, 1) := sorry
theorem d_Expander_readStored_58 : decode prog_3_method_4_code 58 = .ok (.bipush 8, 2) := sorry
theorem d_Expander_readStored_60 : decode prog_3_method_4_code 60 = .ok (.invokevirtual 71, 3) := sorry
theorem d_Expander_readStored_63 : decode prog_3_method_4_code 63 = .ok (.invokevirtual 89, 3) := sorry
theorem k_644 : (Jvm.Cond.methodLink "PackageBook$Expander" (89 : Nat) ({ cls := "PackageBook$Expander", name := "putByte", desc := "(I)V" } : Jvm.MethodName)) ∈ uW := sorry
theorem k_647 : (Jvm.Cond.code ({ cls := "PackageBook$Expander", name := "putByte", desc := "(I)V" } : Jvm.MethodName) prog_3_method_15_code (2 : Nat) (Option.none : Option Jvm.ClassFile.FieldType)) ∈ uW := sorry
theorem k_646 : (Jvm.Cond.instanceMethod ({ cls := "PackageBook$Expander", name := "putByte", desc := "(I)V" } : Jvm.MethodName)) ∈ uW := sorry
theorem k_20 : Cond.selects "PackageBook$Expander" ⟨"PackageBook$Expander", "putByte", "(I)V"⟩ ⟨"PackageBook$Expander", "putByte", "(I)V"⟩ ∈ uW := sorry
theorem hy_Expander_putByte : (y_Expander_putByte).cls ≠ "java/lang/invoke/MethodHandle" ∧ (y_Expander_putByte).cls ≠ "java/lang/invoke/VarHandle" ∧ (parseMethodDescriptor (y_Expander_putByte).desc).map (fun d => d.parameters.length) = some 1 := sorry
theorem d_Expander_readStored_66 : decode prog_3_method_4_code 66 = .ok (.iinc 2 1, 3) := sorry
theorem d_Expander_readStored_69 : decode prog_3_method_4_code 69 = .ok (.goto (-25), 3) := sorry
theorem d_Expander_readStored_24 : decode prog_3_method_4_code 24 = .ok (.aload_n 0, 1) := sorry
theorem d_Expander_readStored_25 : decode prog_3_method_4_code 25 = .ok (.bipush 16, 2) := sorry
theorem d_Expander_readStored_27 : decode prog_3_method_4_code 27 = .ok (.invokevirtual 71, 3) := sorry
theorem d_Expander_readStored_30 : decode prog_3_method_4_code 30 = .ok (.ldc 88, 2) := sorry
theorem k_639 : (Jvm.Cond.constant "PackageBook$Expander" (88 : Nat) (65535 : Int32)) ∈ uW := sorry
theorem d_Expander_readStored_32 : decode prog_3_method_4_code 32 = .ok (.iload_n 1, 1) := sorry
theorem d_Expander_readStored_33 : decode prog_3_method_4_code 33 = .ok (.isub, 1) := sorry
theorem d_Expander_readStored_34 : decode prog_3_method_4_code 34 = .ok (.if_icmp .eq 8, 3) := sorry
theorem d_Expander_readStored_37 : decode prog_3_method_4_code 37 = .ok (.aload_n 0, 1) := sorry
theorem d_Expander_readStored_38 : decode prog_3_method_4_code 38 = .ok (.iconst 3, 1) := sorry
theorem d_Expander_readStored_39 : decode prog_3_method_4_code 39 = .ok (.invokevirtual 85, 3) := sorry
abbrev y_Expander_readStored : MethodName := ⟨"PackageBook$Expander", "readStored", "()V"⟩
abbrev i_Expander_readStored : pb_I := (y_Expander_readStored, prog_3_method_4_code, 3, (Option.none : Option Jvm.ClassFile.FieldType), [], { frames := 2, cells := 0, slots := 0, locals := 42 })
theorem g_Exp_readStored {l : Launch} (hl : l.stackTraces = false) (G : pb_G) (h : Nat) (ex : Nat) (et : Nat) (ea : Nat) (eb : Nat) (ec : Nat) (ed : Nat) (ef : Nat) (er : Nat) (at_ : Int32) (en : Int32) (fl : Int32) (N : Nat) (fr : Nat → Int32) (ey : Nat) (xf : Nat → Int32) (xs : Int32) (A : Int → Int32) (a0 : 0 ≤ at_.toInt) (a1 : at_.toInt ≤ en.toInt) (a2 : en.toInt ≤ 8 * N) (a3 : N ≤ 100000) (a4 : 0 ≤ fl.toInt) (a5 : en.toInt % 8 = 0) (b0 : 0 ≤ xs.toInt) (b1 : xs.toInt ≤ 4000) (hA : ∀ j : Int, 0 ≤ j → 8 * j < en.toInt → A j = gr fr j) (F_fr : sb_Fit fr) (F_xf : sb_Fit xf) : Cn l G i_Expander_readStored [.ref h] [(h, .inr (5, [.ref ex, .ref et, .ref ea, .ref eb, .ref ec, .ref ed, .ref ef, .ref er, .int at_, .int en, .int fl])), (er, .inl (G.2.1, N, .inl fr)), (ex, .inr (0, [.ref ey, .int xs])), (ey, .inl (G.2.1, 4000, .inl xf))] (S := Int32 × Int32 × Int32 × (Nat → Int32)) (fun rv_ u => rv_ = none ∧ (at_.toInt ≤ u.1.toInt) ∧ (u.1.toInt ≤ en.toInt) ∧ (0 ≤ u.2.1.toInt) ∧ (fl.toInt ≠ 0 → u.2.1.toInt ≠ 0) ∧ (0 ≤ u.2.2.1.toInt) ∧ (u.2.2.1.toInt ≤ 4000) ∧ (st_f A en.toInt fl.toInt at_.toInt xs.toInt (sq xf 0 xs.toInt) = oz_ u.2.1.toInt u.1.toInt u.2.2.1.toInt (sq u.2.2.2 0 u.2.2.1.toInt)) ∧ (sb_Fit u.2.2.2)) (fun u => [(h, .inr (5, [.ref ex, .ref et, .ref ea, .ref eb, .ref ec, .ref ed, .ref ef, .ref er, .int u.1, .int en, .int u.2.1])), (er, .inl (G.2.1, N, .inl fr)), (ex, .inr (0, [.ref ey, .int u.2.2.1])), (ey, .inl (G.2.1, 4000, .inl u.2.2.2))]) := sorry
