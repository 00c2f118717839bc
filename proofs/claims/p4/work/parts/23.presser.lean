theorem d_JArrays_fill_0 : decode prog_24_method_103_code 0 = .ok (.iconst 0, 1) := sorry
theorem d_JArrays_fill_1 : decode prog_24_method_103_code 1 = .ok (.istore_n 2, 1) := sorry
theorem d_JArrays_fill_2 : decode prog_24_method_103_code 2 = .ok (.aload_n 0, 1) := sorry
theorem d_JArrays_fill_3 : decode prog_24_method_103_code 3 = .ok (.arraylength, 1) := sorry
theorem d_JArrays_fill_4 : decode prog_24_method_103_code 4 = .ok (.istore_n 3, 1) := sorry
theorem d_JArrays_fill_5 : decode prog_24_method_103_code 5 = .ok (.iload_n 2, 1) := sorry
theorem d_JArrays_fill_6 : decode prog_24_method_103_code 6 = .ok (.iload_n 3, 1) := sorry
theorem d_JArrays_fill_7 : decode prog_24_method_103_code 7 = .ok (.if_icmp .ge 13, 3) := sorry
theorem d_JArrays_fill_20 : decode prog_24_method_103_code 20 = .ok (.return_, 1) := sorry
theorem d_JArrays_fill_10 : decode prog_24_method_103_code 10 = .ok (.aload_n 0, 1) := sorry
theorem d_JArrays_fill_11 : decode prog_24_method_103_code 11 = .ok (.iload_n 2, 1) := sorry
theorem d_JArrays_fill_12 : decode prog_24_method_103_code 12 = .ok (.iload_n 1, 1) := sorry
theorem d_JArrays_fill_13 : decode prog_24_method_103_code 13 = .ok (.iastore, 1) := sorry
theorem d_JArrays_fill_14 : decode prog_24_method_103_code 14 = .ok (.iinc 2 1, 3) := sorry
theorem d_JArrays_fill_17 : decode prog_24_method_103_code 17 = .ok (.goto (-12), 3) := sorry
abbrev y_JArrays_fill : MethodName := ⟨"java/util/Arrays", "fill", "([II)V"⟩
abbrev i_JArrays_fill : pb_I := (y_JArrays_fill, prog_24_method_103_code, 4, (Option.none : Option Jvm.ClassFile.FieldType), [], { frames := 0, cells := 0, slots := 0, locals := 0 })
theorem g_fill {l : Launch} (hl : l.stackTraces = false) (G : pb_G) (b : Nat) (N : Nat) (f : Nat → Int32) (vv : Int32) (hN : N ≤ 100000) : Cn l G i_JArrays_fill [.ref b, .int vv] [(b, .inl (G.2.2.1, N, .inl f))] (S := (Nat → Int32)) (fun rv_ u => rv_ = none ∧ (∀ x : Int, 0 ≤ x → x < N → gx u x = vv.toInt)) (fun u => [(b, .inl (G.2.2.1, N, .inl u))]) := sorry
theorem d_Presser_turned_0 : decode prog_8_method_10_code 0 = .ok (.iconst 0, 1) := sorry
theorem d_Presser_turned_1 : decode prog_8_method_10_code 1 = .ok (.istore_n 2, 1) := sorry
theorem d_Presser_turned_2 : decode prog_8_method_10_code 2 = .ok (.iconst 0, 1) := sorry
theorem d_Presser_turned_3 : decode prog_8_method_10_code 3 = .ok (.istore_n 3, 1) := sorry
theorem d_Presser_turned_4 : decode prog_8_method_10_code 4 = .ok (.iload_n 3, 1) := sorry
theorem d_Presser_turned_5 : decode prog_8_method_10_code 5 = .ok (.iload_n 1, 1) := sorry
theorem d_Presser_turned_6 : decode prog_8_method_10_code 6 = .ok (.if_icmp .ge 19, 3) := sorry
theorem d_Presser_turned_25 : decode prog_8_method_10_code 25 = .ok (.iload_n 2, 1) := sorry
theorem d_Presser_turned_26 : decode prog_8_method_10_code 26 = .ok (.ireturn, 1) := sorry
theorem d_Presser_turned_9 : decode prog_8_method_10_code 9 = .ok (.iconst 2, 1) := sorry
theorem d_Presser_turned_10 : decode prog_8_method_10_code 10 = .ok (.iload_n 2, 1) := sorry
theorem d_Presser_turned_11 : decode prog_8_method_10_code 11 = .ok (.imul, 1) := sorry
theorem d_Presser_turned_12 : decode prog_8_method_10_code 12 = .ok (.iload_n 0, 1) := sorry
theorem d_Presser_turned_13 : decode prog_8_method_10_code 13 = .ok (.iload_n 3, 1) := sorry
theorem d_Presser_turned_14 : decode prog_8_method_10_code 14 = .ok (.ishr, 1) := sorry
theorem d_Presser_turned_15 : decode prog_8_method_10_code 15 = .ok (.iconst 1, 1) := sorry
theorem d_Presser_turned_16 : decode prog_8_method_10_code 16 = .ok (.iand, 1) := sorry
theorem d_Presser_turned_17 : decode prog_8_method_10_code 17 = .ok (.iadd, 1) := sorry
theorem d_Presser_turned_18 : decode prog_8_method_10_code 18 = .ok (.istore_n 2, 1) := sorry
theorem d_Presser_turned_19 : decode prog_8_method_10_code 19 = .ok (.iinc 3 1, 3) := sorry
theorem d_Presser_turned_22 : decode prog_8_method_10_code 22 = .ok (.goto (-18), 3) := sorry
abbrev y_Presser_turned : MethodName := ⟨"PackageBook$Presser", "turned", "(II)I"⟩
abbrev i_Presser_turned : pb_I := (y_Presser_turned, prog_8_method_10_code, 4, (some Jvm.ClassFile.FieldType.int), [], { frames := 0, cells := 0, slots := 0, locals := 0 })
theorem g_Pr_turned {l : Launch} (hl : l.stackTraces = false) (G : pb_G) (x : Int32) (n : Int32) (x0 : 0 ≤ x.toInt) (n0 : 0 ≤ n.toInt) (n1 : n.toInt ≤ 16) : Cn l G i_Presser_turned [.int x, .int n] [] (S := Int32) (fun rv_ u => rv_ = some (.int u) ∧ (u.toInt = tu_ x.toInt n.toInt.toNat)) (fun u => []) := sorry
theorem d_Presser_putNumber_0 : decode prog_8_method_11_code 0 = .ok (.iconst 0, 1) := sorry
theorem d_Presser_putNumber_1 : decode prog_8_method_11_code 1 = .ok (.istore_n 3, 1) := sorry
theorem d_Presser_putNumber_2 : decode prog_8_method_11_code 2 = .ok (.iload_n 3, 1) := sorry
theorem d_Presser_putNumber_3 : decode prog_8_method_11_code 3 = .ok (.iload_n 2, 1) := sorry
theorem d_Presser_putNumber_4 : decode prog_8_method_11_code 4 = .ok (.if_icmp .ge 106, 3) := sorry
theorem d_Presser_putNumber_110 : decode prog_8_method_11_code 110 = .ok (.return_, 1) := sorry
theorem d_Presser_putNumber_59 : decode prog_8_method_11_code 59 = .ok (.aload_n 0, 1) := sorry
theorem d_Presser_putNumber_60 : decode prog_8_method_11_code 60 = .ok (.getfield 14, 3) := sorry
theorem d_Presser_putNumber_63 : decode prog_8_method_11_code 63 = .ok (.getfield 90, 3) := sorry
theorem k_161 : (Jvm.Cond.fieldLinkNest "PackageBook$Presser" (90 : Nat) "PackageBook$Row" "bytes" "[B" "PackageBook") ∈ uN := sorry
theorem d_Presser_putNumber_66 : decode prog_8_method_11_code 66 = .ok (.aload_n 0, 1) := sorry
theorem d_Presser_putNumber_67 : decode prog_8_method_11_code 67 = .ok (.getfield 14, 3) := sorry
theorem d_Presser_putNumber_70 : decode prog_8_method_11_code 70 = .ok (.getfield 38, 3) := sorry
theorem k_164 : (Jvm.Cond.fieldLinkNest "PackageBook$Presser" (38 : Nat) "PackageBook$Row" "size" "I" "PackageBook") ∈ uN := sorry
theorem d_Presser_putNumber_73 : decode prog_8_method_11_code 73 = .ok (.iconst 1, 1) := sorry
theorem d_Presser_putNumber_74 : decode prog_8_method_11_code 74 = .ok (.isub, 1) := sorry
theorem d_Presser_putNumber_75 : decode prog_8_method_11_code 75 = .ok (.dup2, 1) := sorry
theorem d_Presser_putNumber_76 : decode prog_8_method_11_code 76 = .ok (.baload, 1) := sorry
theorem d_Presser_putNumber_77 : decode prog_8_method_11_code 77 = .ok (.iload_n 1, 1) := sorry
theorem d_Presser_putNumber_78 : decode prog_8_method_11_code 78 = .ok (.iload_n 3, 1) := sorry
theorem d_Presser_putNumber_79 : decode prog_8_method_11_code 79 = .ok (.ishr, 1) := sorry
theorem d_Presser_putNumber_80 : decode prog_8_method_11_code 80 = .ok (.iconst 1, 1) := sorry
theorem d_Presser_putNumber_81 : decode prog_8_method_11_code 81 = .ok (.iand, 1) := sorry
theorem d_Presser_putNumber_82 : decode prog_8_method_11_code 82 = .ok (.aload_n 0, 1) := sorry
theorem d_Presser_putNumber_83 : decode prog_8_method_11_code 83 = .ok (.getfield 39, 3) := sorry
theorem k_189 : (Jvm.Cond.fieldLink "PackageBook$Presser" (39 : Nat) "PackageBook$Presser" "bits" "I") ∈ uW := sorry
theorem d_Presser_putNumber_86 : decode prog_8_method_11_code 86 = .ok (.bipush 8, 2) := sorry
theorem d_Presser_putNumber_88 : decode prog_8_method_11_code 88 = .ok (.irem, 1) := sorry
theorem d_Presser_putNumber_89 : decode prog_8_method_11_code 89 = .ok (.ishl, 1) := sorry
theorem d_Presser_putNumber_90 : decode prog_8_method_11_code 90 = .ok (.i2b, 1) := sorry
theorem d_Presser_putNumber_91 : decode prog_8_method_11_code 91 = .ok (.ior, 1) := sorry
theorem d_Presser_putNumber_92 : decode prog_8_method_11_code 92 = .ok (.i2b, 1) := sorry
theorem d_Presser_putNumber_93 : decode prog_8_method_11_code 93 = .ok (.bastore, 1) := sorry
theorem d_Presser_putNumber_94 : decode prog_8_method_11_code 94 = .ok (.aload_n 0, 1) := sorry
theorem d_Presser_putNumber_95 : decode prog_8_method_11_code 95 = .ok (.dup, 1) := sorry
theorem d_Presser_putNumber_96 : decode prog_8_method_11_code 96 = .ok (.getfield 39, 3) := sorry
theorem d_Presser_putNumber_99 : decode prog_8_method_11_code 99 = .ok (.iconst 1, 1) := sorry
theorem d_Presser_putNumber_100 : decode prog_8_method_11_code 100 = .ok (.iadd, 1) := sorry
theorem d_Presser_putNumber_101 : decode prog_8_method_11_code 101 = .ok (.putfield 39, 3) := sorry
theorem d_Presser_putNumber_104 : decode prog_8_method_11_code 104 = .ok (.iinc 3 1, 3) := sorry
theorem d_Presser_putNumber_107 : decode prog_8_method_11_code 107 = .ok (.goto (-105), 3) := sorry
theorem d_Presser_putNumber_7 : decode prog_8_method_11_code 7 = .ok (.aload_n 0, 1) := sorry
theorem d_Presser_putNumber_8 : decode prog_8_method_11_code 8 = .ok (.getfield 39, 3) := sorry
theorem d_Presser_putNumber_11 : decode prog_8_method_11_code 11 = .ok (.bipush 8, 2) := sorry
theorem d_Presser_putNumber_13 : decode prog_8_method_11_code 13 = .ok (.irem, 1) := sorry
theorem d_Presser_putNumber_14 : decode prog_8_method_11_code 14 = .ok (.ifCond .ne 45, 3) := sorry
theorem d_Presser_putNumber_17 : decode prog_8_method_11_code 17 = .ok (.aload_n 0, 1) := sorry
theorem d_Presser_putNumber_18 : decode prog_8_method_11_code 18 = .ok (.getfield 14, 3) := sorry
theorem d_Presser_putNumber_21 : decode prog_8_method_11_code 21 = .ok (.getfield 38, 3) := sorry
theorem d_Presser_putNumber_24 : decode prog_8_method_11_code 24 = .ok (.sipush 4502, 3) := sorry
theorem d_Presser_putNumber_27 : decode prog_8_method_11_code 27 = .ok (.if_icmp .ge 32, 3) := sorry
theorem d_Presser_putNumber_30 : decode prog_8_method_11_code 30 = .ok (.aload_n 0, 1) := sorry
theorem d_Presser_putNumber_31 : decode prog_8_method_11_code 31 = .ok (.getfield 14, 3) := sorry
theorem d_Presser_putNumber_34 : decode prog_8_method_11_code 34 = .ok (.getfield 90, 3) := sorry
theorem d_Presser_putNumber_37 : decode prog_8_method_11_code 37 = .ok (.aload_n 0, 1) := sorry
theorem d_Presser_putNumber_38 : decode prog_8_method_11_code 38 = .ok (.getfield 14, 3) := sorry
theorem d_Presser_putNumber_41 : decode prog_8_method_11_code 41 = .ok (.getfield 38, 3) := sorry
theorem d_Presser_putNumber_44 : decode prog_8_method_11_code 44 = .ok (.iconst 0, 1) := sorry
theorem d_Presser_putNumber_45 : decode prog_8_method_11_code 45 = .ok (.bastore, 1) := sorry
theorem d_Presser_putNumber_46 : decode prog_8_method_11_code 46 = .ok (.aload_n 0, 1) := sorry
theorem d_Presser_putNumber_47 : decode prog_8_method_11_code 47 = .ok (.getfield 14, 3) := sorry
theorem d_Presser_putNumber_50 : decode prog_8_method_11_code 50 = .ok (.dup, 1) := sorry
theorem d_Presser_putNumber_51 : decode prog_8_method_11_code 51 = .ok (.getfield 38, 3) := sorry
theorem d_Presser_putNumber_54 : decode prog_8_method_11_code 54 = .ok (.iconst 1, 1) := sorry
theorem d_Presser_putNumber_55 : decode prog_8_method_11_code 55 = .ok (.iadd, 1) := sorry
theorem d_Presser_putNumber_56 : decode prog_8_method_11_code 56 = .ok (.putfield 38, 3) := sorry
abbrev y_Presser_putNumber : MethodName := ⟨"PackageBook$Presser", "putNumber", "(II)V"⟩
abbrev i_Presser_putNumber : pb_I := (y_Presser_putNumber, prog_8_method_11_code, 4, (Option.none : Option Jvm.ClassFile.FieldType), [], { frames := 0, cells := 0, slots := 0, locals := 0 })
theorem g_Pr_putNumber {l : Launch} (hl : l.stackTraces = false) (G : pb_G) (h : Nat) (pp : Nat) (pl : Nat) (pe : Nat) (pr : Nat) (pb : Nat) (bg : Int32) (sz : Int32) (bt : Int32) (ln : Int32) (ds : Int32) (f : Nat → Int32) (ps : Int32) (v : Int32) (n : Int32) (S : Int × (Int → Int)) (k0 : 0 ≤ bt.toInt) (k1 : bt.toInt + n.toInt ≤ 36016) (k5 : ps.toInt = (bt.toInt + 7) / 8) (n0 : 0 ≤ n.toInt) (n1 : n.toInt ≤ 100) (hS : pC_ f ps.toInt bt.toInt S) (v0 : 0 ≤ v.toInt) (n9 : n.toInt ≤ 30) (F_f : sb_Fit f) : Cn l G i_Presser_putNumber [.ref h, .int v, .int n] [(h, .inr (4, [.ref pp, .ref pl, .ref pe, .ref pr, .int bg, .int sz, .int bt, .int ln, .int ds])), (pp, .inr (0, [.ref pb, .int ps])), (pb, .inl (G.2.1, 4502, .inl f))] (S := Int32 × Int32 × (Nat → Int32)) (fun rv_ u => rv_ = none ∧ (u.1.toInt = bt.toInt + n.toInt) ∧ (u.2.1.toInt = (u.1.toInt + 7) / 8) ∧ (pC_ u.2.2 u.2.1.toInt u.1.toInt (bn_ S v.toInt n.toInt.toNat)) ∧ (sb_Fit u.2.2)) (fun u => [(h, .inr (4, [.ref pp, .ref pl, .ref pe, .ref pr, .int bg, .int sz, .int u.1, .int ln, .int ds])), (pp, .inr (0, [.ref pb, .int u.2.1])), (pb, .inl (G.2.1, 4502, .inl u.2.2))]) := sorry
theorem d_Presser_putSymbol_0 : decode prog_8_method_9_code 0 = .ok (.iload_n 1, 1) := sorry
theorem d_Presser_putSymbol_1 : decode prog_8_method_9_code 1 = .ok (.sipush 144, 3) := sorry
theorem d_Presser_putSymbol_4 : decode prog_8_method_9_code 4 = .ok (.if_icmp .ge 21, 3) := sorry
theorem d_Presser_putSymbol_25 : decode prog_8_method_9_code 25 = .ok (.iload_n 1, 1) := sorry
theorem d_Presser_putSymbol_26 : decode prog_8_method_9_code 26 = .ok (.sipush 256, 3) := sorry
theorem d_Presser_putSymbol_29 : decode prog_8_method_9_code 29 = .ok (.if_icmp .ge 26, 3) := sorry
theorem d_Presser_putSymbol_55 : decode prog_8_method_9_code 55 = .ok (.iload_n 1, 1) := sorry
theorem d_Presser_putSymbol_56 : decode prog_8_method_9_code 56 = .ok (.sipush 280, 3) := sorry
theorem d_Presser_putSymbol_59 : decode prog_8_method_9_code 59 = .ok (.if_icmp .ge 22, 3) := sorry
theorem d_Presser_putSymbol_81 : decode prog_8_method_9_code 81 = .ok (.aload_n 0, 1) := sorry
theorem d_Presser_putSymbol_82 : decode prog_8_method_9_code 82 = .ok (.sipush 192, 3) := sorry
theorem d_Presser_putSymbol_85 : decode prog_8_method_9_code 85 = .ok (.iload_n 1, 1) := sorry
theorem d_Presser_putSymbol_86 : decode prog_8_method_9_code 86 = .ok (.iadd, 1) := sorry
theorem d_Presser_putSymbol_87 : decode prog_8_method_9_code 87 = .ok (.sipush 280, 3) := sorry
theorem d_Presser_putSymbol_90 : decode prog_8_method_9_code 90 = .ok (.isub, 1) := sorry
theorem d_Presser_putSymbol_91 : decode prog_8_method_9_code 91 = .ok (.bipush 8, 2) := sorry
theorem d_Presser_putSymbol_93 : decode prog_8_method_9_code 93 = .ok (.invokestatic 87, 3) := sorry
theorem k_528 : (Jvm.Cond.methodLink "PackageBook$Presser" (87 : Nat) ({ cls := "PackageBook$Presser", name := "turned", desc := "(II)I" } : Jvm.MethodName)) ∈ uW := sorry
theorem k_120 : (Jvm.Cond.initialized "PackageBook$Presser") ∈ uW := sorry
theorem k_530 : (Jvm.Cond.code ({ cls := "PackageBook$Presser", name := "turned", desc := "(II)I" } : Jvm.MethodName) prog_8_method_10_code (4 : Nat) (Option.some Jvm.ClassFile.FieldType.int)) ∈ uW := sorry
theorem k_529 : (Jvm.Cond.static ({ cls := "PackageBook$Presser", name := "turned", desc := "(II)I" } : Jvm.MethodName)) ∈ uW := sorry
theorem hy_Presser_turned : (y_Presser_turned).cls ≠ "java/lang/invoke/MethodHandle" ∧ (y_Presser_turned).cls ≠ "java/lang/invoke/VarHandle" ∧ (parseMethodDescriptor (y_Presser_turned).desc).map (fun d => d.parameters.length) = some 2 := sorry
theorem d_Presser_putSymbol_96 : decode prog_8_method_9_code 96 = .ok (.bipush 8, 2) := sorry
theorem d_Presser_putSymbol_98 : decode prog_8_method_9_code 98 = .ok (.invokevirtual 48, 3) := sorry
theorem k_505 : (Jvm.Cond.methodLink "PackageBook$Presser" (48 : Nat) ({ cls := "PackageBook$Presser", name := "putNumber", desc := "(II)V" } : Jvm.MethodName)) ∈ uW := sorry
theorem k_508 : (Jvm.Cond.code ({ cls := "PackageBook$Presser", name := "putNumber", desc := "(II)V" } : Jvm.MethodName) prog_8_method_11_code (4 : Nat) (Option.none : Option Jvm.ClassFile.FieldType)) ∈ uW := sorry
theorem k_507 : (Jvm.Cond.instanceMethod ({ cls := "PackageBook$Presser", name := "putNumber", desc := "(II)V" } : Jvm.MethodName)) ∈ uW := sorry
theorem k_2 : Cond.selects "PackageBook$Presser" ⟨"PackageBook$Presser", "putNumber", "(II)V"⟩ ⟨"PackageBook$Presser", "putNumber", "(II)V"⟩ ∈ uW := sorry
theorem hy_Presser_putNumber : (y_Presser_putNumber).cls ≠ "java/lang/invoke/MethodHandle" ∧ (y_Presser_putNumber).cls ≠ "java/lang/invoke/VarHandle" ∧ (parseMethodDescriptor (y_Presser_putNumber).desc).map (fun d => d.parameters.length) = some 2 := sorry
theorem d_Presser_putSymbol_101 : decode prog_8_method_9_code 101 = .ok (.return_, 1) := sorry
theorem d_Presser_putSymbol_62 : decode prog_8_method_9_code 62 = .ok (.aload_n 0, 1) := sorry
theorem d_Presser_putSymbol_63 : decode prog_8_method_9_code 63 = .ok (.iload_n 1, 1) := sorry
theorem d_Presser_putSymbol_64 : decode prog_8_method_9_code 64 = .ok (.sipush 256, 3) := sorry
theorem d_Presser_putSymbol_67 : decode prog_8_method_9_code 67 = .ok (.isub, 1) := sorry
theorem d_Presser_putSymbol_68 : decode prog_8_method_9_code 68 = .ok (.bipush 7, 2) := sorry
theorem d_Presser_putSymbol_70 : decode prog_8_method_9_code 70 = .ok (.invokestatic 87, 3) := sorry
theorem d_Presser_putSymbol_73 : decode prog_8_method_9_code 73 = .ok (.bipush 7, 2) := sorry
theorem d_Presser_putSymbol_75 : decode prog_8_method_9_code 75 = .ok (.invokevirtual 48, 3) := sorry
theorem d_Presser_putSymbol_78 : decode prog_8_method_9_code 78 = .ok (.goto 23, 3) := sorry
theorem d_Presser_putSymbol_32 : decode prog_8_method_9_code 32 = .ok (.aload_n 0, 1) := sorry
theorem d_Presser_putSymbol_33 : decode prog_8_method_9_code 33 = .ok (.sipush 400, 3) := sorry
theorem d_Presser_putSymbol_36 : decode prog_8_method_9_code 36 = .ok (.iload_n 1, 1) := sorry
theorem d_Presser_putSymbol_37 : decode prog_8_method_9_code 37 = .ok (.iadd, 1) := sorry
theorem d_Presser_putSymbol_38 : decode prog_8_method_9_code 38 = .ok (.sipush 144, 3) := sorry
theorem d_Presser_putSymbol_41 : decode prog_8_method_9_code 41 = .ok (.isub, 1) := sorry
theorem d_Presser_putSymbol_42 : decode prog_8_method_9_code 42 = .ok (.bipush 9, 2) := sorry
theorem d_Presser_putSymbol_44 : decode prog_8_method_9_code 44 = .ok (.invokestatic 87, 3) := sorry
theorem d_Presser_putSymbol_47 : decode prog_8_method_9_code 47 = .ok (.bipush 9, 2) := sorry
theorem d_Presser_putSymbol_49 : decode prog_8_method_9_code 49 = .ok (.invokevirtual 48, 3) := sorry
theorem d_Presser_putSymbol_52 : decode prog_8_method_9_code 52 = .ok (.goto 49, 3) := sorry
theorem d_Presser_putSymbol_7 : decode prog_8_method_9_code 7 = .ok (.aload_n 0, 1) := sorry
theorem d_Presser_putSymbol_8 : decode prog_8_method_9_code 8 = .ok (.bipush 48, 2) := sorry
theorem d_Presser_putSymbol_10 : decode prog_8_method_9_code 10 = .ok (.iload_n 1, 1) := sorry
theorem d_Presser_putSymbol_11 : decode prog_8_method_9_code 11 = .ok (.iadd, 1) := sorry
theorem d_Presser_putSymbol_12 : decode prog_8_method_9_code 12 = .ok (.bipush 8, 2) := sorry
theorem d_Presser_putSymbol_14 : decode prog_8_method_9_code 14 = .ok (.invokestatic 87, 3) := sorry
theorem d_Presser_putSymbol_17 : decode prog_8_method_9_code 17 = .ok (.bipush 8, 2) := sorry
theorem d_Presser_putSymbol_19 : decode prog_8_method_9_code 19 = .ok (.invokevirtual 48, 3) := sorry
theorem d_Presser_putSymbol_22 : decode prog_8_method_9_code 22 = .ok (.goto 79, 3) := sorry
abbrev y_Presser_putSymbol : MethodName := ⟨"PackageBook$Presser", "putSymbol", "(I)V"⟩
abbrev i_Presser_putSymbol : pb_I := (y_Presser_putSymbol, prog_8_method_9_code, 2, (Option.none : Option Jvm.ClassFile.FieldType), [], { frames := 1, cells := 0, slots := 0, locals := 23 })
theorem g_Pr_putSymbol {l : Launch} (hl : l.stackTraces = false) (G : pb_G) (h : Nat) (pp : Nat) (pl : Nat) (pe : Nat) (pr : Nat) (pb : Nat) (bg : Int32) (sz : Int32) (bt : Int32) (ln : Int32) (ds : Int32) (f : Nat → Int32) (ps : Int32) (v : Int32) (S : Int × (Int → Int)) (k0 : 0 ≤ bt.toInt) (k1 : bt.toInt + 9 ≤ 36016) (k5 : ps.toInt = (bt.toInt + 7) / 8) (hS : pC_ f ps.toInt bt.toInt S) (v0 : 0 ≤ v.toInt) (v1 : v.toInt ≤ 287) (F_f : sb_Fit f) : Cn l G i_Presser_putSymbol [.ref h, .int v] [(h, .inr (4, [.ref pp, .ref pl, .ref pe, .ref pr, .int bg, .int sz, .int bt, .int ln, .int ds])), (pp, .inr (0, [.ref pb, .int ps])), (pb, .inl (G.2.1, 4502, .inl f))] (S := Int32 × Int32 × (Nat → Int32)) (fun rv_ u => rv_ = none ∧ (v.toInt < 144 → u.1.toInt = bt.toInt + 8) ∧ (144 ≤ v.toInt → v.toInt < 256 → u.1.toInt = bt.toInt + 9) ∧ (256 ≤ v.toInt → v.toInt < 280 → u.1.toInt = bt.toInt + 7) ∧ (280 ≤ v.toInt → u.1.toInt = bt.toInt + 8) ∧ (u.2.1.toInt = (u.1.toInt + 7) / 8) ∧ (pC_ u.2.2 u.2.1.toInt u.1.toInt (sb_ S v.toInt)) ∧ (sb_Fit u.2.2)) (fun u => [(h, .inr (4, [.ref pp, .ref pl, .ref pe, .ref pr, .int bg, .int sz, .int u.1, .int ln, .int ds])), (pp, .inr (0, [.ref pb, .int u.2.1])), (pb, .inl (G.2.1, 4502, .inl u.2.2))]) := sorry
