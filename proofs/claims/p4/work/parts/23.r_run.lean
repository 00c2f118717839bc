theorem d_Presser_run_0 : decode prog_8_method_2_code 0 = .ok (.aload_n 0, 1) := sorry
theorem d_Presser_run_1 : decode prog_8_method_2_code 1 = .ok (.aload_n 1, 1) := sorry
theorem d_Presser_run_2 : decode prog_8_method_2_code 2 = .ok (.putfield 27, 3) := sorry
theorem d_Presser_run_5 : decode prog_8_method_2_code 5 = .ok (.aload_n 0, 1) := sorry
theorem d_Presser_run_6 : decode prog_8_method_2_code 6 = .ok (.iload_n 2, 1) := sorry
theorem d_Presser_run_7 : decode prog_8_method_2_code 7 = .ok (.putfield 31, 3) := sorry
theorem d_Presser_run_10 : decode prog_8_method_2_code 10 = .ok (.aload_n 0, 1) := sorry
theorem d_Presser_run_11 : decode prog_8_method_2_code 11 = .ok (.iload_n 3, 1) := sorry
theorem d_Presser_run_12 : decode prog_8_method_2_code 12 = .ok (.putfield 35, 3) := sorry
theorem d_Presser_run_15 : decode prog_8_method_2_code 15 = .ok (.aload_n 0, 1) := sorry
theorem d_Presser_run_16 : decode prog_8_method_2_code 16 = .ok (.getfield 14, 3) := sorry
theorem d_Presser_run_19 : decode prog_8_method_2_code 19 = .ok (.iconst 0, 1) := sorry
theorem d_Presser_run_20 : decode prog_8_method_2_code 20 = .ok (.putfield 38, 3) := sorry
theorem d_Presser_run_23 : decode prog_8_method_2_code 23 = .ok (.aload_n 0, 1) := sorry
theorem d_Presser_run_24 : decode prog_8_method_2_code 24 = .ok (.iconst 0, 1) := sorry
theorem d_Presser_run_25 : decode prog_8_method_2_code 25 = .ok (.putfield 39, 3) := sorry
theorem d_Presser_run_28 : decode prog_8_method_2_code 28 = .ok (.aload_n 0, 1) := sorry
theorem d_Presser_run_29 : decode prog_8_method_2_code 29 = .ok (.getfield 20, 3) := sorry
theorem d_Presser_run_32 : decode prog_8_method_2_code 32 = .ok (.iconst (-1), 1) := sorry
theorem d_Presser_run_33 : decode prog_8_method_2_code 33 = .ok (.invokestatic 42, 3) := sorry
theorem k_502 : (Jvm.Cond.methodLink "PackageBook$Presser" (42 : Nat) ({ cls := "java/util/Arrays", name := "fill", desc := "([II)V" } : Jvm.MethodName)) ∈ uW := sorry
theorem k_136 : (Jvm.Cond.initialized "java/util/Arrays") ∈ uW := sorry
theorem k_504 : (Jvm.Cond.code ({ cls := "java/util/Arrays", name := "fill", desc := "([II)V" } : Jvm.MethodName) prog_24_method_103_code (4 : Nat) (Option.none : Option Jvm.ClassFile.FieldType)) ∈ uW := sorry
theorem k_503 : (Jvm.Cond.static ({ cls := "java/util/Arrays", name := "fill", desc := "([II)V" } : Jvm.MethodName)) ∈ uW := sorry
theorem hy_JArrays_fill : (y_JArrays_fill).cls ≠ "java/lang/invoke/MethodHandle" ∧ (y_JArrays_fill).cls ≠ "java/lang/invoke/VarHandle" ∧ (parseMethodDescriptor (y_JArrays_fill).desc).map (fun d => d.parameters.length) = some 2 := sorry
theorem d_Presser_run_36 : decode prog_8_method_2_code 36 = .ok (.aload_n 0, 1) := sorry
theorem d_Presser_run_37 : decode prog_8_method_2_code 37 = .ok (.iconst 1, 1) := sorry
theorem d_Presser_run_38 : decode prog_8_method_2_code 38 = .ok (.iconst 1, 1) := sorry
theorem d_Presser_run_39 : decode prog_8_method_2_code 39 = .ok (.invokevirtual 48, 3) := sorry
theorem d_Presser_run_42 : decode prog_8_method_2_code 42 = .ok (.aload_n 0, 1) := sorry
theorem d_Presser_run_43 : decode prog_8_method_2_code 43 = .ok (.iconst 1, 1) := sorry
theorem d_Presser_run_44 : decode prog_8_method_2_code 44 = .ok (.iconst 2, 1) := sorry
theorem d_Presser_run_45 : decode prog_8_method_2_code 45 = .ok (.invokevirtual 48, 3) := sorry
theorem d_Presser_run_48 : decode prog_8_method_2_code 48 = .ok (.iconst 0, 1) := sorry
theorem d_Presser_run_49 : decode prog_8_method_2_code 49 = .ok (.istore 4, 2) := sorry
theorem d_Presser_run_51 : decode prog_8_method_2_code 51 = .ok (.iconst 0, 1) := sorry
theorem d_Presser_run_52 : decode prog_8_method_2_code 52 = .ok (.istore 5, 2) := sorry
theorem d_Presser_run_54 : decode prog_8_method_2_code 54 = .ok (.iload 5, 2) := sorry
theorem d_Presser_run_56 : decode prog_8_method_2_code 56 = .ok (.aload_n 0, 1) := sorry
theorem d_Presser_run_57 : decode prog_8_method_2_code 57 = .ok (.getfield 35, 3) := sorry
theorem d_Presser_run_60 : decode prog_8_method_2_code 60 = .ok (.if_icmp .ge 76, 3) := sorry
theorem d_Presser_run_136 : decode prog_8_method_2_code 136 = .ok (.aload_n 0, 1) := sorry
theorem d_Presser_run_137 : decode prog_8_method_2_code 137 = .ok (.sipush 256, 3) := sorry
theorem d_Presser_run_140 : decode prog_8_method_2_code 140 = .ok (.invokevirtual 58, 3) := sorry
theorem d_Presser_run_143 : decode prog_8_method_2_code 143 = .ok (.return_, 1) := sorry
theorem d_Presser_run_124 : decode prog_8_method_2_code 124 = .ok (.aload_n 0, 1) := sorry
theorem d_Presser_run_125 : decode prog_8_method_2_code 125 = .ok (.iload 5, 2) := sorry
theorem d_Presser_run_127 : decode prog_8_method_2_code 127 = .ok (.invokevirtual 67, 3) := sorry
theorem k_539 : (Jvm.Cond.methodLink "PackageBook$Presser" (67 : Nat) ({ cls := "PackageBook$Presser", name := "remember", desc := "(I)V" } : Jvm.MethodName)) ∈ uW := sorry
theorem k_542 : (Jvm.Cond.code ({ cls := "PackageBook$Presser", name := "remember", desc := "(I)V" } : Jvm.MethodName) prog_8_method_5_code (3 : Nat) (Option.none : Option Jvm.ClassFile.FieldType)) ∈ uW := sorry
theorem k_541 : (Jvm.Cond.instanceMethod ({ cls := "PackageBook$Presser", name := "remember", desc := "(I)V" } : Jvm.MethodName)) ∈ uW := sorry
theorem k_9 : Cond.selects "PackageBook$Presser" ⟨"PackageBook$Presser", "remember", "(I)V"⟩ ⟨"PackageBook$Presser", "remember", "(I)V"⟩ ∈ uW := sorry
theorem hy_Presser_remember : (y_Presser_remember).cls ≠ "java/lang/invoke/MethodHandle" ∧ (y_Presser_remember).cls ≠ "java/lang/invoke/VarHandle" ∧ (parseMethodDescriptor (y_Presser_remember).desc).map (fun d => d.parameters.length) = some 1 := sorry
theorem d_Presser_run_130 : decode prog_8_method_2_code 130 = .ok (.iinc 5 1, 3) := sorry
theorem d_Presser_run_133 : decode prog_8_method_2_code 133 = .ok (.goto (-79), 3) := sorry
theorem d_Presser_run_63 : decode prog_8_method_2_code 63 = .ok (.iload 5, 2) := sorry
theorem d_Presser_run_65 : decode prog_8_method_2_code 65 = .ok (.iload 4, 2) := sorry
theorem d_Presser_run_67 : decode prog_8_method_2_code 67 = .ok (.if_icmp .ne 57, 3) := sorry
theorem d_Presser_run_70 : decode prog_8_method_2_code 70 = .ok (.aload_n 0, 1) := sorry
theorem d_Presser_run_71 : decode prog_8_method_2_code 71 = .ok (.iload 5, 2) := sorry
theorem d_Presser_run_73 : decode prog_8_method_2_code 73 = .ok (.invokevirtual 52, 3) := sorry
theorem k_509 : (Jvm.Cond.methodLink "PackageBook$Presser" (52 : Nat) ({ cls := "PackageBook$Presser", name := "findLongest", desc := "(I)V" } : Jvm.MethodName)) ∈ uW := sorry
theorem k_512 : (Jvm.Cond.code ({ cls := "PackageBook$Presser", name := "findLongest", desc := "(I)V" } : Jvm.MethodName) prog_8_method_3_code (6 : Nat) (Option.none : Option Jvm.ClassFile.FieldType)) ∈ uW := sorry
theorem k_511 : (Jvm.Cond.instanceMethod ({ cls := "PackageBook$Presser", name := "findLongest", desc := "(I)V" } : Jvm.MethodName)) ∈ uW := sorry
theorem k_3 : Cond.selects "PackageBook$Presser" ⟨"PackageBook$Presser", "findLongest", "(I)V"⟩ ⟨"PackageBook$Presser", "findLongest", "(I)V"⟩ ∈ uW := sorry
theorem hy_Presser_findLongest : (y_Presser_findLongest).cls ≠ "java/lang/invoke/MethodHandle" ∧ (y_Presser_findLongest).cls ≠ "java/lang/invoke/VarHandle" ∧ (parseMethodDescriptor (y_Presser_findLongest).desc).map (fun d => d.parameters.length) = some 1 := sorry
theorem d_Presser_run_76 : decode prog_8_method_2_code 76 = .ok (.aload_n 0, 1) := sorry
theorem d_Presser_run_77 : decode prog_8_method_2_code 77 = .ok (.getfield 55, 3) := sorry
theorem d_Presser_run_80 : decode prog_8_method_2_code 80 = .ok (.iconst 3, 1) := sorry
theorem d_Presser_run_81 : decode prog_8_method_2_code 81 = .ok (.if_icmp .ge 26, 3) := sorry
theorem d_Presser_run_107 : decode prog_8_method_2_code 107 = .ok (.aload_n 0, 1) := sorry
theorem d_Presser_run_108 : decode prog_8_method_2_code 108 = .ok (.invokevirtual 61, 3) := sorry
theorem k_531 : (Jvm.Cond.methodLink "PackageBook$Presser" (61 : Nat) ({ cls := "PackageBook$Presser", name := "putLength", desc := "()V" } : Jvm.MethodName)) ∈ uW := sorry
theorem k_534 : (Jvm.Cond.code ({ cls := "PackageBook$Presser", name := "putLength", desc := "()V" } : Jvm.MethodName) prog_8_method_7_code (3 : Nat) (Option.none : Option Jvm.ClassFile.FieldType)) ∈ uW := sorry
theorem k_533 : (Jvm.Cond.instanceMethod ({ cls := "PackageBook$Presser", name := "putLength", desc := "()V" } : Jvm.MethodName)) ∈ uW := sorry
theorem k_7 : Cond.selects "PackageBook$Presser" ⟨"PackageBook$Presser", "putLength", "()V"⟩ ⟨"PackageBook$Presser", "putLength", "()V"⟩ ∈ uW := sorry
theorem hy_Presser_putLength : (y_Presser_putLength).cls ≠ "java/lang/invoke/MethodHandle" ∧ (y_Presser_putLength).cls ≠ "java/lang/invoke/VarHandle" ∧ (parseMethodDescriptor (y_Presser_putLength).desc).map (fun d => d.parameters.length) = some 0 := sorry
theorem d_Presser_run_111 : decode prog_8_method_2_code 111 = .ok (.aload_n 0, 1) := sorry
theorem d_Presser_run_112 : decode prog_8_method_2_code 112 = .ok (.invokevirtual 64, 3) := sorry
theorem k_535 : (Jvm.Cond.methodLink "PackageBook$Presser" (64 : Nat) ({ cls := "PackageBook$Presser", name := "putDistance", desc := "()V" } : Jvm.MethodName)) ∈ uW := sorry
theorem k_538 : (Jvm.Cond.code ({ cls := "PackageBook$Presser", name := "putDistance", desc := "()V" } : Jvm.MethodName) prog_8_method_8_code (3 : Nat) (Option.none : Option Jvm.ClassFile.FieldType)) ∈ uW := sorry
theorem k_537 : (Jvm.Cond.instanceMethod ({ cls := "PackageBook$Presser", name := "putDistance", desc := "()V" } : Jvm.MethodName)) ∈ uW := sorry
theorem k_8 : Cond.selects "PackageBook$Presser" ⟨"PackageBook$Presser", "putDistance", "()V"⟩ ⟨"PackageBook$Presser", "putDistance", "()V"⟩ ∈ uW := sorry
theorem hy_Presser_putDistance : (y_Presser_putDistance).cls ≠ "java/lang/invoke/MethodHandle" ∧ (y_Presser_putDistance).cls ≠ "java/lang/invoke/VarHandle" ∧ (parseMethodDescriptor (y_Presser_putDistance).desc).map (fun d => d.parameters.length) = some 0 := sorry
theorem d_Presser_run_115 : decode prog_8_method_2_code 115 = .ok (.iload 4, 2) := sorry
theorem d_Presser_run_117 : decode prog_8_method_2_code 117 = .ok (.aload_n 0, 1) := sorry
theorem d_Presser_run_118 : decode prog_8_method_2_code 118 = .ok (.getfield 55, 3) := sorry
theorem d_Presser_run_121 : decode prog_8_method_2_code 121 = .ok (.iadd, 1) := sorry
theorem d_Presser_run_122 : decode prog_8_method_2_code 122 = .ok (.istore 4, 2) := sorry
theorem d_Presser_run_84 : decode prog_8_method_2_code 84 = .ok (.aload_n 0, 1) := sorry
theorem d_Presser_run_85 : decode prog_8_method_2_code 85 = .ok (.aload_n 0, 1) := sorry
theorem d_Presser_run_86 : decode prog_8_method_2_code 86 = .ok (.getfield 27, 3) := sorry
theorem d_Presser_run_89 : decode prog_8_method_2_code 89 = .ok (.aload_n 0, 1) := sorry
theorem d_Presser_run_90 : decode prog_8_method_2_code 90 = .ok (.getfield 31, 3) := sorry
theorem d_Presser_run_93 : decode prog_8_method_2_code 93 = .ok (.iload 5, 2) := sorry
theorem d_Presser_run_95 : decode prog_8_method_2_code 95 = .ok (.iadd, 1) := sorry
theorem d_Presser_run_96 : decode prog_8_method_2_code 96 = .ok (.baload, 1) := sorry
theorem d_Presser_run_97 : decode prog_8_method_2_code 97 = .ok (.sipush 255, 3) := sorry
theorem d_Presser_run_100 : decode prog_8_method_2_code 100 = .ok (.iand, 1) := sorry
theorem d_Presser_run_101 : decode prog_8_method_2_code 101 = .ok (.invokevirtual 58, 3) := sorry
theorem d_Presser_run_104 : decode prog_8_method_2_code 104 = .ok (.goto 11, 3) := sorry
abbrev y_Presser_run : MethodName := ⟨"PackageBook$Presser", "run", "([BII)V"⟩
abbrev i_Presser_run : pb_I := (y_Presser_run, prog_8_method_2_code, 6, (Option.none : Option Jvm.ClassFile.FieldType), [], { frames := 3, cells := 0, slots := 0, locals := 66 })
theorem g_Pr_run {l : Launch} (hl : l.stackTraces = false) (G : pb_G) (h : Nat) (pp : Nat) (pl : Nat) (pe : Nat) (pr : Nat) (pb : Nat) (bg : Int32) (sz : Int32) (bt : Int32) (ln : Int32) (ds : Int32) (b : Nat) (N : Nat) (f : Nat → Int32) (fr : Nat → Int32) (fl : Nat → Int32) (fe : Nat → Int32) (ps : Int32) (x : Int32) (n : Int32) (x0 : 0 ≤ x.toInt) (x1 : 0 ≤ n.toInt) (x2 : n.toInt ≤ 4000) (x3 : x.toInt + n.toInt ≤ N) (x4 : N ≤ 100000) (F_f : sb_Fit f) (F_fr : sb_Fit fr) : Cn l G i_Presser_run [.ref h, .ref b, .int x, .int n] [(h, .inr (4, [.ref pp, .ref pl, .ref pe, .ref pr, .int bg, .int sz, .int bt, .int ln, .int ds])), (pp, .inr (0, [.ref pb, .int ps])), (pb, .inl (G.2.1, 4502, .inl f)), (pl, .inl (G.2.2.1, 1024, .inl fl)), (pe, .inl (G.2.2.1, 4000, .inl fe)), (b, .inl (G.2.1, N, .inl fr))] (S := Int32 × Int32 × Int32 × Int32 × (Nat → Int32) × (Nat → Int32) × (Nat → Int32)) (fun rv_ u => rv_ = none ∧ (0 ≤ u.2.2.2.1.toInt) ∧ (u.2.2.2.1.toInt ≤ 4502) ∧ (pt_F (sq fr x.toInt n.toInt) n.toInt u.2.2.2.1.toInt) ∧ (pF_ (sq fr x.toInt n.toInt) n.toInt u.2.2.2.2.1 u.2.2.2.1.toInt) ∧ (sb_Fit u.2.2.2.2.1)) (fun u => [(h, .inr (4, [.ref pp, .ref pl, .ref pe, .ref b, .int x, .int n, .int u.1, .int u.2.1, .int u.2.2.1])), (pp, .inr (0, [.ref pb, .int u.2.2.2.1])), (pb, .inl (G.2.1, 4502, .inl u.2.2.2.2.1)), (pl, .inl (G.2.2.1, 1024, .inl u.2.2.2.2.2.1)), (pe, .inl (G.2.2.1, 4000, .inl u.2.2.2.2.2.2)), (b, .inl (G.2.1, N, .inl fr))]) := sorry
