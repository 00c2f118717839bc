/-! ROWS OF NUMBERS -/
theorem omg_42e92a79db {x0 : Int} {x1 : Int} {x2 : Int} {x3 : Int} (a0 : (x0 = (256 : Int))) (a1 : (((256 : Int) ≤ x0) → ((x0 < (280 : Int)) → (x1 = (x2 + (7 : Int)))))) (a2 : (x3 = ((x1 + (7 : Int)) / (8 : Int)))) : (x3 = ((x2 + (14 : Int)) / (8 : Int))) := by omega
theorem omg_985cf73b4f {x0 : Int} {x1 : Int} {x2 : Int} {x3 : Int} {x4 : Int} {x5 : Int} (a0 : (x0 ≤ (4000 : Int))) (a1 : (x1 = (256 : Int))) (a2 : (((0 : Int) ≤ x2) ∧ ((x2 ≤ x0) ∧ (((3 : Int) ≤ x3) ∧ (x3 ≤ ((3 : Int) + ((9 : Int) * x2))))))) (a3 : (((256 : Int) ≤ x1) → ((x1 < (280 : Int)) → (x4 = (x3 + (7 : Int)))))) (a4 : (x5 = ((x4 + (7 : Int)) / (8 : Int)))) : (x5 ≤ (4502 : Int)) := by omega
theorem omg_54e905f47a {x0 : Int} {x1 : Int} {x2 : Int} {x3 : Int} {x4 : Int} {x5 : Int} (a0 : (x0 = (256 : Int))) (a1 : (((0 : Int) ≤ x1) ∧ ((x1 ≤ x2) ∧ (((3 : Int) ≤ x3) ∧ (x3 ≤ ((3 : Int) + ((9 : Int) * x1))))))) (a2 : (((256 : Int) ≤ x0) → ((x0 < (280 : Int)) → (x4 = (x3 + (7 : Int)))))) (a3 : (x5 = ((x4 + (7 : Int)) / (8 : Int)))) : ((0 : Int) ≤ x5) := by omega
theorem omg_450c441d63 {x0 : Int} {x1 : Int} {x2 : Int} {x3 : Int} (a0 : (x0 ≤ (4000 : Int))) (a1 : (((1 : Int) ≤ x1) ∧ ((x1 ≤ (258 : Int)) ∧ (((x2 + x1) ≤ x0) ∧ ((((3 : Int) ≤ x1) → (((1 : Int) ≤ x3) ∧ (x3 ≤ x2))) ∧ ((x1 < (3 : Int)) → (x1 = (1 : Int)))))))) (a2 : ((3 : Int) ≤ x1)) : (x3 ≤ (4000 : Int)) := by omega
theorem omg_945d6f3e9b {x0 : Int} {x1 : Int} {x2 : Int} {x3 : Int} {x4 : Int} {x5 : Int} {x6 : Int} {x7 : Int} (a0 : (x0 ≤ (4000 : Int))) (a1 : (((0 : Int) ≤ x1) ∧ ((x1 ≤ x0) ∧ (((3 : Int) ≤ x2) ∧ (x2 ≤ ((3 : Int) + ((9 : Int) * x1))))))) (a2 : (x3 = x1)) (a3 : (((1 : Int) ≤ x4) ∧ ((x4 ≤ (258 : Int)) ∧ (((x3 + x4) ≤ x0) ∧ ((((3 : Int) ≤ x4) → (((1 : Int) ≤ x5) ∧ (x5 ≤ x3))) ∧ ((x4 < (3 : Int)) → (x4 = (1 : Int)))))))) (a4 : (((3 : Int) ≤ x4) → (((x6 + (15 : Int)) ≤ ((9 : Int) * x4)) ∧ ((7 : Int) ≤ x6)))) (a5 : ((3 : Int) ≤ x4)) (a6 : (x7 = (x2 + x6))) : ((x7 + (15 : Int)) ≤ (36016 : Int)) := by omega
theorem omg_d427a7eb2d {x0 : Int} {x1 : Int} {x2 : Int} (a0 : (((0 : Int) ≤ x0) ∧ (x0 ≤ (255 : Int)))) (a1 : ((x0 < (144 : Int)) → (x1 = (x2 + (8 : Int))))) (a2 : (((144 : Int) ≤ x0) → ((x0 < (256 : Int)) → (x1 = (x2 + (9 : Int)))))) : (((x0 < (144 : Int)) ∧ ((x1 - x2) = (8 : Int))) ∨ (((144 : Int) ≤ x0) ∧ ((x1 - x2) = (9 : Int)))) := by omega
theorem d_Presser_run_0 : decode prog_8_method_2_code 0 = .ok (.aload_n 0, 1) := by decide +kernel
theorem d_Presser_run_1 : decode prog_8_method_2_code 1 = .ok (.aload_n 1, 1) := by decide +kernel
theorem d_Presser_run_2 : decode prog_8_method_2_code 2 = .ok (.putfield 27, 3) := by decide +kernel
theorem d_Presser_run_5 : decode prog_8_method_2_code 5 = .ok (.aload_n 0, 1) := by decide +kernel
theorem d_Presser_run_6 : decode prog_8_method_2_code 6 = .ok (.iload_n 2, 1) := by decide +kernel
theorem d_Presser_run_7 : decode prog_8_method_2_code 7 = .ok (.putfield 31, 3) := by decide +kernel
theorem d_Presser_run_10 : decode prog_8_method_2_code 10 = .ok (.aload_n 0, 1) := by decide +kernel
theorem d_Presser_run_11 : decode prog_8_method_2_code 11 = .ok (.iload_n 3, 1) := by decide +kernel
theorem d_Presser_run_12 : decode prog_8_method_2_code 12 = .ok (.putfield 35, 3) := by decide +kernel
theorem d_Presser_run_15 : decode prog_8_method_2_code 15 = .ok (.aload_n 0, 1) := by decide +kernel
theorem d_Presser_run_16 : decode prog_8_method_2_code 16 = .ok (.getfield 14, 3) := by decide +kernel
theorem d_Presser_run_19 : decode prog_8_method_2_code 19 = .ok (.iconst 0, 1) := by decide +kernel
theorem d_Presser_run_20 : decode prog_8_method_2_code 20 = .ok (.putfield 38, 3) := by decide +kernel
theorem d_Presser_run_23 : decode prog_8_method_2_code 23 = .ok (.aload_n 0, 1) := by decide +kernel
theorem d_Presser_run_24 : decode prog_8_method_2_code 24 = .ok (.iconst 0, 1) := by decide +kernel
theorem d_Presser_run_25 : decode prog_8_method_2_code 25 = .ok (.putfield 39, 3) := by decide +kernel
theorem d_Presser_run_28 : decode prog_8_method_2_code 28 = .ok (.aload_n 0, 1) := by decide +kernel
theorem d_Presser_run_29 : decode prog_8_method_2_code 29 = .ok (.getfield 20, 3) := by decide +kernel
theorem d_Presser_run_32 : decode prog_8_method_2_code 32 = .ok (.iconst (-1), 1) := by decide +kernel
theorem d_Presser_run_33 : decode prog_8_method_2_code 33 = .ok (.invokestatic 42, 3) := by decide +kernel
theorem k_502 : (Jvm.Cond.methodLink "PackageBook$Presser" (42 : Nat) ({ cls := "java/util/Arrays", name := "fill", desc := "([II)V" } : Jvm.MethodName)) ∈ uW := uW_of 502 (by decide +kernel) (by decide +kernel)
theorem k_136 : (Jvm.Cond.initialized "java/util/Arrays") ∈ uW := uW_of 136 (by decide +kernel) (by decide +kernel)
theorem k_504 : (Jvm.Cond.code ({ cls := "java/util/Arrays", name := "fill", desc := "([II)V" } : Jvm.MethodName) prog_24_method_103_code (4 : Nat) (Option.none : Option Jvm.ClassFile.FieldType)) ∈ uW := uW_of 504 (by decide +kernel) (by decide +kernel)
theorem k_503 : (Jvm.Cond.static ({ cls := "java/util/Arrays", name := "fill", desc := "([II)V" } : Jvm.MethodName)) ∈ uW := uW_of 503 (by decide +kernel) (by decide +kernel)
theorem hy_JArrays_fill : (y_JArrays_fill).cls ≠ "java/lang/invoke/MethodHandle" ∧ (y_JArrays_fill).cls ≠ "java/lang/invoke/VarHandle" ∧ (parseMethodDescriptor (y_JArrays_fill).desc).map (fun d => d.parameters.length) = some 2 := by decide +kernel
theorem d_Presser_run_36 : decode prog_8_method_2_code 36 = .ok (.aload_n 0, 1) := by decide +kernel
theorem d_Presser_run_37 : decode prog_8_method_2_code 37 = .ok (.iconst 1, 1) := by decide +kernel
theorem d_Presser_run_38 : decode prog_8_method_2_code 38 = .ok (.iconst 1, 1) := by decide +kernel
theorem d_Presser_run_39 : decode prog_8_method_2_code 39 = .ok (.invokevirtual 48, 3) := by decide +kernel
theorem d_Presser_run_42 : decode prog_8_method_2_code 42 = .ok (.aload_n 0, 1) := by decide +kernel
theorem d_Presser_run_43 : decode prog_8_method_2_code 43 = .ok (.iconst 1, 1) := by decide +kernel
theorem d_Presser_run_44 : decode prog_8_method_2_code 44 = .ok (.iconst 2, 1) := by decide +kernel
theorem d_Presser_run_45 : decode prog_8_method_2_code 45 = .ok (.invokevirtual 48, 3) := by decide +kernel
theorem d_Presser_run_48 : decode prog_8_method_2_code 48 = .ok (.iconst 0, 1) := by decide +kernel
theorem d_Presser_run_49 : decode prog_8_method_2_code 49 = .ok (.istore 4, 2) := by decide +kernel
theorem d_Presser_run_51 : decode prog_8_method_2_code 51 = .ok (.iconst 0, 1) := by decide +kernel
theorem d_Presser_run_52 : decode prog_8_method_2_code 52 = .ok (.istore 5, 2) := by decide +kernel
theorem d_Presser_run_54 : decode prog_8_method_2_code 54 = .ok (.iload 5, 2) := by decide +kernel
theorem d_Presser_run_56 : decode prog_8_method_2_code 56 = .ok (.aload_n 0, 1) := by decide +kernel
theorem d_Presser_run_57 : decode prog_8_method_2_code 57 = .ok (.getfield 35, 3) := by decide +kernel
theorem d_Presser_run_60 : decode prog_8_method_2_code 60 = .ok (.if_icmp .ge 76, 3) := by decide +kernel
theorem d_Presser_run_136 : decode prog_8_method_2_code 136 = .ok (.aload_n 0, 1) := by decide +kernel
theorem d_Presser_run_137 : decode prog_8_method_2_code 137 = .ok (.sipush 256, 3) := by decide +kernel
theorem d_Presser_run_140 : decode prog_8_method_2_code 140 = .ok (.invokevirtual 58, 3) := by decide +kernel
theorem d_Presser_run_143 : decode prog_8_method_2_code 143 = .ok (.return_, 1) := by decide +kernel
theorem d_Presser_run_124 : decode prog_8_method_2_code 124 = .ok (.aload_n 0, 1) := by decide +kernel
theorem d_Presser_run_125 : decode prog_8_method_2_code 125 = .ok (.iload 5, 2) := by decide +kernel
theorem d_Presser_run_127 : decode prog_8_method_2_code 127 = .ok (.invokevirtual 67, 3) := by decide +kernel
theorem k_539 : (Jvm.Cond.methodLink "PackageBook$Presser" (67 : Nat) ({ cls := "PackageBook$Presser", name := "remember", desc := "(I)V" } : Jvm.MethodName)) ∈ uW := uW_of 539 (by decide +kernel) (by decide +kernel)
theorem k_542 : (Jvm.Cond.code ({ cls := "PackageBook$Presser", name := "remember", desc := "(I)V" } : Jvm.MethodName) prog_8_method_5_code (3 : Nat) (Option.none : Option Jvm.ClassFile.FieldType)) ∈ uW := uW_of 542 (by decide +kernel) (by decide +kernel)
theorem k_541 : (Jvm.Cond.instanceMethod ({ cls := "PackageBook$Presser", name := "remember", desc := "(I)V" } : Jvm.MethodName)) ∈ uW := uW_of 541 (by decide +kernel) (by decide +kernel)
theorem k_9 : Cond.selects "PackageBook$Presser" ⟨"PackageBook$Presser", "remember", "(I)V"⟩ ⟨"PackageBook$Presser", "remember", "(I)V"⟩ ∈ uW := uW_of 9 (by decide +kernel) (by decide +kernel)
theorem hy_Presser_remember : (y_Presser_remember).cls ≠ "java/lang/invoke/MethodHandle" ∧ (y_Presser_remember).cls ≠ "java/lang/invoke/VarHandle" ∧ (parseMethodDescriptor (y_Presser_remember).desc).map (fun d => d.parameters.length) = some 1 := by decide +kernel
theorem d_Presser_run_130 : decode prog_8_method_2_code 130 = .ok (.iinc 5 1, 3) := by decide +kernel
theorem d_Presser_run_133 : decode prog_8_method_2_code 133 = .ok (.goto (-79), 3) := by decide +kernel
theorem d_Presser_run_63 : decode prog_8_method_2_code 63 = .ok (.iload 5, 2) := by decide +kernel
theorem d_Presser_run_65 : decode prog_8_method_2_code 65 = .ok (.iload 4, 2) := by decide +kernel
theorem d_Presser_run_67 : decode prog_8_method_2_code 67 = .ok (.if_icmp .ne 57, 3) := by decide +kernel
theorem d_Presser_run_70 : decode prog_8_method_2_code 70 = .ok (.aload_n 0, 1) := by decide +kernel
theorem d_Presser_run_71 : decode prog_8_method_2_code 71 = .ok (.iload 5, 2) := by decide +kernel
theorem d_Presser_run_73 : decode prog_8_method_2_code 73 = .ok (.invokevirtual 52, 3) := by decide +kernel
theorem k_509 : (Jvm.Cond.methodLink "PackageBook$Presser" (52 : Nat) ({ cls := "PackageBook$Presser", name := "findLongest", desc := "(I)V" } : Jvm.MethodName)) ∈ uW := uW_of 509 (by decide +kernel) (by decide +kernel)
theorem k_512 : (Jvm.Cond.code ({ cls := "PackageBook$Presser", name := "findLongest", desc := "(I)V" } : Jvm.MethodName) prog_8_method_3_code (6 : Nat) (Option.none : Option Jvm.ClassFile.FieldType)) ∈ uW := uW_of 512 (by decide +kernel) (by decide +kernel)
theorem k_511 : (Jvm.Cond.instanceMethod ({ cls := "PackageBook$Presser", name := "findLongest", desc := "(I)V" } : Jvm.MethodName)) ∈ uW := uW_of 511 (by decide +kernel) (by decide +kernel)
theorem k_3 : Cond.selects "PackageBook$Presser" ⟨"PackageBook$Presser", "findLongest", "(I)V"⟩ ⟨"PackageBook$Presser", "findLongest", "(I)V"⟩ ∈ uW := uW_of 3 (by decide +kernel) (by decide +kernel)
theorem hy_Presser_findLongest : (y_Presser_findLongest).cls ≠ "java/lang/invoke/MethodHandle" ∧ (y_Presser_findLongest).cls ≠ "java/lang/invoke/VarHandle" ∧ (parseMethodDescriptor (y_Presser_findLongest).desc).map (fun d => d.parameters.length) = some 1 := by decide +kernel
theorem d_Presser_run_76 : decode prog_8_method_2_code 76 = .ok (.aload_n 0, 1) := by decide +kernel
theorem d_Presser_run_77 : decode prog_8_method_2_code 77 = .ok (.getfield 55, 3) := by decide +kernel
theorem d_Presser_run_80 : decode prog_8_method_2_code 80 = .ok (.iconst 3, 1) := by decide +kernel
theorem d_Presser_run_81 : decode prog_8_method_2_code 81 = .ok (.if_icmp .ge 26, 3) := by decide +kernel
theorem d_Presser_run_107 : decode prog_8_method_2_code 107 = .ok (.aload_n 0, 1) := by decide +kernel
theorem d_Presser_run_108 : decode prog_8_method_2_code 108 = .ok (.invokevirtual 61, 3) := by decide +kernel
theorem k_531 : (Jvm.Cond.methodLink "PackageBook$Presser" (61 : Nat) ({ cls := "PackageBook$Presser", name := "putLength", desc := "()V" } : Jvm.MethodName)) ∈ uW := uW_of 531 (by decide +kernel) (by decide +kernel)
theorem k_534 : (Jvm.Cond.code ({ cls := "PackageBook$Presser", name := "putLength", desc := "()V" } : Jvm.MethodName) prog_8_method_7_code (3 : Nat) (Option.none : Option Jvm.ClassFile.FieldType)) ∈ uW := uW_of 534 (by decide +kernel) (by decide +kernel)
theorem k_533 : (Jvm.Cond.instanceMethod ({ cls := "PackageBook$Presser", name := "putLength", desc := "()V" } : Jvm.MethodName)) ∈ uW := uW_of 533 (by decide +kernel) (by decide +kernel)
theorem k_7 : Cond.selects "PackageBook$Presser" ⟨"PackageBook$Presser", "putLength", "()V"⟩ ⟨"PackageBook$Presser", "putLength", "()V"⟩ ∈ uW := uW_of 7 (by decide +kernel) (by decide +kernel)
theorem hy_Presser_putLength : (y_Presser_putLength).cls ≠ "java/lang/invoke/MethodHandle" ∧ (y_Presser_putLength).cls ≠ "java/lang/invoke/VarHandle" ∧ (parseMethodDescriptor (y_Presser_putLength).desc).map (fun d => d.parameters.length) = some 0 := by decide +kernel
theorem d_Presser_run_111 : decode prog_8_method_2_code 111 = .ok (.aload_n 0, 1) := by decide +kernel
theorem d_Presser_run_112 : decode prog_8_method_2_code 112 = .ok (.invokevirtual 64, 3) := by decide +kernel
theorem k_535 : (Jvm.Cond.methodLink "PackageBook$Presser" (64 : Nat) ({ cls := "PackageBook$Presser", name := "putDistance", desc := "()V" } : Jvm.MethodName)) ∈ uW := uW_of 535 (by decide +kernel) (by decide +kernel)
theorem k_538 : (Jvm.Cond.code ({ cls := "PackageBook$Presser", name := "putDistance", desc := "()V" } : Jvm.MethodName) prog_8_method_8_code (3 : Nat) (Option.none : Option Jvm.ClassFile.FieldType)) ∈ uW := uW_of 538 (by decide +kernel) (by decide +kernel)
theorem k_537 : (Jvm.Cond.instanceMethod ({ cls := "PackageBook$Presser", name := "putDistance", desc := "()V" } : Jvm.MethodName)) ∈ uW := uW_of 537 (by decide +kernel) (by decide +kernel)
theorem k_8 : Cond.selects "PackageBook$Presser" ⟨"PackageBook$Presser", "putDistance", "()V"⟩ ⟨"PackageBook$Presser", "putDistance", "()V"⟩ ∈ uW := uW_of 8 (by decide +kernel) (by decide +kernel)
theorem hy_Presser_putDistance : (y_Presser_putDistance).cls ≠ "java/lang/invoke/MethodHandle" ∧ (y_Presser_putDistance).cls ≠ "java/lang/invoke/VarHandle" ∧ (parseMethodDescriptor (y_Presser_putDistance).desc).map (fun d => d.parameters.length) = some 0 := by decide +kernel
theorem d_Presser_run_115 : decode prog_8_method_2_code 115 = .ok (.iload 4, 2) := by decide +kernel
theorem d_Presser_run_117 : decode prog_8_method_2_code 117 = .ok (.aload_n 0, 1) := by decide +kernel
theorem d_Presser_run_118 : decode prog_8_method_2_code 118 = .ok (.getfield 55, 3) := by decide +kernel
theorem d_Presser_run_121 : decode prog_8_method_2_code 121 = .ok (.iadd, 1) := by decide +kernel
theorem d_Presser_run_122 : decode prog_8_method_2_code 122 = .ok (.istore 4, 2) := by decide +kernel
theorem d_Presser_run_84 : decode prog_8_method_2_code 84 = .ok (.aload_n 0, 1) := by decide +kernel
theorem d_Presser_run_85 : decode prog_8_method_2_code 85 = .ok (.aload_n 0, 1) := by decide +kernel
theorem d_Presser_run_86 : decode prog_8_method_2_code 86 = .ok (.getfield 27, 3) := by decide +kernel
theorem d_Presser_run_89 : decode prog_8_method_2_code 89 = .ok (.aload_n 0, 1) := by decide +kernel
theorem d_Presser_run_90 : decode prog_8_method_2_code 90 = .ok (.getfield 31, 3) := by decide +kernel
theorem d_Presser_run_93 : decode prog_8_method_2_code 93 = .ok (.iload 5, 2) := by decide +kernel
theorem d_Presser_run_95 : decode prog_8_method_2_code 95 = .ok (.iadd, 1) := by decide +kernel
theorem d_Presser_run_96 : decode prog_8_method_2_code 96 = .ok (.baload, 1) := by decide +kernel
theorem d_Presser_run_97 : decode prog_8_method_2_code 97 = .ok (.sipush 255, 3) := by decide +kernel
theorem d_Presser_run_100 : decode prog_8_method_2_code 100 = .ok (.iand, 1) := by decide +kernel
theorem d_Presser_run_101 : decode prog_8_method_2_code 101 = .ok (.invokevirtual 58, 3) := by decide +kernel
theorem d_Presser_run_104 : decode prog_8_method_2_code 104 = .ok (.goto 11, 3) := by decide +kernel
abbrev y_Presser_run : MethodName := ⟨"PackageBook$Presser", "run", "([BII)V"⟩
abbrev i_Presser_run : pb_I := (y_Presser_run, prog_8_method_2_code, 6, (Option.none : Option Jvm.ClassFile.FieldType), [], { frames := 3, cells := 0, slots := 0, locals := 66 })
set_option maxRecDepth 100000 in
set_option maxHeartbeats 4000000 in
theorem g_Pr_run {l : Launch} (hl : l.stackTraces = false) (G : pb_G) (h : Nat) (pp : Nat) (pl : Nat) (pe : Nat) (pr : Nat) (pb : Nat) (bg : Int32) (sz : Int32) (bt : Int32) (ln : Int32) (ds : Int32) (b : Nat) (N : Nat) (f : Nat → Int32) (fr : Nat → Int32) (fl : Nat → Int32) (fe : Nat → Int32) (ps : Int32) (x : Int32) (n : Int32) (x0 : 0 ≤ x.toInt) (x1 : 0 ≤ n.toInt) (x2 : n.toInt ≤ 4000) (x3 : x.toInt + n.toInt ≤ N) (x4 : N ≤ 100000) (F_f : sb_Fit f) (F_fr : sb_Fit fr) : Cn l G i_Presser_run [.ref h, .ref b, .int x, .int n] [(h, .inr (4, [.ref pp, .ref pl, .ref pe, .ref pr, .int bg, .int sz, .int bt, .int ln, .int ds])), (pp, .inr (0, [.ref pb, .int ps])), (pb, .inl (G.2.1, 4502, .inl f)), (pl, .inl (G.2.2.1, 1024, .inl fl)), (pe, .inl (G.2.2.1, 4000, .inl fe)), (b, .inl (G.2.1, N, .inl fr))] (S := Int32 × Int32 × Int32 × Int32 × (Nat → Int32) × (Nat → Int32) × (Nat → Int32)) (fun rv_ u => rv_ = none ∧ (0 ≤ u.2.2.2.1.toInt) ∧ (u.2.2.2.1.toInt ≤ 4502) ∧ (pt_F (sq fr x.toInt n.toInt) n.toInt u.2.2.2.1.toInt) ∧ (pF_ (sq fr x.toInt n.toInt) n.toInt u.2.2.2.2.1 u.2.2.2.1.toInt) ∧ (sb_Fit u.2.2.2.2.1)) (fun u => [(h, .inr (4, [.ref pp, .ref pl, .ref pe, .ref b, .int x, .int n, .int u.1, .int u.2.1, .int u.2.2.1])), (pp, .inr (0, [.ref pb, .int u.2.2.2.1])), (pb, .inl (G.2.1, 4502, .inl u.2.2.2.2.1)), (pl, .inl (G.2.2.1, 1024, .inl u.2.2.2.2.2.1)), (pe, .inl (G.2.2.1, 4000, .inl u.2.2.2.2.2.2)), (b, .inl (G.2.1, N, .inl fr))]) := by
  refine Cn.of hl (by decide +kernel) rfl (Nat.le_of_ble_eq_true rfl) (fun M hQ => ?_)
  refine pb_eq (pc' := 0) (lo' := [(0, .ref h), (1, .ref b), (2, .int x), (3, .int n)]) (rest' := []) (ws' := [(h, .inr (4, [.ref pp, .ref pl, .ref pe, .ref pr, .int bg, .int sz, .int bt, .int ln, .int ds])), (pp, .inr (0, [.ref pb, .int ps])), (pb, .inl (G.2.1, 4502, .inl f)), (pl, .inl (G.2.2.1, 1024, .inl fl)), (pe, .inl (G.2.2.1, 4000, .inl fe)), (b, .inl (G.2.1, N, .inl fr))]) ?_
  have zm1 : ((-1) : Int32).toInt = (-1) := by decide
  have zl0 : (0 : Int32).toInt = 0 := by decide
  have zl1 : (1 : Int32).toInt = 1 := by decide
  have zl2 : (2 : Int32).toInt = 2 := by decide
  have zl3 : (3 : Int32).toInt = 3 := by decide
  have zl255 : (255 : Int32).toInt = 255 := by decide
  have zl256 : (256 : Int32).toInt = 256 := by decide
  refine pb_aload_n (pc := 0) d_Presser_run_0 0 rfl rfl ?_
  refine pb_aload_n (pc := 1) d_Presser_run_1 1 rfl rfl ?_
  refine pb_put (pc := 2) (ty := (.array .byte)) (ws' := [(h, .inr (4, [.ref pp, .ref pl, .ref pe, .ref b, .int bg, .int sz, .int bt, .int ln, .int ds])), (pp, .inr (0, [.ref pb, .int ps])), (pb, .inl (G.2.1, 4502, .inl f)), (pl, .inl (G.2.2.1, 1024, .inl fl)), (pe, .inl (G.2.2.1, 4000, .inl fe)), (b, .inl (G.2.1, N, .inl fr))]) d_Presser_run_2 0 3 t_Presser t_Presser_ok n_Presser rfl rfl (by decide) in_Presser k_186 rfl (by decide +kernel) rfl rfl (Nat.le_of_ble_eq_true rfl) rfl ?_
  refine pb_aload_n (pc := 5) d_Presser_run_5 0 rfl rfl ?_
  refine pb_iload_n (pc := 6) d_Presser_run_6 2 rfl rfl ?_
  refine pb_put (pc := 7) (ty := .int) (ws' := [(h, .inr (4, [.ref pp, .ref pl, .ref pe, .ref b, .int x, .int sz, .int bt, .int ln, .int ds])), (pp, .inr (0, [.ref pb, .int ps])), (pb, .inl (G.2.1, 4502, .inl f)), (pl, .inl (G.2.2.1, 1024, .inl fl)), (pe, .inl (G.2.2.1, 4000, .inl fe)), (b, .inl (G.2.1, N, .inl fr))]) d_Presser_run_7 0 4 t_Presser t_Presser_ok n_Presser rfl rfl (by decide) in_Presser k_187 rfl (by decide +kernel) rfl rfl (Nat.le_of_ble_eq_true rfl) rfl ?_
  refine pb_aload_n (pc := 10) d_Presser_run_10 0 rfl rfl ?_
  refine pb_iload_n (pc := 11) d_Presser_run_11 3 rfl rfl ?_
  refine pb_put (pc := 12) (ty := .int) (ws' := [(h, .inr (4, [.ref pp, .ref pl, .ref pe, .ref b, .int x, .int n, .int bt, .int ln, .int ds])), (pp, .inr (0, [.ref pb, .int ps])), (pb, .inl (G.2.1, 4502, .inl f)), (pl, .inl (G.2.2.1, 1024, .inl fl)), (pe, .inl (G.2.2.1, 4000, .inl fe)), (b, .inl (G.2.1, N, .inl fr))]) d_Presser_run_12 0 5 t_Presser t_Presser_ok n_Presser rfl rfl (by decide) in_Presser k_188 rfl (by decide +kernel) rfl rfl (Nat.le_of_ble_eq_true rfl) rfl ?_
  refine pb_aload_n (pc := 15) d_Presser_run_15 0 rfl rfl ?_
  refine pb_get (pc := 16) d_Presser_run_16 0 0 rfl rfl (by decide) in_Presser k_181 rfl ?_
  refine pb_iconst (pc := 19) (v := 0) d_Presser_run_19 (by decide) ?_
  refine pb_putN (pc := 20) (ty := .int) (ws' := [(h, .inr (4, [.ref pp, .ref pl, .ref pe, .ref b, .int x, .int n, .int bt, .int ln, .int ds])), (pp, .inr (0, [.ref pb, .int 0])), (pb, .inl (G.2.1, 4502, .inl f)), (pl, .inl (G.2.2.1, 1024, .inl fl)), (pe, .inl (G.2.2.1, 4000, .inl fe)), (b, .inl (G.2.1, N, .inl fr))]) d_Presser_run_20 1 1 t_Row t_Row_ok n_Row rfl rfl (by decide) in_Row k_164 rfl (by decide +kernel) rfl rfl (Nat.le_of_ble_eq_true rfl) rfl ?_
  refine pb_aload_n (pc := 23) d_Presser_run_23 0 rfl rfl ?_
  refine pb_iconst (pc := 24) (v := 0) d_Presser_run_24 (by decide) ?_
  refine pb_put (pc := 25) (ty := .int) (ws' := [(h, .inr (4, [.ref pp, .ref pl, .ref pe, .ref b, .int x, .int n, .int 0, .int ln, .int ds])), (pp, .inr (0, [.ref pb, .int 0])), (pb, .inl (G.2.1, 4502, .inl f)), (pl, .inl (G.2.2.1, 1024, .inl fl)), (pe, .inl (G.2.2.1, 4000, .inl fe)), (b, .inl (G.2.1, N, .inl fr))]) d_Presser_run_25 0 6 t_Presser t_Presser_ok n_Presser rfl rfl (by decide) in_Presser k_189 rfl (by decide +kernel) rfl rfl (Nat.le_of_ble_eq_true rfl) rfl ?_
  refine pb_aload_n (pc := 28) d_Presser_run_28 0 rfl rfl ?_
  refine pb_get (pc := 29) d_Presser_run_29 0 1 rfl rfl (by decide) in_Presser k_184 rfl ?_
  refine pb_iconst (pc := 32) (v := (-1)) d_Presser_run_32 (by decide) ?_
  refine pb_callS (pc := 33) (I := i_Presser_run) (nA := 2) (rest := []) (wr := [(h, .inr (4, [.ref pp, .ref pl, .ref pe, .ref b, .int x, .int n, .int 0, .int ln, .int ds])), (pp, .inr (0, [.ref pb, .int 0])), (pb, .inl (G.2.1, 4502, .inl f)), (pe, .inl (G.2.2.1, 4000, .inl fe)), (b, .inl (G.2.1, N, .inl fr))]) d_Presser_run_33 (g_fill hl G pl 1024 fl (-1) (by first | (with_reducible assumption) | omega (splitDisjunctions := false) | assumption | omega | decide)) [3] [0, 1, 2, 4, 5] (by decide) rfl rfl rfl (by decide) (by decide) k_504 rfl k_136 k_502 k_503 hy_JArrays_fill (by decide) rfl rfl (Nat.le_of_ble_eq_true rfl) (by decide) (fun v9 u2 ch1 => ?_)
  obtain ⟨f_3, rfl⟩ : ∃ z9, z9 = u2 := ⟨_, rfl⟩
  obtain ⟨ech1, ch1⟩ := ch1
  have ech1 : v9 = none := ech1
  subst ech1
  have fh4 : ∀ x : Int, 0 ≤ x → x < 1024 → gx f_3 x = ((-1) : Int32).toInt := ch1
  have fillF := fh4
  refine pb_eq (pc' := 36) (lo' := [(0, .ref h), (1, .ref b), (2, .int x), (3, .int n)]) (rest' := []) (ws' := [(h, .inr (4, [.ref pp, .ref pl, .ref pe, .ref b, .int x, .int n, .int 0, .int ln, .int ds])), (pp, .inr (0, [.ref pb, .int 0])), (pb, .inl (G.2.1, 4502, .inl f)), (pe, .inl (G.2.2.1, 4000, .inl fe)), (b, .inl (G.2.1, N, .inl fr)), (pl, .inl (G.2.2.1, 1024, .inl f_3))]) ?_
  refine pb_aload_n (pc := 36) d_Presser_run_36 0 rfl rfl ?_
  refine pb_iconst (pc := 37) (v := 1) d_Presser_run_37 (by decide) ?_
  refine pb_iconst (pc := 38) (v := 1) d_Presser_run_38 (by decide) ?_
  refine pb_callV (pc := 39) (I := i_Presser_run) (qb := 0) (ci := 4) (nA := 2) (rest := []) (wr := [(pe, .inl (G.2.2.1, 4000, .inl fe)), (b, .inl (G.2.1, N, .inl fr)), (pl, .inl (G.2.2.1, 1024, .inl f_3))]) d_Presser_run_39 (g_Pr_putNumber hl G h pp pl pe b pb x n 0 ln ds f 0 1 1 bz_ (by first | (with_reducible assumption) | omega (splitDisjunctions := false) | assumption | omega | decide) (by first | (with_reducible assumption) | omega (splitDisjunctions := false) | assumption | omega | decide) (by first | (with_reducible assumption) | omega (splitDisjunctions := false) | assumption | omega | decide) (by first | (with_reducible assumption) | omega (splitDisjunctions := false) | assumption | omega | decide) (by first | (with_reducible assumption) | omega (splitDisjunctions := false) | assumption | omega | decide) (pC_0 zl0 zl0) (by first | (with_reducible assumption) | omega (splitDisjunctions := false) | assumption | omega | decide) (by first | (with_reducible assumption) | omega (splitDisjunctions := false) | assumption | omega | decide) F_f) rfl rfl [0, 1, 2] [3, 4, 5] (by decide) rfl rfl rfl (by decide) (by decide) k_508 rfl k_120 k_505 k_507 k_2 ⟨rfl, hy_Presser_putNumber⟩ (by decide) rfl rfl (Nat.le_of_ble_eq_true rfl) (by decide) (fun v9 u6 ch5 => ?_)
  obtain ⟨b_7, p_8, f_9⟩ := u6
  obtain ⟨ech5, ch5⟩ := ch5
  have ech5 : v9 = none := ech5
  subst ech5
  obtain ⟨fh10, fh11, fh12, fh13⟩ : (b_7.toInt = (0 : Int32).toInt + (1 : Int32).toInt) ∧ (p_8.toInt = (b_7.toInt + 7) / 8) ∧ (pC_ f_9 p_8.toInt b_7.toInt (bn_ bz_ (1 : Int32).toInt (1 : Int32).toInt.toNat)) ∧ (sb_Fit f_9) := ch5
  have p1F := fh12
  rw [zl1] at p1F
  refine pb_eq (pc' := 42) (lo' := [(0, .ref h), (1, .ref b), (2, .int x), (3, .int n)]) (rest' := []) (ws' := [(pe, .inl (G.2.2.1, 4000, .inl fe)), (b, .inl (G.2.1, N, .inl fr)), (pl, .inl (G.2.2.1, 1024, .inl f_3)), (h, .inr (4, [.ref pp, .ref pl, .ref pe, .ref b, .int x, .int n, .int b_7, .int ln, .int ds])), (pp, .inr (0, [.ref pb, .int p_8])), (pb, .inl (G.2.1, 4502, .inl f_9))]) ?_
  refine pb_aload_n (pc := 42) d_Presser_run_42 0 rfl rfl ?_
  refine pb_iconst (pc := 43) (v := 1) d_Presser_run_43 (by decide) ?_
  refine pb_iconst (pc := 44) (v := 2) d_Presser_run_44 (by decide) ?_
  refine pb_callV (pc := 45) (I := i_Presser_run) (qb := 3) (ci := 4) (nA := 2) (rest := []) (wr := [(pe, .inl (G.2.2.1, 4000, .inl fe)), (b, .inl (G.2.1, N, .inl fr)), (pl, .inl (G.2.2.1, 1024, .inl f_3))]) d_Presser_run_45 (g_Pr_putNumber hl G h pp pl pe b pb x n b_7 ln ds f_9 p_8 1 2 (bn_ bz_ 1 (1 : Int).toNat) (by first | (with_reducible assumption) | omega (splitDisjunctions := false) | assumption | omega | decide) (by first | (with_reducible assumption) | omega (splitDisjunctions := false) | assumption | omega | decide) (by first | (with_reducible assumption) | omega (splitDisjunctions := false) | assumption | omega | decide) (by first | (with_reducible assumption) | omega (splitDisjunctions := false) | assumption | omega | decide) (by first | (with_reducible assumption) | omega (splitDisjunctions := false) | assumption | omega | decide) p1F (by first | (with_reducible assumption) | omega (splitDisjunctions := false) | assumption | omega | decide) (by first | (with_reducible assumption) | omega (splitDisjunctions := false) | assumption | omega | decide) fh13) rfl rfl [3, 4, 5] [0, 1, 2] (by decide) rfl rfl rfl (by decide) (by decide) k_508 rfl k_120 k_505 k_507 k_2 ⟨rfl, hy_Presser_putNumber⟩ (by decide) rfl rfl (Nat.le_of_ble_eq_true rfl) (by decide) (fun v9 u15 ch14 => ?_)
  obtain ⟨b_16, p_17, f_18⟩ := u15
  obtain ⟨ech14, ch14⟩ := ch14
  have ech14 : v9 = none := ech14
  subst ech14
  obtain ⟨fh19, fh20, fh21, fh22⟩ : (b_16.toInt = b_7.toInt + (2 : Int32).toInt) ∧ (p_17.toInt = (b_16.toInt + 7) / 8) ∧ (pC_ f_18 p_17.toInt b_16.toInt (bn_ (bn_ bz_ 1 (1 : Int).toNat) (1 : Int32).toInt (2 : Int32).toInt.toNat)) ∧ (sb_Fit f_18) := ch14
  have p2F := fh21
  rw [zl1, show (2 : Int32).toInt = 2 by decide] at p2F
  refine pb_eq (pc' := 48) (lo' := [(0, .ref h), (1, .ref b), (2, .int x), (3, .int n)]) (rest' := []) (ws' := [(pe, .inl (G.2.2.1, 4000, .inl fe)), (b, .inl (G.2.1, N, .inl fr)), (pl, .inl (G.2.2.1, 1024, .inl f_3)), (h, .inr (4, [.ref pp, .ref pl, .ref pe, .ref b, .int x, .int n, .int b_16, .int ln, .int ds])), (pp, .inr (0, [.ref pb, .int p_17])), (pb, .inl (G.2.1, 4502, .inl f_18))]) ?_
  refine pb_iconst (pc := 48) (v := 0) d_Presser_run_48 (by decide) ?_
  refine pb_istore (pc := 49) (lo' := [(4, .int 0), (0, .ref h), (1, .ref b), (2, .int x), (3, .int n)]) d_Presser_run_49 (by decide) rfl ?_
  refine pb_iconst (pc := 51) (v := 0) d_Presser_run_51 (by decide) ?_
  refine pb_istore (pc := 52) (lo' := [(5, .int 0), (4, .int 0), (0, .ref h), (1, .ref b), (2, .int x), (3, .int n)]) d_Presser_run_52 (by decide) rfl ?_
  have hL54_23 : ∀ (N9 : Nat) (pl_ : Int32) (nx : Int32) (bt_ : Int32) (ln_ : Int32) (ds_ : Int32) (ps_ : Int32) (f_ : Nat → Int32) (fl_ : Nat → Int32) (fe_ : Nat → Int32), (sb_Fit f_) → (0 ≤ pl_.toInt) → (pl_.toInt ≤ n.toInt) → (pl_.toInt ≤ nx.toInt) → (pt_R (sq fr x.toInt n.toInt) n.toInt nx.toInt bt_.toInt) → (ps_.toInt = (bt_.toInt + 7) / 8) → (ch_I (sq fr x.toInt n.toInt) n.toInt pl_.toInt fl_ fe_) → (hid_ (∃ S9 : Int × (Int → Int), pS_R (sq fr x.toInt n.toInt) n.toInt nx.toInt S9 ∧ pC_ f_ ps_.toInt bt_.toInt S9)) → ((n.toInt - pl_.toInt).toNat) < N9 → pb_P l G M i_Presser_run 54 [(5, .int pl_), (4, .int nx), (0, .ref h), (1, .ref b), (2, .int x), (3, .int n)] [] [(h, .inr (4, [.ref pp, .ref pl, .ref pe, .ref b, .int x, .int n, .int bt_, .int ln_, .int ds_])), (pp, .inr (0, [.ref pb, .int ps_])), (pb, .inl (G.2.1, 4502, .inl f_)), (pl, .inl (G.2.2.1, 1024, .inl fl_)), (pe, .inl (G.2.2.1, 4000, .inl fe_)), (b, .inl (G.2.1, N, .inl fr))] 0 0 := by
    intro N9
    induction N9 with
    | zero => intro pl_ nx bt_ ln_ ds_ ps_ f_ fl_ fe_ F_f_ hpl hpl2 hnx hT hz hI hB hm9; exact absurd hm9 (Nat.not_lt_zero _)
    | succ N9 ih54 =>
      intro pl_ nx bt_ ln_ ds_ ps_ f_ fl_ fe_ F_f_ hpl hpl2 hnx hT hz hI hB hm9
      have hTr := pt_rng x1 hT
      refine pb_iload (pc := 54) d_Presser_run_54 0 rfl ?_
      refine pb_aload_n (pc := 56) d_Presser_run_56 2 rfl rfl ?_
      refine pb_get (pc := 57) d_Presser_run_57 0 5 rfl rfl (by decide) in_Presser k_188 rfl ?_
      refine pb_icmp_ge (pc := 60) (tgt := 136) d_Presser_run_60 (by decide) (fun w24 => ?_) (fun w24 => ?_)
      · have tw24 : n.toInt ≤ pl_.toInt := (ti_le rfl rfl).mp w24
        obtain ⟨S9, hS9, hC9⟩ := hid_o hB
        refine pb_aload_n (pc := 136) d_Presser_run_136 2 rfl rfl ?_
        refine pb_sipush (pc := 137) (v := 256) d_Presser_run_137 (by decide) ?_
        refine pb_callV (pc := 140) (I := i_Presser_run) (qb := 0) (ci := 4) (nA := 1) (rest := []) (wr := [(pl, .inl (G.2.2.1, 1024, .inl fl_)), (pe, .inl (G.2.2.1, 4000, .inl fe_)), (b, .inl (G.2.1, N, .inl fr))]) d_Presser_run_140 (g_Pr_putSymbol hl G h pp pl pe b pb x n bt_ ln_ ds_ f_ ps_ 256 S9 (by first | (with_reducible assumption) | omega (splitDisjunctions := false) | assumption | omega | decide) (by first | (with_reducible assumption) | omega (splitDisjunctions := false) | assumption | omega | decide) (by first | (with_reducible assumption) | omega (splitDisjunctions := false) | assumption | omega | decide) hC9 (by first | (with_reducible assumption) | omega (splitDisjunctions := false) | assumption | omega | decide) (by first | (with_reducible assumption) | omega (splitDisjunctions := false) | assumption | omega | decide) F_f_) rfl rfl [0, 1, 2] [3, 4, 5] (by decide) rfl rfl rfl (by decide) (by decide) k_527 rfl k_120 k_524 k_526 k_6 ⟨rfl, hy_Presser_putSymbol⟩ (by decide) rfl rfl (Nat.le_of_ble_eq_true rfl) (by decide) (fun v9 u26 ch25 => ?_)
        obtain ⟨b_27, p_28, f_29⟩ := u26
        obtain ⟨ech25, ch25⟩ := ch25
        have ech25 : v9 = none := ech25
        subst ech25
        obtain ⟨fh30, fh31, fh32, fh33, fh34, fh35, fh36⟩ : ((256 : Int32).toInt < 144 → b_27.toInt = bt_.toInt + 8) ∧ (144 ≤ (256 : Int32).toInt → (256 : Int32).toInt < 256 → b_27.toInt = bt_.toInt + 9) ∧ (256 ≤ (256 : Int32).toInt → (256 : Int32).toInt < 280 → b_27.toInt = bt_.toInt + 7) ∧ (280 ≤ (256 : Int32).toInt → b_27.toInt = bt_.toInt + 8) ∧ (p_28.toInt = (b_27.toInt + 7) / 8) ∧ (pC_ f_29 p_28.toInt b_27.toInt (sb_ S9 (256 : Int32).toInt)) ∧ (sb_Fit f_29) := ch25
        have enF := fh35
        rw [show (256 : Int32).toInt = 256 by decide] at enF
        refine pb_eq (pc' := 143) (lo' := [(5, .int pl_), (4, .int nx), (0, .ref h), (1, .ref b), (2, .int x), (3, .int n)]) (rest' := []) (ws' := [(pl, .inl (G.2.2.1, 1024, .inl fl_)), (pe, .inl (G.2.2.1, 4000, .inl fe_)), (b, .inl (G.2.1, N, .inl fr)), (h, .inr (4, [.ref pp, .ref pl, .ref pe, .ref b, .int x, .int n, .int b_27, .int ln_, .int ds_])), (pp, .inr (0, [.ref pb, .int p_28])), (pb, .inl (G.2.1, 4502, .inl f_29))]) ?_
        exact pb_vret (pc := 143) hQ d_Presser_run_143 rfl (b_27, ln_, ds_, p_28, f_29, fl_, fe_) ⟨rfl, (by (try dsimp only); first | done | (with_reducible assumption) | omega (splitDisjunctions := false) | assumption | (exact omg_54e905f47a zl256 hTr fh32 fh34) | decide), (by (try dsimp only); first | done | (with_reducible assumption) | omega (splitDisjunctions := false) | assumption | (exact omg_985cf73b4f x2 zl256 hTr fh32 fh34) | decide), (show pt_F (sq fr x.toInt n.toInt) n.toInt p_28.toInt from (pt_Fi hT (by omega) (by (exact omg_42e92a79db zl256 fh32 fh34)))), (show pF_ (sq fr x.toInt n.toInt) n.toInt f_29 p_28.toInt from ⟨S9, _, pS_eq hS9 (by omega), enF⟩), fh36⟩ [3, 4, 5, 0, 1, 2] (by decide) rfl rfl (by decide) (by decide)
      · have tw24 : ¬ n.toInt ≤ pl_.toInt := fun z9 => w24 ((ti_le rfl rfl).mpr z9)
        have hJ124_37 : ∀ (nx4 : Int32) (bt4 : Int32) (ln4 : Int32) (ds4 : Int32) (ps4 : Int32) (f4 : Nat → Int32), (sb_Fit f4) → (pl_.toInt < nx4.toInt) → (pt_R (sq fr x.toInt n.toInt) n.toInt nx4.toInt bt4.toInt) → (ps4.toInt = (bt4.toInt + 7) / 8) → (hid_ (∃ S9 : Int × (Int → Int), pS_R (sq fr x.toInt n.toInt) n.toInt nx4.toInt S9 ∧ pC_ f4 ps4.toInt bt4.toInt S9)) → pb_P l G M i_Presser_run 124 [(5, .int pl_), (4, .int nx4), (0, .ref h), (1, .ref b), (2, .int x), (3, .int n)] [] [(h, .inr (4, [.ref pp, .ref pl, .ref pe, .ref b, .int x, .int n, .int bt4, .int ln4, .int ds4])), (pp, .inr (0, [.ref pb, .int ps4])), (pb, .inl (G.2.1, 4502, .inl f4)), (pl, .inl (G.2.2.1, 1024, .inl fl_)), (pe, .inl (G.2.2.1, 4000, .inl fe_)), (b, .inl (G.2.1, N, .inl fr))] 0 0 := by
          intro nx4 bt4 ln4 ds4 ps4 f4 F_f4 j1 j2 j3 hB4
          refine pb_aload_n (pc := 124) d_Presser_run_124 2 rfl rfl ?_
          refine pb_iload (pc := 125) d_Presser_run_125 0 rfl ?_
          refine pb_callV (pc := 127) (I := i_Presser_run) (qb := 0) (ci := 4) (nA := 1) (rest := []) (wr := [(pp, .inr (0, [.ref pb, .int ps4])), (pb, .inl (G.2.1, 4502, .inl f4))]) d_Presser_run_127 (g_Pr_remember hl G h pp pl pe b pb x n bt4 ln4 ds4 N fr fl_ fe_ pl_ (by first | (with_reducible assumption) | omega (splitDisjunctions := false) | assumption | omega | decide) (by first | (with_reducible assumption) | omega (splitDisjunctions := false) | assumption | omega | decide) (by first | (with_reducible assumption) | omega (splitDisjunctions := false) | assumption | omega | decide) (by first | (with_reducible assumption) | omega (splitDisjunctions := false) | assumption | omega | decide) (by first | (with_reducible assumption) | omega (splitDisjunctions := false) | assumption | omega | decide) (by first | (with_reducible assumption) | omega (splitDisjunctions := false) | assumption | omega | decide) (by first | (with_reducible assumption) | omega (splitDisjunctions := false) | assumption | omega | decide) (by first | (with_reducible assumption) | omega (splitDisjunctions := false) | assumption | omega | decide) (by first | (with_reducible assumption) | omega (splitDisjunctions := false) | assumption | omega | decide)) rfl rfl [0, 5, 3, 4] [1, 2] (by decide) rfl rfl rfl (by decide) (by decide) k_542 rfl k_120 k_539 k_541 k_9 ⟨rfl, hy_Presser_remember⟩ (by decide) rfl rfl (Nat.le_of_ble_eq_true rfl) (by decide) (fun v9 u39 ch38 => ?_)
          obtain ⟨fl_40, fe_41⟩ := u39
          obtain ⟨ech38, ch38⟩ := ch38
          have ech38 : v9 = none := ech38
          subst ech38
          have fh42 : ch_I (sq fr x.toInt n.toInt) n.toInt (pl_.toInt + 1) fl_40 fe_41 := ch38
          refine pb_eq (pc' := 130) (lo' := [(5, .int pl_), (4, .int nx4), (0, .ref h), (1, .ref b), (2, .int x), (3, .int n)]) (rest' := []) (ws' := [(pp, .inr (0, [.ref pb, .int ps4])), (pb, .inl (G.2.1, 4502, .inl f4)), (h, .inr (4, [.ref pp, .ref pl, .ref pe, .ref b, .int x, .int n, .int bt4, .int ln4, .int ds4])), (b, .inl (G.2.1, N, .inl fr)), (pl, .inl (G.2.2.1, 1024, .inl fl_40)), (pe, .inl (G.2.2.1, 4000, .inl fe_41))]) ?_
          refine pb_iincN (pc := 130) (c := 1) d_Presser_run_130 0 rfl (by decide) (by decide) (fun i43 ei43 => ?_)
          have ti43 : i43.toInt = pl_.toInt + 1 := ti_add ei43 rfl (by decide) (by omega) (by omega)
          refine pb_eq (pc' := 133) (lo' := [(5, .int i43), (4, .int nx4), (0, .ref h), (1, .ref b), (2, .int x), (3, .int n)]) (rest' := []) (ws' := [(pp, .inr (0, [.ref pb, .int ps4])), (pb, .inl (G.2.1, 4502, .inl f4)), (h, .inr (4, [.ref pp, .ref pl, .ref pe, .ref b, .int x, .int n, .int bt4, .int ln4, .int ds4])), (b, .inl (G.2.1, N, .inl fr)), (pl, .inl (G.2.2.1, 1024, .inl fl_40)), (pe, .inl (G.2.2.1, 4000, .inl fe_41))]) ?_
          refine pb_goto (pc := 133) (tgt := 54) d_Presser_run_133 (by decide) ?_
          refine pb_re (ws' := [(h, .inr (4, [.ref pp, .ref pl, .ref pe, .ref b, .int x, .int n, .int bt4, .int ln4, .int ds4])), (pp, .inr (0, [.ref pb, .int ps4])), (pb, .inl (G.2.1, 4502, .inl f4)), (pl, .inl (G.2.2.1, 1024, .inl fl_40)), (pe, .inl (G.2.2.1, 4000, .inl fe_41)), (b, .inl (G.2.1, N, .inl fr))]) (lo' := [(5, .int i43), (4, .int nx4), (0, .ref h), (1, .ref b), (2, .int x), (3, .int n)]) [2, 0, 1, 4, 5, 3] [0, 1, 2, 3, 4, 5] (by decide) rfl rfl rfl ?_
          exact ih54 i43 nx4 bt4 ln4 ds4 ps4 f4 fl_40 fe_41 F_f4 (by first | (with_reducible assumption) | omega (splitDisjunctions := false) | assumption | omega | decide) (by first | (with_reducible assumption) | omega (splitDisjunctions := false) | assumption | omega | decide) (by first | (with_reducible assumption) | omega (splitDisjunctions := false) | assumption | omega | decide) j2 (by first | (with_reducible assumption) | omega (splitDisjunctions := false) | assumption | omega | decide) (by have hE : i43.toInt = pl_.toInt + 1 := (by omega); rw [hE]; assumption) hB4 (by (exact omg_7c8a06b1f5 hm9 tw24 ti43))
        obtain ⟨S9, hS9, hC9⟩ := hid_o hB
        refine pb_iload (pc := 63) d_Presser_run_63 0 rfl ?_
        refine pb_iload (pc := 65) d_Presser_run_65 1 rfl ?_
        refine pb_icmp_ne (pc := 67) (tgt := 124) d_Presser_run_67 (by decide) (fun w44 => ?_) (fun w44 => ?_)
        · have tw44 : ¬ pl_.toInt = nx.toInt := fun z9 => w44 ((ti_eq rfl rfl).mpr z9)
          exact hJ124_37 nx bt_ ln_ ds_ ps_ f_ F_f_ (by first | (with_reducible assumption) | omega (splitDisjunctions := false) | assumption | omega | decide) (by first | assumption | exact pt_st hT2 (fl_lit y1 (by omega) (by omega) (by omega) (li_sq (c := bt_.toInt - bt_.toInt) (by assumption) (by assumption) (by omega) (by omega) (by omega))) (by omega) | exact pt_st hT2 (fl_row (c := bt_.toInt - bt_.toInt) y1 (by omega) (by omega) (by omega) (by omega)) (by omega)) (by first | (with_reducible assumption) | omega (splitDisjunctions := false) | assumption | omega | decide) (by first | exact hid_i ⟨S9, pS_eq hS9 (by omega), hC9⟩ | exact hid_i ⟨_, pS_st (pS_eq hS9 (by omega)) (tk_fl y1 (by omega) (by omega) (by omega) (sq_by eA eI (by omega) (by omega))), syF⟩ | exact hid_i ⟨_, pS_st (pS_eq hS9 (by omega)) (tk_fr y1 (by omega) (by omega) (by omega)), dsF⟩)
        · have tw44 : pl_.toInt = nx.toInt := (ti_eq rfl rfl).mp w44
          refine pb_aload_n (pc := 70) d_Presser_run_70 2 rfl rfl ?_
          refine pb_iload (pc := 71) d_Presser_run_71 0 rfl ?_
          refine pb_callV (pc := 73) (I := i_Presser_run) (qb := 0) (ci := 4) (nA := 1) (rest := []) (wr := [(pp, .inr (0, [.ref pb, .int ps_])), (pb, .inl (G.2.1, 4502, .inl f_))]) d_Presser_run_73 (g_Pr_findLongest hl G h pp pl pe b pb x n bt_ ln_ ds_ N fr fl_ fe_ pl_ (by first | (with_reducible assumption) | omega (splitDisjunctions := false) | assumption | omega | decide) (by first | (with_reducible assumption) | omega (splitDisjunctions := false) | assumption | omega | decide) (by first | (with_reducible assumption) | omega (splitDisjunctions := false) | assumption | omega | decide) (by first | (with_reducible assumption) | omega (splitDisjunctions := false) | assumption | omega | decide) (by first | (with_reducible assumption) | omega (splitDisjunctions := false) | assumption | omega | decide) (by first | (with_reducible assumption) | omega (splitDisjunctions := false) | assumption | omega | decide) (by first | (with_reducible assumption) | omega (splitDisjunctions := false) | assumption | omega | decide) (by first | (with_reducible assumption) | omega (splitDisjunctions := false) | assumption | omega | decide) F_fr) rfl rfl [0, 5, 3, 4] [1, 2] (by decide) rfl rfl rfl (by decide) (by decide) k_512 rfl k_120 k_509 k_511 k_3 ⟨rfl, hy_Presser_findLongest⟩ (by decide) rfl rfl (Nat.le_of_ble_eq_true rfl) (by decide) (fun v9 u46 ch45 => ?_)
          obtain ⟨ln_47, ds_48⟩ := u46
          obtain ⟨ech45, ch45⟩ := ch45
          have ech45 : v9 = none := ech45
          subst ech45
          have fh49 : fl_R (sq fr x.toInt n.toInt) n.toInt pl_.toInt ln_47.toInt ds_48.toInt := ch45
          have y1 := fh49
          have y2 := fl_rng y1 (by omega)
          have y4 : 3 ≤ ln_47.toInt → le_c ln_47.toInt + 15 ≤ 9 * ln_47.toInt ∧ 7 ≤ le_c ln_47.toInt := fun q9 => ⟨(le_cb _ q9).2.2, (le_cb _ q9).1⟩
          have y5 := di_cb ds_48.toInt
          have hT2 : pt_R (sq fr x.toInt n.toInt) n.toInt pl_.toInt bt_.toInt := pt_eq hT (by omega) rfl
          refine pb_eq (pc' := 76) (lo' := [(5, .int pl_), (4, .int nx), (0, .ref h), (1, .ref b), (2, .int x), (3, .int n)]) (rest' := []) (ws' := [(pp, .inr (0, [.ref pb, .int ps_])), (pb, .inl (G.2.1, 4502, .inl f_)), (h, .inr (4, [.ref pp, .ref pl, .ref pe, .ref b, .int x, .int n, .int bt_, .int ln_47, .int ds_48])), (b, .inl (G.2.1, N, .inl fr)), (pl, .inl (G.2.2.1, 1024, .inl fl_)), (pe, .inl (G.2.2.1, 4000, .inl fe_))]) ?_
          refine pb_aload_n (pc := 76) d_Presser_run_76 2 rfl rfl ?_
          refine pb_get (pc := 77) d_Presser_run_77 2 7 rfl rfl (by decide) in_Presser k_190 rfl ?_
          refine pb_iconst (pc := 80) (v := 3) d_Presser_run_80 (by decide) ?_
          refine pb_icmp_ge (pc := 81) (tgt := 107) d_Presser_run_81 (by decide) (fun w50 => ?_) (fun w50 => ?_)
          · have tw50 : 3 ≤ ln_47.toInt := (ti_le (by decide) rfl).mp w50
            refine pb_aload_n (pc := 107) d_Presser_run_107 2 rfl rfl ?_
            refine pb_callV (pc := 108) (I := i_Presser_run) (qb := 2) (ci := 4) (nA := 0) (rest := []) (wr := [(b, .inl (G.2.1, N, .inl fr)), (pl, .inl (G.2.2.1, 1024, .inl fl_)), (pe, .inl (G.2.2.1, 4000, .inl fe_))]) d_Presser_run_108 (g_Pr_putLength hl G h pp pl pe b pb x n bt_ ln_47 ds_48 f_ ps_ S9 (by first | (with_reducible assumption) | omega (splitDisjunctions := false) | assumption | omega | decide) (by first | (with_reducible assumption) | omega (splitDisjunctions := false) | assumption | omega | decide) (by first | (with_reducible assumption) | omega (splitDisjunctions := false) | assumption | omega | decide) (by first | (with_reducible assumption) | omega (splitDisjunctions := false) | assumption | omega | decide) (by first | (with_reducible assumption) | omega (splitDisjunctions := false) | assumption | omega | decide) hC9 F_f_) rfl rfl [2, 0, 1] [3, 4, 5] (by decide) rfl rfl rfl (by decide) (by decide) k_534 rfl k_120 k_531 k_533 k_7 ⟨rfl, hy_Presser_putLength⟩ (by decide) rfl rfl (Nat.le_of_ble_eq_true rfl) (by decide) (fun v9 u52 ch51 => ?_)
            obtain ⟨b_53, p_54, f_55⟩ := u52
            obtain ⟨ech51, ch51⟩ := ch51
            have ech51 : v9 = none := ech51
            subst ech51
            obtain ⟨fh56, fh57, fh58, fh59⟩ : (b_53.toInt = bt_.toInt + le_c ln_47.toInt) ∧ (p_54.toInt = (b_53.toInt + 7) / 8) ∧ (pC_ f_55 p_54.toInt b_53.toInt (lo_ S9 ln_47.toInt)) ∧ (sb_Fit f_55) := ch51
            have leF := fh58
            refine pb_eq (pc' := 111) (lo' := [(5, .int pl_), (4, .int nx), (0, .ref h), (1, .ref b), (2, .int x), (3, .int n)]) (rest' := []) (ws' := [(b, .inl (G.2.1, N, .inl fr)), (pl, .inl (G.2.2.1, 1024, .inl fl_)), (pe, .inl (G.2.2.1, 4000, .inl fe_)), (h, .inr (4, [.ref pp, .ref pl, .ref pe, .ref b, .int x, .int n, .int b_53, .int ln_47, .int ds_48])), (pp, .inr (0, [.ref pb, .int p_54])), (pb, .inl (G.2.1, 4502, .inl f_55))]) ?_
            refine pb_aload_n (pc := 111) d_Presser_run_111 2 rfl rfl ?_
            refine pb_callV (pc := 112) (I := i_Presser_run) (qb := 3) (ci := 4) (nA := 0) (rest := []) (wr := [(b, .inl (G.2.1, N, .inl fr)), (pl, .inl (G.2.2.1, 1024, .inl fl_)), (pe, .inl (G.2.2.1, 4000, .inl fe_))]) d_Presser_run_112 (g_Pr_putDistance hl G h pp pl pe b pb x n b_53 ln_47 ds_48 f_55 p_54 (lo_ S9 ln_47.toInt) (by first | (with_reducible assumption) | omega (splitDisjunctions := false) | assumption | omega | decide) (by first | (with_reducible assumption) | omega (splitDisjunctions := false) | assumption | (exact omg_945d6f3e9b x2 hTr tw44 y2 y4 tw50 fh56) | decide) (by first | (with_reducible assumption) | omega (splitDisjunctions := false) | assumption | omega | decide) (by first | (with_reducible assumption) | omega (splitDisjunctions := false) | assumption | omega | decide) (by first | (with_reducible assumption) | omega (splitDisjunctions := false) | assumption | (exact omg_450c441d63 x2 y2 tw50) | decide) leF fh59) rfl rfl [3, 4, 5] [0, 1, 2] (by decide) rfl rfl rfl (by decide) (by decide) k_538 rfl k_120 k_535 k_537 k_8 ⟨rfl, hy_Presser_putDistance⟩ (by decide) rfl rfl (Nat.le_of_ble_eq_true rfl) (by decide) (fun v9 u61 ch60 => ?_)
            obtain ⟨b_62, p_63, f_64⟩ := u61
            obtain ⟨ech60, ch60⟩ := ch60
            have ech60 : v9 = none := ech60
            subst ech60
            obtain ⟨fh65, fh66, fh67, fh68⟩ : (b_62.toInt = b_53.toInt + di_c ds_48.toInt) ∧ (p_63.toInt = (b_62.toInt + 7) / 8) ∧ (pC_ f_64 p_63.toInt b_62.toInt (do_ (lo_ S9 ln_47.toInt) ds_48.toInt)) ∧ (sb_Fit f_64) := ch60
            have dsF := fh67
            refine pb_eq (pc' := 115) (lo' := [(5, .int pl_), (4, .int nx), (0, .ref h), (1, .ref b), (2, .int x), (3, .int n)]) (rest' := []) (ws' := [(b, .inl (G.2.1, N, .inl fr)), (pl, .inl (G.2.2.1, 1024, .inl fl_)), (pe, .inl (G.2.2.1, 4000, .inl fe_)), (h, .inr (4, [.ref pp, .ref pl, .ref pe, .ref b, .int x, .int n, .int b_62, .int ln_47, .int ds_48])), (pp, .inr (0, [.ref pb, .int p_63])), (pb, .inl (G.2.1, 4502, .inl f_64))]) ?_
            refine pb_iload (pc := 115) d_Presser_run_115 1 rfl ?_
            refine pb_aload_n (pc := 117) d_Presser_run_117 2 rfl rfl ?_
            refine pb_get (pc := 118) d_Presser_run_118 3 7 rfl rfl (by decide) in_Presser k_190 rfl ?_
            refine pb_iadd (pc := 121) d_Presser_run_121 ?_
            refine pb_topi (fun i69 ei69 => ?_)
            try have ti69 : i69.toInt = nx.toInt + ln_47.toInt := ti_add ei69 rfl rfl (by omega) (by omega)
            refine pb_istore (pc := 122) (lo' := [(4, .int i69), (5, .int pl_), (0, .ref h), (1, .ref b), (2, .int x), (3, .int n)]) d_Presser_run_122 (by decide) rfl ?_
            refine pb_re (ws' := [(h, .inr (4, [.ref pp, .ref pl, .ref pe, .ref b, .int x, .int n, .int b_62, .int ln_47, .int ds_48])), (pp, .inr (0, [.ref pb, .int p_63])), (pb, .inl (G.2.1, 4502, .inl f_64)), (pl, .inl (G.2.2.1, 1024, .inl fl_)), (pe, .inl (G.2.2.1, 4000, .inl fe_)), (b, .inl (G.2.1, N, .inl fr))]) (lo' := [(5, .int pl_), (4, .int i69), (0, .ref h), (1, .ref b), (2, .int x), (3, .int n)]) [3, 4, 5, 1, 2, 0] [1, 0, 2, 3, 4, 5] (by decide) rfl rfl rfl ?_
            exact hJ124_37 i69 b_62 ln_47 ds_48 p_63 f_64 fh68 (by first | (with_reducible assumption) | omega (splitDisjunctions := false) | assumption | omega | decide) (by first | assumption | exact pt_st hT2 (fl_lit y1 (by omega) (by omega) (by omega) (li_sq (c := b_62.toInt - bt_.toInt) (by assumption) (by assumption) (by omega) (by omega) (by omega))) (by omega) | exact pt_st hT2 (fl_row (c := b_62.toInt - bt_.toInt) y1 (by omega) (by omega) (by omega) (by omega)) (by omega)) (by first | (with_reducible assumption) | omega (splitDisjunctions := false) | assumption | omega | decide) (by first | exact hid_i ⟨S9, pS_eq hS9 (by omega), hC9⟩ | exact hid_i ⟨_, pS_st (pS_eq hS9 (by omega)) (tk_fl y1 (by omega) (by omega) (by omega) (sq_by eA eI (by omega) (by omega))), syF⟩ | exact hid_i ⟨_, pS_st (pS_eq hS9 (by omega)) (tk_fr y1 (by omega) (by omega) (by omega)), dsF⟩)
          · have tw50 : ¬ 3 ≤ ln_47.toInt := fun z9 => w50 ((ti_le (by decide) rfl).mpr z9)
            refine pb_aload_n (pc := 84) d_Presser_run_84 2 rfl rfl ?_
            refine pb_aload_n (pc := 85) d_Presser_run_85 2 rfl rfl ?_
            refine pb_get (pc := 86) d_Presser_run_86 2 3 rfl rfl (by decide) in_Presser k_186 rfl ?_
            refine pb_aload_n (pc := 89) d_Presser_run_89 2 rfl rfl ?_
            refine pb_get (pc := 90) d_Presser_run_90 2 4 rfl rfl (by decide) in_Presser k_187 rfl ?_
            refine pb_iload (pc := 93) d_Presser_run_93 0 rfl ?_
            refine pb_iadd (pc := 95) d_Presser_run_95 ?_
            refine pb_topi (fun i70 ei70 => ?_)
            try have ti70 : i70.toInt = x.toInt + pl_.toInt := ti_add ei70 rfl rfl (by omega) (by omega)
            refine pb_bald (pc := 96) d_Presser_run_96 3 rfl (vp_in_iff.mpr (by constructor <;> (first | exact omg_5e255a2854 x0 hpl ti70 | omega))) ?_
            refine pb_topi (fun i71 ei71 => ?_)
            have xi71 : i71 = gr fr (x.toInt + pl_.toInt) := gr_ld ei71 (by omega)
            have yi71 : i71.toInt = gx fr (x.toInt + pl_.toInt) := congrArg Int32.toInt xi71
            have ti71 : -128 ≤ i71.toInt ∧ i71.toInt ≤ 127 := ti_fit (F_fr _) ei71
            have eI := xi71
            refine pb_sipush (pc := 97) (v := 255) d_Presser_run_97 (by decide) ?_
            refine pb_iand (pc := 100) d_Presser_run_100 ?_
            refine pb_topi (fun i72 ei72 => ?_)
            have ti72 : 0 ≤ i72.toInt ∧ i72.toInt ≤ 255 := ti_and 8 ei72 (by decide) (by decide)
            have eA := ei72
            refine pb_callV (pc := 101) (I := i_Presser_run) (qb := 2) (ci := 4) (nA := 1) (rest := []) (wr := [(b, .inl (G.2.1, N, .inl fr)), (pl, .inl (G.2.2.1, 1024, .inl fl_)), (pe, .inl (G.2.2.1, 4000, .inl fe_))]) d_Presser_run_101 (g_Pr_putSymbol hl G h pp pl pe b pb x n bt_ ln_47 ds_48 f_ ps_ i72 S9 (by first | (with_reducible assumption) | omega (splitDisjunctions := false) | assumption | omega | decide) (by first | (with_reducible assumption) | omega (splitDisjunctions := false) | assumption | omega | decide) (by first | (with_reducible assumption) | omega (splitDisjunctions := false) | assumption | omega | decide) hC9 (by first | (with_reducible assumption) | omega (splitDisjunctions := false) | assumption | omega | decide) (by first | (with_reducible assumption) | omega (splitDisjunctions := false) | assumption | omega | decide) F_f_) rfl rfl [2, 0, 1] [3, 4, 5] (by decide) rfl rfl rfl (by decide) (by decide) k_527 rfl k_120 k_524 k_526 k_6 ⟨rfl, hy_Presser_putSymbol⟩ (by decide) rfl rfl (Nat.le_of_ble_eq_true rfl) (by decide) (fun v9 u74 ch73 => ?_)
            obtain ⟨b_75, p_76, f_77⟩ := u74
            obtain ⟨ech73, ch73⟩ := ch73
            have ech73 : v9 = none := ech73
            subst ech73
            obtain ⟨fh78, fh79, fh80, fh81, fh82, fh83, fh84⟩ : (i72.toInt < 144 → b_75.toInt = bt_.toInt + 8) ∧ (144 ≤ i72.toInt → i72.toInt < 256 → b_75.toInt = bt_.toInt + 9) ∧ (256 ≤ i72.toInt → i72.toInt < 280 → b_75.toInt = bt_.toInt + 7) ∧ (280 ≤ i72.toInt → b_75.toInt = bt_.toInt + 8) ∧ (p_76.toInt = (b_75.toInt + 7) / 8) ∧ (pC_ f_77 p_76.toInt b_75.toInt (sb_ S9 i72.toInt)) ∧ (sb_Fit f_77) := ch73
            have syF := fh83
            refine pb_eq (pc' := 104) (lo' := [(5, .int pl_), (4, .int nx), (0, .ref h), (1, .ref b), (2, .int x), (3, .int n)]) (rest' := []) (ws' := [(b, .inl (G.2.1, N, .inl fr)), (pl, .inl (G.2.2.1, 1024, .inl fl_)), (pe, .inl (G.2.2.1, 4000, .inl fe_)), (h, .inr (4, [.ref pp, .ref pl, .ref pe, .ref b, .int x, .int n, .int b_75, .int ln_47, .int ds_48])), (pp, .inr (0, [.ref pb, .int p_76])), (pb, .inl (G.2.1, 4502, .inl f_77))]) ?_
            refine pb_goto (pc := 104) (tgt := 115) d_Presser_run_104 (by decide) ?_
            refine pb_iload (pc := 115) d_Presser_run_115 1 rfl ?_
            refine pb_aload_n (pc := 117) d_Presser_run_117 2 rfl rfl ?_
            refine pb_get (pc := 118) d_Presser_run_118 3 7 rfl rfl (by decide) in_Presser k_190 rfl ?_
            refine pb_iadd (pc := 121) d_Presser_run_121 ?_
            refine pb_topi (fun i85 ei85 => ?_)
            try have ti85 : i85.toInt = nx.toInt + ln_47.toInt := ti_add ei85 rfl rfl (by omega) (by omega)
            refine pb_istore (pc := 122) (lo' := [(4, .int i85), (5, .int pl_), (0, .ref h), (1, .ref b), (2, .int x), (3, .int n)]) d_Presser_run_122 (by decide) rfl ?_
            refine pb_re (ws' := [(h, .inr (4, [.ref pp, .ref pl, .ref pe, .ref b, .int x, .int n, .int b_75, .int ln_47, .int ds_48])), (pp, .inr (0, [.ref pb, .int p_76])), (pb, .inl (G.2.1, 4502, .inl f_77)), (pl, .inl (G.2.2.1, 1024, .inl fl_)), (pe, .inl (G.2.2.1, 4000, .inl fe_)), (b, .inl (G.2.1, N, .inl fr))]) (lo' := [(5, .int pl_), (4, .int i85), (0, .ref h), (1, .ref b), (2, .int x), (3, .int n)]) [3, 4, 5, 1, 2, 0] [1, 0, 2, 3, 4, 5] (by decide) rfl rfl rfl ?_
            exact hJ124_37 i85 b_75 ln_47 ds_48 p_76 f_77 fh84 (by first | (with_reducible assumption) | omega (splitDisjunctions := false) | assumption | omega | decide) (by first | assumption | exact pt_st hT2 (fl_lit y1 (by omega) (by omega) (by omega) (li_sq (c := b_75.toInt - bt_.toInt) (by assumption) (by assumption) (by omega) (by omega) (by (exact omg_d427a7eb2d ti72 fh78 fh79)))) (by omega) | exact pt_st hT2 (fl_row (c := b_75.toInt - bt_.toInt) y1 (by omega) (by omega) (by omega) (by omega)) (by omega)) (by first | (with_reducible assumption) | omega (splitDisjunctions := false) | assumption | omega | decide) (by first | exact hid_i ⟨S9, pS_eq hS9 (by omega), hC9⟩ | exact hid_i ⟨_, pS_st (pS_eq hS9 (by omega)) (tk_fl y1 (by omega) (by omega) (by omega) (sq_by eA eI (by omega) (by omega))), syF⟩ | exact hid_i ⟨_, pS_st (pS_eq hS9 (by omega)) (tk_fr y1 (by omega) (by omega) (by omega)), dsF⟩)
  refine pb_re (ws' := [(h, .inr (4, [.ref pp, .ref pl, .ref pe, .ref b, .int x, .int n, .int b_16, .int ln, .int ds])), (pp, .inr (0, [.ref pb, .int p_17])), (pb, .inl (G.2.1, 4502, .inl f_18)), (pl, .inl (G.2.2.1, 1024, .inl f_3)), (pe, .inl (G.2.2.1, 4000, .inl fe)), (b, .inl (G.2.1, N, .inl fr))]) (lo' := [(5, .int 0), (4, .int 0), (0, .ref h), (1, .ref b), (2, .int x), (3, .int n)]) [3, 4, 5, 2, 0, 1] [0, 1, 2, 3, 4, 5] (by decide) rfl rfl rfl ?_
  exact hL54_23 _ 0 0 b_16 ln ds p_17 f_18 f_3 fe fh22 (by first | (with_reducible assumption) | omega (splitDisjunctions := false) | assumption | omega | decide) (by first | (with_reducible assumption) | omega (splitDisjunctions := false) | assumption | omega | decide) (by first | (with_reducible assumption) | omega (splitDisjunctions := false) | assumption | omega | decide) (pt_eq pt_00 zl0 (by omega)) (by first | (with_reducible assumption) | omega (splitDisjunctions := false) | assumption | omega | decide) (by rw [zl0]; exact ch_0 (fun y h0 h1 => (fillF y h0 h1).trans zm1)) (hid_i ⟨_, pS_eq pS_0 zl0, pC_c p2F rfl rfl bn_12⟩) (Nat.lt_succ_self _)
