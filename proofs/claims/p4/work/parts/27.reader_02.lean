theorem d_FileReader_run_0 : decode prog_5_method_2_code 0 = .ok (.aload_n 0, 1) := sorry
theorem d_FileReader_run_1 : decode prog_5_method_2_code 1 = .ok (.aload_n 1, 1) := sorry
theorem d_FileReader_run_2 : decode prog_5_method_2_code 2 = .ok (.putfield 9, 3) := sorry
theorem d_FileReader_run_5 : decode prog_5_method_2_code 5 = .ok (.aload_n 3, 1) := sorry
theorem d_FileReader_run_6 : decode prog_5_method_2_code 6 = .ok (.invokevirtual 15, 3) := sorry
theorem k_584 : (Jvm.Cond.methodLink "PackageBook$FileReader" (15 : Nat) ({ cls := "PackageBook$Shelf", name := "clear", desc := "()V" } : Jvm.MethodName)) ∈ uW := sorry
theorem k_587 : (Jvm.Cond.code ({ cls := "PackageBook$Shelf", name := "clear", desc := "()V" } : Jvm.MethodName) prog_10_method_2_code (1 : Nat) (Option.none : Option Jvm.ClassFile.FieldType)) ∈ uW := sorry
theorem k_585 : (Jvm.Cond.instanceMethod ({ cls := "PackageBook$Shelf", name := "clear", desc := "()V" } : Jvm.MethodName)) ∈ uW := sorry
theorem k_586 : (Jvm.Cond.selects "PackageBook$Shelf" ({ cls := "PackageBook$Shelf", name := "clear", desc := "()V" } : Jvm.MethodName) ({ cls := "PackageBook$Shelf", name := "clear", desc := "()V" } : Jvm.MethodName)) ∈ uW := sorry
theorem hy_Shelf_clear : (y_Shelf_clear).cls ≠ "java/lang/invoke/MethodHandle" ∧ (y_Shelf_clear).cls ≠ "java/lang/invoke/VarHandle" ∧ (parseMethodDescriptor (y_Shelf_clear).desc).map (fun d => d.parameters.length) = some 0 := sorry
theorem d_FileReader_run_9 : decode prog_5_method_2_code 9 = .ok (.iload_n 2, 1) := sorry
theorem d_FileReader_run_10 : decode prog_5_method_2_code 10 = .ok (.bipush 22, 2) := sorry
theorem d_FileReader_run_12 : decode prog_5_method_2_code 12 = .ok (.isub, 1) := sorry
theorem d_FileReader_run_13 : decode prog_5_method_2_code 13 = .ok (.istore 5, 2) := sorry
theorem d_FileReader_run_15 : decode prog_5_method_2_code 15 = .ok (.iload 5, 2) := sorry
theorem d_FileReader_run_17 : decode prog_5_method_2_code 17 = .ok (.ifCond .lt 12, 3) := sorry
theorem d_FileReader_run_29 : decode prog_5_method_2_code 29 = .ok (.iconst 1, 1) := sorry
theorem d_FileReader_run_30 : decode prog_5_method_2_code 30 = .ok (.ireturn, 1) := sorry
theorem d_FileReader_run_20 : decode prog_5_method_2_code 20 = .ok (.aload_n 0, 1) := sorry
theorem d_FileReader_run_21 : decode prog_5_method_2_code 21 = .ok (.iload 5, 2) := sorry
theorem d_FileReader_run_23 : decode prog_5_method_2_code 23 = .ok (.invokevirtual 20, 3) := sorry
theorem k_588 : (Jvm.Cond.methodLink "PackageBook$FileReader" (20 : Nat) ({ cls := "PackageBook$FileReader", name := "isEnd", desc := "(I)Z" } : Jvm.MethodName)) ∈ uW := sorry
theorem k_591 : (Jvm.Cond.code ({ cls := "PackageBook$FileReader", name := "isEnd", desc := "(I)Z" } : Jvm.MethodName) prog_5_method_3_code (2 : Nat) (Option.some Jvm.ClassFile.FieldType.boolean)) ∈ uW := sorry
theorem k_590 : (Jvm.Cond.instanceMethod ({ cls := "PackageBook$FileReader", name := "isEnd", desc := "(I)Z" } : Jvm.MethodName)) ∈ uW := sorry
theorem k_12 : Cond.selects "PackageBook$FileReader" ⟨"PackageBook$FileReader", "isEnd", "(I)Z"⟩ ⟨"PackageBook$FileReader", "isEnd", "(I)Z"⟩ ∈ uW := sorry
theorem hy_FileReader_isEnd : (y_FileReader_isEnd).cls ≠ "java/lang/invoke/MethodHandle" ∧ (y_FileReader_isEnd).cls ≠ "java/lang/invoke/VarHandle" ∧ (parseMethodDescriptor (y_FileReader_isEnd).desc).map (fun d => d.parameters.length) = some 1 := sorry
theorem d_FileReader_run_26 : decode prog_5_method_2_code 26 = .ok (.ifCond .ne 5, 3) := sorry
theorem d_FileReader_run_31 : decode prog_5_method_2_code 31 = .ok (.aload_n 0, 1) := sorry
theorem d_FileReader_run_32 : decode prog_5_method_2_code 32 = .ok (.getfield 9, 3) := sorry
theorem d_FileReader_run_35 : decode prog_5_method_2_code 35 = .ok (.iload 5, 2) := sorry
theorem d_FileReader_run_37 : decode prog_5_method_2_code 37 = .ok (.bipush 8, 2) := sorry
theorem d_FileReader_run_39 : decode prog_5_method_2_code 39 = .ok (.iadd, 1) := sorry
theorem d_FileReader_run_40 : decode prog_5_method_2_code 40 = .ok (.invokestatic 24, 3) := sorry
theorem d_FileReader_run_43 : decode prog_5_method_2_code 43 = .ok (.istore 6, 2) := sorry
theorem d_FileReader_run_45 : decode prog_5_method_2_code 45 = .ok (.aload_n 0, 1) := sorry
theorem d_FileReader_run_46 : decode prog_5_method_2_code 46 = .ok (.getfield 9, 3) := sorry
theorem d_FileReader_run_49 : decode prog_5_method_2_code 49 = .ok (.iload 5, 2) := sorry
theorem d_FileReader_run_51 : decode prog_5_method_2_code 51 = .ok (.bipush 16, 2) := sorry
theorem d_FileReader_run_53 : decode prog_5_method_2_code 53 = .ok (.iadd, 1) := sorry
theorem d_FileReader_run_54 : decode prog_5_method_2_code 54 = .ok (.invokestatic 28, 3) := sorry
theorem d_FileReader_run_57 : decode prog_5_method_2_code 57 = .ok (.lstore 7, 2) := sorry
theorem d_FileReader_run_59 : decode prog_5_method_2_code 59 = .ok (.lload 7, 2) := sorry
theorem d_FileReader_run_61 : decode prog_5_method_2_code 61 = .ok (.aload_n 0, 1) := sorry
theorem d_FileReader_run_62 : decode prog_5_method_2_code 62 = .ok (.getfield 9, 3) := sorry
theorem d_FileReader_run_65 : decode prog_5_method_2_code 65 = .ok (.iload 5, 2) := sorry
theorem d_FileReader_run_67 : decode prog_5_method_2_code 67 = .ok (.bipush 12, 2) := sorry
theorem d_FileReader_run_69 : decode prog_5_method_2_code 69 = .ok (.iadd, 1) := sorry
theorem d_FileReader_run_70 : decode prog_5_method_2_code 70 = .ok (.invokestatic 28, 3) := sorry
theorem d_FileReader_run_73 : decode prog_5_method_2_code 73 = .ok (.ladd, 1) := sorry
theorem d_FileReader_run_74 : decode prog_5_method_2_code 74 = .ok (.iload 5, 2) := sorry
theorem d_FileReader_run_76 : decode prog_5_method_2_code 76 = .ok (.i2l, 1) := sorry
theorem d_FileReader_run_77 : decode prog_5_method_2_code 77 = .ok (.lcmp, 1) := sorry
theorem d_FileReader_run_78 : decode prog_5_method_2_code 78 = .ok (.ifCond .ne 17, 3) := sorry
theorem d_FileReader_run_95 : decode prog_5_method_2_code 95 = .ok (.iconst 2, 1) := sorry
theorem d_FileReader_run_96 : decode prog_5_method_2_code 96 = .ok (.ireturn, 1) := sorry
theorem d_FileReader_run_81 : decode prog_5_method_2_code 81 = .ok (.aload_n 0, 1) := sorry
theorem d_FileReader_run_82 : decode prog_5_method_2_code 82 = .ok (.lload 7, 2) := sorry
theorem d_FileReader_run_84 : decode prog_5_method_2_code 84 = .ok (.l2i, 1) := sorry
theorem d_FileReader_run_85 : decode prog_5_method_2_code 85 = .ok (.iload 5, 2) := sorry
theorem d_FileReader_run_87 : decode prog_5_method_2_code 87 = .ok (.iload 6, 2) := sorry
theorem d_FileReader_run_89 : decode prog_5_method_2_code 89 = .ok (.invokevirtual 32, 3) := sorry
theorem k_600 : (Jvm.Cond.methodLink "PackageBook$FileReader" (32 : Nat) ({ cls := "PackageBook$FileReader", name := "isDirectory", desc := "(III)Z" } : Jvm.MethodName)) ∈ uW := sorry
theorem k_603 : (Jvm.Cond.code ({ cls := "PackageBook$FileReader", name := "isDirectory", desc := "(III)Z" } : Jvm.MethodName) prog_5_method_4_code (6 : Nat) (Option.some Jvm.ClassFile.FieldType.boolean)) ∈ uW := sorry
theorem k_602 : (Jvm.Cond.instanceMethod ({ cls := "PackageBook$FileReader", name := "isDirectory", desc := "(III)Z" } : Jvm.MethodName)) ∈ uW := sorry
theorem k_13 : Cond.selects "PackageBook$FileReader" ⟨"PackageBook$FileReader", "isDirectory", "(III)Z"⟩ ⟨"PackageBook$FileReader", "isDirectory", "(III)Z"⟩ ∈ uW := sorry
theorem hy_FileReader_isDirectory : (y_FileReader_isDirectory).cls ≠ "java/lang/invoke/MethodHandle" ∧ (y_FileReader_isDirectory).cls ≠ "java/lang/invoke/VarHandle" ∧ (parseMethodDescriptor (y_FileReader_isDirectory).desc).map (fun d => d.parameters.length) = some 3 := sorry
theorem d_FileReader_run_92 : decode prog_5_method_2_code 92 = .ok (.ifCond .ne 5, 3) := sorry
theorem d_FileReader_run_97 : decode prog_5_method_2_code 97 = .ok (.iconst 0, 1) := sorry
theorem d_FileReader_run_98 : decode prog_5_method_2_code 98 = .ok (.istore 9, 2) := sorry
theorem d_FileReader_run_100 : decode prog_5_method_2_code 100 = .ok (.lload 7, 2) := sorry
theorem d_FileReader_run_102 : decode prog_5_method_2_code 102 = .ok (.l2i, 1) := sorry
theorem d_FileReader_run_103 : decode prog_5_method_2_code 103 = .ok (.istore 10, 2) := sorry
theorem d_FileReader_run_105 : decode prog_5_method_2_code 105 = .ok (.iconst 0, 1) := sorry
theorem d_FileReader_run_106 : decode prog_5_method_2_code 106 = .ok (.istore 11, 2) := sorry
theorem d_FileReader_run_108 : decode prog_5_method_2_code 108 = .ok (.iload 11, 2) := sorry
theorem d_FileReader_run_110 : decode prog_5_method_2_code 110 = .ok (.iload 6, 2) := sorry
theorem d_FileReader_run_112 : decode prog_5_method_2_code 112 = .ok (.if_icmp .ge 47, 3) := sorry
theorem d_FileReader_run_159 : decode prog_5_method_2_code 159 = .ok (.iload 9, 2) := sorry
theorem d_FileReader_run_161 : decode prog_5_method_2_code 161 = .ok (.ireturn, 1) := sorry
theorem d_FileReader_run_115 : decode prog_5_method_2_code 115 = .ok (.iload 9, 2) := sorry
theorem d_FileReader_run_117 : decode prog_5_method_2_code 117 = .ok (.ifCond .ne 42, 3) := sorry
theorem d_FileReader_run_120 : decode prog_5_method_2_code 120 = .ok (.aload_n 0, 1) := sorry
theorem d_FileReader_run_121 : decode prog_5_method_2_code 121 = .ok (.iload 10, 2) := sorry
theorem d_FileReader_run_123 : decode prog_5_method_2_code 123 = .ok (.lload 7, 2) := sorry
theorem d_FileReader_run_125 : decode prog_5_method_2_code 125 = .ok (.aload_n 3, 1) := sorry
theorem d_FileReader_run_126 : decode prog_5_method_2_code 126 = .ok (.aload 4, 2) := sorry
theorem d_FileReader_run_128 : decode prog_5_method_2_code 128 = .ok (.invokevirtual 36, 3) := sorry
theorem k_609 : (Jvm.Cond.methodLink "PackageBook$FileReader" (36 : Nat) ({ cls := "PackageBook$FileReader", name := "readEntry", desc := "(IJLPackageBook$Shelf;LPackageBook$Expander;)I" } : Jvm.MethodName)) ∈ uW := sorry
theorem k_612 : (Jvm.Cond.code ({ cls := "PackageBook$FileReader", name := "readEntry", desc := "(IJLPackageBook$Shelf;LPackageBook$Expander;)I" } : Jvm.MethodName) prog_5_method_6_code (18 : Nat) (Option.some Jvm.ClassFile.FieldType.int)) ∈ uW := sorry
theorem k_611 : (Jvm.Cond.instanceMethod ({ cls := "PackageBook$FileReader", name := "readEntry", desc := "(IJLPackageBook$Shelf;LPackageBook$Expander;)I" } : Jvm.MethodName)) ∈ uW := sorry
theorem k_15 : Cond.selects "PackageBook$FileReader" ⟨"PackageBook$FileReader", "readEntry", "(IJLPackageBook$Shelf;LPackageBook$Expander;)I"⟩ ⟨"PackageBook$FileReader", "readEntry", "(IJLPackageBook$Shelf;LPackageBook$Expander;)I"⟩ ∈ uW := sorry
theorem hy_FileReader_readEntry : (y_FileReader_readEntry).cls ≠ "java/lang/invoke/MethodHandle" ∧ (y_FileReader_readEntry).cls ≠ "java/lang/invoke/VarHandle" ∧ (parseMethodDescriptor (y_FileReader_readEntry).desc).map (fun d => d.parameters.length) = some 4 := sorry
theorem d_FileReader_run_131 : decode prog_5_method_2_code 131 = .ok (.istore 9, 2) := sorry
theorem d_FileReader_run_133 : decode prog_5_method_2_code 133 = .ok (.iload 10, 2) := sorry
theorem d_FileReader_run_135 : decode prog_5_method_2_code 135 = .ok (.bipush 46, 2) := sorry
theorem d_FileReader_run_137 : decode prog_5_method_2_code 137 = .ok (.aload_n 0, 1) := sorry
theorem d_FileReader_run_138 : decode prog_5_method_2_code 138 = .ok (.getfield 9, 3) := sorry
theorem d_FileReader_run_141 : decode prog_5_method_2_code 141 = .ok (.iload 10, 2) := sorry
theorem d_FileReader_run_143 : decode prog_5_method_2_code 143 = .ok (.bipush 28, 2) := sorry
theorem d_FileReader_run_145 : decode prog_5_method_2_code 145 = .ok (.iadd, 1) := sorry
theorem d_FileReader_run_146 : decode prog_5_method_2_code 146 = .ok (.invokestatic 24, 3) := sorry
theorem d_FileReader_run_149 : decode prog_5_method_2_code 149 = .ok (.iadd, 1) := sorry
theorem d_FileReader_run_150 : decode prog_5_method_2_code 150 = .ok (.iadd, 1) := sorry
theorem d_FileReader_run_151 : decode prog_5_method_2_code 151 = .ok (.istore 10, 2) := sorry
theorem d_FileReader_run_153 : decode prog_5_method_2_code 153 = .ok (.iinc 11 1, 3) := sorry
theorem d_FileReader_run_156 : decode prog_5_method_2_code 156 = .ok (.goto (-48), 3) := sorry
abbrev y_FileReader_run : MethodName := ⟨"PackageBook$FileReader", "run", "([BILPackageBook$Shelf;LPackageBook$Expander;)I"⟩
abbrev i_FileReader_run : pb_I := (y_FileReader_run, prog_5_method_2_code, 12, (some Jvm.ClassFile.FieldType.int), [], { frames := 5, cells := 0, slots := 0, locals := 140 })
theorem g_Rd_run {l : Launch} (hl : l.stackTraces = false) (G : pb_G) (h : Nat) (b : Nat) (N : Nat) (ro : Nat) (f : Nat → Int32) (sp : Nat) (tn : Nat) (tz : Nat) (tb : Nat) (tg : Nat) (c : Int32) (tfn : Nat → Int32) (tfz : Nat → Int32) (tfb : Nat → Int32) (tfg : Nat → Int32) (q : Nat) (ex : Nat) (et : Nat) (ea : Nat) (eb : Nat) (ec : Nat) (ed : Nat) (ef : Nat) (er : Nat) (at_ : Int32) (en : Int32) (fl : Int32) (ey : Nat) (xf : Nat → Int32) (xs : Int32) (tf : Nat → Int32) (ea1 : Nat) (ea2 : Nat) (eas : Int32) (eac : Nat → Int32) (eay : Nat → Int32) (eb1 : Nat) (eb2 : Nat) (ebs : Int32) (ebc : Nat → Int32) (eby : Nat → Int32) (ef1 : Nat) (ef2 : Nat) (efs : Int32) (efc : Nat → Int32) (efy : Nat → Int32) (ec1 : Nat) (ec2 : Nat) (ecs : Int32) (ecc : Nat → Int32) (ecy : Nat → Int32) (ed1 : Nat) (ed2 : Nat) (eds : Int32) (edc : Nat → Int32) (edy : Nat → Int32) (x : Int32) (A : Int → Int32) (Zs : Int) (Ia : co_I eas.toInt eac eay 288) (Ma : eas.toInt ≤ 288) (Ib : co_I ebs.toInt ebc eby 32) (Mb : ebs.toInt ≤ 32) (Fa : cs_R eas.toInt eac eay fx_1 288) (Fb : cs_R ebs.toInt ebc eby fx_2 32) (If : co_I efs.toInt efc efy 19) (Mf : efs.toInt ≤ 19) (Ic : co_I ecs.toInt ecc ecy 288) (Mc : ecs.toInt ≤ 286) (Id : co_I eds.toInt edc edy 32) (Md : eds.toInt ≤ 30) (a0_ : 0 ≤ xs.toInt) (a1_ : xs.toInt ≤ 4000) (h0 : 0 ≤ x.toInt) (h1 : x.toInt ≤ N) (hN : N ≤ 100000) (hA : ∀ j : Int, 0 ≤ j → j < Zs → A j = gr f j) (hZ : x.toInt ≤ Zs) (F_f : sb_Fit f) (F_tfn : sb_Fit tfn) (F_tfb : sb_Fit tfb) (F_xf : sb_Fit xf) : Cn l G i_FileReader_run [.ref h, .ref b, .int x, .ref sp, .ref q] [(h, .inr (7, [.ref ro])), (b, .inl (G.2.1, N, .inl f)), (sp, .inr (3, [.ref tn, .ref tz, .ref tb, .ref tg, .int c])), (tn, .inl (G.2.1, 384, .inl tfn)), (tz, .inl (G.2.2.1, 16, .inl tfz)), (tb, .inl (G.2.1, 12000, .inl tfb)), (tg, .inl (G.2.2.1, 17, .inl tfg)), (q, .inr (5, [.ref ex, .ref et, .ref ea, .ref eb, .ref ec, .ref ed, .ref ef, .ref er, .int at_, .int en, .int fl])), (ex, .inr (0, [.ref ey, .int xs])), (ey, .inl (G.2.1, 4000, .inl xf)), (et, .inl (G.2.2.1, 316, .inl tf)), (ea, .inr (1, [.ref ea1, .ref ea2, .int eas])), (ea1, .inl (G.2.2.1, 16, .inl eac)), (ea2, .inl (G.2.2.1, 288, .inl eay)), (eb, .inr (1, [.ref eb1, .ref eb2, .int ebs])), (eb1, .inl (G.2.2.1, 16, .inl ebc)), (eb2, .inl (G.2.2.1, 32, .inl eby)), (ef, .inr (1, [.ref ef1, .ref ef2, .int efs])), (ef1, .inl (G.2.2.1, 16, .inl efc)), (ef2, .inl (G.2.2.1, 19, .inl efy)), (ec, .inr (1, [.ref ec1, .ref ec2, .int ecs])), (ec1, .inl (G.2.2.1, 16, .inl ecc)), (ec2, .inl (G.2.2.1, 286, .inl ecy)), (ed, .inr (1, [.ref ed1, .ref ed2, .int eds])), (ed1, .inl (G.2.2.1, 16, .inl edc)), (ed2, .inl (G.2.2.1, 30, .inl edy))] (S := Int32 × Int32 × (Nat → Int32) × (Nat → Int32) × (Nat → Int32) × (Nat → Int32) × Nat × Int32 × Int32 × Int32 × Int32 × (Nat → Int32) × (Nat → Int32) × Int32 × (Nat → Int32) × (Nat → Int32) × Int32 × (Nat → Int32) × (Nat → Int32) × Int32 × (Nat → Int32) × (Nat → Int32)) (fun rv_ u => rv_ = some (.int u.1) ∧ (sh_I u.2.1.toInt u.2.2.2.1 u.2.2.2.2.2.1) ∧ (0 ≤ u.2.2.2.2.2.2.2.2.2.2.1.toInt) ∧ (u.2.2.2.2.2.2.2.2.2.2.1.toInt ≤ 4000) ∧ (co_I u.2.2.2.2.2.2.2.2.2.2.2.2.2.1.toInt u.2.2.2.2.2.2.2.2.2.2.2.2.2.2.1 u.2.2.2.2.2.2.2.2.2.2.2.2.2.2.2.1 19) ∧ (u.2.2.2.2.2.2.2.2.2.2.2.2.2.1.toInt ≤ 19) ∧ (co_I u.2.2.2.2.2.2.2.2.2.2.2.2.2.2.2.2.1.toInt u.2.2.2.2.2.2.2.2.2.2.2.2.2.2.2.2.2.1 u.2.2.2.2.2.2.2.2.2.2.2.2.2.2.2.2.2.2.1 288) ∧ (u.2.2.2.2.2.2.2.2.2.2.2.2.2.2.2.2.1.toInt ≤ 286) ∧ (co_I u.2.2.2.2.2.2.2.2.2.2.2.2.2.2.2.2.2.2.2.1.toInt u.2.2.2.2.2.2.2.2.2.2.2.2.2.2.2.2.2.2.2.2.1 u.2.2.2.2.2.2.2.2.2.2.2.2.2.2.2.2.2.2.2.2.2 32) ∧ (u.2.2.2.2.2.2.2.2.2.2.2.2.2.2.2.2.2.2.2.1.toInt ≤ 30) ∧ (hid_ (∃ W : VW_, rd_ A x.toInt u.1.toInt W ∧ (u.1.toInt = 0 → rC_ u.2.1.toInt u.2.2.1 u.2.2.2.1 u.2.2.2.2.1 u.2.2.2.2.2.1 W))) ∧ (sb_Fit u.2.2.1) ∧ (sb_Fit u.2.2.2.2.1) ∧ (sb_Fit u.2.2.2.2.2.2.2.2.2.2.2.1)) (fun u => [(h, .inr (7, [.ref b])), (b, .inl (G.2.1, N, .inl f)), (sp, .inr (3, [.ref tn, .ref tz, .ref tb, .ref tg, .int u.2.1])), (tn, .inl (G.2.1, 384, .inl u.2.2.1)), (tz, .inl (G.2.2.1, 16, .inl u.2.2.2.1)), (tb, .inl (G.2.1, 12000, .inl u.2.2.2.2.1)), (tg, .inl (G.2.2.1, 17, .inl u.2.2.2.2.2.1)), (q, .inr (5, [.ref ex, .ref et, .ref ea, .ref eb, .ref ec, .ref ed, .ref ef, .ref u.2.2.2.2.2.2.1, .int u.2.2.2.2.2.2.2.1, .int u.2.2.2.2.2.2.2.2.1, .int u.2.2.2.2.2.2.2.2.2.1])), (ex, .inr (0, [.ref ey, .int u.2.2.2.2.2.2.2.2.2.2.1])), (ey, .inl (G.2.1, 4000, .inl u.2.2.2.2.2.2.2.2.2.2.2.1)), (et, .inl (G.2.2.1, 316, .inl u.2.2.2.2.2.2.2.2.2.2.2.2.1)), (ea, .inr (1, [.ref ea1, .ref ea2, .int eas])), (ea1, .inl (G.2.2.1, 16, .inl eac)), (ea2, .inl (G.2.2.1, 288, .inl eay)), (eb, .inr (1, [.ref eb1, .ref eb2, .int ebs])), (eb1, .inl (G.2.2.1, 16, .inl ebc)), (eb2, .inl (G.2.2.1, 32, .inl eby)), (ef, .inr (1, [.ref ef1, .ref ef2, .int u.2.2.2.2.2.2.2.2.2.2.2.2.2.1])), (ef1, .inl (G.2.2.1, 16, .inl u.2.2.2.2.2.2.2.2.2.2.2.2.2.2.1)), (ef2, .inl (G.2.2.1, 19, .inl u.2.2.2.2.2.2.2.2.2.2.2.2.2.2.2.1)), (ec, .inr (1, [.ref ec1, .ref ec2, .int u.2.2.2.2.2.2.2.2.2.2.2.2.2.2.2.2.1])), (ec1, .inl (G.2.2.1, 16, .inl u.2.2.2.2.2.2.2.2.2.2.2.2.2.2.2.2.2.1)), (ec2, .inl (G.2.2.1, 286, .inl u.2.2.2.2.2.2.2.2.2.2.2.2.2.2.2.2.2.2.1)), (ed, .inr (1, [.ref ed1, .ref ed2, .int u.2.2.2.2.2.2.2.2.2.2.2.2.2.2.2.2.2.2.2.1])), (ed1, .inl (G.2.2.1, 16, .inl u.2.2.2.2.2.2.2.2.2.2.2.2.2.2.2.2.2.2.2.2.1)), (ed2, .inl (G.2.2.1, 30, .inl u.2.2.2.2.2.2.2.2.2.2.2.2.2.2.2.2.2.2.2.2.2))]) := sorry
