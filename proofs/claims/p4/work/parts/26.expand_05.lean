theorem d_Expander_run_0 : decode prog_3_method_3_code 0 = .ok (.aload_n 0, 1) := sorry
theorem d_Expander_run_1 : decode prog_3_method_3_code 1 = .ok (.aload_n 1, 1) := sorry
theorem d_Expander_run_2 : decode prog_3_method_3_code 2 = .ok (.putfield 46, 3) := sorry
theorem d_Expander_run_5 : decode prog_3_method_3_code 5 = .ok (.aload_n 0, 1) := sorry
theorem d_Expander_run_6 : decode prog_3_method_3_code 6 = .ok (.bipush 8, 2) := sorry
theorem d_Expander_run_8 : decode prog_3_method_3_code 8 = .ok (.iload_n 2, 1) := sorry
theorem d_Expander_run_9 : decode prog_3_method_3_code 9 = .ok (.imul, 1) := sorry
theorem d_Expander_run_10 : decode prog_3_method_3_code 10 = .ok (.putfield 58, 3) := sorry
theorem d_Expander_run_13 : decode prog_3_method_3_code 13 = .ok (.aload_n 0, 1) := sorry
theorem d_Expander_run_14 : decode prog_3_method_3_code 14 = .ok (.bipush 8, 2) := sorry
theorem d_Expander_run_16 : decode prog_3_method_3_code 16 = .ok (.iload_n 2, 1) := sorry
theorem d_Expander_run_17 : decode prog_3_method_3_code 17 = .ok (.iload_n 3, 1) := sorry
theorem d_Expander_run_18 : decode prog_3_method_3_code 18 = .ok (.iadd, 1) := sorry
theorem d_Expander_run_19 : decode prog_3_method_3_code 19 = .ok (.imul, 1) := sorry
theorem d_Expander_run_20 : decode prog_3_method_3_code 20 = .ok (.putfield 62, 3) := sorry
theorem d_Expander_run_23 : decode prog_3_method_3_code 23 = .ok (.aload_n 0, 1) := sorry
theorem d_Expander_run_24 : decode prog_3_method_3_code 24 = .ok (.iconst 0, 1) := sorry
theorem d_Expander_run_25 : decode prog_3_method_3_code 25 = .ok (.putfield 65, 3) := sorry
theorem d_Expander_run_28 : decode prog_3_method_3_code 28 = .ok (.aload_n 0, 1) := sorry
theorem d_Expander_run_29 : decode prog_3_method_3_code 29 = .ok (.getfield 14, 3) := sorry
theorem d_Expander_run_32 : decode prog_3_method_3_code 32 = .ok (.iconst 0, 1) := sorry
theorem d_Expander_run_33 : decode prog_3_method_3_code 33 = .ok (.putfield 68, 3) := sorry
theorem d_Expander_run_36 : decode prog_3_method_3_code 36 = .ok (.iconst 0, 1) := sorry
theorem d_Expander_run_37 : decode prog_3_method_3_code 37 = .ok (.istore 4, 2) := sorry
theorem d_Expander_run_39 : decode prog_3_method_3_code 39 = .ok (.iconst 0, 1) := sorry
theorem d_Expander_run_40 : decode prog_3_method_3_code 40 = .ok (.istore 5, 2) := sorry
theorem d_Expander_run_42 : decode prog_3_method_3_code 42 = .ok (.iload 5, 2) := sorry
theorem d_Expander_run_44 : decode prog_3_method_3_code 44 = .ok (.bipush 8, 2) := sorry
theorem d_Expander_run_46 : decode prog_3_method_3_code 46 = .ok (.iload_n 3, 1) := sorry
theorem d_Expander_run_47 : decode prog_3_method_3_code 47 = .ok (.imul, 1) := sorry
theorem d_Expander_run_48 : decode prog_3_method_3_code 48 = .ok (.if_icmp .gt 107, 3) := sorry
theorem d_Expander_run_175 : decode prog_3_method_3_code 175 = .ok (.aload_n 0, 1) := sorry
theorem d_Expander_run_176 : decode prog_3_method_3_code 176 = .ok (.getfield 65, 3) := sorry
theorem d_Expander_run_179 : decode prog_3_method_3_code 179 = .ok (.ifCond .ne 13, 3) := sorry
theorem d_Expander_run_192 : decode prog_3_method_3_code 192 = .ok (.aload_n 0, 1) := sorry
theorem d_Expander_run_193 : decode prog_3_method_3_code 193 = .ok (.getfield 65, 3) := sorry
theorem d_Expander_run_196 : decode prog_3_method_3_code 196 = .ok (.ineg, 1) := sorry
theorem d_Expander_run_197 : decode prog_3_method_3_code 197 = .ok (.ireturn, 1) := sorry
theorem d_Expander_run_182 : decode prog_3_method_3_code 182 = .ok (.aload_n 0, 1) := sorry
theorem d_Expander_run_183 : decode prog_3_method_3_code 183 = .ok (.getfield 14, 3) := sorry
theorem d_Expander_run_186 : decode prog_3_method_3_code 186 = .ok (.getfield 68, 3) := sorry
theorem d_Expander_run_189 : decode prog_3_method_3_code 189 = .ok (.goto 8, 3) := sorry
theorem d_Expander_run_155 : decode prog_3_method_3_code 155 = .ok (.aload_n 0, 1) := sorry
theorem d_Expander_run_156 : decode prog_3_method_3_code 156 = .ok (.getfield 58, 3) := sorry
theorem d_Expander_run_159 : decode prog_3_method_3_code 159 = .ok (.bipush 7, 2) := sorry
theorem d_Expander_run_161 : decode prog_3_method_3_code 161 = .ok (.iadd, 1) := sorry
theorem d_Expander_run_162 : decode prog_3_method_3_code 162 = .ok (.aload_n 0, 1) := sorry
theorem d_Expander_run_163 : decode prog_3_method_3_code 163 = .ok (.getfield 62, 3) := sorry
theorem d_Expander_run_166 : decode prog_3_method_3_code 166 = .ok (.if_icmp .ge 9, 3) := sorry
theorem d_Expander_run_169 : decode prog_3_method_3_code 169 = .ok (.aload_n 0, 1) := sorry
theorem d_Expander_run_170 : decode prog_3_method_3_code 170 = .ok (.bipush 8, 2) := sorry
theorem d_Expander_run_172 : decode prog_3_method_3_code 172 = .ok (.invokevirtual 85, 3) := sorry
theorem d_Expander_run_51 : decode prog_3_method_3_code 51 = .ok (.iload 4, 2) := sorry
theorem d_Expander_run_53 : decode prog_3_method_3_code 53 = .ok (.ifCond .ne 102, 3) := sorry
theorem d_Expander_run_56 : decode prog_3_method_3_code 56 = .ok (.aload_n 0, 1) := sorry
theorem d_Expander_run_57 : decode prog_3_method_3_code 57 = .ok (.getfield 65, 3) := sorry
theorem d_Expander_run_60 : decode prog_3_method_3_code 60 = .ok (.ifCond .ne 95, 3) := sorry
theorem d_Expander_run_63 : decode prog_3_method_3_code 63 = .ok (.aload_n 0, 1) := sorry
theorem d_Expander_run_79 : decode prog_3_method_3_code 79 = .ok (.aload_n 0, 1) := sorry
theorem d_Expander_run_80 : decode prog_3_method_3_code 80 = .ok (.iconst 2, 1) := sorry
theorem d_Expander_run_81 : decode prog_3_method_3_code 81 = .ok (.invokevirtual 71, 3) := sorry
theorem d_Expander_run_84 : decode prog_3_method_3_code 84 = .ok (.istore 6, 2) := sorry
theorem d_Expander_run_86 : decode prog_3_method_3_code 86 = .ok (.iload 6, 2) := sorry
theorem d_Expander_run_88 : decode prog_3_method_3_code 88 = .ok (.ifCond .ne 10, 3) := sorry
theorem d_Expander_run_98 : decode prog_3_method_3_code 98 = .ok (.iload 6, 2) := sorry
theorem d_Expander_run_100 : decode prog_3_method_3_code 100 = .ok (.iconst 1, 1) := sorry
theorem d_Expander_run_101 : decode prog_3_method_3_code 101 = .ok (.if_icmp .ne 18, 3) := sorry
theorem d_Expander_run_119 : decode prog_3_method_3_code 119 = .ok (.iload 6, 2) := sorry
theorem d_Expander_run_121 : decode prog_3_method_3_code 121 = .ok (.iconst 2, 1) := sorry
theorem d_Expander_run_122 : decode prog_3_method_3_code 122 = .ok (.if_icmp .ne 22, 3) := sorry
theorem d_Expander_run_144 : decode prog_3_method_3_code 144 = .ok (.aload_n 0, 1) := sorry
theorem d_Expander_run_145 : decode prog_3_method_3_code 145 = .ok (.iconst 2, 1) := sorry
theorem d_Expander_run_146 : decode prog_3_method_3_code 146 = .ok (.invokevirtual 85, 3) := sorry
theorem d_Expander_run_149 : decode prog_3_method_3_code 149 = .ok (.iinc 5 1, 3) := sorry
theorem d_Expander_run_152 : decode prog_3_method_3_code 152 = .ok (.goto (-110), 3) := sorry
theorem d_Expander_run_125 : decode prog_3_method_3_code 125 = .ok (.aload_n 0, 1) := sorry
theorem d_Expander_run_126 : decode prog_3_method_3_code 126 = .ok (.invokevirtual 82, 3) := sorry
theorem k_673 : (Jvm.Cond.methodLink "PackageBook$Expander" (82 : Nat) ({ cls := "PackageBook$Expander", name := "readCodes", desc := "()V" } : Jvm.MethodName)) ∈ uW := sorry
theorem k_676 : (Jvm.Cond.code ({ cls := "PackageBook$Expander", name := "readCodes", desc := "()V" } : Jvm.MethodName) prog_3_method_5_code (5 : Nat) (Option.none : Option Jvm.ClassFile.FieldType)) ∈ uW := sorry
theorem k_675 : (Jvm.Cond.instanceMethod ({ cls := "PackageBook$Expander", name := "readCodes", desc := "()V" } : Jvm.MethodName)) ∈ uW := sorry
theorem k_24 : Cond.selects "PackageBook$Expander" ⟨"PackageBook$Expander", "readCodes", "()V"⟩ ⟨"PackageBook$Expander", "readCodes", "()V"⟩ ∈ uW := sorry
theorem hy_Expander_readCodes : (y_Expander_readCodes).cls ≠ "java/lang/invoke/MethodHandle" ∧ (y_Expander_readCodes).cls ≠ "java/lang/invoke/VarHandle" ∧ (parseMethodDescriptor (y_Expander_readCodes).desc).map (fun d => d.parameters.length) = some 0 := sorry
theorem d_Expander_run_129 : decode prog_3_method_3_code 129 = .ok (.aload_n 0, 1) := sorry
theorem d_Expander_run_130 : decode prog_3_method_3_code 130 = .ok (.aload_n 0, 1) := sorry
theorem d_Expander_run_131 : decode prog_3_method_3_code 131 = .ok (.getfield 34, 3) := sorry
theorem d_Expander_run_134 : decode prog_3_method_3_code 134 = .ok (.aload_n 0, 1) := sorry
theorem d_Expander_run_135 : decode prog_3_method_3_code 135 = .ok (.getfield 37, 3) := sorry
theorem d_Expander_run_138 : decode prog_3_method_3_code 138 = .ok (.invokevirtual 78, 3) := sorry
theorem k_649 : (Jvm.Cond.methodLink "PackageBook$Expander" (78 : Nat) ({ cls := "PackageBook$Expander", name := "readSymbols", desc := "(LPackageBook$Code;LPackageBook$Code;)V" } : Jvm.MethodName)) ∈ uW := sorry
theorem k_652 : (Jvm.Cond.code ({ cls := "PackageBook$Expander", name := "readSymbols", desc := "(LPackageBook$Code;LPackageBook$Code;)V" } : Jvm.MethodName) prog_3_method_9_code (6 : Nat) (Option.none : Option Jvm.ClassFile.FieldType)) ∈ uW := sorry
theorem k_651 : (Jvm.Cond.instanceMethod ({ cls := "PackageBook$Expander", name := "readSymbols", desc := "(LPackageBook$Code;LPackageBook$Code;)V" } : Jvm.MethodName)) ∈ uW := sorry
theorem k_21 : Cond.selects "PackageBook$Expander" ⟨"PackageBook$Expander", "readSymbols", "(LPackageBook$Code;LPackageBook$Code;)V"⟩ ⟨"PackageBook$Expander", "readSymbols", "(LPackageBook$Code;LPackageBook$Code;)V"⟩ ∈ uW := sorry
theorem hy_Expander_readSymbols : (y_Expander_readSymbols).cls ≠ "java/lang/invoke/MethodHandle" ∧ (y_Expander_readSymbols).cls ≠ "java/lang/invoke/VarHandle" ∧ (parseMethodDescriptor (y_Expander_readSymbols).desc).map (fun d => d.parameters.length) = some 2 := sorry
theorem d_Expander_run_141 : decode prog_3_method_3_code 141 = .ok (.goto 8, 3) := sorry
theorem d_Expander_run_104 : decode prog_3_method_3_code 104 = .ok (.aload_n 0, 1) := sorry
theorem d_Expander_run_105 : decode prog_3_method_3_code 105 = .ok (.aload_n 0, 1) := sorry
theorem d_Expander_run_106 : decode prog_3_method_3_code 106 = .ok (.getfield 27, 3) := sorry
theorem k_252 : (Jvm.Cond.fieldLink "PackageBook$Expander" (27 : Nat) "PackageBook$Expander" "fixedFirst" "LPackageBook$Code;") ∈ uW := sorry
theorem d_Expander_run_109 : decode prog_3_method_3_code 109 = .ok (.aload_n 0, 1) := sorry
theorem d_Expander_run_110 : decode prog_3_method_3_code 110 = .ok (.getfield 31, 3) := sorry
theorem k_253 : (Jvm.Cond.fieldLink "PackageBook$Expander" (31 : Nat) "PackageBook$Expander" "fixedSecond" "LPackageBook$Code;") ∈ uW := sorry
theorem d_Expander_run_113 : decode prog_3_method_3_code 113 = .ok (.invokevirtual 78, 3) := sorry
theorem d_Expander_run_116 : decode prog_3_method_3_code 116 = .ok (.goto 33, 3) := sorry
theorem d_Expander_run_91 : decode prog_3_method_3_code 91 = .ok (.aload_n 0, 1) := sorry
theorem d_Expander_run_92 : decode prog_3_method_3_code 92 = .ok (.invokevirtual 75, 3) := sorry
theorem k_635 : (Jvm.Cond.methodLink "PackageBook$Expander" (75 : Nat) ({ cls := "PackageBook$Expander", name := "readStored", desc := "()V" } : Jvm.MethodName)) ∈ uW := sorry
theorem k_638 : (Jvm.Cond.code ({ cls := "PackageBook$Expander", name := "readStored", desc := "()V" } : Jvm.MethodName) prog_3_method_4_code (3 : Nat) (Option.none : Option Jvm.ClassFile.FieldType)) ∈ uW := sorry
theorem k_637 : (Jvm.Cond.instanceMethod ({ cls := "PackageBook$Expander", name := "readStored", desc := "()V" } : Jvm.MethodName)) ∈ uW := sorry
theorem k_18 : Cond.selects "PackageBook$Expander" ⟨"PackageBook$Expander", "readStored", "()V"⟩ ⟨"PackageBook$Expander", "readStored", "()V"⟩ ∈ uW := sorry
theorem hy_Expander_readStored : (y_Expander_readStored).cls ≠ "java/lang/invoke/MethodHandle" ∧ (y_Expander_readStored).cls ≠ "java/lang/invoke/VarHandle" ∧ (parseMethodDescriptor (y_Expander_readStored).desc).map (fun d => d.parameters.length) = some 0 := sorry
theorem d_Expander_run_95 : decode prog_3_method_3_code 95 = .ok (.goto 54, 3) := sorry
theorem d_Expander_run_64 : decode prog_3_method_3_code 64 = .ok (.iconst 1, 1) := sorry
theorem d_Expander_run_65 : decode prog_3_method_3_code 65 = .ok (.invokevirtual 71, 3) := sorry
theorem d_Expander_run_68 : decode prog_3_method_3_code 68 = .ok (.iconst 1, 1) := sorry
theorem d_Expander_run_69 : decode prog_3_method_3_code 69 = .ok (.if_icmp .ne 7, 3) := sorry
theorem d_Expander_run_76 : decode prog_3_method_3_code 76 = .ok (.iconst 0, 1) := sorry
theorem d_Expander_run_77 : decode prog_3_method_3_code 77 = .ok (.istore 4, 2) := sorry
theorem d_Expander_run_72 : decode prog_3_method_3_code 72 = .ok (.iconst 1, 1) := sorry
theorem d_Expander_run_73 : decode prog_3_method_3_code 73 = .ok (.goto 4, 3) := sorry
abbrev y_Expander_run : MethodName := ⟨"PackageBook$Expander", "run", "([BII)I"⟩
abbrev i_Expander_run : pb_I := (y_Expander_run, prog_3_method_3_code, 7, (some Jvm.ClassFile.FieldType.int), [], { frames := 3, cells := 0, slots := 0, locals := 77 })
theorem g_Exp_run {l : Launch} (hl : l.stackTraces = false) (G : pb_G) (h : Nat) (ex : Nat) (et : Nat) (ea : Nat) (eb : Nat) (ec : Nat) (ed : Nat) (ef : Nat) (er : Nat) (at_ : Int32) (en : Int32) (fl : Int32) (b : Nat) (N : Nat) (fr : Nat → Int32) (ey : Nat) (xf : Nat → Int32) (xs : Int32) (tf : Nat → Int32) (ea1 : Nat) (ea2 : Nat) (eas : Int32) (eac : Nat → Int32) (eay : Nat → Int32) (eb1 : Nat) (eb2 : Nat) (ebs : Int32) (ebc : Nat → Int32) (eby : Nat → Int32) (ef1 : Nat) (ef2 : Nat) (efs : Int32) (efc : Nat → Int32) (efy : Nat → Int32) (ec1 : Nat) (ec2 : Nat) (ecs : Int32) (ecc : Nat → Int32) (ecy : Nat → Int32) (ed1 : Nat) (ed2 : Nat) (eds : Int32) (edc : Nat → Int32) (edy : Nat → Int32) (x : Int32) (n : Int32) (A : Int → Int32) (x0 : 0 ≤ x.toInt) (x1 : 0 ≤ n.toInt) (x2 : x.toInt + n.toInt ≤ N) (x3 : N ≤ 100000) (hA : ∀ j : Int, 0 ≤ j → j < x.toInt + n.toInt → A j = gr fr j) (Ia : co_I eas.toInt eac eay 288) (Ma : eas.toInt ≤ 288) (Ib : co_I ebs.toInt ebc eby 32) (Mb : ebs.toInt ≤ 32) (Fa : cs_R eas.toInt eac eay fx_1 288) (Fb : cs_R ebs.toInt ebc eby fx_2 32) (If : co_I efs.toInt efc efy 19) (Mf : efs.toInt ≤ 19) (Ic : co_I ecs.toInt ecc ecy 288) (Mc : ecs.toInt ≤ 286) (Id : co_I eds.toInt edc edy 32) (Md : eds.toInt ≤ 30) (F_fr : sb_Fit fr) (F_xf : sb_Fit xf) : Cn l G i_Expander_run [.ref h, .ref b, .int x, .int n] [(h, .inr (5, [.ref ex, .ref et, .ref ea, .ref eb, .ref ec, .ref ed, .ref ef, .ref er, .int at_, .int en, .int fl])), (b, .inl (G.2.1, N, .inl fr)), (ex, .inr (0, [.ref ey, .int xs])), (ey, .inl (G.2.1, 4000, .inl xf)), (et, .inl (G.2.2.1, 316, .inl tf)), (ea, .inr (1, [.ref ea1, .ref ea2, .int eas])), (ea1, .inl (G.2.2.1, 16, .inl eac)), (ea2, .inl (G.2.2.1, 288, .inl eay)), (eb, .inr (1, [.ref eb1, .ref eb2, .int ebs])), (eb1, .inl (G.2.2.1, 16, .inl ebc)), (eb2, .inl (G.2.2.1, 32, .inl eby)), (ef, .inr (1, [.ref ef1, .ref ef2, .int efs])), (ef1, .inl (G.2.2.1, 16, .inl efc)), (ef2, .inl (G.2.2.1, 19, .inl efy)), (ec, .inr (1, [.ref ec1, .ref ec2, .int ecs])), (ec1, .inl (G.2.2.1, 16, .inl ecc)), (ec2, .inl (G.2.2.1, 286, .inl ecy)), (ed, .inr (1, [.ref ed1, .ref ed2, .int eds])), (ed1, .inl (G.2.2.1, 16, .inl edc)), (ed2, .inl (G.2.2.1, 30, .inl edy))] (S := Int32 × Int32 × Int32 × Int32 × Int32 × (Nat → Int32) × (Nat → Int32) × Int32 × (Nat → Int32) × (Nat → Int32) × Int32 × (Nat → Int32) × (Nat → Int32) × Int32 × (Nat → Int32) × (Nat → Int32)) (fun rv_ u => rv_ = some (.int u.1) ∧ (u.1.toInt < 0 ∨ u.1.toInt = u.2.2.2.2.1.toInt) ∧ (0 ≤ u.2.2.2.2.1.toInt) ∧ (u.2.2.2.2.1.toInt ≤ 4000) ∧ (co_I u.2.2.2.2.2.2.2.1.toInt u.2.2.2.2.2.2.2.2.1 u.2.2.2.2.2.2.2.2.2.1 19) ∧ (u.2.2.2.2.2.2.2.1.toInt ≤ 19) ∧ (co_I u.2.2.2.2.2.2.2.2.2.2.1.toInt u.2.2.2.2.2.2.2.2.2.2.2.1 u.2.2.2.2.2.2.2.2.2.2.2.2.1 288) ∧ (u.2.2.2.2.2.2.2.2.2.2.1.toInt ≤ 286) ∧ (co_I u.2.2.2.2.2.2.2.2.2.2.2.2.2.1.toInt u.2.2.2.2.2.2.2.2.2.2.2.2.2.2.1 u.2.2.2.2.2.2.2.2.2.2.2.2.2.2.2 32) ∧ (u.2.2.2.2.2.2.2.2.2.2.2.2.2.1.toInt ≤ 30) ∧ (ex_f A od_ x.toInt n.toInt = oz_ u.2.2.2.1.toInt u.2.1.toInt u.2.2.2.2.1.toInt (sq u.2.2.2.2.2.1 0 u.2.2.2.2.1.toInt)) ∧ (u.2.2.2.1.toInt = 0 ∧ u.1.toInt = u.2.2.2.2.1.toInt ∨ 0 < u.2.2.2.1.toInt ∧ u.1.toInt = - u.2.2.2.1.toInt) ∧ (sb_Fit u.2.2.2.2.2.1)) (fun u => [(h, .inr (5, [.ref ex, .ref et, .ref ea, .ref eb, .ref ec, .ref ed, .ref ef, .ref b, .int u.2.1, .int u.2.2.1, .int u.2.2.2.1])), (b, .inl (G.2.1, N, .inl fr)), (ex, .inr (0, [.ref ey, .int u.2.2.2.2.1])), (ey, .inl (G.2.1, 4000, .inl u.2.2.2.2.2.1)), (et, .inl (G.2.2.1, 316, .inl u.2.2.2.2.2.2.1)), (ea, .inr (1, [.ref ea1, .ref ea2, .int eas])), (ea1, .inl (G.2.2.1, 16, .inl eac)), (ea2, .inl (G.2.2.1, 288, .inl eay)), (eb, .inr (1, [.ref eb1, .ref eb2, .int ebs])), (eb1, .inl (G.2.2.1, 16, .inl ebc)), (eb2, .inl (G.2.2.1, 32, .inl eby)), (ef, .inr (1, [.ref ef1, .ref ef2, .int u.2.2.2.2.2.2.2.1])), (ef1, .inl (G.2.2.1, 16, .inl u.2.2.2.2.2.2.2.2.1)), (ef2, .inl (G.2.2.1, 19, .inl u.2.2.2.2.2.2.2.2.2.1)), (ec, .inr (1, [.ref ec1, .ref ec2, .int u.2.2.2.2.2.2.2.2.2.2.1])), (ec1, .inl (G.2.2.1, 16, .inl u.2.2.2.2.2.2.2.2.2.2.2.1)), (ec2, .inl (G.2.2.1, 286, .inl u.2.2.2.2.2.2.2.2.2.2.2.2.1)), (ed, .inr (1, [.ref ed1, .ref ed2, .int u.2.2.2.2.2.2.2.2.2.2.2.2.2.1])), (ed1, .inl (G.2.2.1, 16, .inl u.2.2.2.2.2.2.2.2.2.2.2.2.2.2.1)), (ed2, .inl (G.2.2.1, 30, .inl u.2.2.2.2.2.2.2.2.2.2.2.2.2.2.2))]) := sorry
