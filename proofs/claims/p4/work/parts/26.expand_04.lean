theorem d_Expander_readCodes_0 : decode prog_3_method_5_code 0 = .ok (.sipush 257, 3) := sorry
theorem d_Expander_readCodes_3 : decode prog_3_method_5_code 3 = .ok (.aload_n 0, 1) := sorry
theorem d_Expander_readCodes_4 : decode prog_3_method_5_code 4 = .ok (.iconst 5, 1) := sorry
theorem d_Expander_readCodes_5 : decode prog_3_method_5_code 5 = .ok (.invokevirtual 71, 3) := sorry
theorem d_Expander_readCodes_8 : decode prog_3_method_5_code 8 = .ok (.iadd, 1) := sorry
theorem d_Expander_readCodes_9 : decode prog_3_method_5_code 9 = .ok (.istore_n 1, 1) := sorry
theorem d_Expander_readCodes_10 : decode prog_3_method_5_code 10 = .ok (.iconst 1, 1) := sorry
theorem d_Expander_readCodes_11 : decode prog_3_method_5_code 11 = .ok (.aload_n 0, 1) := sorry
theorem d_Expander_readCodes_12 : decode prog_3_method_5_code 12 = .ok (.iconst 5, 1) := sorry
theorem d_Expander_readCodes_13 : decode prog_3_method_5_code 13 = .ok (.invokevirtual 71, 3) := sorry
theorem d_Expander_readCodes_16 : decode prog_3_method_5_code 16 = .ok (.iadd, 1) := sorry
theorem d_Expander_readCodes_17 : decode prog_3_method_5_code 17 = .ok (.istore_n 2, 1) := sorry
theorem d_Expander_readCodes_18 : decode prog_3_method_5_code 18 = .ok (.iconst 4, 1) := sorry
theorem d_Expander_readCodes_19 : decode prog_3_method_5_code 19 = .ok (.aload_n 0, 1) := sorry
theorem d_Expander_readCodes_20 : decode prog_3_method_5_code 20 = .ok (.iconst 4, 1) := sorry
theorem d_Expander_readCodes_21 : decode prog_3_method_5_code 21 = .ok (.invokevirtual 71, 3) := sorry
theorem d_Expander_readCodes_24 : decode prog_3_method_5_code 24 = .ok (.iadd, 1) := sorry
theorem d_Expander_readCodes_25 : decode prog_3_method_5_code 25 = .ok (.istore_n 3, 1) := sorry
theorem d_Expander_readCodes_44 : decode prog_3_method_5_code 44 = .ok (.aload_n 0, 1) := sorry
theorem d_Expander_readCodes_45 : decode prog_3_method_5_code 45 = .ok (.getfield 65, 3) := sorry
theorem d_Expander_readCodes_48 : decode prog_3_method_5_code 48 = .ok (.ifCond .eq 4, 3) := sorry
theorem d_Expander_readCodes_52 : decode prog_3_method_5_code 52 = .ok (.aload_n 0, 1) := sorry
theorem d_Expander_readCodes_53 : decode prog_3_method_5_code 53 = .ok (.getfield 20, 3) := sorry
theorem d_Expander_readCodes_56 : decode prog_3_method_5_code 56 = .ok (.iconst 0, 1) := sorry
theorem d_Expander_readCodes_57 : decode prog_3_method_5_code 57 = .ok (.invokestatic 92, 3) := sorry
theorem k_677 : (Jvm.Cond.methodLink "PackageBook$Expander" (92 : Nat) ({ cls := "java/util/Arrays", name := "fill", desc := "([II)V" } : Jvm.MethodName)) ∈ uW := sorry
theorem d_Expander_readCodes_60 : decode prog_3_method_5_code 60 = .ok (.iconst 0, 1) := sorry
theorem d_Expander_readCodes_61 : decode prog_3_method_5_code 61 = .ok (.istore 4, 2) := sorry
theorem d_Expander_readCodes_63 : decode prog_3_method_5_code 63 = .ok (.iload 4, 2) := sorry
theorem d_Expander_readCodes_65 : decode prog_3_method_5_code 65 = .ok (.iload_n 3, 1) := sorry
theorem d_Expander_readCodes_66 : decode prog_3_method_5_code 66 = .ok (.if_icmp .ge 25, 3) := sorry
theorem d_Expander_readCodes_91 : decode prog_3_method_5_code 91 = .ok (.aload_n 0, 1) := sorry
theorem d_Expander_readCodes_92 : decode prog_3_method_5_code 92 = .ok (.getfield 43, 3) := sorry
theorem d_Expander_readCodes_95 : decode prog_3_method_5_code 95 = .ok (.aload_n 0, 1) := sorry
theorem d_Expander_readCodes_96 : decode prog_3_method_5_code 96 = .ok (.getfield 20, 3) := sorry
theorem d_Expander_readCodes_99 : decode prog_3_method_5_code 99 = .ok (.iconst 0, 1) := sorry
theorem d_Expander_readCodes_100 : decode prog_3_method_5_code 100 = .ok (.getstatic 40, 3) := sorry
theorem k_239 : (Jvm.Cond.fieldLink "PackageBook$Expander" (40 : Nat) "PackageBook$Expander" "THIRD_ORDER" "[I") ∈ uW := sorry
theorem d_Expander_readCodes_103 : decode prog_3_method_5_code 103 = .ok (.arraylength, 1) := sorry
theorem d_Expander_readCodes_104 : decode prog_3_method_5_code 104 = .ok (.invokevirtual 54, 3) := sorry
theorem k_244 : (Jvm.Cond.methodLink "PackageBook$Expander" (54 : Nat) ({ cls := "PackageBook$Code", name := "tell", desc := "([III)V" } : Jvm.MethodName)) ∈ uW := sorry
theorem k_122 : (Jvm.Cond.initialized "PackageBook$Code") ∈ uW := sorry
theorem k_247 : (Jvm.Cond.code ({ cls := "PackageBook$Code", name := "tell", desc := "([III)V" } : Jvm.MethodName) prog_2_method_2_code (7 : Nat) (Option.none : Option Jvm.ClassFile.FieldType)) ∈ uW := sorry
theorem k_245 : (Jvm.Cond.instanceMethod ({ cls := "PackageBook$Code", name := "tell", desc := "([III)V" } : Jvm.MethodName)) ∈ uW := sorry
theorem k_246 : (Jvm.Cond.selects "PackageBook$Code" ({ cls := "PackageBook$Code", name := "tell", desc := "([III)V" } : Jvm.MethodName) ({ cls := "PackageBook$Code", name := "tell", desc := "([III)V" } : Jvm.MethodName)) ∈ uW := sorry
theorem hy_Code_tell : (y_Code_tell).cls ≠ "java/lang/invoke/MethodHandle" ∧ (y_Code_tell).cls ≠ "java/lang/invoke/VarHandle" ∧ (parseMethodDescriptor (y_Code_tell).desc).map (fun d => d.parameters.length) = some 3 := sorry
theorem d_Expander_readCodes_122 : decode prog_3_method_5_code 122 = .ok (.aload_n 0, 1) := sorry
theorem d_Expander_readCodes_123 : decode prog_3_method_5_code 123 = .ok (.iload_n 1, 1) := sorry
theorem d_Expander_readCodes_124 : decode prog_3_method_5_code 124 = .ok (.iload_n 2, 1) := sorry
theorem d_Expander_readCodes_125 : decode prog_3_method_5_code 125 = .ok (.iadd, 1) := sorry
theorem d_Expander_readCodes_126 : decode prog_3_method_5_code 126 = .ok (.invokevirtual 102, 3) := sorry
theorem k_682 : (Jvm.Cond.methodLink "PackageBook$Expander" (102 : Nat) ({ cls := "PackageBook$Expander", name := "readTold", desc := "(I)V" } : Jvm.MethodName)) ∈ uW := sorry
theorem k_685 : (Jvm.Cond.code ({ cls := "PackageBook$Expander", name := "readTold", desc := "(I)V" } : Jvm.MethodName) prog_3_method_6_code (7 : Nat) (Option.none : Option Jvm.ClassFile.FieldType)) ∈ uW := sorry
theorem k_684 : (Jvm.Cond.instanceMethod ({ cls := "PackageBook$Expander", name := "readTold", desc := "(I)V" } : Jvm.MethodName)) ∈ uW := sorry
theorem k_25 : Cond.selects "PackageBook$Expander" ⟨"PackageBook$Expander", "readTold", "(I)V"⟩ ⟨"PackageBook$Expander", "readTold", "(I)V"⟩ ∈ uW := sorry
theorem hy_Expander_readTold : (y_Expander_readTold).cls ≠ "java/lang/invoke/MethodHandle" ∧ (y_Expander_readTold).cls ≠ "java/lang/invoke/VarHandle" ∧ (parseMethodDescriptor (y_Expander_readTold).desc).map (fun d => d.parameters.length) = some 1 := sorry
theorem d_Expander_readCodes_129 : decode prog_3_method_5_code 129 = .ok (.aload_n 0, 1) := sorry
theorem d_Expander_readCodes_130 : decode prog_3_method_5_code 130 = .ok (.getfield 34, 3) := sorry
theorem k_254 : (Jvm.Cond.fieldLink "PackageBook$Expander" (34 : Nat) "PackageBook$Expander" "first" "LPackageBook$Code;") ∈ uW := sorry
theorem d_Expander_readCodes_133 : decode prog_3_method_5_code 133 = .ok (.aload_n 0, 1) := sorry
theorem d_Expander_readCodes_134 : decode prog_3_method_5_code 134 = .ok (.getfield 20, 3) := sorry
theorem d_Expander_readCodes_137 : decode prog_3_method_5_code 137 = .ok (.iconst 0, 1) := sorry
theorem d_Expander_readCodes_138 : decode prog_3_method_5_code 138 = .ok (.iload_n 1, 1) := sorry
theorem d_Expander_readCodes_139 : decode prog_3_method_5_code 139 = .ok (.invokevirtual 54, 3) := sorry
theorem d_Expander_readCodes_142 : decode prog_3_method_5_code 142 = .ok (.aload_n 0, 1) := sorry
theorem d_Expander_readCodes_143 : decode prog_3_method_5_code 143 = .ok (.getfield 37, 3) := sorry
theorem k_255 : (Jvm.Cond.fieldLink "PackageBook$Expander" (37 : Nat) "PackageBook$Expander" "second" "LPackageBook$Code;") ∈ uW := sorry
theorem d_Expander_readCodes_146 : decode prog_3_method_5_code 146 = .ok (.aload_n 0, 1) := sorry
theorem d_Expander_readCodes_147 : decode prog_3_method_5_code 147 = .ok (.getfield 20, 3) := sorry
theorem d_Expander_readCodes_150 : decode prog_3_method_5_code 150 = .ok (.iload_n 1, 1) := sorry
theorem d_Expander_readCodes_151 : decode prog_3_method_5_code 151 = .ok (.iload_n 2, 1) := sorry
theorem d_Expander_readCodes_152 : decode prog_3_method_5_code 152 = .ok (.invokevirtual 54, 3) := sorry
theorem d_Expander_readCodes_155 : decode prog_3_method_5_code 155 = .ok (.aload_n 0, 1) := sorry
theorem d_Expander_readCodes_156 : decode prog_3_method_5_code 156 = .ok (.getfield 34, 3) := sorry
theorem d_Expander_readCodes_159 : decode prog_3_method_5_code 159 = .ok (.invokevirtual 98, 3) := sorry
theorem k_678 : (Jvm.Cond.methodLink "PackageBook$Expander" (98 : Nat) ({ cls := "PackageBook$Code", name := "isRight", desc := "()Z" } : Jvm.MethodName)) ∈ uW := sorry
theorem k_681 : (Jvm.Cond.code ({ cls := "PackageBook$Code", name := "isRight", desc := "()Z" } : Jvm.MethodName) prog_2_method_3_code (3 : Nat) (Option.some Jvm.ClassFile.FieldType.boolean)) ∈ uW := sorry
theorem k_679 : (Jvm.Cond.instanceMethod ({ cls := "PackageBook$Code", name := "isRight", desc := "()Z" } : Jvm.MethodName)) ∈ uW := sorry
theorem k_680 : (Jvm.Cond.selects "PackageBook$Code" ({ cls := "PackageBook$Code", name := "isRight", desc := "()Z" } : Jvm.MethodName) ({ cls := "PackageBook$Code", name := "isRight", desc := "()Z" } : Jvm.MethodName)) ∈ uW := sorry
theorem hy_Code_isRight : (y_Code_isRight).cls ≠ "java/lang/invoke/MethodHandle" ∧ (y_Code_isRight).cls ≠ "java/lang/invoke/VarHandle" ∧ (parseMethodDescriptor (y_Code_isRight).desc).map (fun d => d.parameters.length) = some 0 := sorry
theorem d_Expander_readCodes_162 : decode prog_3_method_5_code 162 = .ok (.ifCond .eq 34, 3) := sorry
theorem d_Expander_readCodes_196 : decode prog_3_method_5_code 196 = .ok (.aload_n 0, 1) := sorry
theorem d_Expander_readCodes_197 : decode prog_3_method_5_code 197 = .ok (.iconst 4, 1) := sorry
theorem d_Expander_readCodes_198 : decode prog_3_method_5_code 198 = .ok (.invokevirtual 85, 3) := sorry
theorem d_Expander_readCodes_201 : decode prog_3_method_5_code 201 = .ok (.return_, 1) := sorry
theorem d_Expander_readCodes_165 : decode prog_3_method_5_code 165 = .ok (.aload_n 0, 1) := sorry
theorem d_Expander_readCodes_166 : decode prog_3_method_5_code 166 = .ok (.getfield 20, 3) := sorry
theorem d_Expander_readCodes_169 : decode prog_3_method_5_code 169 = .ok (.sipush 256, 3) := sorry
theorem d_Expander_readCodes_172 : decode prog_3_method_5_code 172 = .ok (.iaload, 1) := sorry
theorem d_Expander_readCodes_173 : decode prog_3_method_5_code 173 = .ok (.ifCond .eq 23, 3) := sorry
theorem d_Expander_readCodes_176 : decode prog_3_method_5_code 176 = .ok (.aload_n 0, 1) := sorry
theorem d_Expander_readCodes_177 : decode prog_3_method_5_code 177 = .ok (.getfield 37, 3) := sorry
theorem d_Expander_readCodes_180 : decode prog_3_method_5_code 180 = .ok (.getfield 105, 3) := sorry
theorem d_Expander_readCodes_183 : decode prog_3_method_5_code 183 = .ok (.ifCond .le 18, 3) := sorry
theorem d_Expander_readCodes_186 : decode prog_3_method_5_code 186 = .ok (.aload_n 0, 1) := sorry
theorem d_Expander_readCodes_187 : decode prog_3_method_5_code 187 = .ok (.getfield 37, 3) := sorry
theorem d_Expander_readCodes_190 : decode prog_3_method_5_code 190 = .ok (.invokevirtual 98, 3) := sorry
theorem d_Expander_readCodes_193 : decode prog_3_method_5_code 193 = .ok (.ifCond .ne 8, 3) := sorry
theorem d_Expander_readCodes_107 : decode prog_3_method_5_code 107 = .ok (.aload_n 0, 1) := sorry
theorem d_Expander_readCodes_108 : decode prog_3_method_5_code 108 = .ok (.getfield 43, 3) := sorry
theorem d_Expander_readCodes_111 : decode prog_3_method_5_code 111 = .ok (.invokevirtual 98, 3) := sorry
theorem d_Expander_readCodes_114 : decode prog_3_method_5_code 114 = .ok (.ifCond .ne 8, 3) := sorry
theorem d_Expander_readCodes_117 : decode prog_3_method_5_code 117 = .ok (.aload_n 0, 1) := sorry
theorem d_Expander_readCodes_118 : decode prog_3_method_5_code 118 = .ok (.iconst 4, 1) := sorry
theorem d_Expander_readCodes_119 : decode prog_3_method_5_code 119 = .ok (.invokevirtual 85, 3) := sorry
theorem d_Expander_readCodes_69 : decode prog_3_method_5_code 69 = .ok (.aload_n 0, 1) := sorry
theorem d_Expander_readCodes_70 : decode prog_3_method_5_code 70 = .ok (.getfield 20, 3) := sorry
theorem d_Expander_readCodes_73 : decode prog_3_method_5_code 73 = .ok (.getstatic 40, 3) := sorry
theorem d_Expander_readCodes_76 : decode prog_3_method_5_code 76 = .ok (.iload 4, 2) := sorry
theorem d_Expander_readCodes_78 : decode prog_3_method_5_code 78 = .ok (.iaload, 1) := sorry
theorem d_Expander_readCodes_79 : decode prog_3_method_5_code 79 = .ok (.aload_n 0, 1) := sorry
theorem d_Expander_readCodes_80 : decode prog_3_method_5_code 80 = .ok (.iconst 3, 1) := sorry
theorem d_Expander_readCodes_81 : decode prog_3_method_5_code 81 = .ok (.invokevirtual 71, 3) := sorry
theorem d_Expander_readCodes_84 : decode prog_3_method_5_code 84 = .ok (.iastore, 1) := sorry
theorem d_Expander_readCodes_85 : decode prog_3_method_5_code 85 = .ok (.iinc 4 1, 3) := sorry
theorem d_Expander_readCodes_88 : decode prog_3_method_5_code 88 = .ok (.goto (-25), 3) := sorry
theorem d_Expander_readCodes_51 : decode prog_3_method_5_code 51 = .ok (.return_, 1) := sorry
theorem d_Expander_readCodes_26 : decode prog_3_method_5_code 26 = .ok (.iload_n 1, 1) := sorry
theorem d_Expander_readCodes_27 : decode prog_3_method_5_code 27 = .ok (.sipush 286, 3) := sorry
theorem d_Expander_readCodes_30 : decode prog_3_method_5_code 30 = .ok (.if_icmp .gt 9, 3) := sorry
theorem d_Expander_readCodes_39 : decode prog_3_method_5_code 39 = .ok (.aload_n 0, 1) := sorry
theorem d_Expander_readCodes_40 : decode prog_3_method_5_code 40 = .ok (.iconst 4, 1) := sorry
theorem d_Expander_readCodes_41 : decode prog_3_method_5_code 41 = .ok (.invokevirtual 85, 3) := sorry
theorem d_Expander_readCodes_33 : decode prog_3_method_5_code 33 = .ok (.iload_n 2, 1) := sorry
theorem d_Expander_readCodes_34 : decode prog_3_method_5_code 34 = .ok (.bipush 30, 2) := sorry
theorem d_Expander_readCodes_36 : decode prog_3_method_5_code 36 = .ok (.if_icmp .le 8, 3) := sorry
abbrev y_Expander_readCodes : MethodName := ⟨"PackageBook$Expander", "readCodes", "()V"⟩
abbrev i_Expander_readCodes : pb_I := (y_Expander_readCodes, prog_3_method_5_code, 5, (Option.none : Option Jvm.ClassFile.FieldType), [], { frames := 2, cells := 0, slots := 0, locals := 52 })
theorem g_Exp_readCodes {l : Launch} (hl : l.stackTraces = false) (G : pb_G) (h : Nat) (ex : Nat) (et : Nat) (ea : Nat) (eb : Nat) (ec : Nat) (ed : Nat) (ef : Nat) (er : Nat) (at_ : Int32) (en : Int32) (fl : Int32) (N : Nat) (fr : Nat → Int32) (tf : Nat → Int32) (ef1 : Nat) (ef2 : Nat) (efs : Int32) (efc : Nat → Int32) (efy : Nat → Int32) (ec1 : Nat) (ec2 : Nat) (ecs : Int32) (ecc : Nat → Int32) (ecy : Nat → Int32) (ed1 : Nat) (ed2 : Nat) (eds : Int32) (edc : Nat → Int32) (edy : Nat → Int32) (A : Int → Int32) (a0 : 0 ≤ at_.toInt) (a1 : at_.toInt ≤ en.toInt) (a2 : en.toInt ≤ 8 * N) (a3 : N ≤ 100000) (a4 : 0 ≤ fl.toInt) (If : co_I efs.toInt efc efy 19) (Mf : efs.toInt ≤ 19) (Ic : co_I ecs.toInt ecc ecy 288) (Mc : ecs.toInt ≤ 286) (Id : co_I eds.toInt edc edy 32) (Md : eds.toInt ≤ 30) (hA : ∀ j : Int, 0 ≤ j → 8 * j < en.toInt → A j = gr fr j) (F_fr : sb_Fit fr) : Cn l G i_Expander_readCodes [.ref h] [(h, .inr (5, [.ref ex, .ref et, .ref ea, .ref eb, .ref ec, .ref ed, .ref ef, .ref er, .int at_, .int en, .int fl])), (er, .inl (G.2.1, N, .inl fr)), (et, .inl (G.2.2.1, 316, .inl tf)), (ef, .inr (1, [.ref ef1, .ref ef2, .int efs])), (ef1, .inl (G.2.2.1, 16, .inl efc)), (ef2, .inl (G.2.2.1, 19, .inl efy)), (ec, .inr (1, [.ref ec1, .ref ec2, .int ecs])), (ec1, .inl (G.2.2.1, 16, .inl ecc)), (ec2, .inl (G.2.2.1, 286, .inl ecy)), (ed, .inr (1, [.ref ed1, .ref ed2, .int eds])), (ed1, .inl (G.2.2.1, 16, .inl edc)), (ed2, .inl (G.2.2.1, 30, .inl edy))] (S := Int32 × Int32 × (Nat → Int32) × Int32 × (Nat → Int32) × (Nat → Int32) × Int32 × (Nat → Int32) × (Nat → Int32) × Int32 × (Nat → Int32) × (Nat → Int32) × Int × Int × (Int → Int)) (fun rv_ u => rv_ = none ∧ (at_.toInt ≤ u.1.toInt) ∧ (u.1.toInt ≤ en.toInt) ∧ (0 ≤ u.2.1.toInt) ∧ (fl.toInt ≠ 0 → u.2.1.toInt ≠ 0) ∧ (co_I u.2.2.2.1.toInt u.2.2.2.2.1 u.2.2.2.2.2.1 19) ∧ (u.2.2.2.1.toInt ≤ 19) ∧ (co_I u.2.2.2.2.2.2.1.toInt u.2.2.2.2.2.2.2.1 u.2.2.2.2.2.2.2.2.1 288) ∧ (u.2.2.2.2.2.2.1.toInt ≤ 286) ∧ (co_I u.2.2.2.2.2.2.2.2.2.1.toInt u.2.2.2.2.2.2.2.2.2.2.1 u.2.2.2.2.2.2.2.2.2.2.2.1 32) ∧ (u.2.2.2.2.2.2.2.2.2.1.toInt ≤ 30) ∧ (cc_f A en.toInt od_ fl.toInt at_.toInt = co_z u.2.1.toInt u.1.toInt u.2.2.2.2.2.2.2.2.2.2.2.2.1 u.2.2.2.2.2.2.2.2.2.2.2.2.2.1 u.2.2.2.2.2.2.2.2.2.2.2.2.2.2) ∧ (0 ≤ u.2.2.2.2.2.2.2.2.2.2.2.2.1) ∧ (0 ≤ u.2.2.2.2.2.2.2.2.2.2.2.2.2.1) ∧ (u.2.1.toInt = 0 → cs_R u.2.2.2.2.2.2.1.toInt u.2.2.2.2.2.2.2.1 u.2.2.2.2.2.2.2.2.1 u.2.2.2.2.2.2.2.2.2.2.2.2.2.2 u.2.2.2.2.2.2.2.2.2.2.2.2.1) ∧ (u.2.1.toInt = 0 → cs_R u.2.2.2.2.2.2.2.2.2.1.toInt u.2.2.2.2.2.2.2.2.2.2.1 u.2.2.2.2.2.2.2.2.2.2.2.1 (fun j => u.2.2.2.2.2.2.2.2.2.2.2.2.2.2 (u.2.2.2.2.2.2.2.2.2.2.2.2.1 + j)) u.2.2.2.2.2.2.2.2.2.2.2.2.2.1)) (fun u => [(h, .inr (5, [.ref ex, .ref et, .ref ea, .ref eb, .ref ec, .ref ed, .ref ef, .ref er, .int u.1, .int en, .int u.2.1])), (er, .inl (G.2.1, N, .inl fr)), (et, .inl (G.2.2.1, 316, .inl u.2.2.1)), (ef, .inr (1, [.ref ef1, .ref ef2, .int u.2.2.2.1])), (ef1, .inl (G.2.2.1, 16, .inl u.2.2.2.2.1)), (ef2, .inl (G.2.2.1, 19, .inl u.2.2.2.2.2.1)), (ec, .inr (1, [.ref ec1, .ref ec2, .int u.2.2.2.2.2.2.1])), (ec1, .inl (G.2.2.1, 16, .inl u.2.2.2.2.2.2.2.1)), (ec2, .inl (G.2.2.1, 286, .inl u.2.2.2.2.2.2.2.2.1)), (ed, .inr (1, [.ref ed1, .ref ed2, .int u.2.2.2.2.2.2.2.2.2.1])), (ed1, .inl (G.2.2.1, 16, .inl u.2.2.2.2.2.2.2.2.2.2.1)), (ed2, .inl (G.2.2.1, 30, .inl u.2.2.2.2.2.2.2.2.2.2.2.1))]) := sorry
