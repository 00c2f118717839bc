theorem d_Expander_init_0 : decode prog_3_method_1_code 0 = .ok (.aload_n 0, 1) := sorry
theorem d_Expander_init_1 : decode prog_3_method_1_code 1 = .ok (.invokespecial 3, 3) := sorry
theorem k_217 : (Jvm.Cond.methodLink "PackageBook$Expander" (3 : Nat) ({ cls := "java/lang/Object", name := "<init>", desc := "()V" } : Jvm.MethodName)) ∈ uW := sorry
theorem d_Expander_init_4 : decode prog_3_method_1_code 4 = .ok (.aload_n 0, 1) := sorry
theorem d_Expander_init_5 : decode prog_3_method_1_code 5 = .ok (.new 9, 3) := sorry
theorem k_218 : (Jvm.Cond.classLink "PackageBook$Expander" (9 : Nat) "PackageBook$Row") ∈ uW := sorry
theorem d_Expander_init_8 : decode prog_3_method_1_code 8 = .ok (.dup, 1) := sorry
theorem d_Expander_init_9 : decode prog_3_method_1_code 9 = .ok (.sipush 4000, 3) := sorry
theorem d_Expander_init_12 : decode prog_3_method_1_code 12 = .ok (.invokespecial 11, 3) := sorry
theorem k_219 : (Jvm.Cond.methodLink "PackageBook$Expander" (11 : Nat) ({ cls := "PackageBook$Row", name := "<init>", desc := "(I)V" } : Jvm.MethodName)) ∈ uW := sorry
theorem d_Expander_init_15 : decode prog_3_method_1_code 15 = .ok (.putfield 14, 3) := sorry
theorem d_Expander_init_18 : decode prog_3_method_1_code 18 = .ok (.aload_n 0, 1) := sorry
theorem d_Expander_init_19 : decode prog_3_method_1_code 19 = .ok (.sipush 316, 3) := sorry
theorem d_Expander_init_22 : decode prog_3_method_1_code 22 = .ok (.newarray .int, 2) := sorry
theorem d_Expander_init_24 : decode prog_3_method_1_code 24 = .ok (.putfield 20, 3) := sorry
theorem d_Expander_init_27 : decode prog_3_method_1_code 27 = .ok (.aload_n 0, 1) := sorry
theorem d_Expander_init_28 : decode prog_3_method_1_code 28 = .ok (.new 24, 3) := sorry
theorem k_220 : (Jvm.Cond.classLink "PackageBook$Expander" (24 : Nat) "PackageBook$Code") ∈ uW := sorry
theorem k_221 : (Jvm.Cond.instantiable "PackageBook$Code" (3 : Nat)) ∈ uW := sorry
theorem d_Expander_init_31 : decode prog_3_method_1_code 31 = .ok (.dup, 1) := sorry
theorem d_Expander_init_32 : decode prog_3_method_1_code 32 = .ok (.sipush 288, 3) := sorry
theorem d_Expander_init_35 : decode prog_3_method_1_code 35 = .ok (.invokespecial 26, 3) := sorry
theorem k_222 : (Jvm.Cond.methodLink "PackageBook$Expander" (26 : Nat) ({ cls := "PackageBook$Code", name := "<init>", desc := "(I)V" } : Jvm.MethodName)) ∈ uW := sorry
theorem k_224 : (Jvm.Cond.code ({ cls := "PackageBook$Code", name := "<init>", desc := "(I)V" } : Jvm.MethodName) prog_2_method_1_code (2 : Nat) (Option.none : Option Jvm.ClassFile.FieldType)) ∈ uW := sorry
theorem k_223 : (Jvm.Cond.instanceMethod ({ cls := "PackageBook$Code", name := "<init>", desc := "(I)V" } : Jvm.MethodName)) ∈ uW := sorry
theorem hy_Code_init : (y_Code_init).cls ≠ "java/lang/invoke/MethodHandle" ∧ (y_Code_init).cls ≠ "java/lang/invoke/VarHandle" ∧ (parseMethodDescriptor (y_Code_init).desc).map (fun d => d.parameters.length) = some 1 := sorry
theorem d_Expander_init_38 : decode prog_3_method_1_code 38 = .ok (.putfield 27, 3) := sorry
theorem d_Expander_init_41 : decode prog_3_method_1_code 41 = .ok (.aload_n 0, 1) := sorry
theorem d_Expander_init_42 : decode prog_3_method_1_code 42 = .ok (.new 24, 3) := sorry
theorem d_Expander_init_45 : decode prog_3_method_1_code 45 = .ok (.dup, 1) := sorry
theorem d_Expander_init_46 : decode prog_3_method_1_code 46 = .ok (.bipush 32, 2) := sorry
theorem d_Expander_init_48 : decode prog_3_method_1_code 48 = .ok (.invokespecial 26, 3) := sorry
theorem d_Expander_init_51 : decode prog_3_method_1_code 51 = .ok (.putfield 31, 3) := sorry
theorem d_Expander_init_54 : decode prog_3_method_1_code 54 = .ok (.aload_n 0, 1) := sorry
theorem d_Expander_init_55 : decode prog_3_method_1_code 55 = .ok (.new 24, 3) := sorry
theorem d_Expander_init_58 : decode prog_3_method_1_code 58 = .ok (.dup, 1) := sorry
theorem d_Expander_init_59 : decode prog_3_method_1_code 59 = .ok (.sipush 286, 3) := sorry
theorem d_Expander_init_62 : decode prog_3_method_1_code 62 = .ok (.invokespecial 26, 3) := sorry
theorem d_Expander_init_65 : decode prog_3_method_1_code 65 = .ok (.putfield 34, 3) := sorry
theorem d_Expander_init_68 : decode prog_3_method_1_code 68 = .ok (.aload_n 0, 1) := sorry
theorem d_Expander_init_69 : decode prog_3_method_1_code 69 = .ok (.new 24, 3) := sorry
theorem d_Expander_init_72 : decode prog_3_method_1_code 72 = .ok (.dup, 1) := sorry
theorem d_Expander_init_73 : decode prog_3_method_1_code 73 = .ok (.bipush 30, 2) := sorry
theorem d_Expander_init_75 : decode prog_3_method_1_code 75 = .ok (.invokespecial 26, 3) := sorry
theorem d_Expander_init_78 : decode prog_3_method_1_code 78 = .ok (.putfield 37, 3) := sorry
theorem d_Expander_init_81 : decode prog_3_method_1_code 81 = .ok (.aload_n 0, 1) := sorry
theorem d_Expander_init_82 : decode prog_3_method_1_code 82 = .ok (.new 24, 3) := sorry
theorem d_Expander_init_85 : decode prog_3_method_1_code 85 = .ok (.dup, 1) := sorry
theorem d_Expander_init_86 : decode prog_3_method_1_code 86 = .ok (.getstatic 40, 3) := sorry
theorem d_Expander_init_89 : decode prog_3_method_1_code 89 = .ok (.arraylength, 1) := sorry
theorem d_Expander_init_90 : decode prog_3_method_1_code 90 = .ok (.invokespecial 26, 3) := sorry
theorem d_Expander_init_93 : decode prog_3_method_1_code 93 = .ok (.putfield 43, 3) := sorry
theorem d_Expander_init_96 : decode prog_3_method_1_code 96 = .ok (.aload_n 0, 1) := sorry
theorem d_Expander_init_97 : decode prog_3_method_1_code 97 = .ok (.iconst 0, 1) := sorry
theorem d_Expander_init_98 : decode prog_3_method_1_code 98 = .ok (.newarray .byte, 2) := sorry
theorem d_Expander_init_100 : decode prog_3_method_1_code 100 = .ok (.putfield 46, 3) := sorry
theorem d_Expander_init_103 : decode prog_3_method_1_code 103 = .ok (.sipush 320, 3) := sorry
theorem d_Expander_init_106 : decode prog_3_method_1_code 106 = .ok (.newarray .int, 2) := sorry
theorem d_Expander_init_108 : decode prog_3_method_1_code 108 = .ok (.astore_n 1, 1) := sorry
theorem d_Expander_init_109 : decode prog_3_method_1_code 109 = .ok (.aload_n 1, 1) := sorry
theorem d_Expander_init_110 : decode prog_3_method_1_code 110 = .ok (.iconst 0, 1) := sorry
theorem d_Expander_init_111 : decode prog_3_method_1_code 111 = .ok (.sipush 144, 3) := sorry
theorem d_Expander_init_114 : decode prog_3_method_1_code 114 = .ok (.bipush 8, 2) := sorry
theorem d_Expander_init_116 : decode prog_3_method_1_code 116 = .ok (.invokestatic 50, 3) := sorry
theorem d_Expander_init_119 : decode prog_3_method_1_code 119 = .ok (.aload_n 1, 1) := sorry
theorem d_Expander_init_120 : decode prog_3_method_1_code 120 = .ok (.sipush 144, 3) := sorry
theorem d_Expander_init_123 : decode prog_3_method_1_code 123 = .ok (.sipush 256, 3) := sorry
theorem d_Expander_init_126 : decode prog_3_method_1_code 126 = .ok (.bipush 9, 2) := sorry
theorem d_Expander_init_128 : decode prog_3_method_1_code 128 = .ok (.invokestatic 50, 3) := sorry
theorem d_Expander_init_131 : decode prog_3_method_1_code 131 = .ok (.aload_n 1, 1) := sorry
theorem d_Expander_init_132 : decode prog_3_method_1_code 132 = .ok (.sipush 256, 3) := sorry
theorem d_Expander_init_135 : decode prog_3_method_1_code 135 = .ok (.sipush 280, 3) := sorry
theorem d_Expander_init_138 : decode prog_3_method_1_code 138 = .ok (.bipush 7, 2) := sorry
theorem d_Expander_init_140 : decode prog_3_method_1_code 140 = .ok (.invokestatic 50, 3) := sorry
theorem d_Expander_init_143 : decode prog_3_method_1_code 143 = .ok (.aload_n 1, 1) := sorry
theorem d_Expander_init_144 : decode prog_3_method_1_code 144 = .ok (.sipush 280, 3) := sorry
theorem d_Expander_init_147 : decode prog_3_method_1_code 147 = .ok (.sipush 288, 3) := sorry
theorem d_Expander_init_150 : decode prog_3_method_1_code 150 = .ok (.bipush 8, 2) := sorry
theorem d_Expander_init_152 : decode prog_3_method_1_code 152 = .ok (.invokestatic 50, 3) := sorry
theorem d_Expander_init_155 : decode prog_3_method_1_code 155 = .ok (.aload_n 1, 1) := sorry
theorem d_Expander_init_156 : decode prog_3_method_1_code 156 = .ok (.sipush 288, 3) := sorry
theorem d_Expander_init_159 : decode prog_3_method_1_code 159 = .ok (.sipush 320, 3) := sorry
theorem d_Expander_init_162 : decode prog_3_method_1_code 162 = .ok (.iconst 5, 1) := sorry
theorem d_Expander_init_163 : decode prog_3_method_1_code 163 = .ok (.invokestatic 50, 3) := sorry
theorem d_Expander_init_166 : decode prog_3_method_1_code 166 = .ok (.aload_n 0, 1) := sorry
theorem d_Expander_init_167 : decode prog_3_method_1_code 167 = .ok (.getfield 27, 3) := sorry
theorem d_Expander_init_170 : decode prog_3_method_1_code 170 = .ok (.aload_n 1, 1) := sorry
theorem d_Expander_init_171 : decode prog_3_method_1_code 171 = .ok (.iconst 0, 1) := sorry
theorem d_Expander_init_172 : decode prog_3_method_1_code 172 = .ok (.sipush 288, 3) := sorry
theorem d_Expander_init_175 : decode prog_3_method_1_code 175 = .ok (.invokevirtual 54, 3) := sorry
theorem d_Expander_init_178 : decode prog_3_method_1_code 178 = .ok (.aload_n 0, 1) := sorry
theorem d_Expander_init_179 : decode prog_3_method_1_code 179 = .ok (.getfield 31, 3) := sorry
theorem d_Expander_init_182 : decode prog_3_method_1_code 182 = .ok (.aload_n 1, 1) := sorry
theorem d_Expander_init_183 : decode prog_3_method_1_code 183 = .ok (.sipush 288, 3) := sorry
theorem d_Expander_init_186 : decode prog_3_method_1_code 186 = .ok (.bipush 32, 2) := sorry
theorem d_Expander_init_188 : decode prog_3_method_1_code 188 = .ok (.invokevirtual 54, 3) := sorry
theorem d_Expander_init_191 : decode prog_3_method_1_code 191 = .ok (.return_, 1) := sorry
abbrev y_Expander_init : MethodName := ⟨"PackageBook$Expander", "<init>", "()V"⟩
abbrev i_Expander_init : pb_I := (y_Expander_init, prog_3_method_1_code, 2, (Option.none : Option Jvm.ClassFile.FieldType), [], { frames := 2, cells := 20, slots := 17233, locals := 41 })
theorem g_Exp_init {l : Launch} (hl : l.stackTraces = false) (G : pb_G) (h : Nat) : Cn l G i_Expander_init [.ref h] [(h, .inr (5, [.null, .null, .null, .null, .null, .null, .null, .null, .int 0, .int 0, .int 0]))] (S := Nat × Nat × Nat × Nat × Nat × Nat × Nat × Nat × Nat × Nat × Nat × Nat × Nat × Nat × Nat × Nat × Nat × Nat × Nat × Int32 × Int32 × (Nat → Int32) × (Nat → Int32) × (Nat → Int32) × (Nat → Int32)) (fun rv_ u => rv_ = none ∧ (co_I u.2.2.2.2.2.2.2.2.2.2.2.2.2.2.2.2.2.2.2.1.toInt u.2.2.2.2.2.2.2.2.2.2.2.2.2.2.2.2.2.2.2.2.2.1 u.2.2.2.2.2.2.2.2.2.2.2.2.2.2.2.2.2.2.2.2.2.2.1 288) ∧ (u.2.2.2.2.2.2.2.2.2.2.2.2.2.2.2.2.2.2.2.1.toInt ≤ 288) ∧ (co_I u.2.2.2.2.2.2.2.2.2.2.2.2.2.2.2.2.2.2.2.2.1.toInt u.2.2.2.2.2.2.2.2.2.2.2.2.2.2.2.2.2.2.2.2.2.2.2.1 u.2.2.2.2.2.2.2.2.2.2.2.2.2.2.2.2.2.2.2.2.2.2.2.2 32) ∧ (u.2.2.2.2.2.2.2.2.2.2.2.2.2.2.2.2.2.2.2.2.1.toInt ≤ 32) ∧ (cs_R u.2.2.2.2.2.2.2.2.2.2.2.2.2.2.2.2.2.2.2.1.toInt u.2.2.2.2.2.2.2.2.2.2.2.2.2.2.2.2.2.2.2.2.2.1 u.2.2.2.2.2.2.2.2.2.2.2.2.2.2.2.2.2.2.2.2.2.2.1 fx_1 288) ∧ (cs_R u.2.2.2.2.2.2.2.2.2.2.2.2.2.2.2.2.2.2.2.2.1.toInt u.2.2.2.2.2.2.2.2.2.2.2.2.2.2.2.2.2.2.2.2.2.2.2.1 u.2.2.2.2.2.2.2.2.2.2.2.2.2.2.2.2.2.2.2.2.2.2.2.2 fx_2 32)) (fun u => [(h, .inr (5, [.ref u.1, .ref u.2.2.1, .ref u.2.2.2.1, .ref u.2.2.2.2.2.2.1, .ref u.2.2.2.2.2.2.2.2.2.1, .ref u.2.2.2.2.2.2.2.2.2.2.2.2.1, .ref u.2.2.2.2.2.2.2.2.2.2.2.2.2.2.2.1, .ref u.2.2.2.2.2.2.2.2.2.2.2.2.2.2.2.2.2.2.1, .int 0, .int 0, .int 0])), (u.1, .inr (0, [.ref u.2.1, .int 0])), (u.2.1, .inl (G.2.1, 4000, .inl (fun _ => 0))), (u.2.2.1, .inl (G.2.2.1, 316, .inl (fun _ => 0))), (u.2.2.2.1, .inr (1, [.ref u.2.2.2.2.1, .ref u.2.2.2.2.2.1, .int u.2.2.2.2.2.2.2.2.2.2.2.2.2.2.2.2.2.2.2.1])), (u.2.2.2.2.1, .inl (G.2.2.1, 16, .inl u.2.2.2.2.2.2.2.2.2.2.2.2.2.2.2.2.2.2.2.2.2.1)), (u.2.2.2.2.2.1, .inl (G.2.2.1, 288, .inl u.2.2.2.2.2.2.2.2.2.2.2.2.2.2.2.2.2.2.2.2.2.2.1)), (u.2.2.2.2.2.2.1, .inr (1, [.ref u.2.2.2.2.2.2.2.1, .ref u.2.2.2.2.2.2.2.2.1, .int u.2.2.2.2.2.2.2.2.2.2.2.2.2.2.2.2.2.2.2.2.1])), (u.2.2.2.2.2.2.2.1, .inl (G.2.2.1, 16, .inl u.2.2.2.2.2.2.2.2.2.2.2.2.2.2.2.2.2.2.2.2.2.2.2.1)), (u.2.2.2.2.2.2.2.2.1, .inl (G.2.2.1, 32, .inl u.2.2.2.2.2.2.2.2.2.2.2.2.2.2.2.2.2.2.2.2.2.2.2.2)), (u.2.2.2.2.2.2.2.2.2.1, .inr (1, [.ref u.2.2.2.2.2.2.2.2.2.2.1, .ref u.2.2.2.2.2.2.2.2.2.2.2.1, .int 0])), (u.2.2.2.2.2.2.2.2.2.2.1, .inl (G.2.2.1, 16, .inl (fun _ => 0))), (u.2.2.2.2.2.2.2.2.2.2.2.1, .inl (G.2.2.1, 286, .inl (fun _ => 0))), (u.2.2.2.2.2.2.2.2.2.2.2.2.1, .inr (1, [.ref u.2.2.2.2.2.2.2.2.2.2.2.2.2.1, .ref u.2.2.2.2.2.2.2.2.2.2.2.2.2.2.1, .int 0])), (u.2.2.2.2.2.2.2.2.2.2.2.2.2.1, .inl (G.2.2.1, 16, .inl (fun _ => 0))), (u.2.2.2.2.2.2.2.2.2.2.2.2.2.2.1, .inl (G.2.2.1, 30, .inl (fun _ => 0))), (u.2.2.2.2.2.2.2.2.2.2.2.2.2.2.2.1, .inr (1, [.ref u.2.2.2.2.2.2.2.2.2.2.2.2.2.2.2.2.1, .ref u.2.2.2.2.2.2.2.2.2.2.2.2.2.2.2.2.2.1, .int 0])), (u.2.2.2.2.2.2.2.2.2.2.2.2.2.2.2.2.1, .inl (G.2.2.1, 16, .inl (fun _ => 0))), (u.2.2.2.2.2.2.2.2.2.2.2.2.2.2.2.2.2.1, .inl (G.2.2.1, 19, .inl (fun _ => 0)))]) := sorry
theorem d_Book_init_0 : decode prog_1_method_1_code 0 = .ok (.aload_n 0, 1) := sorry
theorem d_Book_init_1 : decode prog_1_method_1_code 1 = .ok (.invokespecial 3, 3) := sorry
theorem k_147 : (Jvm.Cond.methodLink "PackageBook" (3 : Nat) ({ cls := "java/lang/Object", name := "<init>", desc := "()V" } : Jvm.MethodName)) ∈ uW := sorry
theorem d_Book_init_4 : decode prog_1_method_1_code 4 = .ok (.aload_n 0, 1) := sorry
theorem d_Book_init_5 : decode prog_1_method_1_code 5 = .ok (.new 9, 3) := sorry
theorem k_150 : (Jvm.Cond.classLink "PackageBook" (9 : Nat) "PackageBook$Row") ∈ uW := sorry
theorem d_Book_init_8 : decode prog_1_method_1_code 8 = .ok (.dup, 1) := sorry
theorem d_Book_init_9 : decode prog_1_method_1_code 9 = .ok (.sipush 8000, 3) := sorry
theorem d_Book_init_12 : decode prog_1_method_1_code 12 = .ok (.invokespecial 11, 3) := sorry
theorem k_152 : (Jvm.Cond.methodLink "PackageBook" (11 : Nat) ({ cls := "PackageBook$Row", name := "<init>", desc := "(I)V" } : Jvm.MethodName)) ∈ uW := sorry
theorem d_Book_init_15 : decode prog_1_method_1_code 15 = .ok (.putfield 14, 3) := sorry
theorem k_417 : (Jvm.Cond.fieldLink "PackageBook" (14 : Nat) "PackageBook" "tape" "LPackageBook$Row;") ∈ uW := sorry
theorem d_Book_init_18 : decode prog_1_method_1_code 18 = .ok (.aload_n 0, 1) := sorry
theorem d_Book_init_19 : decode prog_1_method_1_code 19 = .ok (.new 9, 3) := sorry
theorem d_Book_init_22 : decode prog_1_method_1_code 22 = .ok (.dup, 1) := sorry
theorem d_Book_init_23 : decode prog_1_method_1_code 23 = .ok (.sipush 4502, 3) := sorry
theorem d_Book_init_26 : decode prog_1_method_1_code 26 = .ok (.invokespecial 11, 3) := sorry
theorem d_Book_init_29 : decode prog_1_method_1_code 29 = .ok (.putfield 18, 3) := sorry
theorem k_418 : (Jvm.Cond.fieldLink "PackageBook" (18 : Nat) "PackageBook" "came" "LPackageBook$Row;") ∈ uW := sorry
theorem d_Book_init_32 : decode prog_1_method_1_code 32 = .ok (.aload_n 0, 1) := sorry
theorem d_Book_init_33 : decode prog_1_method_1_code 33 = .ok (.new 21, 3) := sorry
theorem k_173 : (Jvm.Cond.classLink "PackageBook" (21 : Nat) "PackageBook$Presser") ∈ uW := sorry
theorem k_174 : (Jvm.Cond.instantiable "PackageBook$Presser" (9 : Nat)) ∈ uW := sorry
theorem d_Book_init_36 : decode prog_1_method_1_code 36 = .ok (.dup, 1) := sorry
theorem d_Book_init_37 : decode prog_1_method_1_code 37 = .ok (.invokespecial 23, 3) := sorry
theorem k_175 : (Jvm.Cond.methodLinkNest "PackageBook" (23 : Nat) ({ cls := "PackageBook$Presser", name := "<init>", desc := "()V" } : Jvm.MethodName) "PackageBook") ∈ uN := sorry
theorem k_177 : (Jvm.Cond.code ({ cls := "PackageBook$Presser", name := "<init>", desc := "()V" } : Jvm.MethodName) prog_8_method_1_code (1 : Nat) (Option.none : Option Jvm.ClassFile.FieldType)) ∈ uW := sorry
theorem k_176 : (Jvm.Cond.instanceMethod ({ cls := "PackageBook$Presser", name := "<init>", desc := "()V" } : Jvm.MethodName)) ∈ uW := sorry
theorem hy_Presser_init : (y_Presser_init).cls ≠ "java/lang/invoke/MethodHandle" ∧ (y_Presser_init).cls ≠ "java/lang/invoke/VarHandle" ∧ (parseMethodDescriptor (y_Presser_init).desc).map (fun d => d.parameters.length) = some 0 := sorry
theorem d_Book_init_40 : decode prog_1_method_1_code 40 = .ok (.putfield 24, 3) := sorry
theorem k_419 : (Jvm.Cond.fieldLink "PackageBook" (24 : Nat) "PackageBook" "presser" "LPackageBook$Presser;") ∈ uW := sorry
theorem d_Book_init_43 : decode prog_1_method_1_code 43 = .ok (.aload_n 0, 1) := sorry
theorem d_Book_init_44 : decode prog_1_method_1_code 44 = .ok (.new 28, 3) := sorry
theorem k_212 : (Jvm.Cond.classLink "PackageBook" (28 : Nat) "PackageBook$Expander") ∈ uW := sorry
theorem k_213 : (Jvm.Cond.instantiable "PackageBook$Expander" (11 : Nat)) ∈ uW := sorry
theorem d_Book_init_47 : decode prog_1_method_1_code 47 = .ok (.dup, 1) := sorry
theorem d_Book_init_48 : decode prog_1_method_1_code 48 = .ok (.invokespecial 30, 3) := sorry
theorem k_214 : (Jvm.Cond.methodLink "PackageBook" (30 : Nat) ({ cls := "PackageBook$Expander", name := "<init>", desc := "()V" } : Jvm.MethodName)) ∈ uW := sorry
theorem k_216 : (Jvm.Cond.code ({ cls := "PackageBook$Expander", name := "<init>", desc := "()V" } : Jvm.MethodName) prog_3_method_1_code (2 : Nat) (Option.none : Option Jvm.ClassFile.FieldType)) ∈ uW := sorry
theorem k_215 : (Jvm.Cond.instanceMethod ({ cls := "PackageBook$Expander", name := "<init>", desc := "()V" } : Jvm.MethodName)) ∈ uW := sorry
theorem hy_Expander_init : (y_Expander_init).cls ≠ "java/lang/invoke/MethodHandle" ∧ (y_Expander_init).cls ≠ "java/lang/invoke/VarHandle" ∧ (parseMethodDescriptor (y_Expander_init).desc).map (fun d => d.parameters.length) = some 0 := sorry
theorem d_Book_init_51 : decode prog_1_method_1_code 51 = .ok (.putfield 31, 3) := sorry
theorem k_420 : (Jvm.Cond.fieldLink "PackageBook" (31 : Nat) "PackageBook" "expander" "LPackageBook$Expander;") ∈ uW := sorry
theorem d_Book_init_54 : decode prog_1_method_1_code 54 = .ok (.aload_n 0, 1) := sorry
theorem d_Book_init_55 : decode prog_1_method_1_code 55 = .ok (.new 35, 3) := sorry
theorem k_284 : (Jvm.Cond.classLink "PackageBook" (35 : Nat) "PackageBook$FileMaker") ∈ uW := sorry
theorem k_285 : (Jvm.Cond.instantiable "PackageBook$FileMaker" (2 : Nat)) ∈ uW := sorry
theorem d_Book_init_58 : decode prog_1_method_1_code 58 = .ok (.dup, 1) := sorry
theorem d_Book_init_59 : decode prog_1_method_1_code 59 = .ok (.invokespecial 37, 3) := sorry
theorem k_286 : (Jvm.Cond.methodLinkNest "PackageBook" (37 : Nat) ({ cls := "PackageBook$FileMaker", name := "<init>", desc := "()V" } : Jvm.MethodName) "PackageBook") ∈ uN := sorry
theorem k_288 : (Jvm.Cond.code ({ cls := "PackageBook$FileMaker", name := "<init>", desc := "()V" } : Jvm.MethodName) prog_4_method_1_code (1 : Nat) (Option.none : Option Jvm.ClassFile.FieldType)) ∈ uW := sorry
theorem k_287 : (Jvm.Cond.instanceMethod ({ cls := "PackageBook$FileMaker", name := "<init>", desc := "()V" } : Jvm.MethodName)) ∈ uW := sorry
theorem hy_FileMaker_init : (y_FileMaker_init).cls ≠ "java/lang/invoke/MethodHandle" ∧ (y_FileMaker_init).cls ≠ "java/lang/invoke/VarHandle" ∧ (parseMethodDescriptor (y_FileMaker_init).desc).map (fun d => d.parameters.length) = some 0 := sorry
theorem d_Book_init_62 : decode prog_1_method_1_code 62 = .ok (.putfield 38, 3) := sorry
theorem k_421 : (Jvm.Cond.fieldLink "PackageBook" (38 : Nat) "PackageBook" "maker" "LPackageBook$FileMaker;") ∈ uW := sorry
theorem d_Book_init_65 : decode prog_1_method_1_code 65 = .ok (.aload_n 0, 1) := sorry
theorem d_Book_init_66 : decode prog_1_method_1_code 66 = .ok (.new 42, 3) := sorry
theorem k_300 : (Jvm.Cond.classLink "PackageBook" (42 : Nat) "PackageBook$FileReader") ∈ uW := sorry
theorem k_301 : (Jvm.Cond.instantiable "PackageBook$FileReader" (1 : Nat)) ∈ uW := sorry
theorem k_124 : (Jvm.Cond.initialized "PackageBook$FileReader") ∈ uW := sorry
theorem d_Book_init_69 : decode prog_1_method_1_code 69 = .ok (.dup, 1) := sorry
theorem d_Book_init_70 : decode prog_1_method_1_code 70 = .ok (.invokespecial 44, 3) := sorry
theorem k_302 : (Jvm.Cond.methodLinkNest "PackageBook" (44 : Nat) ({ cls := "PackageBook$FileReader", name := "<init>", desc := "()V" } : Jvm.MethodName) "PackageBook") ∈ uN := sorry
theorem k_304 : (Jvm.Cond.code ({ cls := "PackageBook$FileReader", name := "<init>", desc := "()V" } : Jvm.MethodName) prog_5_method_1_code (1 : Nat) (Option.none : Option Jvm.ClassFile.FieldType)) ∈ uW := sorry
theorem k_303 : (Jvm.Cond.instanceMethod ({ cls := "PackageBook$FileReader", name := "<init>", desc := "()V" } : Jvm.MethodName)) ∈ uW := sorry
theorem hy_FileReader_init : (y_FileReader_init).cls ≠ "java/lang/invoke/MethodHandle" ∧ (y_FileReader_init).cls ≠ "java/lang/invoke/VarHandle" ∧ (parseMethodDescriptor (y_FileReader_init).desc).map (fun d => d.parameters.length) = some 0 := sorry
theorem d_Book_init_73 : decode prog_1_method_1_code 73 = .ok (.putfield 45, 3) := sorry
theorem k_422 : (Jvm.Cond.fieldLink "PackageBook" (45 : Nat) "PackageBook" "reader" "LPackageBook$FileReader;") ∈ uW := sorry
theorem d_Book_init_76 : decode prog_1_method_1_code 76 = .ok (.aload_n 0, 1) := sorry
theorem d_Book_init_77 : decode prog_1_method_1_code 77 = .ok (.new 49, 3) := sorry
theorem k_310 : (Jvm.Cond.classLink "PackageBook" (49 : Nat) "PackageBook$Markup") ∈ uW := sorry
theorem k_311 : (Jvm.Cond.instantiable "PackageBook$Markup" (13 : Nat)) ∈ uW := sorry
theorem k_125 : (Jvm.Cond.initialized "PackageBook$Markup") ∈ uW := sorry
theorem d_Book_init_80 : decode prog_1_method_1_code 80 = .ok (.dup, 1) := sorry
theorem d_Book_init_81 : decode prog_1_method_1_code 81 = .ok (.invokespecial 51, 3) := sorry
theorem k_312 : (Jvm.Cond.methodLinkNest "PackageBook" (51 : Nat) ({ cls := "PackageBook$Markup", name := "<init>", desc := "()V" } : Jvm.MethodName) "PackageBook") ∈ uN := sorry
theorem k_314 : (Jvm.Cond.code ({ cls := "PackageBook$Markup", name := "<init>", desc := "()V" } : Jvm.MethodName) prog_7_method_1_code (1 : Nat) (Option.none : Option Jvm.ClassFile.FieldType)) ∈ uW := sorry
theorem k_313 : (Jvm.Cond.instanceMethod ({ cls := "PackageBook$Markup", name := "<init>", desc := "()V" } : Jvm.MethodName)) ∈ uW := sorry
theorem hy_Markup_init : (y_Markup_init).cls ≠ "java/lang/invoke/MethodHandle" ∧ (y_Markup_init).cls ≠ "java/lang/invoke/VarHandle" ∧ (parseMethodDescriptor (y_Markup_init).desc).map (fun d => d.parameters.length) = some 0 := sorry
theorem d_Book_init_84 : decode prog_1_method_1_code 84 = .ok (.putfield 52, 3) := sorry
theorem k_423 : (Jvm.Cond.fieldLink "PackageBook" (52 : Nat) "PackageBook" "markup" "LPackageBook$Markup;") ∈ uW := sorry
theorem d_Book_init_87 : decode prog_1_method_1_code 87 = .ok (.aload_n 0, 1) := sorry
theorem d_Book_init_88 : decode prog_1_method_1_code 88 = .ok (.new 56, 3) := sorry
theorem k_360 : (Jvm.Cond.classLink "PackageBook" (56 : Nat) "PackageBook$Findings") ∈ uW := sorry
theorem k_361 : (Jvm.Cond.instantiable "PackageBook$Findings" (4 : Nat)) ∈ uW := sorry
theorem k_126 : (Jvm.Cond.initialized "PackageBook$Findings") ∈ uW := sorry
theorem d_Book_init_91 : decode prog_1_method_1_code 91 = .ok (.dup, 1) := sorry
theorem d_Book_init_92 : decode prog_1_method_1_code 92 = .ok (.invokespecial 58, 3) := sorry
theorem k_362 : (Jvm.Cond.methodLinkNest "PackageBook" (58 : Nat) ({ cls := "PackageBook$Findings", name := "<init>", desc := "()V" } : Jvm.MethodName) "PackageBook") ∈ uN := sorry
theorem k_364 : (Jvm.Cond.code ({ cls := "PackageBook$Findings", name := "<init>", desc := "()V" } : Jvm.MethodName) prog_6_method_1_code (1 : Nat) (Option.none : Option Jvm.ClassFile.FieldType)) ∈ uW := sorry
theorem k_363 : (Jvm.Cond.instanceMethod ({ cls := "PackageBook$Findings", name := "<init>", desc := "()V" } : Jvm.MethodName)) ∈ uW := sorry
theorem hy_Findings_init : (y_Findings_init).cls ≠ "java/lang/invoke/MethodHandle" ∧ (y_Findings_init).cls ≠ "java/lang/invoke/VarHandle" ∧ (parseMethodDescriptor (y_Findings_init).desc).map (fun d => d.parameters.length) = some 0 := sorry
theorem d_Book_init_95 : decode prog_1_method_1_code 95 = .ok (.putfield 59, 3) := sorry
theorem k_424 : (Jvm.Cond.fieldLink "PackageBook" (59 : Nat) "PackageBook" "findings" "LPackageBook$Findings;") ∈ uW := sorry
theorem d_Book_init_98 : decode prog_1_method_1_code 98 = .ok (.aload_n 0, 1) := sorry
theorem d_Book_init_99 : decode prog_1_method_1_code 99 = .ok (.bipush 16, 2) := sorry
theorem d_Book_init_101 : decode prog_1_method_1_code 101 = .ok (.newarray .int, 2) := sorry
theorem d_Book_init_103 : decode prog_1_method_1_code 103 = .ok (.putfield 63, 3) := sorry
theorem k_425 : (Jvm.Cond.fieldLink "PackageBook" (63 : Nat) "PackageBook" "goals" "[I") ∈ uW := sorry
theorem d_Book_init_106 : decode prog_1_method_1_code 106 = .ok (.aload_n 0, 1) := sorry
theorem d_Book_init_107 : decode prog_1_method_1_code 107 = .ok (.new 67, 3) := sorry
theorem k_383 : (Jvm.Cond.classLink "PackageBook" (67 : Nat) "PackageBook$Shelf") ∈ uW := sorry
theorem k_384 : (Jvm.Cond.instantiable "PackageBook$Shelf" (5 : Nat)) ∈ uW := sorry
theorem d_Book_init_110 : decode prog_1_method_1_code 110 = .ok (.dup, 1) := sorry
theorem d_Book_init_111 : decode prog_1_method_1_code 111 = .ok (.invokespecial 69, 3) := sorry
theorem k_385 : (Jvm.Cond.methodLinkNest "PackageBook" (69 : Nat) ({ cls := "PackageBook$Shelf", name := "<init>", desc := "()V" } : Jvm.MethodName) "PackageBook") ∈ uN := sorry
theorem k_387 : (Jvm.Cond.code ({ cls := "PackageBook$Shelf", name := "<init>", desc := "()V" } : Jvm.MethodName) prog_10_method_1_code (1 : Nat) (Option.none : Option Jvm.ClassFile.FieldType)) ∈ uW := sorry
theorem k_386 : (Jvm.Cond.instanceMethod ({ cls := "PackageBook$Shelf", name := "<init>", desc := "()V" } : Jvm.MethodName)) ∈ uW := sorry
theorem hy_Shelf_init : (y_Shelf_init).cls ≠ "java/lang/invoke/MethodHandle" ∧ (y_Shelf_init).cls ≠ "java/lang/invoke/VarHandle" ∧ (parseMethodDescriptor (y_Shelf_init).desc).map (fun d => d.parameters.length) = some 0 := sorry
theorem d_Book_init_114 : decode prog_1_method_1_code 114 = .ok (.putfield 70, 3) := sorry
theorem k_426 : (Jvm.Cond.fieldLink "PackageBook" (70 : Nat) "PackageBook" "parts" "LPackageBook$Shelf;") ∈ uW := sorry
theorem d_Book_init_117 : decode prog_1_method_1_code 117 = .ok (.aload_n 0, 1) := sorry
theorem d_Book_init_118 : decode prog_1_method_1_code 118 = .ok (.new 67, 3) := sorry
theorem d_Book_init_121 : decode prog_1_method_1_code 121 = .ok (.dup, 1) := sorry
theorem d_Book_init_122 : decode prog_1_method_1_code 122 = .ok (.invokespecial 69, 3) := sorry
theorem d_Book_init_125 : decode prog_1_method_1_code 125 = .ok (.putfield 74, 3) := sorry
theorem k_427 : (Jvm.Cond.fieldLink "PackageBook" (74 : Nat) "PackageBook" "spare" "LPackageBook$Shelf;") ∈ uW := sorry
theorem d_Book_init_128 : decode prog_1_method_1_code 128 = .ok (.return_, 1) := sorry
abbrev y_Book_init : MethodName := ⟨"PackageBook", "<init>", "()V"⟩
abbrev i_Book_init : pb_I := (y_Book_init, prog_1_method_1_code, 1, (Option.none : Option Jvm.ClassFile.FieldType), [], { frames := 3, cells := 57, slots := 111301, locals := 62 })
theorem g_Book_init {l : Launch} (hl : l.stackTraces = false) (G : pb_G) (h : Nat) : Cn l G i_Book_init [.ref h] [(h, .inr (9, [.null, .null, .null, .null, .null, .null, .null, .null, .null, .null, .null]))] (S := Nat × Nat × Nat × Nat × Nat × Nat × Nat × Nat × Nat × Nat × Nat × Nat × Nat × Nat × Nat × Nat × Nat × Nat × Nat × Nat × Nat × Nat × Nat × Nat × Nat × Nat × Nat × Nat × Nat × Nat × Nat × Nat × Nat × Nat × Nat × Nat × Nat × Nat × Nat × Nat × Nat × Nat × Nat × Nat × Nat × Nat × Nat × Nat × Nat × Nat × Nat × Nat × Nat × Nat × Nat × Nat × Int32 × Int32 × (Nat → Int32) × (Nat → Int32) × (Nat → Int32) × (Nat → Int32)) (fun rv_ u => rv_ = none ∧ (co_I u.2.2.2.2.2.2.2.2.2.2.2.2.2.2.2.2.2.2.2.2.2.2.2.2.2.2.2.2.2.2.2.2.2.2.2.2.2.2.2.2.2.2.2.2.2.2.2.2.2.2.2.2.2.2.2.2.1.toInt u.2.2.2.2.2.2.2.2.2.2.2.2.2.2.2.2.2.2.2.2.2.2.2.2.2.2.2.2.2.2.2.2.2.2.2.2.2.2.2.2.2.2.2.2.2.2.2.2.2.2.2.2.2.2.2.2.2.2.1 u.2.2.2.2.2.2.2.2.2.2.2.2.2.2.2.2.2.2.2.2.2.2.2.2.2.2.2.2.2.2.2.2.2.2.2.2.2.2.2.2.2.2.2.2.2.2.2.2.2.2.2.2.2.2.2.2.2.2.2.1 288) ∧ (u.2.2.2.2.2.2.2.2.2.2.2.2.2.2.2.2.2.2.2.2.2.2.2.2.2.2.2.2.2.2.2.2.2.2.2.2.2.2.2.2.2.2.2.2.2.2.2.2.2.2.2.2.2.2.2.2.1.toInt ≤ 288) ∧ (co_I u.2.2.2.2.2.2.2.2.2.2.2.2.2.2.2.2.2.2.2.2.2.2.2.2.2.2.2.2.2.2.2.2.2.2.2.2.2.2.2.2.2.2.2.2.2.2.2.2.2.2.2.2.2.2.2.2.2.1.toInt u.2.2.2.2.2.2.2.2.2.2.2.2.2.2.2.2.2.2.2.2.2.2.2.2.2.2.2.2.2.2.2.2.2.2.2.2.2.2.2.2.2.2.2.2.2.2.2.2.2.2.2.2.2.2.2.2.2.2.2.2.1 u.2.2.2.2.2.2.2.2.2.2.2.2.2.2.2.2.2.2.2.2.2.2.2.2.2.2.2.2.2.2.2.2.2.2.2.2.2.2.2.2.2.2.2.2.2.2.2.2.2.2.2.2.2.2.2.2.2.2.2.2.2 32) ∧ (u.2.2.2.2.2.2.2.2.2.2.2.2.2.2.2.2.2.2.2.2.2.2.2.2.2.2.2.2.2.2.2.2.2.2.2.2.2.2.2.2.2.2.2.2.2.2.2.2.2.2.2.2.2.2.2.2.2.1.toInt ≤ 32) ∧ (cs_R u.2.2.2.2.2.2.2.2.2.2.2.2.2.2.2.2.2.2.2.2.2.2.2.2.2.2.2.2.2.2.2.2.2.2.2.2.2.2.2.2.2.2.2.2.2.2.2.2.2.2.2.2.2.2.2.2.1.toInt u.2.2.2.2.2.2.2.2.2.2.2.2.2.2.2.2.2.2.2.2.2.2.2.2.2.2.2.2.2.2.2.2.2.2.2.2.2.2.2.2.2.2.2.2.2.2.2.2.2.2.2.2.2.2.2.2.2.2.1 u.2.2.2.2.2.2.2.2.2.2.2.2.2.2.2.2.2.2.2.2.2.2.2.2.2.2.2.2.2.2.2.2.2.2.2.2.2.2.2.2.2.2.2.2.2.2.2.2.2.2.2.2.2.2.2.2.2.2.2.1 fx_1 288) ∧ (cs_R u.2.2.2.2.2.2.2.2.2.2.2.2.2.2.2.2.2.2.2.2.2.2.2.2.2.2.2.2.2.2.2.2.2.2.2.2.2.2.2.2.2.2.2.2.2.2.2.2.2.2.2.2.2.2.2.2.2.1.toInt u.2.2.2.2.2.2.2.2.2.2.2.2.2.2.2.2.2.2.2.2.2.2.2.2.2.2.2.2.2.2.2.2.2.2.2.2.2.2.2.2.2.2.2.2.2.2.2.2.2.2.2.2.2.2.2.2.2.2.2.2.1 u.2.2.2.2.2.2.2.2.2.2.2.2.2.2.2.2.2.2.2.2.2.2.2.2.2.2.2.2.2.2.2.2.2.2.2.2.2.2.2.2.2.2.2.2.2.2.2.2.2.2.2.2.2.2.2.2.2.2.2.2.2 fx_2 32)) (fun u => [(h, .inr (9, [.ref u.1, .ref u.2.2.1, .ref u.2.2.2.2.1, .ref u.2.2.2.2.2.2.2.2.2.1, .ref u.2.2.2.2.2.2.2.2.2.2.2.2.2.2.2.2.2.2.2.2.2.2.2.2.2.2.2.2.1, .ref u.2.2.2.2.2.2.2.2.2.2.2.2.2.2.2.2.2.2.2.2.2.2.2.2.2.2.2.2.2.2.2.2.1, .ref u.2.2.2.2.2.2.2.2.2.2.2.2.2.2.2.2.2.2.2.2.2.2.2.2.2.2.2.2.2.2.2.2.2.1, .ref u.2.2.2.2.2.2.2.2.2.2.2.2.2.2.2.2.2.2.2.2.2.2.2.2.2.2.2.2.2.2.2.2.2.2.2.2.2.1, .ref u.2.2.2.2.2.2.2.2.2.2.2.2.2.2.2.2.2.2.2.2.2.2.2.2.2.2.2.2.2.2.2.2.2.2.2.2.2.2.2.2.2.1, .ref u.2.2.2.2.2.2.2.2.2.2.2.2.2.2.2.2.2.2.2.2.2.2.2.2.2.2.2.2.2.2.2.2.2.2.2.2.2.2.2.2.2.2.1, .ref u.2.2.2.2.2.2.2.2.2.2.2.2.2.2.2.2.2.2.2.2.2.2.2.2.2.2.2.2.2.2.2.2.2.2.2.2.2.2.2.2.2.2.2.2.2.2.2.1])), (u.1, .inr (0, [.ref u.2.1, .int 0])), (u.2.1, .inl (G.2.1, 8000, .inl (fun _ => 0))), (u.2.2.1, .inr (0, [.ref u.2.2.2.1, .int 0])), (u.2.2.2.1, .inl (G.2.1, 4502, .inl (fun _ => 0))), (u.2.2.2.2.1, .inr (4, [.ref u.2.2.2.2.2.1, .ref u.2.2.2.2.2.2.2.1, .ref u.2.2.2.2.2.2.2.2.1, .ref u.2.2.2.2.2.2.2.2.2.2.2.2.2.2.2.2.2.2.2.2.2.2.2.2.2.2.2.2.2.2.2.2.2.2.2.2.2.2.2.2.2.2.2.2.2.2.2.2.2.2.2.2.1, .int 0, .int 0, .int 0, .int 0, .int 0])), (u.2.2.2.2.2.1, .inr (0, [.ref u.2.2.2.2.2.2.1, .int 0])), (u.2.2.2.2.2.2.1, .inl (G.2.1, 4502, .inl (fun _ => 0))), (u.2.2.2.2.2.2.2.1, .inl (G.2.2.1, 1024, .inl (fun _ => 0))), (u.2.2.2.2.2.2.2.2.1, .inl (G.2.2.1, 4000, .inl (fun _ => 0))), (u.2.2.2.2.2.2.2.2.2.1, .inr (5, [.ref u.2.2.2.2.2.2.2.2.2.2.1, .ref u.2.2.2.2.2.2.2.2.2.2.2.2.1, .ref u.2.2.2.2.2.2.2.2.2.2.2.2.2.1, .ref u.2.2.2.2.2.2.2.2.2.2.2.2.2.2.2.2.1, .ref u.2.2.2.2.2.2.2.2.2.2.2.2.2.2.2.2.2.2.2.1, .ref u.2.2.2.2.2.2.2.2.2.2.2.2.2.2.2.2.2.2.2.2.2.2.1, .ref u.2.2.2.2.2.2.2.2.2.2.2.2.2.2.2.2.2.2.2.2.2.2.2.2.2.1, .ref u.2.2.2.2.2.2.2.2.2.2.2.2.2.2.2.2.2.2.2.2.2.2.2.2.2.2.2.2.2.2.2.2.2.2.2.2.2.2.2.2.2.2.2.2.2.2.2.2.2.2.2.2.2.1, .int 0, .int 0, .int 0])), (u.2.2.2.2.2.2.2.2.2.2.1, .inr (0, [.ref u.2.2.2.2.2.2.2.2.2.2.2.1, .int 0])), (u.2.2.2.2.2.2.2.2.2.2.2.1, .inl (G.2.1, 4000, .inl (fun _ => 0))), (u.2.2.2.2.2.2.2.2.2.2.2.2.1, .inl (G.2.2.1, 316, .inl (fun _ => 0))), (u.2.2.2.2.2.2.2.2.2.2.2.2.2.1, .inr (1, [.ref u.2.2.2.2.2.2.2.2.2.2.2.2.2.2.1, .ref u.2.2.2.2.2.2.2.2.2.2.2.2.2.2.2.1, .int u.2.2.2.2.2.2.2.2.2.2.2.2.2.2.2.2.2.2.2.2.2.2.2.2.2.2.2.2.2.2.2.2.2.2.2.2.2.2.2.2.2.2.2.2.2.2.2.2.2.2.2.2.2.2.2.2.1])), (u.2.2.2.2.2.2.2.2.2.2.2.2.2.2.1, .inl (G.2.2.1, 16, .inl u.2.2.2.2.2.2.2.2.2.2.2.2.2.2.2.2.2.2.2.2.2.2.2.2.2.2.2.2.2.2.2.2.2.2.2.2.2.2.2.2.2.2.2.2.2.2.2.2.2.2.2.2.2.2.2.2.2.2.1)), (u.2.2.2.2.2.2.2.2.2.2.2.2.2.2.2.1, .inl (G.2.2.1, 288, .inl u.2.2.2.2.2.2.2.2.2.2.2.2.2.2.2.2.2.2.2.2.2.2.2.2.2.2.2.2.2.2.2.2.2.2.2.2.2.2.2.2.2.2.2.2.2.2.2.2.2.2.2.2.2.2.2.2.2.2.2.1)), (u.2.2.2.2.2.2.2.2.2.2.2.2.2.2.2.2.1, .inr (1, [.ref u.2.2.2.2.2.2.2.2.2.2.2.2.2.2.2.2.2.1, .ref u.2.2.2.2.2.2.2.2.2.2.2.2.2.2.2.2.2.2.1, .int u.2.2.2.2.2.2.2.2.2.2.2.2.2.2.2.2.2.2.2.2.2.2.2.2.2.2.2.2.2.2.2.2.2.2.2.2.2.2.2.2.2.2.2.2.2.2.2.2.2.2.2.2.2.2.2.2.2.1])), (u.2.2.2.2.2.2.2.2.2.2.2.2.2.2.2.2.2.1, .inl (G.2.2.1, 16, .inl u.2.2.2.2.2.2.2.2.2.2.2.2.2.2.2.2.2.2.2.2.2.2.2.2.2.2.2.2.2.2.2.2.2.2.2.2.2.2.2.2.2.2.2.2.2.2.2.2.2.2.2.2.2.2.2.2.2.2.2.2.1)), (u.2.2.2.2.2.2.2.2.2.2.2.2.2.2.2.2.2.2.1, .inl (G.2.2.1, 32, .inl u.2.2.2.2.2.2.2.2.2.2.2.2.2.2.2.2.2.2.2.2.2.2.2.2.2.2.2.2.2.2.2.2.2.2.2.2.2.2.2.2.2.2.2.2.2.2.2.2.2.2.2.2.2.2.2.2.2.2.2.2.2)), (u.2.2.2.2.2.2.2.2.2.2.2.2.2.2.2.2.2.2.2.1, .inr (1, [.ref u.2.2.2.2.2.2.2.2.2.2.2.2.2.2.2.2.2.2.2.2.1, .ref u.2.2.2.2.2.2.2.2.2.2.2.2.2.2.2.2.2.2.2.2.2.1, .int 0])), (u.2.2.2.2.2.2.2.2.2.2.2.2.2.2.2.2.2.2.2.2.1, .inl (G.2.2.1, 16, .inl (fun _ => 0))), (u.2.2.2.2.2.2.2.2.2.2.2.2.2.2.2.2.2.2.2.2.2.1, .inl (G.2.2.1, 286, .inl (fun _ => 0))), (u.2.2.2.2.2.2.2.2.2.2.2.2.2.2.2.2.2.2.2.2.2.2.1, .inr (1, [.ref u.2.2.2.2.2.2.2.2.2.2.2.2.2.2.2.2.2.2.2.2.2.2.2.1, .ref u.2.2.2.2.2.2.2.2.2.2.2.2.2.2.2.2.2.2.2.2.2.2.2.2.1, .int 0])), (u.2.2.2.2.2.2.2.2.2.2.2.2.2.2.2.2.2.2.2.2.2.2.2.1, .inl (G.2.2.1, 16, .inl (fun _ => 0))), (u.2.2.2.2.2.2.2.2.2.2.2.2.2.2.2.2.2.2.2.2.2.2.2.2.1, .inl (G.2.2.1, 30, .inl (fun _ => 0))), (u.2.2.2.2.2.2.2.2.2.2.2.2.2.2.2.2.2.2.2.2.2.2.2.2.2.1, .inr (1, [.ref u.2.2.2.2.2.2.2.2.2.2.2.2.2.2.2.2.2.2.2.2.2.2.2.2.2.2.1, .ref u.2.2.2.2.2.2.2.2.2.2.2.2.2.2.2.2.2.2.2.2.2.2.2.2.2.2.2.1, .int 0])), (u.2.2.2.2.2.2.2.2.2.2.2.2.2.2.2.2.2.2.2.2.2.2.2.2.2.2.1, .inl (G.2.2.1, 16, .inl (fun _ => 0))), (u.2.2.2.2.2.2.2.2.2.2.2.2.2.2.2.2.2.2.2.2.2.2.2.2.2.2.2.1, .inl (G.2.2.1, 19, .inl (fun _ => 0))), (u.2.2.2.2.2.2.2.2.2.2.2.2.2.2.2.2.2.2.2.2.2.2.2.2.2.2.2.2.1, .inr (6, [.ref u.2.2.2.2.2.2.2.2.2.2.2.2.2.2.2.2.2.2.2.2.2.2.2.2.2.2.2.2.2.1, .ref u.2.2.2.2.2.2.2.2.2.2.2.2.2.2.2.2.2.2.2.2.2.2.2.2.2.2.2.2.2.2.2.1])), (u.2.2.2.2.2.2.2.2.2.2.2.2.2.2.2.2.2.2.2.2.2.2.2.2.2.2.2.2.2.1, .inr (0, [.ref u.2.2.2.2.2.2.2.2.2.2.2.2.2.2.2.2.2.2.2.2.2.2.2.2.2.2.2.2.2.2.1, .int 0])), (u.2.2.2.2.2.2.2.2.2.2.2.2.2.2.2.2.2.2.2.2.2.2.2.2.2.2.2.2.2.2.1, .inl (G.2.1, 14006, .inl (fun _ => 0))), (u.2.2.2.2.2.2.2.2.2.2.2.2.2.2.2.2.2.2.2.2.2.2.2.2.2.2.2.2.2.2.2.1, .inl (G.2.2.1, 16, .inl (fun _ => 0))), (u.2.2.2.2.2.2.2.2.2.2.2.2.2.2.2.2.2.2.2.2.2.2.2.2.2.2.2.2.2.2.2.2.1, .inr (7, [.ref u.2.2.2.2.2.2.2.2.2.2.2.2.2.2.2.2.2.2.2.2.2.2.2.2.2.2.2.2.2.2.2.2.2.2.2.2.2.2.2.2.2.2.2.2.2.2.2.2.2.2.2.2.2.2.1])), (u.2.2.2.2.2.2.2.2.2.2.2.2.2.2.2.2.2.2.2.2.2.2.2.2.2.2.2.2.2.2.2.2.2.1, .inr (8, [.ref u.2.2.2.2.2.2.2.2.2.2.2.2.2.2.2.2.2.2.2.2.2.2.2.2.2.2.2.2.2.2.2.2.2.2.1, .ref u.2.2.2.2.2.2.2.2.2.2.2.2.2.2.2.2.2.2.2.2.2.2.2.2.2.2.2.2.2.2.2.2.2.2.2.1, .ref u.2.2.2.2.2.2.2.2.2.2.2.2.2.2.2.2.2.2.2.2.2.2.2.2.2.2.2.2.2.2.2.2.2.2.2.2.1, .ref u.2.2.2.2.2.2.2.2.2.2.2.2.2.2.2.2.2.2.2.2.2.2.2.2.2.2.2.2.2.2.2.2.2.2.2.2.2.2.2.2.2.2.2.2.2.2.2.2.2.2.2.2.2.2.2.1, .int 0, .int (-1), .int 0, .int 0, .int 0, .int 0, .int 0, .int 0, .int 0])), (u.2.2.2.2.2.2.2.2.2.2.2.2.2.2.2.2.2.2.2.2.2.2.2.2.2.2.2.2.2.2.2.2.2.2.1, .inl (G.2.2.2.1, 200, .inr (.inl (fun _ => 0)))), (u.2.2.2.2.2.2.2.2.2.2.2.2.2.2.2.2.2.2.2.2.2.2.2.2.2.2.2.2.2.2.2.2.2.2.2.1, .inl (G.2.2.1, 200, .inl (fun _ => 0))), (u.2.2.2.2.2.2.2.2.2.2.2.2.2.2.2.2.2.2.2.2.2.2.2.2.2.2.2.2.2.2.2.2.2.2.2.2.1, .inl (G.2.1, 24, .inl (fun _ => 0))), (u.2.2.2.2.2.2.2.2.2.2.2.2.2.2.2.2.2.2.2.2.2.2.2.2.2.2.2.2.2.2.2.2.2.2.2.2.2.1, .inr (2, [.ref u.2.2.2.2.2.2.2.2.2.2.2.2.2.2.2.2.2.2.2.2.2.2.2.2.2.2.2.2.2.2.2.2.2.2.2.2.2.2.1, .ref u.2.2.2.2.2.2.2.2.2.2.2.2.2.2.2.2.2.2.2.2.2.2.2.2.2.2.2.2.2.2.2.2.2.2.2.2.2.2.2.1, .ref u.2.2.2.2.2.2.2.2.2.2.2.2.2.2.2.2.2.2.2.2.2.2.2.2.2.2.2.2.2.2.2.2.2.2.2.2.2.2.2.2.1, .int 0])), (u.2.2.2.2.2.2.2.2.2.2.2.2.2.2.2.2.2.2.2.2.2.2.2.2.2.2.2.2.2.2.2.2.2.2.2.2.2.2.1, .inl (G.2.2.1, 1232, .inl (fun _ => 0))), (u.2.2.2.2.2.2.2.2.2.2.2.2.2.2.2.2.2.2.2.2.2.2.2.2.2.2.2.2.2.2.2.2.2.2.2.2.2.2.2.1, .inl (G.2.2.1, 1232, .inl (fun _ => 0))), (u.2.2.2.2.2.2.2.2.2.2.2.2.2.2.2.2.2.2.2.2.2.2.2.2.2.2.2.2.2.2.2.2.2.2.2.2.2.2.2.2.1, .inl (G.2.2.1, 1232, .inl (fun _ => 0))), (u.2.2.2.2.2.2.2.2.2.2.2.2.2.2.2.2.2.2.2.2.2.2.2.2.2.2.2.2.2.2.2.2.2.2.2.2.2.2.2.2.2.1, .inl (G.2.2.1, 16, .inl (fun _ => 0))), (u.2.2.2.2.2.2.2.2.2.2.2.2.2.2.2.2.2.2.2.2.2.2.2.2.2.2.2.2.2.2.2.2.2.2.2.2.2.2.2.2.2.2.1, .inr (3, [.ref u.2.2.2.2.2.2.2.2.2.2.2.2.2.2.2.2.2.2.2.2.2.2.2.2.2.2.2.2.2.2.2.2.2.2.2.2.2.2.2.2.2.2.2.1, .ref u.2.2.2.2.2.2.2.2.2.2.2.2.2.2.2.2.2.2.2.2.2.2.2.2.2.2.2.2.2.2.2.2.2.2.2.2.2.2.2.2.2.2.2.2.1, .ref u.2.2.2.2.2.2.2.2.2.2.2.2.2.2.2.2.2.2.2.2.2.2.2.2.2.2.2.2.2.2.2.2.2.2.2.2.2.2.2.2.2.2.2.2.2.1, .ref u.2.2.2.2.2.2.2.2.2.2.2.2.2.2.2.2.2.2.2.2.2.2.2.2.2.2.2.2.2.2.2.2.2.2.2.2.2.2.2.2.2.2.2.2.2.2.1, .int 0])), (u.2.2.2.2.2.2.2.2.2.2.2.2.2.2.2.2.2.2.2.2.2.2.2.2.2.2.2.2.2.2.2.2.2.2.2.2.2.2.2.2.2.2.2.1, .inl (G.2.1, 384, .inl (fun _ => 0))), (u.2.2.2.2.2.2.2.2.2.2.2.2.2.2.2.2.2.2.2.2.2.2.2.2.2.2.2.2.2.2.2.2.2.2.2.2.2.2.2.2.2.2.2.2.1, .inl (G.2.2.1, 16, .inl (fun _ => 0))), (u.2.2.2.2.2.2.2.2.2.2.2.2.2.2.2.2.2.2.2.2.2.2.2.2.2.2.2.2.2.2.2.2.2.2.2.2.2.2.2.2.2.2.2.2.2.1, .inl (G.2.1, 12000, .inl (fun _ => 0))), (u.2.2.2.2.2.2.2.2.2.2.2.2.2.2.2.2.2.2.2.2.2.2.2.2.2.2.2.2.2.2.2.2.2.2.2.2.2.2.2.2.2.2.2.2.2.2.1, .inl (G.2.2.1, 17, .inl (fun _ => 0))), (u.2.2.2.2.2.2.2.2.2.2.2.2.2.2.2.2.2.2.2.2.2.2.2.2.2.2.2.2.2.2.2.2.2.2.2.2.2.2.2.2.2.2.2.2.2.2.2.1, .inr (3, [.ref u.2.2.2.2.2.2.2.2.2.2.2.2.2.2.2.2.2.2.2.2.2.2.2.2.2.2.2.2.2.2.2.2.2.2.2.2.2.2.2.2.2.2.2.2.2.2.2.2.1, .ref u.2.2.2.2.2.2.2.2.2.2.2.2.2.2.2.2.2.2.2.2.2.2.2.2.2.2.2.2.2.2.2.2.2.2.2.2.2.2.2.2.2.2.2.2.2.2.2.2.2.1, .ref u.2.2.2.2.2.2.2.2.2.2.2.2.2.2.2.2.2.2.2.2.2.2.2.2.2.2.2.2.2.2.2.2.2.2.2.2.2.2.2.2.2.2.2.2.2.2.2.2.2.2.1, .ref u.2.2.2.2.2.2.2.2.2.2.2.2.2.2.2.2.2.2.2.2.2.2.2.2.2.2.2.2.2.2.2.2.2.2.2.2.2.2.2.2.2.2.2.2.2.2.2.2.2.2.2.1, .int 0])), (u.2.2.2.2.2.2.2.2.2.2.2.2.2.2.2.2.2.2.2.2.2.2.2.2.2.2.2.2.2.2.2.2.2.2.2.2.2.2.2.2.2.2.2.2.2.2.2.2.1, .inl (G.2.1, 384, .inl (fun _ => 0))), (u.2.2.2.2.2.2.2.2.2.2.2.2.2.2.2.2.2.2.2.2.2.2.2.2.2.2.2.2.2.2.2.2.2.2.2.2.2.2.2.2.2.2.2.2.2.2.2.2.2.1, .inl (G.2.2.1, 16, .inl (fun _ => 0))), (u.2.2.2.2.2.2.2.2.2.2.2.2.2.2.2.2.2.2.2.2.2.2.2.2.2.2.2.2.2.2.2.2.2.2.2.2.2.2.2.2.2.2.2.2.2.2.2.2.2.2.1, .inl (G.2.1, 12000, .inl (fun _ => 0))), (u.2.2.2.2.2.2.2.2.2.2.2.2.2.2.2.2.2.2.2.2.2.2.2.2.2.2.2.2.2.2.2.2.2.2.2.2.2.2.2.2.2.2.2.2.2.2.2.2.2.2.2.1, .inl (G.2.2.1, 17, .inl (fun _ => 0)))]) := sorry
