theorem d_Expander_init_0 : decode prog_3_method_1_code 0 = .ok (.aload_n 0, 1) := by decide +kernel
theorem d_Expander_init_1 : decode prog_3_method_1_code 1 = .ok (.invokespecial 3, 3) := by decide +kernel
theorem k_217 : (Jvm.Cond.methodLink "PackageBook$Expander" (3 : Nat) ({ cls := "java/lang/Object", name := "<init>", desc := "()V" } : Jvm.MethodName)) ∈ uW := uW_of 217 (by decide +kernel) (by decide +kernel)
theorem d_Expander_init_4 : decode prog_3_method_1_code 4 = .ok (.aload_n 0, 1) := by decide +kernel
theorem d_Expander_init_5 : decode prog_3_method_1_code 5 = .ok (.new 9, 3) := by decide +kernel
theorem k_218 : (Jvm.Cond.classLink "PackageBook$Expander" (9 : Nat) "PackageBook$Row") ∈ uW := uW_of 218 (by decide +kernel) (by decide +kernel)
theorem d_Expander_init_8 : decode prog_3_method_1_code 8 = .ok (.dup, 1) := by decide +kernel
theorem d_Expander_init_9 : decode prog_3_method_1_code 9 = .ok (.sipush 4000, 3) := by decide +kernel
theorem d_Expander_init_12 : decode prog_3_method_1_code 12 = .ok (.invokespecial 11, 3) := by decide +kernel
theorem k_219 : (Jvm.Cond.methodLink "PackageBook$Expander" (11 : Nat) ({ cls := "PackageBook$Row", name := "<init>", desc := "(I)V" } : Jvm.MethodName)) ∈ uW := uW_of 219 (by decide +kernel) (by decide +kernel)
theorem d_Expander_init_15 : decode prog_3_method_1_code 15 = .ok (.putfield 14, 3) := by decide +kernel
theorem k_248 : (Jvm.Cond.fieldLink "PackageBook$Expander" (14 : Nat) "PackageBook$Expander" "expanded" "LPackageBook$Row;") ∈ uW := uW_of 248 (by decide +kernel) (by decide +kernel)
theorem d_Expander_init_18 : decode prog_3_method_1_code 18 = .ok (.aload_n 0, 1) := by decide +kernel
theorem d_Expander_init_19 : decode prog_3_method_1_code 19 = .ok (.sipush 316, 3) := by decide +kernel
theorem d_Expander_init_22 : decode prog_3_method_1_code 22 = .ok (.newarray .int, 2) := by decide +kernel
theorem d_Expander_init_24 : decode prog_3_method_1_code 24 = .ok (.putfield 20, 3) := by decide +kernel
theorem k_251 : (Jvm.Cond.fieldLink "PackageBook$Expander" (20 : Nat) "PackageBook$Expander" "told" "[I") ∈ uW := uW_of 251 (by decide +kernel) (by decide +kernel)
theorem d_Expander_init_27 : decode prog_3_method_1_code 27 = .ok (.aload_n 0, 1) := by decide +kernel
theorem d_Expander_init_28 : decode prog_3_method_1_code 28 = .ok (.new 24, 3) := by decide +kernel
theorem k_220 : (Jvm.Cond.classLink "PackageBook$Expander" (24 : Nat) "PackageBook$Code") ∈ uW := uW_of 220 (by decide +kernel) (by decide +kernel)
theorem k_221 : (Jvm.Cond.instantiable "PackageBook$Code" (3 : Nat)) ∈ uW := uW_of 221 (by decide +kernel) (by decide +kernel)
theorem k_122 : (Jvm.Cond.initialized "PackageBook$Code") ∈ uW := uW_of 122 (by decide +kernel) (by decide +kernel)
theorem d_Expander_init_31 : decode prog_3_method_1_code 31 = .ok (.dup, 1) := by decide +kernel
theorem d_Expander_init_32 : decode prog_3_method_1_code 32 = .ok (.sipush 288, 3) := by decide +kernel
theorem d_Expander_init_35 : decode prog_3_method_1_code 35 = .ok (.invokespecial 26, 3) := by decide +kernel
theorem k_222 : (Jvm.Cond.methodLink "PackageBook$Expander" (26 : Nat) ({ cls := "PackageBook$Code", name := "<init>", desc := "(I)V" } : Jvm.MethodName)) ∈ uW := uW_of 222 (by decide +kernel) (by decide +kernel)
theorem k_224 : (Jvm.Cond.code ({ cls := "PackageBook$Code", name := "<init>", desc := "(I)V" } : Jvm.MethodName) prog_2_method_1_code (2 : Nat) (Option.none : Option Jvm.ClassFile.FieldType)) ∈ uW := uW_of 224 (by decide +kernel) (by decide +kernel)
theorem k_223 : (Jvm.Cond.instanceMethod ({ cls := "PackageBook$Code", name := "<init>", desc := "(I)V" } : Jvm.MethodName)) ∈ uW := uW_of 223 (by decide +kernel) (by decide +kernel)
theorem d_Expander_init_38 : decode prog_3_method_1_code 38 = .ok (.putfield 27, 3) := by decide +kernel
theorem k_252 : (Jvm.Cond.fieldLink "PackageBook$Expander" (27 : Nat) "PackageBook$Expander" "fixedFirst" "LPackageBook$Code;") ∈ uW := uW_of 252 (by decide +kernel) (by decide +kernel)
theorem d_Expander_init_41 : decode prog_3_method_1_code 41 = .ok (.aload_n 0, 1) := by decide +kernel
theorem d_Expander_init_42 : decode prog_3_method_1_code 42 = .ok (.new 24, 3) := by decide +kernel
theorem d_Expander_init_45 : decode prog_3_method_1_code 45 = .ok (.dup, 1) := by decide +kernel
theorem d_Expander_init_46 : decode prog_3_method_1_code 46 = .ok (.bipush 32, 2) := by decide +kernel
theorem d_Expander_init_48 : decode prog_3_method_1_code 48 = .ok (.invokespecial 26, 3) := by decide +kernel
theorem d_Expander_init_51 : decode prog_3_method_1_code 51 = .ok (.putfield 31, 3) := by decide +kernel
theorem k_253 : (Jvm.Cond.fieldLink "PackageBook$Expander" (31 : Nat) "PackageBook$Expander" "fixedSecond" "LPackageBook$Code;") ∈ uW := uW_of 253 (by decide +kernel) (by decide +kernel)
theorem d_Expander_init_54 : decode prog_3_method_1_code 54 = .ok (.aload_n 0, 1) := by decide +kernel
theorem d_Expander_init_55 : decode prog_3_method_1_code 55 = .ok (.new 24, 3) := by decide +kernel
theorem d_Expander_init_58 : decode prog_3_method_1_code 58 = .ok (.dup, 1) := by decide +kernel
theorem d_Expander_init_59 : decode prog_3_method_1_code 59 = .ok (.sipush 286, 3) := by decide +kernel
theorem d_Expander_init_62 : decode prog_3_method_1_code 62 = .ok (.invokespecial 26, 3) := by decide +kernel
theorem d_Expander_init_65 : decode prog_3_method_1_code 65 = .ok (.putfield 34, 3) := by decide +kernel
theorem k_254 : (Jvm.Cond.fieldLink "PackageBook$Expander" (34 : Nat) "PackageBook$Expander" "first" "LPackageBook$Code;") ∈ uW := uW_of 254 (by decide +kernel) (by decide +kernel)
theorem d_Expander_init_68 : decode prog_3_method_1_code 68 = .ok (.aload_n 0, 1) := by decide +kernel
theorem d_Expander_init_69 : decode prog_3_method_1_code 69 = .ok (.new 24, 3) := by decide +kernel
theorem d_Expander_init_72 : decode prog_3_method_1_code 72 = .ok (.dup, 1) := by decide +kernel
theorem d_Expander_init_73 : decode prog_3_method_1_code 73 = .ok (.bipush 30, 2) := by decide +kernel
theorem d_Expander_init_75 : decode prog_3_method_1_code 75 = .ok (.invokespecial 26, 3) := by decide +kernel
theorem d_Expander_init_78 : decode prog_3_method_1_code 78 = .ok (.putfield 37, 3) := by decide +kernel
theorem k_255 : (Jvm.Cond.fieldLink "PackageBook$Expander" (37 : Nat) "PackageBook$Expander" "second" "LPackageBook$Code;") ∈ uW := uW_of 255 (by decide +kernel) (by decide +kernel)
theorem d_Expander_init_81 : decode prog_3_method_1_code 81 = .ok (.aload_n 0, 1) := by decide +kernel
theorem d_Expander_init_82 : decode prog_3_method_1_code 82 = .ok (.new 24, 3) := by decide +kernel
theorem d_Expander_init_85 : decode prog_3_method_1_code 85 = .ok (.dup, 1) := by decide +kernel
theorem d_Expander_init_86 : decode prog_3_method_1_code 86 = .ok (.getstatic 40, 3) := by decide +kernel
theorem k_239 : (Jvm.Cond.fieldLink "PackageBook$Expander" (40 : Nat) "PackageBook$Expander" "THIRD_ORDER" "[I") ∈ uW := uW_of 239 (by decide +kernel) (by decide +kernel)
theorem d_Expander_init_89 : decode prog_3_method_1_code 89 = .ok (.arraylength, 1) := by decide +kernel
theorem d_Expander_init_90 : decode prog_3_method_1_code 90 = .ok (.invokespecial 26, 3) := by decide +kernel
theorem d_Expander_init_93 : decode prog_3_method_1_code 93 = .ok (.putfield 43, 3) := by decide +kernel
theorem k_256 : (Jvm.Cond.fieldLink "PackageBook$Expander" (43 : Nat) "PackageBook$Expander" "third" "LPackageBook$Code;") ∈ uW := uW_of 256 (by decide +kernel) (by decide +kernel)
theorem d_Expander_init_96 : decode prog_3_method_1_code 96 = .ok (.aload_n 0, 1) := by decide +kernel
theorem d_Expander_init_97 : decode prog_3_method_1_code 97 = .ok (.iconst 0, 1) := by decide +kernel
theorem d_Expander_init_98 : decode prog_3_method_1_code 98 = .ok (.newarray .byte, 2) := by decide +kernel
theorem d_Expander_init_100 : decode prog_3_method_1_code 100 = .ok (.putfield 46, 3) := by decide +kernel
theorem k_257 : (Jvm.Cond.fieldLink "PackageBook$Expander" (46 : Nat) "PackageBook$Expander" "row" "[B") ∈ uW := uW_of 257 (by decide +kernel) (by decide +kernel)
theorem d_Expander_init_103 : decode prog_3_method_1_code 103 = .ok (.sipush 320, 3) := by decide +kernel
theorem d_Expander_init_106 : decode prog_3_method_1_code 106 = .ok (.newarray .int, 2) := by decide +kernel
theorem d_Expander_init_108 : decode prog_3_method_1_code 108 = .ok (.astore_n 1, 1) := by decide +kernel
theorem d_Expander_init_109 : decode prog_3_method_1_code 109 = .ok (.aload_n 1, 1) := by decide +kernel
theorem d_Expander_init_110 : decode prog_3_method_1_code 110 = .ok (.iconst 0, 1) := by decide +kernel
theorem d_Expander_init_111 : decode prog_3_method_1_code 111 = .ok (.sipush 144, 3) := by decide +kernel
theorem d_Expander_init_114 : decode prog_3_method_1_code 114 = .ok (.bipush 8, 2) := by decide +kernel
theorem d_Expander_init_116 : decode prog_3_method_1_code 116 = .ok (.invokestatic 50, 3) := by decide +kernel
theorem k_241 : (Jvm.Cond.methodLink "PackageBook$Expander" (50 : Nat) ({ cls := "PackageBook$Expander", name := "setAll", desc := "([IIII)V" } : Jvm.MethodName)) ∈ uW := uW_of 241 (by decide +kernel) (by decide +kernel)
theorem k_121 : (Jvm.Cond.initialized "PackageBook$Expander") ∈ uW := uW_of 121 (by decide +kernel) (by decide +kernel)
theorem k_243 : (Jvm.Cond.code ({ cls := "PackageBook$Expander", name := "setAll", desc := "([IIII)V" } : Jvm.MethodName) prog_3_method_2_code (5 : Nat) (Option.none : Option Jvm.ClassFile.FieldType)) ∈ uW := uW_of 243 (by decide +kernel) (by decide +kernel)
theorem k_242 : (Jvm.Cond.static ({ cls := "PackageBook$Expander", name := "setAll", desc := "([IIII)V" } : Jvm.MethodName)) ∈ uW := uW_of 242 (by decide +kernel) (by decide +kernel)
theorem d_Expander_init_119 : decode prog_3_method_1_code 119 = .ok (.aload_n 1, 1) := by decide +kernel
theorem d_Expander_init_120 : decode prog_3_method_1_code 120 = .ok (.sipush 144, 3) := by decide +kernel
theorem d_Expander_init_123 : decode prog_3_method_1_code 123 = .ok (.sipush 256, 3) := by decide +kernel
theorem d_Expander_init_126 : decode prog_3_method_1_code 126 = .ok (.bipush 9, 2) := by decide +kernel
theorem d_Expander_init_128 : decode prog_3_method_1_code 128 = .ok (.invokestatic 50, 3) := by decide +kernel
theorem d_Expander_init_131 : decode prog_3_method_1_code 131 = .ok (.aload_n 1, 1) := by decide +kernel
theorem d_Expander_init_132 : decode prog_3_method_1_code 132 = .ok (.sipush 256, 3) := by decide +kernel
theorem d_Expander_init_135 : decode prog_3_method_1_code 135 = .ok (.sipush 280, 3) := by decide +kernel
theorem d_Expander_init_138 : decode prog_3_method_1_code 138 = .ok (.bipush 7, 2) := by decide +kernel
theorem d_Expander_init_140 : decode prog_3_method_1_code 140 = .ok (.invokestatic 50, 3) := by decide +kernel
theorem d_Expander_init_143 : decode prog_3_method_1_code 143 = .ok (.aload_n 1, 1) := by decide +kernel
theorem d_Expander_init_144 : decode prog_3_method_1_code 144 = .ok (.sipush 280, 3) := by decide +kernel
theorem d_Expander_init_147 : decode prog_3_method_1_code 147 = .ok (.sipush 288, 3) := by decide +kernel
theorem d_Expander_init_150 : decode prog_3_method_1_code 150 = .ok (.bipush 8, 2) := by decide +kernel
theorem d_Expander_init_152 : decode prog_3_method_1_code 152 = .ok (.invokestatic 50, 3) := by decide +kernel
theorem d_Expander_init_155 : decode prog_3_method_1_code 155 = .ok (.aload_n 1, 1) := by decide +kernel
theorem d_Expander_init_156 : decode prog_3_method_1_code 156 = .ok (.sipush 288, 3) := by decide +kernel
theorem d_Expander_init_159 : decode prog_3_method_1_code 159 = .ok (.sipush 320, 3) := by decide +kernel
theorem d_Expander_init_162 : decode prog_3_method_1_code 162 = .ok (.iconst 5, 1) := by decide +kernel
theorem d_Expander_init_163 : decode prog_3_method_1_code 163 = .ok (.invokestatic 50, 3) := by decide +kernel
theorem d_Expander_init_166 : decode prog_3_method_1_code 166 = .ok (.aload_n 0, 1) := by decide +kernel
theorem d_Expander_init_167 : decode prog_3_method_1_code 167 = .ok (.getfield 27, 3) := by decide +kernel
theorem d_Expander_init_170 : decode prog_3_method_1_code 170 = .ok (.aload_n 1, 1) := by decide +kernel
theorem d_Expander_init_171 : decode prog_3_method_1_code 171 = .ok (.iconst 0, 1) := by decide +kernel
theorem d_Expander_init_172 : decode prog_3_method_1_code 172 = .ok (.sipush 288, 3) := by decide +kernel
theorem d_Expander_init_175 : decode prog_3_method_1_code 175 = .ok (.invokevirtual 54, 3) := by decide +kernel
theorem k_244 : (Jvm.Cond.methodLink "PackageBook$Expander" (54 : Nat) ({ cls := "PackageBook$Code", name := "tell", desc := "([III)V" } : Jvm.MethodName)) ∈ uW := uW_of 244 (by decide +kernel) (by decide +kernel)
theorem k_247 : (Jvm.Cond.code ({ cls := "PackageBook$Code", name := "tell", desc := "([III)V" } : Jvm.MethodName) prog_2_method_2_code (7 : Nat) (Option.none : Option Jvm.ClassFile.FieldType)) ∈ uW := uW_of 247 (by decide +kernel) (by decide +kernel)
theorem k_245 : (Jvm.Cond.instanceMethod ({ cls := "PackageBook$Code", name := "tell", desc := "([III)V" } : Jvm.MethodName)) ∈ uW := uW_of 245 (by decide +kernel) (by decide +kernel)
theorem k_246 : (Jvm.Cond.selects "PackageBook$Code" ({ cls := "PackageBook$Code", name := "tell", desc := "([III)V" } : Jvm.MethodName) ({ cls := "PackageBook$Code", name := "tell", desc := "([III)V" } : Jvm.MethodName)) ∈ uW := uW_of 246 (by decide +kernel) (by decide +kernel)
theorem d_Expander_init_178 : decode prog_3_method_1_code 178 = .ok (.aload_n 0, 1) := by decide +kernel
theorem d_Expander_init_179 : decode prog_3_method_1_code 179 = .ok (.getfield 31, 3) := by decide +kernel
theorem d_Expander_init_182 : decode prog_3_method_1_code 182 = .ok (.aload_n 1, 1) := by decide +kernel
theorem d_Expander_init_183 : decode prog_3_method_1_code 183 = .ok (.sipush 288, 3) := by decide +kernel
theorem d_Expander_init_186 : decode prog_3_method_1_code 186 = .ok (.bipush 32, 2) := by decide +kernel
theorem d_Expander_init_188 : decode prog_3_method_1_code 188 = .ok (.invokevirtual 54, 3) := by decide +kernel
theorem d_Expander_init_191 : decode prog_3_method_1_code 191 = .ok (.return_, 1) := by decide +kernel
abbrev y_Expander_init : MethodName := ⟨"PackageBook$Expander", "<init>", "()V"⟩
abbrev i_Expander_init : pb_I := (y_Expander_init, prog_3_method_1_code, 2, (Option.none : Option Jvm.ClassFile.FieldType), [], { frames := 2, cells := 20, slots := 17233, locals := 41 })
set_option maxRecDepth 100000 in
set_option maxHeartbeats 4000000 in
theorem c_Exp_init {l : Launch} (hl : l.stackTraces = false) (G : pb_G) (h : Nat) : Cn l G i_Expander_init [.ref h] [(h, .inr (5, [.null, .null, .null, .null, .null, .null, .null, .null, .int 0, .int 0, .int 0]))] (S := Nat × Nat × Nat × Nat × Nat × Nat × Nat × Nat × Nat × Nat × Nat × Nat × Nat × Nat × Nat × Nat × Nat × Nat × Nat × Int32 × Int32 × (Nat → Int32) × (Nat → Int32) × (Nat → Int32) × (Nat → Int32)) (fun v u => v = none) (fun u => [(h, .inr (5, [.ref u.1, .ref u.2.2.1, .ref u.2.2.2.1, .ref u.2.2.2.2.2.2.1, .ref u.2.2.2.2.2.2.2.2.2.1, .ref u.2.2.2.2.2.2.2.2.2.2.2.2.1, .ref u.2.2.2.2.2.2.2.2.2.2.2.2.2.2.2.1, .ref u.2.2.2.2.2.2.2.2.2.2.2.2.2.2.2.2.2.2.1, .int 0, .int 0, .int 0])), (u.1, .inr (0, [.ref u.2.1, .int 0])), (u.2.1, .inl (G.2.1, 4000, .inl (fun _ => 0))), (u.2.2.1, .inl (G.2.2.1, 316, .inl (fun _ => 0))), (u.2.2.2.1, .inr (1, [.ref u.2.2.2.2.1, .ref u.2.2.2.2.2.1, .int u.2.2.2.2.2.2.2.2.2.2.2.2.2.2.2.2.2.2.2.1])), (u.2.2.2.2.1, .inl (G.2.2.1, 16, .inl u.2.2.2.2.2.2.2.2.2.2.2.2.2.2.2.2.2.2.2.2.2.1)), (u.2.2.2.2.2.1, .inl (G.2.2.1, 288, .inl u.2.2.2.2.2.2.2.2.2.2.2.2.2.2.2.2.2.2.2.2.2.2.1)), (u.2.2.2.2.2.2.1, .inr (1, [.ref u.2.2.2.2.2.2.2.1, .ref u.2.2.2.2.2.2.2.2.1, .int u.2.2.2.2.2.2.2.2.2.2.2.2.2.2.2.2.2.2.2.2.1])), (u.2.2.2.2.2.2.2.1, .inl (G.2.2.1, 16, .inl u.2.2.2.2.2.2.2.2.2.2.2.2.2.2.2.2.2.2.2.2.2.2.2.1)), (u.2.2.2.2.2.2.2.2.1, .inl (G.2.2.1, 32, .inl u.2.2.2.2.2.2.2.2.2.2.2.2.2.2.2.2.2.2.2.2.2.2.2.2)), (u.2.2.2.2.2.2.2.2.2.1, .inr (1, [.ref u.2.2.2.2.2.2.2.2.2.2.1, .ref u.2.2.2.2.2.2.2.2.2.2.2.1, .int 0])), (u.2.2.2.2.2.2.2.2.2.2.1, .inl (G.2.2.1, 16, .inl (fun _ => 0))), (u.2.2.2.2.2.2.2.2.2.2.2.1, .inl (G.2.2.1, 286, .inl (fun _ => 0))), (u.2.2.2.2.2.2.2.2.2.2.2.2.1, .inr (1, [.ref u.2.2.2.2.2.2.2.2.2.2.2.2.2.1, .ref u.2.2.2.2.2.2.2.2.2.2.2.2.2.2.1, .int 0])), (u.2.2.2.2.2.2.2.2.2.2.2.2.2.1, .inl (G.2.2.1, 16, .inl (fun _ => 0))), (u.2.2.2.2.2.2.2.2.2.2.2.2.2.2.1, .inl (G.2.2.1, 30, .inl (fun _ => 0))), (u.2.2.2.2.2.2.2.2.2.2.2.2.2.2.2.1, .inr (1, [.ref u.2.2.2.2.2.2.2.2.2.2.2.2.2.2.2.2.1, .ref u.2.2.2.2.2.2.2.2.2.2.2.2.2.2.2.2.2.1, .int 0])), (u.2.2.2.2.2.2.2.2.2.2.2.2.2.2.2.2.1, .inl (G.2.2.1, 16, .inl (fun _ => 0))), (u.2.2.2.2.2.2.2.2.2.2.2.2.2.2.2.2.2.1, .inl (G.2.2.1, 19, .inl (fun _ => 0))), (u.2.2.2.2.2.2.2.2.2.2.2.2.2.2.2.2.2.2.1, .inl (G.2.1, 0, .inl (fun _ => 0)))]) := by
  refine Cn.of hl (by decide +kernel) rfl (Nat.le_of_ble_eq_true rfl) (fun M hQ => ?_)
  refine pb_eq (pc' := 0) (lo' := [(0, .ref h)]) (rest' := []) (ws' := [(h, .inr (5, [.null, .null, .null, .null, .null, .null, .null, .null, .int 0, .int 0, .int 0]))]) ?_
  refine pb_aload_n (pc := 0) d_Expander_init_0 0 rfl rfl ?_
  refine pb_objInit (pc := 1) d_Expander_init_1 k_217 k_148 k_149 (by decide) (Nat.le_of_ble_eq_true rfl) ?_
  refine pb_aload_n (pc := 4) d_Expander_init_4 0 rfl rfl ?_
  refine pb_new (pc := 5) (ci := 0) (fs := [.null, .int 0]) d_Expander_init_5 t_Row t_Row_ok rfl in_Row k_218 k_151 k_119 (by decide) (by decide) (by decide) (fun q1 => ?_)
  refine pb_eq (pc' := 8) (lo' := [(0, .ref h)]) (rest' := [.ref q1, .ref h]) (ws' := [(h, .inr (5, [.null, .null, .null, .null, .null, .null, .null, .null, .int 0, .int 0, .int 0])), (q1, .inr (0, [.null, .int 0]))]) ?_
  refine pb_dup (pc := 8) d_Expander_init_8 rfl ?_
  refine pb_sipush (pc := 9) (v := 4000) d_Expander_init_9 (by decide) ?_
  refine pb_callI (pc := 12) (rest := [.ref q1, .ref h]) d_Expander_init_12 (c_Row_init hl G q1 4000 4000 (by decide) (by decide) (by decide)) [1] [0] (by decide) rfl rfl rfl (by decide) (by decide) k_154 rfl k_119 k_219 k_153 rfl (by decide +kernel) (by decide) rfl (Nat.le_of_ble_eq_true rfl) (by decide) (fun v9 u3 h2 => ?_)
  obtain ⟨q_4, rfl⟩ : ∃ z9, z9 = u3 := ⟨_, rfl⟩
  have eh2 := h2
  have eh2 : v9 = none := eh2
  subst eh2
  refine pb_eq (pc' := 15) (lo' := [(0, .ref h)]) (rest' := [.ref q1, .ref h]) (ws' := [(h, .inr (5, [.null, .null, .null, .null, .null, .null, .null, .null, .int 0, .int 0, .int 0])), (q1, .inr (0, [.ref q_4, .int 0])), (q_4, .inl (G.2.1, 4000, .inl (fun _ => 0)))]) ?_
  refine pb_putF (pc := 15) (ty := (.object "PackageBook$Row")) (ws' := [(h, .inr (5, [.ref q1, .null, .null, .null, .null, .null, .null, .null, .int 0, .int 0, .int 0])), (q1, .inr (0, [.ref q_4, .int 0])), (q_4, .inl (G.2.1, 4000, .inl (fun _ => 0)))]) d_Expander_init_15 0 0 t_Expander t_Expander_ok n_Expander rfl rfl (by decide) in_Expander k_248 rfl rfl rfl (by decide +kernel) rfl rfl (Nat.le_of_ble_eq_true rfl) rfl ?_
  refine pb_aload_n (pc := 18) d_Expander_init_18 0 rfl rfl ?_
  refine pb_sipush (pc := 19) (v := 316) d_Expander_init_19 (by decide) ?_
  refine pb_newi (pc := 22) (N := 316) d_Expander_init_22 k_211 (by decide) (by decide) (by decide) (by decide) (by decide) (fun q5 => ?_)
  refine pb_eq (pc' := 24) (lo' := [(0, .ref h)]) (rest' := [.ref q5, .ref h]) (ws' := [(h, .inr (5, [.ref q1, .null, .null, .null, .null, .null, .null, .null, .int 0, .int 0, .int 0])), (q1, .inr (0, [.ref q_4, .int 0])), (q_4, .inl (G.2.1, 4000, .inl (fun _ => 0))), (q5, .inl (G.2.2.1, 316, .inl (fun _ => 0)))]) ?_
  refine pb_putF (pc := 24) (ty := (.array .int)) (ws' := [(h, .inr (5, [.ref q1, .ref q5, .null, .null, .null, .null, .null, .null, .int 0, .int 0, .int 0])), (q1, .inr (0, [.ref q_4, .int 0])), (q_4, .inl (G.2.1, 4000, .inl (fun _ => 0))), (q5, .inl (G.2.2.1, 316, .inl (fun _ => 0)))]) d_Expander_init_24 0 1 t_Expander t_Expander_ok n_Expander rfl rfl (by decide) in_Expander k_251 rfl rfl rfl (by decide +kernel) rfl rfl (Nat.le_of_ble_eq_true rfl) rfl ?_
  refine pb_aload_n (pc := 27) d_Expander_init_27 0 rfl rfl ?_
  refine pb_new (pc := 28) (ci := 1) (fs := [.null, .null, .int 0]) d_Expander_init_28 t_Code t_Code_ok rfl in_Code k_220 k_221 k_122 (by decide) (by decide) (by decide) (fun q6 => ?_)
  refine pb_eq (pc' := 31) (lo' := [(0, .ref h)]) (rest' := [.ref q6, .ref h]) (ws' := [(h, .inr (5, [.ref q1, .ref q5, .null, .null, .null, .null, .null, .null, .int 0, .int 0, .int 0])), (q1, .inr (0, [.ref q_4, .int 0])), (q_4, .inl (G.2.1, 4000, .inl (fun _ => 0))), (q5, .inl (G.2.2.1, 316, .inl (fun _ => 0))), (q6, .inr (1, [.null, .null, .int 0]))]) ?_
  refine pb_dup (pc := 31) d_Expander_init_31 rfl ?_
  refine pb_sipush (pc := 32) (v := 288) d_Expander_init_32 (by decide) ?_
  refine pb_callI (pc := 35) (rest := [.ref q6, .ref h]) d_Expander_init_35 (c_Code_init hl G q6 288 288 (by decide) (by decide) (by decide)) [4] [0, 1, 2, 3] (by decide) rfl rfl rfl (by decide) (by decide) k_224 rfl k_122 k_222 k_223 rfl (by decide +kernel) (by decide) rfl (Nat.le_of_ble_eq_true rfl) (by decide) (fun v9 u8 h7 => ?_)
  obtain ⟨c_9, y_10⟩ := u8
  have eh7 := h7
  have eh7 : v9 = none := eh7
  subst eh7
  refine pb_eq (pc' := 38) (lo' := [(0, .ref h)]) (rest' := [.ref q6, .ref h]) (ws' := [(h, .inr (5, [.ref q1, .ref q5, .null, .null, .null, .null, .null, .null, .int 0, .int 0, .int 0])), (q1, .inr (0, [.ref q_4, .int 0])), (q_4, .inl (G.2.1, 4000, .inl (fun _ => 0))), (q5, .inl (G.2.2.1, 316, .inl (fun _ => 0))), (q6, .inr (1, [.ref c_9, .ref y_10, .int 0])), (c_9, .inl (G.2.2.1, 16, .inl (fun _ => 0))), (y_10, .inl (G.2.2.1, 288, .inl (fun _ => 0)))]) ?_
  refine pb_putF (pc := 38) (ty := (.object "PackageBook$Code")) (ws' := [(h, .inr (5, [.ref q1, .ref q5, .ref q6, .null, .null, .null, .null, .null, .int 0, .int 0, .int 0])), (q1, .inr (0, [.ref q_4, .int 0])), (q_4, .inl (G.2.1, 4000, .inl (fun _ => 0))), (q5, .inl (G.2.2.1, 316, .inl (fun _ => 0))), (q6, .inr (1, [.ref c_9, .ref y_10, .int 0])), (c_9, .inl (G.2.2.1, 16, .inl (fun _ => 0))), (y_10, .inl (G.2.2.1, 288, .inl (fun _ => 0)))]) d_Expander_init_38 0 2 t_Expander t_Expander_ok n_Expander rfl rfl (by decide) in_Expander k_252 rfl rfl rfl (by decide +kernel) rfl rfl (Nat.le_of_ble_eq_true rfl) rfl ?_
  refine pb_aload_n (pc := 41) d_Expander_init_41 0 rfl rfl ?_
  refine pb_new (pc := 42) (ci := 1) (fs := [.null, .null, .int 0]) d_Expander_init_42 t_Code t_Code_ok rfl in_Code k_220 k_221 k_122 (by decide) (by decide) (by decide) (fun q11 => ?_)
  refine pb_eq (pc' := 45) (lo' := [(0, .ref h)]) (rest' := [.ref q11, .ref h]) (ws' := [(h, .inr (5, [.ref q1, .ref q5, .ref q6, .null, .null, .null, .null, .null, .int 0, .int 0, .int 0])), (q1, .inr (0, [.ref q_4, .int 0])), (q_4, .inl (G.2.1, 4000, .inl (fun _ => 0))), (q5, .inl (G.2.2.1, 316, .inl (fun _ => 0))), (q6, .inr (1, [.ref c_9, .ref y_10, .int 0])), (c_9, .inl (G.2.2.1, 16, .inl (fun _ => 0))), (y_10, .inl (G.2.2.1, 288, .inl (fun _ => 0))), (q11, .inr (1, [.null, .null, .int 0]))]) ?_
  refine pb_dup (pc := 45) d_Expander_init_45 rfl ?_
  refine pb_bipush (pc := 46) (v := 32) d_Expander_init_46 (by decide) ?_
  refine pb_callI (pc := 48) (rest := [.ref q11, .ref h]) d_Expander_init_48 (c_Code_init hl G q11 32 32 (by decide) (by decide) (by decide)) [7] [0, 1, 2, 3, 4, 5, 6] (by decide) rfl rfl rfl (by decide) (by decide) k_224 rfl k_122 k_222 k_223 rfl (by decide +kernel) (by decide) rfl (Nat.le_of_ble_eq_true rfl) (by decide) (fun v9 u13 h12 => ?_)
  obtain ⟨c_14, y_15⟩ := u13
  have eh12 := h12
  have eh12 : v9 = none := eh12
  subst eh12
  refine pb_eq (pc' := 51) (lo' := [(0, .ref h)]) (rest' := [.ref q11, .ref h]) (ws' := [(h, .inr (5, [.ref q1, .ref q5, .ref q6, .null, .null, .null, .null, .null, .int 0, .int 0, .int 0])), (q1, .inr (0, [.ref q_4, .int 0])), (q_4, .inl (G.2.1, 4000, .inl (fun _ => 0))), (q5, .inl (G.2.2.1, 316, .inl (fun _ => 0))), (q6, .inr (1, [.ref c_9, .ref y_10, .int 0])), (c_9, .inl (G.2.2.1, 16, .inl (fun _ => 0))), (y_10, .inl (G.2.2.1, 288, .inl (fun _ => 0))), (q11, .inr (1, [.ref c_14, .ref y_15, .int 0])), (c_14, .inl (G.2.2.1, 16, .inl (fun _ => 0))), (y_15, .inl (G.2.2.1, 32, .inl (fun _ => 0)))]) ?_
  refine pb_putF (pc := 51) (ty := (.object "PackageBook$Code")) (ws' := [(h, .inr (5, [.ref q1, .ref q5, .ref q6, .ref q11, .null, .null, .null, .null, .int 0, .int 0, .int 0])), (q1, .inr (0, [.ref q_4, .int 0])), (q_4, .inl (G.2.1, 4000, .inl (fun _ => 0))), (q5, .inl (G.2.2.1, 316, .inl (fun _ => 0))), (q6, .inr (1, [.ref c_9, .ref y_10, .int 0])), (c_9, .inl (G.2.2.1, 16, .inl (fun _ => 0))), (y_10, .inl (G.2.2.1, 288, .inl (fun _ => 0))), (q11, .inr (1, [.ref c_14, .ref y_15, .int 0])), (c_14, .inl (G.2.2.1, 16, .inl (fun _ => 0))), (y_15, .inl (G.2.2.1, 32, .inl (fun _ => 0)))]) d_Expander_init_51 0 3 t_Expander t_Expander_ok n_Expander rfl rfl (by decide) in_Expander k_253 rfl rfl rfl (by decide +kernel) rfl rfl (Nat.le_of_ble_eq_true rfl) rfl ?_
  refine pb_aload_n (pc := 54) d_Expander_init_54 0 rfl rfl ?_
  refine pb_new (pc := 55) (ci := 1) (fs := [.null, .null, .int 0]) d_Expander_init_55 t_Code t_Code_ok rfl in_Code k_220 k_221 k_122 (by decide) (by decide) (by decide) (fun q16 => ?_)
  refine pb_eq (pc' := 58) (lo' := [(0, .ref h)]) (rest' := [.ref q16, .ref h]) (ws' := [(h, .inr (5, [.ref q1, .ref q5, .ref q6, .ref q11, .null, .null, .null, .null, .int 0, .int 0, .int 0])), (q1, .inr (0, [.ref q_4, .int 0])), (q_4, .inl (G.2.1, 4000, .inl (fun _ => 0))), (q5, .inl (G.2.2.1, 316, .inl (fun _ => 0))), (q6, .inr (1, [.ref c_9, .ref y_10, .int 0])), (c_9, .inl (G.2.2.1, 16, .inl (fun _ => 0))), (y_10, .inl (G.2.2.1, 288, .inl (fun _ => 0))), (q11, .inr (1, [.ref c_14, .ref y_15, .int 0])), (c_14, .inl (G.2.2.1, 16, .inl (fun _ => 0))), (y_15, .inl (G.2.2.1, 32, .inl (fun _ => 0))), (q16, .inr (1, [.null, .null, .int 0]))]) ?_
  refine pb_dup (pc := 58) d_Expander_init_58 rfl ?_
  refine pb_sipush (pc := 59) (v := 286) d_Expander_init_59 (by decide) ?_
  refine pb_callI (pc := 62) (rest := [.ref q16, .ref h]) d_Expander_init_62 (c_Code_init hl G q16 286 286 (by decide) (by decide) (by decide)) [10] [0, 1, 2, 3, 4, 5, 6, 7, 8, 9] (by decide) rfl rfl rfl (by decide) (by decide) k_224 rfl k_122 k_222 k_223 rfl (by decide +kernel) (by decide) rfl (Nat.le_of_ble_eq_true rfl) (by decide) (fun v9 u18 h17 => ?_)
  obtain ⟨c_19, y_20⟩ := u18
  have eh17 := h17
  have eh17 : v9 = none := eh17
  subst eh17
  refine pb_eq (pc' := 65) (lo' := [(0, .ref h)]) (rest' := [.ref q16, .ref h]) (ws' := [(h, .inr (5, [.ref q1, .ref q5, .ref q6, .ref q11, .null, .null, .null, .null, .int 0, .int 0, .int 0])), (q1, .inr (0, [.ref q_4, .int 0])), (q_4, .inl (G.2.1, 4000, .inl (fun _ => 0))), (q5, .inl (G.2.2.1, 316, .inl (fun _ => 0))), (q6, .inr (1, [.ref c_9, .ref y_10, .int 0])), (c_9, .inl (G.2.2.1, 16, .inl (fun _ => 0))), (y_10, .inl (G.2.2.1, 288, .inl (fun _ => 0))), (q11, .inr (1, [.ref c_14, .ref y_15, .int 0])), (c_14, .inl (G.2.2.1, 16, .inl (fun _ => 0))), (y_15, .inl (G.2.2.1, 32, .inl (fun _ => 0))), (q16, .inr (1, [.ref c_19, .ref y_20, .int 0])), (c_19, .inl (G.2.2.1, 16, .inl (fun _ => 0))), (y_20, .inl (G.2.2.1, 286, .inl (fun _ => 0)))]) ?_
  refine pb_putF (pc := 65) (ty := (.object "PackageBook$Code")) (ws' := [(h, .inr (5, [.ref q1, .ref q5, .ref q6, .ref q11, .ref q16, .null, .null, .null, .int 0, .int 0, .int 0])), (q1, .inr (0, [.ref q_4, .int 0])), (q_4, .inl (G.2.1, 4000, .inl (fun _ => 0))), (q5, .inl (G.2.2.1, 316, .inl (fun _ => 0))), (q6, .inr (1, [.ref c_9, .ref y_10, .int 0])), (c_9, .inl (G.2.2.1, 16, .inl (fun _ => 0))), (y_10, .inl (G.2.2.1, 288, .inl (fun _ => 0))), (q11, .inr (1, [.ref c_14, .ref y_15, .int 0])), (c_14, .inl (G.2.2.1, 16, .inl (fun _ => 0))), (y_15, .inl (G.2.2.1, 32, .inl (fun _ => 0))), (q16, .inr (1, [.ref c_19, .ref y_20, .int 0])), (c_19, .inl (G.2.2.1, 16, .inl (fun _ => 0))), (y_20, .inl (G.2.2.1, 286, .inl (fun _ => 0)))]) d_Expander_init_65 0 4 t_Expander t_Expander_ok n_Expander rfl rfl (by decide) in_Expander k_254 rfl rfl rfl (by decide +kernel) rfl rfl (Nat.le_of_ble_eq_true rfl) rfl ?_
  refine pb_aload_n (pc := 68) d_Expander_init_68 0 rfl rfl ?_
  refine pb_new (pc := 69) (ci := 1) (fs := [.null, .null, .int 0]) d_Expander_init_69 t_Code t_Code_ok rfl in_Code k_220 k_221 k_122 (by decide) (by decide) (by decide) (fun q21 => ?_)
  refine pb_eq (pc' := 72) (lo' := [(0, .ref h)]) (rest' := [.ref q21, .ref h]) (ws' := [(h, .inr (5, [.ref q1, .ref q5, .ref q6, .ref q11, .ref q16, .null, .null, .null, .int 0, .int 0, .int 0])), (q1, .inr (0, [.ref q_4, .int 0])), (q_4, .inl (G.2.1, 4000, .inl (fun _ => 0))), (q5, .inl (G.2.2.1, 316, .inl (fun _ => 0))), (q6, .inr (1, [.ref c_9, .ref y_10, .int 0])), (c_9, .inl (G.2.2.1, 16, .inl (fun _ => 0))), (y_10, .inl (G.2.2.1, 288, .inl (fun _ => 0))), (q11, .inr (1, [.ref c_14, .ref y_15, .int 0])), (c_14, .inl (G.2.2.1, 16, .inl (fun _ => 0))), (y_15, .inl (G.2.2.1, 32, .inl (fun _ => 0))), (q16, .inr (1, [.ref c_19, .ref y_20, .int 0])), (c_19, .inl (G.2.2.1, 16, .inl (fun _ => 0))), (y_20, .inl (G.2.2.1, 286, .inl (fun _ => 0))), (q21, .inr (1, [.null, .null, .int 0]))]) ?_
  refine pb_dup (pc := 72) d_Expander_init_72 rfl ?_
  refine pb_bipush (pc := 73) (v := 30) d_Expander_init_73 (by decide) ?_
  refine pb_callI (pc := 75) (rest := [.ref q21, .ref h]) d_Expander_init_75 (c_Code_init hl G q21 30 30 (by decide) (by decide) (by decide)) [13] [0, 1, 2, 3, 4, 5, 6, 7, 8, 9, 10, 11, 12] (by decide) rfl rfl rfl (by decide) (by decide) k_224 rfl k_122 k_222 k_223 rfl (by decide +kernel) (by decide) rfl (Nat.le_of_ble_eq_true rfl) (by decide) (fun v9 u23 h22 => ?_)
  obtain ⟨c_24, y_25⟩ := u23
  have eh22 := h22
  have eh22 : v9 = none := eh22
  subst eh22
  refine pb_eq (pc' := 78) (lo' := [(0, .ref h)]) (rest' := [.ref q21, .ref h]) (ws' := [(h, .inr (5, [.ref q1, .ref q5, .ref q6, .ref q11, .ref q16, .null, .null, .null, .int 0, .int 0, .int 0])), (q1, .inr (0, [.ref q_4, .int 0])), (q_4, .inl (G.2.1, 4000, .inl (fun _ => 0))), (q5, .inl (G.2.2.1, 316, .inl (fun _ => 0))), (q6, .inr (1, [.ref c_9, .ref y_10, .int 0])), (c_9, .inl (G.2.2.1, 16, .inl (fun _ => 0))), (y_10, .inl (G.2.2.1, 288, .inl (fun _ => 0))), (q11, .inr (1, [.ref c_14, .ref y_15, .int 0])), (c_14, .inl (G.2.2.1, 16, .inl (fun _ => 0))), (y_15, .inl (G.2.2.1, 32, .inl (fun _ => 0))), (q16, .inr (1, [.ref c_19, .ref y_20, .int 0])), (c_19, .inl (G.2.2.1, 16, .inl (fun _ => 0))), (y_20, .inl (G.2.2.1, 286, .inl (fun _ => 0))), (q21, .inr (1, [.ref c_24, .ref y_25, .int 0])), (c_24, .inl (G.2.2.1, 16, .inl (fun _ => 0))), (y_25, .inl (G.2.2.1, 30, .inl (fun _ => 0)))]) ?_
  refine pb_putF (pc := 78) (ty := (.object "PackageBook$Code")) (ws' := [(h, .inr (5, [.ref q1, .ref q5, .ref q6, .ref q11, .ref q16, .ref q21, .null, .null, .int 0, .int 0, .int 0])), (q1, .inr (0, [.ref q_4, .int 0])), (q_4, .inl (G.2.1, 4000, .inl (fun _ => 0))), (q5, .inl (G.2.2.1, 316, .inl (fun _ => 0))), (q6, .inr (1, [.ref c_9, .ref y_10, .int 0])), (c_9, .inl (G.2.2.1, 16, .inl (fun _ => 0))), (y_10, .inl (G.2.2.1, 288, .inl (fun _ => 0))), (q11, .inr (1, [.ref c_14, .ref y_15, .int 0])), (c_14, .inl (G.2.2.1, 16, .inl (fun _ => 0))), (y_15, .inl (G.2.2.1, 32, .inl (fun _ => 0))), (q16, .inr (1, [.ref c_19, .ref y_20, .int 0])), (c_19, .inl (G.2.2.1, 16, .inl (fun _ => 0))), (y_20, .inl (G.2.2.1, 286, .inl (fun _ => 0))), (q21, .inr (1, [.ref c_24, .ref y_25, .int 0])), (c_24, .inl (G.2.2.1, 16, .inl (fun _ => 0))), (y_25, .inl (G.2.2.1, 30, .inl (fun _ => 0)))]) d_Expander_init_78 0 5 t_Expander t_Expander_ok n_Expander rfl rfl (by decide) in_Expander k_255 rfl rfl rfl (by decide +kernel) rfl rfl (Nat.le_of_ble_eq_true rfl) rfl ?_
  refine pb_aload_n (pc := 81) d_Expander_init_81 0 rfl rfl ?_
  refine pb_new (pc := 82) (ci := 1) (fs := [.null, .null, .int 0]) d_Expander_init_82 t_Code t_Code_ok rfl in_Code k_220 k_221 k_122 (by decide) (by decide) (by decide) (fun q26 => ?_)
  refine pb_eq (pc' := 85) (lo' := [(0, .ref h)]) (rest' := [.ref q26, .ref h]) (ws' := [(h, .inr (5, [.ref q1, .ref q5, .ref q6, .ref q11, .ref q16, .ref q21, .null, .null, .int 0, .int 0, .int 0])), (q1, .inr (0, [.ref q_4, .int 0])), (q_4, .inl (G.2.1, 4000, .inl (fun _ => 0))), (q5, .inl (G.2.2.1, 316, .inl (fun _ => 0))), (q6, .inr (1, [.ref c_9, .ref y_10, .int 0])), (c_9, .inl (G.2.2.1, 16, .inl (fun _ => 0))), (y_10, .inl (G.2.2.1, 288, .inl (fun _ => 0))), (q11, .inr (1, [.ref c_14, .ref y_15, .int 0])), (c_14, .inl (G.2.2.1, 16, .inl (fun _ => 0))), (y_15, .inl (G.2.2.1, 32, .inl (fun _ => 0))), (q16, .inr (1, [.ref c_19, .ref y_20, .int 0])), (c_19, .inl (G.2.2.1, 16, .inl (fun _ => 0))), (y_20, .inl (G.2.2.1, 286, .inl (fun _ => 0))), (q21, .inr (1, [.ref c_24, .ref y_25, .int 0])), (c_24, .inl (G.2.2.1, 16, .inl (fun _ => 0))), (y_25, .inl (G.2.2.1, 30, .inl (fun _ => 0))), (q26, .inr (1, [.null, .null, .int 0]))]) ?_
  refine pb_dup (pc := 85) d_Expander_init_85 rfl ?_
  refine pb_gets3 (pc := 86) d_Expander_init_86 k_239 (fun t27 ht27 => ?_)
  refine pb_tlen (pc := 89) (v := 19) ht27 (by decide) d_Expander_init_89 ?_
  refine pb_callI (pc := 90) (rest := [.ref q26, .ref h]) d_Expander_init_90 (c_Code_init hl G q26 19 19 (by decide) (by decide) (by decide)) [16] [0, 1, 2, 3, 4, 5, 6, 7, 8, 9, 10, 11, 12, 13, 14, 15] (by decide) rfl rfl rfl (by decide) (by decide) k_224 rfl k_122 k_222 k_223 rfl (by decide +kernel) (by decide) rfl (Nat.le_of_ble_eq_true rfl) (by decide) (fun v9 u29 h28 => ?_)
  obtain ⟨c_30, y_31⟩ := u29
  have eh28 := h28
  have eh28 : v9 = none := eh28
  subst eh28
  refine pb_eq (pc' := 93) (lo' := [(0, .ref h)]) (rest' := [.ref q26, .ref h]) (ws' := [(h, .inr (5, [.ref q1, .ref q5, .ref q6, .ref q11, .ref q16, .ref q21, .null, .null, .int 0, .int 0, .int 0])), (q1, .inr (0, [.ref q_4, .int 0])), (q_4, .inl (G.2.1, 4000, .inl (fun _ => 0))), (q5, .inl (G.2.2.1, 316, .inl (fun _ => 0))), (q6, .inr (1, [.ref c_9, .ref y_10, .int 0])), (c_9, .inl (G.2.2.1, 16, .inl (fun _ => 0))), (y_10, .inl (G.2.2.1, 288, .inl (fun _ => 0))), (q11, .inr (1, [.ref c_14, .ref y_15, .int 0])), (c_14, .inl (G.2.2.1, 16, .inl (fun _ => 0))), (y_15, .inl (G.2.2.1, 32, .inl (fun _ => 0))), (q16, .inr (1, [.ref c_19, .ref y_20, .int 0])), (c_19, .inl (G.2.2.1, 16, .inl (fun _ => 0))), (y_20, .inl (G.2.2.1, 286, .inl (fun _ => 0))), (q21, .inr (1, [.ref c_24, .ref y_25, .int 0])), (c_24, .inl (G.2.2.1, 16, .inl (fun _ => 0))), (y_25, .inl (G.2.2.1, 30, .inl (fun _ => 0))), (q26, .inr (1, [.ref c_30, .ref y_31, .int 0])), (c_30, .inl (G.2.2.1, 16, .inl (fun _ => 0))), (y_31, .inl (G.2.2.1, 19, .inl (fun _ => 0)))]) ?_
  refine pb_putF (pc := 93) (ty := (.object "PackageBook$Code")) (ws' := [(h, .inr (5, [.ref q1, .ref q5, .ref q6, .ref q11, .ref q16, .ref q21, .ref q26, .null, .int 0, .int 0, .int 0])), (q1, .inr (0, [.ref q_4, .int 0])), (q_4, .inl (G.2.1, 4000, .inl (fun _ => 0))), (q5, .inl (G.2.2.1, 316, .inl (fun _ => 0))), (q6, .inr (1, [.ref c_9, .ref y_10, .int 0])), (c_9, .inl (G.2.2.1, 16, .inl (fun _ => 0))), (y_10, .inl (G.2.2.1, 288, .inl (fun _ => 0))), (q11, .inr (1, [.ref c_14, .ref y_15, .int 0])), (c_14, .inl (G.2.2.1, 16, .inl (fun _ => 0))), (y_15, .inl (G.2.2.1, 32, .inl (fun _ => 0))), (q16, .inr (1, [.ref c_19, .ref y_20, .int 0])), (c_19, .inl (G.2.2.1, 16, .inl (fun _ => 0))), (y_20, .inl (G.2.2.1, 286, .inl (fun _ => 0))), (q21, .inr (1, [.ref c_24, .ref y_25, .int 0])), (c_24, .inl (G.2.2.1, 16, .inl (fun _ => 0))), (y_25, .inl (G.2.2.1, 30, .inl (fun _ => 0))), (q26, .inr (1, [.ref c_30, .ref y_31, .int 0])), (c_30, .inl (G.2.2.1, 16, .inl (fun _ => 0))), (y_31, .inl (G.2.2.1, 19, .inl (fun _ => 0)))]) d_Expander_init_93 0 6 t_Expander t_Expander_ok n_Expander rfl rfl (by decide) in_Expander k_256 rfl rfl rfl (by decide +kernel) rfl rfl (Nat.le_of_ble_eq_true rfl) rfl ?_
  refine pb_aload_n (pc := 96) d_Expander_init_96 0 rfl rfl ?_
  refine pb_iconst (pc := 97) (v := 0) d_Expander_init_97 (by decide) ?_
  refine pb_newb (pc := 98) (N := 0) d_Expander_init_98 k_172 (by decide) (by decide) (by decide) (by decide) (by decide) (fun q32 => ?_)
  refine pb_eq (pc' := 100) (lo' := [(0, .ref h)]) (rest' := [.ref q32, .ref h]) (ws' := [(h, .inr (5, [.ref q1, .ref q5, .ref q6, .ref q11, .ref q16, .ref q21, .ref q26, .null, .int 0, .int 0, .int 0])), (q1, .inr (0, [.ref q_4, .int 0])), (q_4, .inl (G.2.1, 4000, .inl (fun _ => 0))), (q5, .inl (G.2.2.1, 316, .inl (fun _ => 0))), (q6, .inr (1, [.ref c_9, .ref y_10, .int 0])), (c_9, .inl (G.2.2.1, 16, .inl (fun _ => 0))), (y_10, .inl (G.2.2.1, 288, .inl (fun _ => 0))), (q11, .inr (1, [.ref c_14, .ref y_15, .int 0])), (c_14, .inl (G.2.2.1, 16, .inl (fun _ => 0))), (y_15, .inl (G.2.2.1, 32, .inl (fun _ => 0))), (q16, .inr (1, [.ref c_19, .ref y_20, .int 0])), (c_19, .inl (G.2.2.1, 16, .inl (fun _ => 0))), (y_20, .inl (G.2.2.1, 286, .inl (fun _ => 0))), (q21, .inr (1, [.ref c_24, .ref y_25, .int 0])), (c_24, .inl (G.2.2.1, 16, .inl (fun _ => 0))), (y_25, .inl (G.2.2.1, 30, .inl (fun _ => 0))), (q26, .inr (1, [.ref c_30, .ref y_31, .int 0])), (c_30, .inl (G.2.2.1, 16, .inl (fun _ => 0))), (y_31, .inl (G.2.2.1, 19, .inl (fun _ => 0))), (q32, .inl (G.2.1, 0, .inl (fun _ => 0)))]) ?_
  refine pb_put (pc := 100) (ty := (.array .byte)) (ws' := [(h, .inr (5, [.ref q1, .ref q5, .ref q6, .ref q11, .ref q16, .ref q21, .ref q26, .ref q32, .int 0, .int 0, .int 0])), (q1, .inr (0, [.ref q_4, .int 0])), (q_4, .inl (G.2.1, 4000, .inl (fun _ => 0))), (q5, .inl (G.2.2.1, 316, .inl (fun _ => 0))), (q6, .inr (1, [.ref c_9, .ref y_10, .int 0])), (c_9, .inl (G.2.2.1, 16, .inl (fun _ => 0))), (y_10, .inl (G.2.2.1, 288, .inl (fun _ => 0))), (q11, .inr (1, [.ref c_14, .ref y_15, .int 0])), (c_14, .inl (G.2.2.1, 16, .inl (fun _ => 0))), (y_15, .inl (G.2.2.1, 32, .inl (fun _ => 0))), (q16, .inr (1, [.ref c_19, .ref y_20, .int 0])), (c_19, .inl (G.2.2.1, 16, .inl (fun _ => 0))), (y_20, .inl (G.2.2.1, 286, .inl (fun _ => 0))), (q21, .inr (1, [.ref c_24, .ref y_25, .int 0])), (c_24, .inl (G.2.2.1, 16, .inl (fun _ => 0))), (y_25, .inl (G.2.2.1, 30, .inl (fun _ => 0))), (q26, .inr (1, [.ref c_30, .ref y_31, .int 0])), (c_30, .inl (G.2.2.1, 16, .inl (fun _ => 0))), (y_31, .inl (G.2.2.1, 19, .inl (fun _ => 0))), (q32, .inl (G.2.1, 0, .inl (fun _ => 0)))]) d_Expander_init_100 0 7 t_Expander t_Expander_ok n_Expander rfl rfl (by decide) in_Expander k_257 rfl (by decide +kernel) rfl rfl (Nat.le_of_ble_eq_true rfl) rfl ?_
  refine pb_sipush (pc := 103) (v := 320) d_Expander_init_103 (by decide) ?_
  refine pb_newi (pc := 106) (N := 320) d_Expander_init_106 k_211 (by decide) (by decide) (by decide) (by decide) (by decide) (fun q33 => ?_)
  refine pb_eq (pc' := 108) (lo' := [(0, .ref h)]) (rest' := [.ref q33]) (ws' := [(h, .inr (5, [.ref q1, .ref q5, .ref q6, .ref q11, .ref q16, .ref q21, .ref q26, .ref q32, .int 0, .int 0, .int 0])), (q1, .inr (0, [.ref q_4, .int 0])), (q_4, .inl (G.2.1, 4000, .inl (fun _ => 0))), (q5, .inl (G.2.2.1, 316, .inl (fun _ => 0))), (q6, .inr (1, [.ref c_9, .ref y_10, .int 0])), (c_9, .inl (G.2.2.1, 16, .inl (fun _ => 0))), (y_10, .inl (G.2.2.1, 288, .inl (fun _ => 0))), (q11, .inr (1, [.ref c_14, .ref y_15, .int 0])), (c_14, .inl (G.2.2.1, 16, .inl (fun _ => 0))), (y_15, .inl (G.2.2.1, 32, .inl (fun _ => 0))), (q16, .inr (1, [.ref c_19, .ref y_20, .int 0])), (c_19, .inl (G.2.2.1, 16, .inl (fun _ => 0))), (y_20, .inl (G.2.2.1, 286, .inl (fun _ => 0))), (q21, .inr (1, [.ref c_24, .ref y_25, .int 0])), (c_24, .inl (G.2.2.1, 16, .inl (fun _ => 0))), (y_25, .inl (G.2.2.1, 30, .inl (fun _ => 0))), (q26, .inr (1, [.ref c_30, .ref y_31, .int 0])), (c_30, .inl (G.2.2.1, 16, .inl (fun _ => 0))), (y_31, .inl (G.2.2.1, 19, .inl (fun _ => 0))), (q32, .inl (G.2.1, 0, .inl (fun _ => 0))), (q33, .inl (G.2.2.1, 320, .inl (fun _ => 0)))]) ?_
  refine pb_astore_n (pc := 108) (lo' := [(1, .ref q33), (0, .ref h)]) d_Expander_init_108 rfl (by decide) rfl ?_
  refine pb_aload_n (pc := 109) d_Expander_init_109 0 rfl rfl ?_
  refine pb_iconst (pc := 110) (v := 0) d_Expander_init_110 (by decide) ?_
  refine pb_sipush (pc := 111) (v := 144) d_Expander_init_111 (by decide) ?_
  refine pb_bipush (pc := 114) (v := 8) d_Expander_init_114 (by decide) ?_
  refine pb_callS (pc := 116) (rest := []) d_Expander_init_116 (c_Exp_setAll hl G q33 320 (fun _ => 0) 0 144 8 (by decide) (by decide) (by decide)) [20] [0, 1, 2, 3, 4, 5, 6, 7, 8, 9, 10, 11, 12, 13, 14, 15, 16, 17, 18, 19] (by decide) rfl rfl rfl (by decide) (by decide) k_243 rfl k_121 k_241 k_242 (by decide +kernel) (by decide) rfl (Nat.le_of_ble_eq_true rfl) (by decide) (fun v9 u35 h34 => ?_)
  obtain ⟨f_36, rfl⟩ : ∃ z9, z9 = u35 := ⟨_, rfl⟩
  have eh34 := h34
  have eh34 : v9 = none := eh34
  subst eh34
  refine pb_eq (pc' := 119) (lo' := [(1, .ref q33), (0, .ref h)]) (rest' := []) (ws' := [(h, .inr (5, [.ref q1, .ref q5, .ref q6, .ref q11, .ref q16, .ref q21, .ref q26, .ref q32, .int 0, .int 0, .int 0])), (q1, .inr (0, [.ref q_4, .int 0])), (q_4, .inl (G.2.1, 4000, .inl (fun _ => 0))), (q5, .inl (G.2.2.1, 316, .inl (fun _ => 0))), (q6, .inr (1, [.ref c_9, .ref y_10, .int 0])), (c_9, .inl (G.2.2.1, 16, .inl (fun _ => 0))), (y_10, .inl (G.2.2.1, 288, .inl (fun _ => 0))), (q11, .inr (1, [.ref c_14, .ref y_15, .int 0])), (c_14, .inl (G.2.2.1, 16, .inl (fun _ => 0))), (y_15, .inl (G.2.2.1, 32, .inl (fun _ => 0))), (q16, .inr (1, [.ref c_19, .ref y_20, .int 0])), (c_19, .inl (G.2.2.1, 16, .inl (fun _ => 0))), (y_20, .inl (G.2.2.1, 286, .inl (fun _ => 0))), (q21, .inr (1, [.ref c_24, .ref y_25, .int 0])), (c_24, .inl (G.2.2.1, 16, .inl (fun _ => 0))), (y_25, .inl (G.2.2.1, 30, .inl (fun _ => 0))), (q26, .inr (1, [.ref c_30, .ref y_31, .int 0])), (c_30, .inl (G.2.2.1, 16, .inl (fun _ => 0))), (y_31, .inl (G.2.2.1, 19, .inl (fun _ => 0))), (q32, .inl (G.2.1, 0, .inl (fun _ => 0))), (q33, .inl (G.2.2.1, 320, .inl f_36))]) ?_
  refine pb_aload_n (pc := 119) d_Expander_init_119 0 rfl rfl ?_
  refine pb_sipush (pc := 120) (v := 144) d_Expander_init_120 (by decide) ?_
  refine pb_sipush (pc := 123) (v := 256) d_Expander_init_123 (by decide) ?_
  refine pb_bipush (pc := 126) (v := 9) d_Expander_init_126 (by decide) ?_
  refine pb_callS (pc := 128) (rest := []) d_Expander_init_128 (c_Exp_setAll hl G q33 320 f_36 144 256 9 (by decide) (by decide) (by decide)) [20] [0, 1, 2, 3, 4, 5, 6, 7, 8, 9, 10, 11, 12, 13, 14, 15, 16, 17, 18, 19] (by decide) rfl rfl rfl (by decide) (by decide) k_243 rfl k_121 k_241 k_242 (by decide +kernel) (by decide) rfl (Nat.le_of_ble_eq_true rfl) (by decide) (fun v9 u38 h37 => ?_)
  obtain ⟨f_39, rfl⟩ : ∃ z9, z9 = u38 := ⟨_, rfl⟩
  have eh37 := h37
  have eh37 : v9 = none := eh37
  subst eh37
  refine pb_eq (pc' := 131) (lo' := [(1, .ref q33), (0, .ref h)]) (rest' := []) (ws' := [(h, .inr (5, [.ref q1, .ref q5, .ref q6, .ref q11, .ref q16, .ref q21, .ref q26, .ref q32, .int 0, .int 0, .int 0])), (q1, .inr (0, [.ref q_4, .int 0])), (q_4, .inl (G.2.1, 4000, .inl (fun _ => 0))), (q5, .inl (G.2.2.1, 316, .inl (fun _ => 0))), (q6, .inr (1, [.ref c_9, .ref y_10, .int 0])), (c_9, .inl (G.2.2.1, 16, .inl (fun _ => 0))), (y_10, .inl (G.2.2.1, 288, .inl (fun _ => 0))), (q11, .inr (1, [.ref c_14, .ref y_15, .int 0])), (c_14, .inl (G.2.2.1, 16, .inl (fun _ => 0))), (y_15, .inl (G.2.2.1, 32, .inl (fun _ => 0))), (q16, .inr (1, [.ref c_19, .ref y_20, .int 0])), (c_19, .inl (G.2.2.1, 16, .inl (fun _ => 0))), (y_20, .inl (G.2.2.1, 286, .inl (fun _ => 0))), (q21, .inr (1, [.ref c_24, .ref y_25, .int 0])), (c_24, .inl (G.2.2.1, 16, .inl (fun _ => 0))), (y_25, .inl (G.2.2.1, 30, .inl (fun _ => 0))), (q26, .inr (1, [.ref c_30, .ref y_31, .int 0])), (c_30, .inl (G.2.2.1, 16, .inl (fun _ => 0))), (y_31, .inl (G.2.2.1, 19, .inl (fun _ => 0))), (q32, .inl (G.2.1, 0, .inl (fun _ => 0))), (q33, .inl (G.2.2.1, 320, .inl f_39))]) ?_
  refine pb_aload_n (pc := 131) d_Expander_init_131 0 rfl rfl ?_
  refine pb_sipush (pc := 132) (v := 256) d_Expander_init_132 (by decide) ?_
  refine pb_sipush (pc := 135) (v := 280) d_Expander_init_135 (by decide) ?_
  refine pb_bipush (pc := 138) (v := 7) d_Expander_init_138 (by decide) ?_
  refine pb_callS (pc := 140) (rest := []) d_Expander_init_140 (c_Exp_setAll hl G q33 320 f_39 256 280 7 (by decide) (by decide) (by decide)) [20] [0, 1, 2, 3, 4, 5, 6, 7, 8, 9, 10, 11, 12, 13, 14, 15, 16, 17, 18, 19] (by decide) rfl rfl rfl (by decide) (by decide) k_243 rfl k_121 k_241 k_242 (by decide +kernel) (by decide) rfl (Nat.le_of_ble_eq_true rfl) (by decide) (fun v9 u41 h40 => ?_)
  obtain ⟨f_42, rfl⟩ : ∃ z9, z9 = u41 := ⟨_, rfl⟩
  have eh40 := h40
  have eh40 : v9 = none := eh40
  subst eh40
  refine pb_eq (pc' := 143) (lo' := [(1, .ref q33), (0, .ref h)]) (rest' := []) (ws' := [(h, .inr (5, [.ref q1, .ref q5, .ref q6, .ref q11, .ref q16, .ref q21, .ref q26, .ref q32, .int 0, .int 0, .int 0])), (q1, .inr (0, [.ref q_4, .int 0])), (q_4, .inl (G.2.1, 4000, .inl (fun _ => 0))), (q5, .inl (G.2.2.1, 316, .inl (fun _ => 0))), (q6, .inr (1, [.ref c_9, .ref y_10, .int 0])), (c_9, .inl (G.2.2.1, 16, .inl (fun _ => 0))), (y_10, .inl (G.2.2.1, 288, .inl (fun _ => 0))), (q11, .inr (1, [.ref c_14, .ref y_15, .int 0])), (c_14, .inl (G.2.2.1, 16, .inl (fun _ => 0))), (y_15, .inl (G.2.2.1, 32, .inl (fun _ => 0))), (q16, .inr (1, [.ref c_19, .ref y_20, .int 0])), (c_19, .inl (G.2.2.1, 16, .inl (fun _ => 0))), (y_20, .inl (G.2.2.1, 286, .inl (fun _ => 0))), (q21, .inr (1, [.ref c_24, .ref y_25, .int 0])), (c_24, .inl (G.2.2.1, 16, .inl (fun _ => 0))), (y_25, .inl (G.2.2.1, 30, .inl (fun _ => 0))), (q26, .inr (1, [.ref c_30, .ref y_31, .int 0])), (c_30, .inl (G.2.2.1, 16, .inl (fun _ => 0))), (y_31, .inl (G.2.2.1, 19, .inl (fun _ => 0))), (q32, .inl (G.2.1, 0, .inl (fun _ => 0))), (q33, .inl (G.2.2.1, 320, .inl f_42))]) ?_
  refine pb_aload_n (pc := 143) d_Expander_init_143 0 rfl rfl ?_
  refine pb_sipush (pc := 144) (v := 280) d_Expander_init_144 (by decide) ?_
  refine pb_sipush (pc := 147) (v := 288) d_Expander_init_147 (by decide) ?_
  refine pb_bipush (pc := 150) (v := 8) d_Expander_init_150 (by decide) ?_
  refine pb_callS (pc := 152) (rest := []) d_Expander_init_152 (c_Exp_setAll hl G q33 320 f_42 280 288 8 (by decide) (by decide) (by decide)) [20] [0, 1, 2, 3, 4, 5, 6, 7, 8, 9, 10, 11, 12, 13, 14, 15, 16, 17, 18, 19] (by decide) rfl rfl rfl (by decide) (by decide) k_243 rfl k_121 k_241 k_242 (by decide +kernel) (by decide) rfl (Nat.le_of_ble_eq_true rfl) (by decide) (fun v9 u44 h43 => ?_)
  obtain ⟨f_45, rfl⟩ : ∃ z9, z9 = u44 := ⟨_, rfl⟩
  have eh43 := h43
  have eh43 : v9 = none := eh43
  subst eh43
  refine pb_eq (pc' := 155) (lo' := [(1, .ref q33), (0, .ref h)]) (rest' := []) (ws' := [(h, .inr (5, [.ref q1, .ref q5, .ref q6, .ref q11, .ref q16, .ref q21, .ref q26, .ref q32, .int 0, .int 0, .int 0])), (q1, .inr (0, [.ref q_4, .int 0])), (q_4, .inl (G.2.1, 4000, .inl (fun _ => 0))), (q5, .inl (G.2.2.1, 316, .inl (fun _ => 0))), (q6, .inr (1, [.ref c_9, .ref y_10, .int 0])), (c_9, .inl (G.2.2.1, 16, .inl (fun _ => 0))), (y_10, .inl (G.2.2.1, 288, .inl (fun _ => 0))), (q11, .inr (1, [.ref c_14, .ref y_15, .int 0])), (c_14, .inl (G.2.2.1, 16, .inl (fun _ => 0))), (y_15, .inl (G.2.2.1, 32, .inl (fun _ => 0))), (q16, .inr (1, [.ref c_19, .ref y_20, .int 0])), (c_19, .inl (G.2.2.1, 16, .inl (fun _ => 0))), (y_20, .inl (G.2.2.1, 286, .inl (fun _ => 0))), (q21, .inr (1, [.ref c_24, .ref y_25, .int 0])), (c_24, .inl (G.2.2.1, 16, .inl (fun _ => 0))), (y_25, .inl (G.2.2.1, 30, .inl (fun _ => 0))), (q26, .inr (1, [.ref c_30, .ref y_31, .int 0])), (c_30, .inl (G.2.2.1, 16, .inl (fun _ => 0))), (y_31, .inl (G.2.2.1, 19, .inl (fun _ => 0))), (q32, .inl (G.2.1, 0, .inl (fun _ => 0))), (q33, .inl (G.2.2.1, 320, .inl f_45))]) ?_
  refine pb_aload_n (pc := 155) d_Expander_init_155 0 rfl rfl ?_
  refine pb_sipush (pc := 156) (v := 288) d_Expander_init_156 (by decide) ?_
  refine pb_sipush (pc := 159) (v := 320) d_Expander_init_159 (by decide) ?_
  refine pb_iconst (pc := 162) (v := 5) d_Expander_init_162 (by decide) ?_
  refine pb_callS (pc := 163) (rest := []) d_Expander_init_163 (c_Exp_setAll hl G q33 320 f_45 288 320 5 (by decide) (by decide) (by decide)) [20] [0, 1, 2, 3, 4, 5, 6, 7, 8, 9, 10, 11, 12, 13, 14, 15, 16, 17, 18, 19] (by decide) rfl rfl rfl (by decide) (by decide) k_243 rfl k_121 k_241 k_242 (by decide +kernel) (by decide) rfl (Nat.le_of_ble_eq_true rfl) (by decide) (fun v9 u47 h46 => ?_)
  obtain ⟨f_48, rfl⟩ : ∃ z9, z9 = u47 := ⟨_, rfl⟩
  have eh46 := h46
  have eh46 : v9 = none := eh46
  subst eh46
  refine pb_eq (pc' := 166) (lo' := [(1, .ref q33), (0, .ref h)]) (rest' := []) (ws' := [(h, .inr (5, [.ref q1, .ref q5, .ref q6, .ref q11, .ref q16, .ref q21, .ref q26, .ref q32, .int 0, .int 0, .int 0])), (q1, .inr (0, [.ref q_4, .int 0])), (q_4, .inl (G.2.1, 4000, .inl (fun _ => 0))), (q5, .inl (G.2.2.1, 316, .inl (fun _ => 0))), (q6, .inr (1, [.ref c_9, .ref y_10, .int 0])), (c_9, .inl (G.2.2.1, 16, .inl (fun _ => 0))), (y_10, .inl (G.2.2.1, 288, .inl (fun _ => 0))), (q11, .inr (1, [.ref c_14, .ref y_15, .int 0])), (c_14, .inl (G.2.2.1, 16, .inl (fun _ => 0))), (y_15, .inl (G.2.2.1, 32, .inl (fun _ => 0))), (q16, .inr (1, [.ref c_19, .ref y_20, .int 0])), (c_19, .inl (G.2.2.1, 16, .inl (fun _ => 0))), (y_20, .inl (G.2.2.1, 286, .inl (fun _ => 0))), (q21, .inr (1, [.ref c_24, .ref y_25, .int 0])), (c_24, .inl (G.2.2.1, 16, .inl (fun _ => 0))), (y_25, .inl (G.2.2.1, 30, .inl (fun _ => 0))), (q26, .inr (1, [.ref c_30, .ref y_31, .int 0])), (c_30, .inl (G.2.2.1, 16, .inl (fun _ => 0))), (y_31, .inl (G.2.2.1, 19, .inl (fun _ => 0))), (q32, .inl (G.2.1, 0, .inl (fun _ => 0))), (q33, .inl (G.2.2.1, 320, .inl f_48))]) ?_
  refine pb_aload_n (pc := 166) d_Expander_init_166 1 rfl rfl ?_
  refine pb_get (pc := 167) d_Expander_init_167 0 2 rfl rfl (by decide) in_Expander k_252 rfl ?_
  refine pb_aload_n (pc := 170) d_Expander_init_170 0 rfl rfl ?_
  refine pb_iconst (pc := 171) (v := 0) d_Expander_init_171 (by decide) ?_
  refine pb_sipush (pc := 172) (v := 288) d_Expander_init_172 (by decide) ?_
  refine pb_callV (pc := 175) (rest := []) d_Expander_init_175 (c_Code_tell hl G q6 c_9 y_10 q33 0 (fun _ => 0) (fun _ => 0) f_48 288 320 0 288 (by decide) (by decide) (by decide) (by decide) (by decide) (by decide)) rfl rfl [4, 5, 6, 20] [0, 1, 2, 3, 7, 8, 9, 10, 11, 12, 13, 14, 15, 16, 17, 18, 19] (by decide) rfl rfl rfl (by decide) (by decide) k_247 rfl k_122 k_244 k_245 k_246 (by decide +kernel) (by decide) rfl (Nat.le_of_ble_eq_true rfl) (by decide) (fun v9 u50 h49 => ?_)
  obtain ⟨sz_51, fc_52, fy_53⟩ := u50
  have eh49 := h49
  have eh49 : v9 = none := eh49
  subst eh49
  refine pb_eq (pc' := 178) (lo' := [(1, .ref q33), (0, .ref h)]) (rest' := []) (ws' := [(h, .inr (5, [.ref q1, .ref q5, .ref q6, .ref q11, .ref q16, .ref q21, .ref q26, .ref q32, .int 0, .int 0, .int 0])), (q1, .inr (0, [.ref q_4, .int 0])), (q_4, .inl (G.2.1, 4000, .inl (fun _ => 0))), (q5, .inl (G.2.2.1, 316, .inl (fun _ => 0))), (q11, .inr (1, [.ref c_14, .ref y_15, .int 0])), (c_14, .inl (G.2.2.1, 16, .inl (fun _ => 0))), (y_15, .inl (G.2.2.1, 32, .inl (fun _ => 0))), (q16, .inr (1, [.ref c_19, .ref y_20, .int 0])), (c_19, .inl (G.2.2.1, 16, .inl (fun _ => 0))), (y_20, .inl (G.2.2.1, 286, .inl (fun _ => 0))), (q21, .inr (1, [.ref c_24, .ref y_25, .int 0])), (c_24, .inl (G.2.2.1, 16, .inl (fun _ => 0))), (y_25, .inl (G.2.2.1, 30, .inl (fun _ => 0))), (q26, .inr (1, [.ref c_30, .ref y_31, .int 0])), (c_30, .inl (G.2.2.1, 16, .inl (fun _ => 0))), (y_31, .inl (G.2.2.1, 19, .inl (fun _ => 0))), (q32, .inl (G.2.1, 0, .inl (fun _ => 0))), (q6, .inr (1, [.ref c_9, .ref y_10, .int sz_51])), (c_9, .inl (G.2.2.1, 16, .inl fc_52)), (y_10, .inl (G.2.2.1, 288, .inl fy_53)), (q33, .inl (G.2.2.1, 320, .inl f_48))]) ?_
  refine pb_aload_n (pc := 178) d_Expander_init_178 1 rfl rfl ?_
  refine pb_get (pc := 179) d_Expander_init_179 0 3 rfl rfl (by decide) in_Expander k_253 rfl ?_
  refine pb_aload_n (pc := 182) d_Expander_init_182 0 rfl rfl ?_
  refine pb_sipush (pc := 183) (v := 288) d_Expander_init_183 (by decide) ?_
  refine pb_bipush (pc := 186) (v := 32) d_Expander_init_186 (by decide) ?_
  refine pb_callV (pc := 188) (rest := []) d_Expander_init_188 (c_Code_tell hl G q11 c_14 y_15 q33 0 (fun _ => 0) (fun _ => 0) f_48 32 320 288 32 (by decide) (by decide) (by decide) (by decide) (by decide) (by decide)) rfl rfl [4, 5, 6, 20] [0, 1, 2, 3, 7, 8, 9, 10, 11, 12, 13, 14, 15, 16, 17, 18, 19] (by decide) rfl rfl rfl (by decide) (by decide) k_247 rfl k_122 k_244 k_245 k_246 (by decide +kernel) (by decide) rfl (Nat.le_of_ble_eq_true rfl) (by decide) (fun v9 u55 h54 => ?_)
  obtain ⟨sz_56, fc_57, fy_58⟩ := u55
  have eh54 := h54
  have eh54 : v9 = none := eh54
  subst eh54
  refine pb_eq (pc' := 191) (lo' := [(1, .ref q33), (0, .ref h)]) (rest' := []) (ws' := [(h, .inr (5, [.ref q1, .ref q5, .ref q6, .ref q11, .ref q16, .ref q21, .ref q26, .ref q32, .int 0, .int 0, .int 0])), (q1, .inr (0, [.ref q_4, .int 0])), (q_4, .inl (G.2.1, 4000, .inl (fun _ => 0))), (q5, .inl (G.2.2.1, 316, .inl (fun _ => 0))), (q16, .inr (1, [.ref c_19, .ref y_20, .int 0])), (c_19, .inl (G.2.2.1, 16, .inl (fun _ => 0))), (y_20, .inl (G.2.2.1, 286, .inl (fun _ => 0))), (q21, .inr (1, [.ref c_24, .ref y_25, .int 0])), (c_24, .inl (G.2.2.1, 16, .inl (fun _ => 0))), (y_25, .inl (G.2.2.1, 30, .inl (fun _ => 0))), (q26, .inr (1, [.ref c_30, .ref y_31, .int 0])), (c_30, .inl (G.2.2.1, 16, .inl (fun _ => 0))), (y_31, .inl (G.2.2.1, 19, .inl (fun _ => 0))), (q32, .inl (G.2.1, 0, .inl (fun _ => 0))), (q6, .inr (1, [.ref c_9, .ref y_10, .int sz_51])), (c_9, .inl (G.2.2.1, 16, .inl fc_52)), (y_10, .inl (G.2.2.1, 288, .inl fy_53)), (q11, .inr (1, [.ref c_14, .ref y_15, .int sz_56])), (c_14, .inl (G.2.2.1, 16, .inl fc_57)), (y_15, .inl (G.2.2.1, 32, .inl fy_58)), (q33, .inl (G.2.2.1, 320, .inl f_48))]) ?_
  exact pb_vret (pc := 191) hQ d_Expander_init_191 rfl (q1, q_4, q5, q6, c_9, y_10, q11, c_14, y_15, q16, c_19, y_20, q21, c_24, y_25, q26, c_30, y_31, q32, sz_51, sz_56, fc_52, fy_53, fc_57, fy_58) rfl [0, 1, 2, 3, 14, 15, 16, 17, 18, 19, 4, 5, 6, 7, 8, 9, 10, 11, 12, 13] (by decide) rfl rfl (by decide) (by decide)
