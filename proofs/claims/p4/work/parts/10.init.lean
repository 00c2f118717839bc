theorem d_Row_init_0 : decode prog_9_method_1_code 0 = .ok (.aload_n 0, 1) := sorry
theorem d_Row_init_1 : decode prog_9_method_1_code 1 = .ok (.invokespecial 1, 3) := sorry
theorem k_155 : (Jvm.Cond.methodLink "PackageBook$Row" (1 : Nat) ({ cls := "java/lang/Object", name := "<init>", desc := "()V" } : Jvm.MethodName)) ∈ uW := sorry
theorem k_148 : (Jvm.Cond.instanceMethod ({ cls := "java/lang/Object", name := "<init>", desc := "()V" } : Jvm.MethodName)) ∈ uW := sorry
theorem k_149 : (Jvm.Cond.code ({ cls := "java/lang/Object", name := "<init>", desc := "()V" } : Jvm.MethodName) object_method_1_code (1 : Nat) (Option.none : Option Jvm.ClassFile.FieldType)) ∈ uW := sorry
theorem d_Row_init_4 : decode prog_9_method_1_code 4 = .ok (.aload_n 0, 1) := sorry
theorem d_Row_init_5 : decode prog_9_method_1_code 5 = .ok (.iload_n 1, 1) := sorry
theorem d_Row_init_6 : decode prog_9_method_1_code 6 = .ok (.newarray .byte, 2) := sorry
theorem k_172 : (Jvm.Cond.arrayClass Jvm.ClassFile.FieldType.byte) ∈ uW := sorry
theorem d_Row_init_8 : decode prog_9_method_1_code 8 = .ok (.putfield 7, 3) := sorry
theorem k_156 : (Jvm.Cond.fieldLink "PackageBook$Row" (7 : Nat) "PackageBook$Row" "bytes" "[B") ∈ uW := sorry
theorem d_Row_init_11 : decode prog_9_method_1_code 11 = .ok (.return_, 1) := sorry
abbrev y_Row_init : MethodName := ⟨"PackageBook$Row", "<init>", "(I)V"⟩
abbrev i_Row_init : pb_I := (y_Row_init, prog_9_method_1_code, 2, (Option.none : Option Jvm.ClassFile.FieldType), [], { frames := 1, cells := 1, slots := 15000, locals := 20 })
theorem g_Row_init {l : Launch} (hl : l.stackTraces = false) (G : pb_G) (h : Nat) (n : Int32) (N : Nat) (hn : ¬ n < 0) (hN : n.toNatClampNeg = N) (hb : N ≤ 15000) : Cn l G i_Row_init [.ref h, .int n] [(h, .inr (0, [.null, .int 0]))] (S := Nat) (fun rv_ u => rv_ = none) (fun u => [(h, .inr (0, [.ref u, .int 0])), (u, .inl (G.2.1, N, .inl (fun _ => 0)))]) := sorry
theorem d_Code_init_0 : decode prog_2_method_1_code 0 = .ok (.aload_n 0, 1) := sorry
theorem d_Code_init_1 : decode prog_2_method_1_code 1 = .ok (.invokespecial 1, 3) := sorry
theorem k_225 : (Jvm.Cond.methodLink "PackageBook$Code" (1 : Nat) ({ cls := "java/lang/Object", name := "<init>", desc := "()V" } : Jvm.MethodName)) ∈ uW := sorry
theorem d_Code_init_4 : decode prog_2_method_1_code 4 = .ok (.aload_n 0, 1) := sorry
theorem d_Code_init_5 : decode prog_2_method_1_code 5 = .ok (.bipush 16, 2) := sorry
theorem d_Code_init_7 : decode prog_2_method_1_code 7 = .ok (.newarray .int, 2) := sorry
theorem k_211 : (Jvm.Cond.arrayClass Jvm.ClassFile.FieldType.int) ∈ uW := sorry
theorem d_Code_init_9 : decode prog_2_method_1_code 9 = .ok (.putfield 9, 3) := sorry
theorem k_226 : (Jvm.Cond.fieldLink "PackageBook$Code" (9 : Nat) "PackageBook$Code" "counts" "[I") ∈ uW := sorry
theorem d_Code_init_12 : decode prog_2_method_1_code 12 = .ok (.aload_n 0, 1) := sorry
theorem d_Code_init_13 : decode prog_2_method_1_code 13 = .ok (.iload_n 1, 1) := sorry
theorem d_Code_init_14 : decode prog_2_method_1_code 14 = .ok (.newarray .int, 2) := sorry
theorem d_Code_init_16 : decode prog_2_method_1_code 16 = .ok (.putfield 13, 3) := sorry
theorem k_228 : (Jvm.Cond.fieldLink "PackageBook$Code" (13 : Nat) "PackageBook$Code" "symbols" "[I") ∈ uW := sorry
theorem d_Code_init_19 : decode prog_2_method_1_code 19 = .ok (.return_, 1) := sorry
abbrev y_Code_init : MethodName := ⟨"PackageBook$Code", "<init>", "(I)V"⟩
abbrev i_Code_init : pb_I := (y_Code_init, prog_2_method_1_code, 2, (Option.none : Option Jvm.ClassFile.FieldType), [], { frames := 1, cells := 2, slots := 316, locals := 20 })
theorem g_Code_init {l : Launch} (hl : l.stackTraces = false) (G : pb_G) (h : Nat) (n : Int32) (N : Nat) (hn : ¬ n < 0) (hN : n.toNatClampNeg = N) (hb : N ≤ 300) : Cn l G i_Code_init [.ref h, .int n] [(h, .inr (1, [.null, .null, .int 0]))] (S := Nat × Nat) (fun rv_ u => rv_ = none) (fun u => [(h, .inr (1, [.ref u.1, .ref u.2, .int 0])), (u.1, .inl (G.2.2.1, 16, .inl (fun _ => 0))), (u.2, .inl (G.2.2.1, N, .inl (fun _ => 0)))]) := sorry
theorem d_Shelf_init_0 : decode prog_10_method_1_code 0 = .ok (.aload_n 0, 1) := sorry
theorem d_Shelf_init_1 : decode prog_10_method_1_code 1 = .ok (.invokespecial 3, 3) := sorry
theorem k_388 : (Jvm.Cond.methodLink "PackageBook$Shelf" (3 : Nat) ({ cls := "java/lang/Object", name := "<init>", desc := "()V" } : Jvm.MethodName)) ∈ uW := sorry
theorem d_Shelf_init_4 : decode prog_10_method_1_code 4 = .ok (.aload_n 0, 1) := sorry
theorem d_Shelf_init_5 : decode prog_10_method_1_code 5 = .ok (.sipush 384, 3) := sorry
theorem d_Shelf_init_8 : decode prog_10_method_1_code 8 = .ok (.newarray .byte, 2) := sorry
theorem d_Shelf_init_10 : decode prog_10_method_1_code 10 = .ok (.putfield 9, 3) := sorry
theorem k_389 : (Jvm.Cond.fieldLink "PackageBook$Shelf" (9 : Nat) "PackageBook$Shelf" "names" "[B") ∈ uW := sorry
theorem d_Shelf_init_13 : decode prog_10_method_1_code 13 = .ok (.aload_n 0, 1) := sorry
theorem d_Shelf_init_14 : decode prog_10_method_1_code 14 = .ok (.bipush 16, 2) := sorry
theorem d_Shelf_init_16 : decode prog_10_method_1_code 16 = .ok (.newarray .int, 2) := sorry
theorem d_Shelf_init_18 : decode prog_10_method_1_code 18 = .ok (.putfield 15, 3) := sorry
theorem k_392 : (Jvm.Cond.fieldLink "PackageBook$Shelf" (15 : Nat) "PackageBook$Shelf" "nameSizes" "[I") ∈ uW := sorry
theorem d_Shelf_init_21 : decode prog_10_method_1_code 21 = .ok (.aload_n 0, 1) := sorry
theorem d_Shelf_init_22 : decode prog_10_method_1_code 22 = .ok (.sipush 12000, 3) := sorry
theorem d_Shelf_init_25 : decode prog_10_method_1_code 25 = .ok (.newarray .byte, 2) := sorry
theorem d_Shelf_init_27 : decode prog_10_method_1_code 27 = .ok (.putfield 19, 3) := sorry
theorem k_395 : (Jvm.Cond.fieldLink "PackageBook$Shelf" (19 : Nat) "PackageBook$Shelf" "bytes" "[B") ∈ uW := sorry
theorem d_Shelf_init_30 : decode prog_10_method_1_code 30 = .ok (.aload_n 0, 1) := sorry
theorem d_Shelf_init_31 : decode prog_10_method_1_code 31 = .ok (.bipush 17, 2) := sorry
theorem d_Shelf_init_33 : decode prog_10_method_1_code 33 = .ok (.newarray .int, 2) := sorry
theorem d_Shelf_init_35 : decode prog_10_method_1_code 35 = .ok (.putfield 22, 3) := sorry
theorem k_399 : (Jvm.Cond.fieldLink "PackageBook$Shelf" (22 : Nat) "PackageBook$Shelf" "begins" "[I") ∈ uW := sorry
theorem d_Shelf_init_38 : decode prog_10_method_1_code 38 = .ok (.return_, 1) := sorry
abbrev y_Shelf_init : MethodName := ⟨"PackageBook$Shelf", "<init>", "()V"⟩
abbrev i_Shelf_init : pb_I := (y_Shelf_init, prog_10_method_1_code, 1, (Option.none : Option Jvm.ClassFile.FieldType), [], { frames := 1, cells := 4, slots := 12417, locals := 20 })
theorem g_Shelf_init {l : Launch} (hl : l.stackTraces = false) (G : pb_G) (h : Nat) : Cn l G i_Shelf_init [.ref h] [(h, .inr (3, [.null, .null, .null, .null, .int 0]))] (S := Nat × Nat × Nat × Nat) (fun rv_ u => rv_ = none) (fun u => [(h, .inr (3, [.ref u.1, .ref u.2.1, .ref u.2.2.1, .ref u.2.2.2, .int 0])), (u.1, .inl (G.2.1, 384, .inl (fun _ => 0))), (u.2.1, .inl (G.2.2.1, 16, .inl (fun _ => 0))), (u.2.2.1, .inl (G.2.1, 12000, .inl (fun _ => 0))), (u.2.2.2, .inl (G.2.2.1, 17, .inl (fun _ => 0)))]) := sorry
theorem d_Findings_init_0 : decode prog_6_method_1_code 0 = .ok (.aload_n 0, 1) := sorry
theorem d_Findings_init_1 : decode prog_6_method_1_code 1 = .ok (.invokespecial 3, 3) := sorry
theorem k_365 : (Jvm.Cond.methodLink "PackageBook$Findings" (3 : Nat) ({ cls := "java/lang/Object", name := "<init>", desc := "()V" } : Jvm.MethodName)) ∈ uW := sorry
theorem d_Findings_init_4 : decode prog_6_method_1_code 4 = .ok (.aload_n 0, 1) := sorry
theorem d_Findings_init_5 : decode prog_6_method_1_code 5 = .ok (.sipush 1232, 3) := sorry
theorem d_Findings_init_8 : decode prog_6_method_1_code 8 = .ok (.newarray .int, 2) := sorry
theorem d_Findings_init_10 : decode prog_6_method_1_code 10 = .ok (.putfield 11, 3) := sorry
theorem k_366 : (Jvm.Cond.fieldLink "PackageBook$Findings" (11 : Nat) "PackageBook$Findings" "kinds" "[I") ∈ uW := sorry
theorem d_Findings_init_13 : decode prog_6_method_1_code 13 = .ok (.aload_n 0, 1) := sorry
theorem d_Findings_init_14 : decode prog_6_method_1_code 14 = .ok (.sipush 1232, 3) := sorry
theorem d_Findings_init_17 : decode prog_6_method_1_code 17 = .ok (.newarray .int, 2) := sorry
theorem d_Findings_init_19 : decode prog_6_method_1_code 19 = .ok (.putfield 15, 3) := sorry
theorem k_368 : (Jvm.Cond.fieldLink "PackageBook$Findings" (15 : Nat) "PackageBook$Findings" "owners" "[I") ∈ uW := sorry
theorem d_Findings_init_22 : decode prog_6_method_1_code 22 = .ok (.aload_n 0, 1) := sorry
theorem d_Findings_init_23 : decode prog_6_method_1_code 23 = .ok (.sipush 1232, 3) := sorry
theorem d_Findings_init_26 : decode prog_6_method_1_code 26 = .ok (.newarray .int, 2) := sorry
theorem d_Findings_init_28 : decode prog_6_method_1_code 28 = .ok (.putfield 18, 3) := sorry
theorem k_370 : (Jvm.Cond.fieldLink "PackageBook$Findings" (18 : Nat) "PackageBook$Findings" "places" "[I") ∈ uW := sorry
theorem d_Findings_init_31 : decode prog_6_method_1_code 31 = .ok (.return_, 1) := sorry
abbrev y_Findings_init : MethodName := ⟨"PackageBook$Findings", "<init>", "()V"⟩
abbrev i_Findings_init : pb_I := (y_Findings_init, prog_6_method_1_code, 1, (Option.none : Option Jvm.ClassFile.FieldType), [], { frames := 1, cells := 3, slots := 3696, locals := 20 })
theorem g_Findings_init {l : Launch} (hl : l.stackTraces = false) (G : pb_G) (h : Nat) : Cn l G i_Findings_init [.ref h] [(h, .inr (2, [.null, .null, .null, .int 0]))] (S := Nat × Nat × Nat) (fun rv_ u => rv_ = none) (fun u => [(h, .inr (2, [.ref u.1, .ref u.2.1, .ref u.2.2, .int 0])), (u.1, .inl (G.2.2.1, 1232, .inl (fun _ => 0))), (u.2.1, .inl (G.2.2.1, 1232, .inl (fun _ => 0))), (u.2.2, .inl (G.2.2.1, 1232, .inl (fun _ => 0)))]) := sorry
theorem d_FileReader_init_0 : decode prog_5_method_1_code 0 = .ok (.aload_n 0, 1) := sorry
theorem d_FileReader_init_1 : decode prog_5_method_1_code 1 = .ok (.invokespecial 3, 3) := sorry
theorem k_305 : (Jvm.Cond.methodLink "PackageBook$FileReader" (3 : Nat) ({ cls := "java/lang/Object", name := "<init>", desc := "()V" } : Jvm.MethodName)) ∈ uW := sorry
theorem d_FileReader_init_4 : decode prog_5_method_1_code 4 = .ok (.aload_n 0, 1) := sorry
theorem d_FileReader_init_5 : decode prog_5_method_1_code 5 = .ok (.iconst 0, 1) := sorry
theorem d_FileReader_init_6 : decode prog_5_method_1_code 6 = .ok (.newarray .byte, 2) := sorry
theorem d_FileReader_init_8 : decode prog_5_method_1_code 8 = .ok (.putfield 9, 3) := sorry
theorem k_306 : (Jvm.Cond.fieldLink "PackageBook$FileReader" (9 : Nat) "PackageBook$FileReader" "row" "[B") ∈ uW := sorry
theorem d_FileReader_init_11 : decode prog_5_method_1_code 11 = .ok (.return_, 1) := sorry
abbrev y_FileReader_init : MethodName := ⟨"PackageBook$FileReader", "<init>", "()V"⟩
abbrev i_FileReader_init : pb_I := (y_FileReader_init, prog_5_method_1_code, 1, (Option.none : Option Jvm.ClassFile.FieldType), [], { frames := 1, cells := 1, slots := 0, locals := 20 })
theorem g_FileReader_init {l : Launch} (hl : l.stackTraces = false) (G : pb_G) (h : Nat) : Cn l G i_FileReader_init [.ref h] [(h, .inr (7, [.null]))] (S := Nat) (fun rv_ u => rv_ = none) (fun u => [(h, .inr (7, [.ref u]))]) := sorry
theorem d_FileMaker_init_0 : decode prog_4_method_1_code 0 = .ok (.aload_n 0, 1) := sorry
theorem d_FileMaker_init_1 : decode prog_4_method_1_code 1 = .ok (.invokespecial 3, 3) := sorry
theorem k_289 : (Jvm.Cond.methodLink "PackageBook$FileMaker" (3 : Nat) ({ cls := "java/lang/Object", name := "<init>", desc := "()V" } : Jvm.MethodName)) ∈ uW := sorry
theorem d_FileMaker_init_4 : decode prog_4_method_1_code 4 = .ok (.aload_n 0, 1) := sorry
theorem d_FileMaker_init_5 : decode prog_4_method_1_code 5 = .ok (.new 9, 3) := sorry
theorem k_290 : (Jvm.Cond.classLink "PackageBook$FileMaker" (9 : Nat) "PackageBook$Row") ∈ uW := sorry
theorem k_151 : (Jvm.Cond.instantiable "PackageBook$Row" (2 : Nat)) ∈ uW := sorry
theorem k_119 : (Jvm.Cond.initialized "PackageBook$Row") ∈ uW := sorry
theorem d_FileMaker_init_8 : decode prog_4_method_1_code 8 = .ok (.dup, 1) := sorry
theorem d_FileMaker_init_9 : decode prog_4_method_1_code 9 = .ok (.sipush 14006, 3) := sorry
theorem d_FileMaker_init_12 : decode prog_4_method_1_code 12 = .ok (.invokespecial 11, 3) := sorry
theorem k_291 : (Jvm.Cond.methodLink "PackageBook$FileMaker" (11 : Nat) ({ cls := "PackageBook$Row", name := "<init>", desc := "(I)V" } : Jvm.MethodName)) ∈ uW := sorry
theorem k_154 : (Jvm.Cond.code ({ cls := "PackageBook$Row", name := "<init>", desc := "(I)V" } : Jvm.MethodName) prog_9_method_1_code (2 : Nat) (Option.none : Option Jvm.ClassFile.FieldType)) ∈ uW := sorry
theorem k_153 : (Jvm.Cond.instanceMethod ({ cls := "PackageBook$Row", name := "<init>", desc := "(I)V" } : Jvm.MethodName)) ∈ uW := sorry
theorem hy_Row_init : (y_Row_init).cls ≠ "java/lang/invoke/MethodHandle" ∧ (y_Row_init).cls ≠ "java/lang/invoke/VarHandle" ∧ (parseMethodDescriptor (y_Row_init).desc).map (fun d => d.parameters.length) = some 1 := sorry
theorem d_FileMaker_init_15 : decode prog_4_method_1_code 15 = .ok (.putfield 14, 3) := sorry
theorem k_292 : (Jvm.Cond.fieldLink "PackageBook$FileMaker" (14 : Nat) "PackageBook$FileMaker" "made" "LPackageBook$Row;") ∈ uW := sorry
theorem d_FileMaker_init_18 : decode prog_4_method_1_code 18 = .ok (.aload_n 0, 1) := sorry
theorem d_FileMaker_init_19 : decode prog_4_method_1_code 19 = .ok (.bipush 16, 2) := sorry
theorem d_FileMaker_init_21 : decode prog_4_method_1_code 21 = .ok (.newarray .int, 2) := sorry
theorem d_FileMaker_init_23 : decode prog_4_method_1_code 23 = .ok (.putfield 20, 3) := sorry
theorem k_294 : (Jvm.Cond.fieldLink "PackageBook$FileMaker" (20 : Nat) "PackageBook$FileMaker" "records" "[I") ∈ uW := sorry
theorem d_FileMaker_init_26 : decode prog_4_method_1_code 26 = .ok (.return_, 1) := sorry
abbrev y_FileMaker_init : MethodName := ⟨"PackageBook$FileMaker", "<init>", "()V"⟩
abbrev i_FileMaker_init : pb_I := (y_FileMaker_init, prog_4_method_1_code, 1, (Option.none : Option Jvm.ClassFile.FieldType), [], { frames := 2, cells := 3, slots := 15018, locals := 41 })
theorem g_FileMaker_init {l : Launch} (hl : l.stackTraces = false) (G : pb_G) (h : Nat) : Cn l G i_FileMaker_init [.ref h] [(h, .inr (6, [.null, .null]))] (S := Nat × Nat × Nat) (fun rv_ u => rv_ = none) (fun u => [(h, .inr (6, [.ref u.1, .ref u.2.2])), (u.1, .inr (0, [.ref u.2.1, .int 0])), (u.2.1, .inl (G.2.1, 14006, .inl (fun _ => 0))), (u.2.2, .inl (G.2.2.1, 16, .inl (fun _ => 0)))]) := sorry
theorem d_Presser_init_0 : decode prog_8_method_1_code 0 = .ok (.aload_n 0, 1) := sorry
theorem d_Presser_init_1 : decode prog_8_method_1_code 1 = .ok (.invokespecial 3, 3) := sorry
theorem k_178 : (Jvm.Cond.methodLink "PackageBook$Presser" (3 : Nat) ({ cls := "java/lang/Object", name := "<init>", desc := "()V" } : Jvm.MethodName)) ∈ uW := sorry
theorem d_Presser_init_4 : decode prog_8_method_1_code 4 = .ok (.aload_n 0, 1) := sorry
theorem d_Presser_init_5 : decode prog_8_method_1_code 5 = .ok (.new 9, 3) := sorry
theorem k_179 : (Jvm.Cond.classLink "PackageBook$Presser" (9 : Nat) "PackageBook$Row") ∈ uW := sorry
theorem d_Presser_init_8 : decode prog_8_method_1_code 8 = .ok (.dup, 1) := sorry
theorem d_Presser_init_9 : decode prog_8_method_1_code 9 = .ok (.sipush 4502, 3) := sorry
theorem d_Presser_init_12 : decode prog_8_method_1_code 12 = .ok (.invokespecial 11, 3) := sorry
theorem k_180 : (Jvm.Cond.methodLink "PackageBook$Presser" (11 : Nat) ({ cls := "PackageBook$Row", name := "<init>", desc := "(I)V" } : Jvm.MethodName)) ∈ uW := sorry
theorem d_Presser_init_15 : decode prog_8_method_1_code 15 = .ok (.putfield 14, 3) := sorry
theorem k_181 : (Jvm.Cond.fieldLink "PackageBook$Presser" (14 : Nat) "PackageBook$Presser" "pressed" "LPackageBook$Row;") ∈ uW := sorry
theorem d_Presser_init_18 : decode prog_8_method_1_code 18 = .ok (.aload_n 0, 1) := sorry
theorem d_Presser_init_19 : decode prog_8_method_1_code 19 = .ok (.sipush 1024, 3) := sorry
theorem d_Presser_init_22 : decode prog_8_method_1_code 22 = .ok (.newarray .int, 2) := sorry
theorem d_Presser_init_24 : decode prog_8_method_1_code 24 = .ok (.putfield 20, 3) := sorry
theorem k_184 : (Jvm.Cond.fieldLink "PackageBook$Presser" (20 : Nat) "PackageBook$Presser" "latest" "[I") ∈ uW := sorry
theorem d_Presser_init_27 : decode prog_8_method_1_code 27 = .ok (.aload_n 0, 1) := sorry
theorem d_Presser_init_28 : decode prog_8_method_1_code 28 = .ok (.sipush 4000, 3) := sorry
theorem d_Presser_init_31 : decode prog_8_method_1_code 31 = .ok (.newarray .int, 2) := sorry
theorem d_Presser_init_33 : decode prog_8_method_1_code 33 = .ok (.putfield 24, 3) := sorry
theorem k_185 : (Jvm.Cond.fieldLink "PackageBook$Presser" (24 : Nat) "PackageBook$Presser" "earlier" "[I") ∈ uW := sorry
theorem d_Presser_init_36 : decode prog_8_method_1_code 36 = .ok (.aload_n 0, 1) := sorry
theorem d_Presser_init_37 : decode prog_8_method_1_code 37 = .ok (.iconst 0, 1) := sorry
theorem d_Presser_init_38 : decode prog_8_method_1_code 38 = .ok (.newarray .byte, 2) := sorry
theorem d_Presser_init_40 : decode prog_8_method_1_code 40 = .ok (.putfield 27, 3) := sorry
theorem k_186 : (Jvm.Cond.fieldLink "PackageBook$Presser" (27 : Nat) "PackageBook$Presser" "row" "[B") ∈ uW := sorry
theorem d_Presser_init_43 : decode prog_8_method_1_code 43 = .ok (.return_, 1) := sorry
abbrev y_Presser_init : MethodName := ⟨"PackageBook$Presser", "<init>", "()V"⟩
abbrev i_Presser_init : pb_I := (y_Presser_init, prog_8_method_1_code, 1, (Option.none : Option Jvm.ClassFile.FieldType), [], { frames := 2, cells := 5, slots := 20026, locals := 41 })
theorem g_Presser_init {l : Launch} (hl : l.stackTraces = false) (G : pb_G) (h : Nat) : Cn l G i_Presser_init [.ref h] [(h, .inr (4, [.null, .null, .null, .null, .int 0, .int 0, .int 0, .int 0, .int 0]))] (S := Nat × Nat × Nat × Nat × Nat) (fun rv_ u => rv_ = none) (fun u => [(h, .inr (4, [.ref u.1, .ref u.2.2.1, .ref u.2.2.2.1, .ref u.2.2.2.2, .int 0, .int 0, .int 0, .int 0, .int 0])), (u.1, .inr (0, [.ref u.2.1, .int 0])), (u.2.1, .inl (G.2.1, 4502, .inl (fun _ => 0))), (u.2.2.1, .inl (G.2.2.1, 1024, .inl (fun _ => 0))), (u.2.2.2.1, .inl (G.2.2.1, 4000, .inl (fun _ => 0)))]) := sorry
theorem d_Markup_init_0 : decode prog_7_method_1_code 0 = .ok (.aload_n 0, 1) := sorry
theorem d_Markup_init_1 : decode prog_7_method_1_code 1 = .ok (.invokespecial 3, 3) := sorry
theorem k_315 : (Jvm.Cond.methodLink "PackageBook$Markup" (3 : Nat) ({ cls := "java/lang/Object", name := "<init>", desc := "()V" } : Jvm.MethodName)) ∈ uW := sorry
theorem d_Markup_init_4 : decode prog_7_method_1_code 4 = .ok (.aload_n 0, 1) := sorry
theorem d_Markup_init_5 : decode prog_7_method_1_code 5 = .ok (.sipush 200, 3) := sorry
theorem d_Markup_init_8 : decode prog_7_method_1_code 8 = .ok (.newarray .long, 2) := sorry
theorem k_359 : (Jvm.Cond.arrayClass Jvm.ClassFile.FieldType.long) ∈ uW := sorry
theorem d_Markup_init_10 : decode prog_7_method_1_code 10 = .ok (.putfield 11, 3) := sorry
theorem k_316 : (Jvm.Cond.fieldLink "PackageBook$Markup" (11 : Nat) "PackageBook$Markup" "ids" "[J") ∈ uW := sorry
theorem d_Markup_init_13 : decode prog_7_method_1_code 13 = .ok (.aload_n 0, 1) := sorry
theorem d_Markup_init_14 : decode prog_7_method_1_code 14 = .ok (.sipush 200, 3) := sorry
theorem d_Markup_init_17 : decode prog_7_method_1_code 17 = .ok (.newarray .int, 2) := sorry
theorem d_Markup_init_19 : decode prog_7_method_1_code 19 = .ok (.putfield 15, 3) := sorry
theorem k_317 : (Jvm.Cond.fieldLink "PackageBook$Markup" (15 : Nat) "PackageBook$Markup" "goals" "[I") ∈ uW := sorry
theorem d_Markup_init_22 : decode prog_7_method_1_code 22 = .ok (.aload_n 0, 1) := sorry
theorem d_Markup_init_23 : decode prog_7_method_1_code 23 = .ok (.bipush 24, 2) := sorry
theorem d_Markup_init_25 : decode prog_7_method_1_code 25 = .ok (.newarray .byte, 2) := sorry
theorem d_Markup_init_27 : decode prog_7_method_1_code 27 = .ok (.putfield 19, 3) := sorry
theorem k_319 : (Jvm.Cond.fieldLink "PackageBook$Markup" (19 : Nat) "PackageBook$Markup" "value" "[B") ∈ uW := sorry
theorem d_Markup_init_30 : decode prog_7_method_1_code 30 = .ok (.aload_n 0, 1) := sorry
theorem d_Markup_init_31 : decode prog_7_method_1_code 31 = .ok (.iconst 0, 1) := sorry
theorem d_Markup_init_32 : decode prog_7_method_1_code 32 = .ok (.newarray .byte, 2) := sorry
theorem d_Markup_init_34 : decode prog_7_method_1_code 34 = .ok (.putfield 23, 3) := sorry
theorem k_320 : (Jvm.Cond.fieldLink "PackageBook$Markup" (23 : Nat) "PackageBook$Markup" "row" "[B") ∈ uW := sorry
theorem d_Markup_init_37 : decode prog_7_method_1_code 37 = .ok (.aload_n 0, 1) := sorry
theorem d_Markup_init_38 : decode prog_7_method_1_code 38 = .ok (.iconst (-1), 1) := sorry
theorem d_Markup_init_39 : decode prog_7_method_1_code 39 = .ok (.putfield 26, 3) := sorry
theorem k_323 : (Jvm.Cond.fieldLink "PackageBook$Markup" (26 : Nat) "PackageBook$Markup" "fault" "I") ∈ uW := sorry
theorem d_Markup_init_42 : decode prog_7_method_1_code 42 = .ok (.return_, 1) := sorry
abbrev y_Markup_init : MethodName := ⟨"PackageBook$Markup", "<init>", "()V"⟩
abbrev i_Markup_init : pb_I := (y_Markup_init, prog_7_method_1_code, 1, (Option.none : Option Jvm.ClassFile.FieldType), [], { frames := 1, cells := 4, slots := 424, locals := 20 })
theorem g_Markup_init {l : Launch} (hl : l.stackTraces = false) (G : pb_G) (h : Nat) : Cn l G i_Markup_init [.ref h] [(h, .inr (8, [.null, .null, .null, .null, .int 0, .int 0, .int 0, .int 0, .int 0, .int 0, .int 0, .int 0, .int 0]))] (S := Nat × Nat × Nat × Nat) (fun rv_ u => rv_ = none) (fun u => [(h, .inr (8, [.ref u.1, .ref u.2.1, .ref u.2.2.1, .ref u.2.2.2, .int 0, .int (-1), .int 0, .int 0, .int 0, .int 0, .int 0, .int 0, .int 0])), (u.1, .inl (G.2.2.2.1, 200, .inr (.inl (fun _ => 0)))), (u.2.1, .inl (G.2.2.1, 200, .inl (fun _ => 0))), (u.2.2.1, .inl (G.2.1, 24, .inl (fun _ => 0)))]) := sorry
