theorem d_Row_init_0 : decode prog_9_method_1_code 0 = .ok (.aload_n 0, 1) := by decide +kernel
theorem d_Row_init_1 : decode prog_9_method_1_code 1 = .ok (.invokespecial 1, 3) := by decide +kernel
theorem k_155 : (Jvm.Cond.methodLink "PackageBook$Row" (1 : Nat) ({ cls := "java/lang/Object", name := "<init>", desc := "()V" } : Jvm.MethodName)) ∈ uW := uW_of 155 (by decide +kernel) (by decide +kernel)
theorem k_148 : (Jvm.Cond.instanceMethod ({ cls := "java/lang/Object", name := "<init>", desc := "()V" } : Jvm.MethodName)) ∈ uW := uW_of 148 (by decide +kernel) (by decide +kernel)
theorem k_149 : (Jvm.Cond.code ({ cls := "java/lang/Object", name := "<init>", desc := "()V" } : Jvm.MethodName) object_method_1_code (1 : Nat) (Option.none : Option Jvm.ClassFile.FieldType)) ∈ uW := uW_of 149 (by decide +kernel) (by decide +kernel)
theorem d_Row_init_4 : decode prog_9_method_1_code 4 = .ok (.aload_n 0, 1) := by decide +kernel
theorem d_Row_init_5 : decode prog_9_method_1_code 5 = .ok (.iload_n 1, 1) := by decide +kernel
theorem d_Row_init_6 : decode prog_9_method_1_code 6 = .ok (.newarray .byte, 2) := by decide +kernel
theorem k_172 : (Jvm.Cond.arrayClass Jvm.ClassFile.FieldType.byte) ∈ uW := uW_of 172 (by decide +kernel) (by decide +kernel)
theorem d_Row_init_8 : decode prog_9_method_1_code 8 = .ok (.putfield 7, 3) := by decide +kernel
theorem k_156 : (Jvm.Cond.fieldLink "PackageBook$Row" (7 : Nat) "PackageBook$Row" "bytes" "[B") ∈ uW := uW_of 156 (by decide +kernel) (by decide +kernel)
theorem d_Row_init_11 : decode prog_9_method_1_code 11 = .ok (.return_, 1) := by decide +kernel
abbrev y_Row_init : MethodName := ⟨"PackageBook$Row", "<init>", "(I)V"⟩
abbrev i_Row_init : pb_I := (y_Row_init, prog_9_method_1_code, 2, (Option.none : Option Jvm.ClassFile.FieldType), [], { frames := 1, cells := 1, slots := 15000, locals := 20 })
set_option maxRecDepth 100000 in
set_option maxHeartbeats 4000000 in
theorem g_Row_init {l : Launch} (hl : l.stackTraces = false) (G : pb_G) (h : Nat) (n : Int32) (N : Nat) (hn : ¬ n < 0) (hN : n.toNatClampNeg = N) (hb : N ≤ 15000) : Cn l G i_Row_init [.ref h, .int n] [(h, .inr (0, [.null, .int 0]))] (S := Nat) (fun rv_ u => rv_ = none) (fun u => [(h, .inr (0, [.ref u, .int 0])), (u, .inl (G.2.1, N, .inl (fun _ => 0)))]) := by
  refine Cn.of hl (by decide +kernel) rfl (Nat.le_of_ble_eq_true rfl) (fun M hQ => ?_)
  refine pb_eq (pc' := 0) (lo' := [(0, .ref h), (1, .int n)]) (rest' := []) (ws' := [(h, .inr (0, [.null, .int 0]))]) ?_
  have zl0 : (0 : Int32).toInt = 0 := by decide
  have zl1 : (1 : Int32).toInt = 1 := by decide
  refine pb_aload_n (pc := 0) d_Row_init_0 0 rfl rfl ?_
  refine pb_objInit (pc := 1) d_Row_init_1 k_155 k_148 k_149 (by decide) (Nat.le_of_ble_eq_true rfl) ?_
  refine pb_aload_n (pc := 4) d_Row_init_4 0 rfl rfl ?_
  refine pb_iload_n (pc := 5) d_Row_init_5 1 rfl rfl ?_
  refine pb_newb (pc := 6) (N := N) d_Row_init_6 k_172 hn hN (by rw [show componentBytes .byte = 1 from rfl]; omega) (by decide) (by show 0 + N ≤ 15000; omega) (fun q1 => ?_)
  refine pb_widen (k' := 1) (n' := 15000) (by decide) (by omega) ?_
  refine pb_eq (pc' := 8) (lo' := [(0, .ref h), (1, .int n)]) (rest' := [.ref q1, .ref h]) (ws' := [(h, .inr (0, [.null, .int 0])), (q1, .inl (G.2.1, N, .inl (fun _ => 0)))]) ?_
  refine pb_putF (pc := 8) (ty := (.array .byte)) (ws' := [(h, .inr (0, [.ref q1, .int 0])), (q1, .inl (G.2.1, N, .inl (fun _ => 0)))]) d_Row_init_8 0 0 t_Row t_Row_ok n_Row rfl rfl (by decide) in_Row k_156 rfl rfl rfl (by decide +kernel) rfl rfl (Nat.le_of_ble_eq_true rfl) rfl ?_
  exact pb_vret (pc := 11) hQ d_Row_init_11 rfl (q1) rfl [0, 1] (by decide) rfl rfl (by decide) (by decide)

theorem d_Code_init_0 : decode prog_2_method_1_code 0 = .ok (.aload_n 0, 1) := by decide +kernel
theorem d_Code_init_1 : decode prog_2_method_1_code 1 = .ok (.invokespecial 1, 3) := by decide +kernel
theorem k_225 : (Jvm.Cond.methodLink "PackageBook$Code" (1 : Nat) ({ cls := "java/lang/Object", name := "<init>", desc := "()V" } : Jvm.MethodName)) ∈ uW := uW_of 225 (by decide +kernel) (by decide +kernel)
theorem d_Code_init_4 : decode prog_2_method_1_code 4 = .ok (.aload_n 0, 1) := by decide +kernel
theorem d_Code_init_5 : decode prog_2_method_1_code 5 = .ok (.bipush 16, 2) := by decide +kernel
theorem d_Code_init_7 : decode prog_2_method_1_code 7 = .ok (.newarray .int, 2) := by decide +kernel
theorem k_211 : (Jvm.Cond.arrayClass Jvm.ClassFile.FieldType.int) ∈ uW := uW_of 211 (by decide +kernel) (by decide +kernel)
theorem d_Code_init_9 : decode prog_2_method_1_code 9 = .ok (.putfield 9, 3) := by decide +kernel
theorem k_226 : (Jvm.Cond.fieldLink "PackageBook$Code" (9 : Nat) "PackageBook$Code" "counts" "[I") ∈ uW := uW_of 226 (by decide +kernel) (by decide +kernel)
theorem d_Code_init_12 : decode prog_2_method_1_code 12 = .ok (.aload_n 0, 1) := by decide +kernel
theorem d_Code_init_13 : decode prog_2_method_1_code 13 = .ok (.iload_n 1, 1) := by decide +kernel
theorem d_Code_init_14 : decode prog_2_method_1_code 14 = .ok (.newarray .int, 2) := by decide +kernel
theorem d_Code_init_16 : decode prog_2_method_1_code 16 = .ok (.putfield 13, 3) := by decide +kernel
theorem k_228 : (Jvm.Cond.fieldLink "PackageBook$Code" (13 : Nat) "PackageBook$Code" "symbols" "[I") ∈ uW := uW_of 228 (by decide +kernel) (by decide +kernel)
theorem d_Code_init_19 : decode prog_2_method_1_code 19 = .ok (.return_, 1) := by decide +kernel
abbrev y_Code_init : MethodName := ⟨"PackageBook$Code", "<init>", "(I)V"⟩
abbrev i_Code_init : pb_I := (y_Code_init, prog_2_method_1_code, 2, (Option.none : Option Jvm.ClassFile.FieldType), [], { frames := 1, cells := 2, slots := 316, locals := 20 })
set_option maxRecDepth 100000 in
set_option maxHeartbeats 4000000 in
theorem g_Code_init {l : Launch} (hl : l.stackTraces = false) (G : pb_G) (h : Nat) (n : Int32) (N : Nat) (hn : ¬ n < 0) (hN : n.toNatClampNeg = N) (hb : N ≤ 300) : Cn l G i_Code_init [.ref h, .int n] [(h, .inr (1, [.null, .null, .int 0]))] (S := Nat × Nat) (fun rv_ u => rv_ = none) (fun u => [(h, .inr (1, [.ref u.1, .ref u.2, .int 0])), (u.1, .inl (G.2.2.1, 16, .inl (fun _ => 0))), (u.2, .inl (G.2.2.1, N, .inl (fun _ => 0)))]) := by
  refine Cn.of hl (by decide +kernel) rfl (Nat.le_of_ble_eq_true rfl) (fun M hQ => ?_)
  refine pb_eq (pc' := 0) (lo' := [(0, .ref h), (1, .int n)]) (rest' := []) (ws' := [(h, .inr (1, [.null, .null, .int 0]))]) ?_
  have zl0 : (0 : Int32).toInt = 0 := by decide
  have zl1 : (1 : Int32).toInt = 1 := by decide
  have zl16 : (16 : Int32).toInt = 16 := by decide
  refine pb_aload_n (pc := 0) d_Code_init_0 0 rfl rfl ?_
  refine pb_objInit (pc := 1) d_Code_init_1 k_225 k_148 k_149 (by decide) (Nat.le_of_ble_eq_true rfl) ?_
  refine pb_aload_n (pc := 4) d_Code_init_4 0 rfl rfl ?_
  refine pb_bipush (pc := 5) (v := 16) d_Code_init_5 (by decide) ?_
  refine pb_newi (pc := 7) (N := 16) d_Code_init_7 k_211 (by decide) (by decide) (by decide) (by decide) (by decide) (fun q1 => ?_)
  refine pb_eq (pc' := 9) (lo' := [(0, .ref h), (1, .int n)]) (rest' := [.ref q1, .ref h]) (ws' := [(h, .inr (1, [.null, .null, .int 0])), (q1, .inl (G.2.2.1, 16, .inl (fun _ => 0)))]) ?_
  refine pb_putF (pc := 9) (ty := (.array .int)) (ws' := [(h, .inr (1, [.ref q1, .null, .int 0])), (q1, .inl (G.2.2.1, 16, .inl (fun _ => 0)))]) d_Code_init_9 0 0 t_Code t_Code_ok n_Code rfl rfl (by decide) in_Code k_226 rfl rfl rfl (by decide +kernel) rfl rfl (Nat.le_of_ble_eq_true rfl) rfl ?_
  refine pb_aload_n (pc := 12) d_Code_init_12 0 rfl rfl ?_
  refine pb_iload_n (pc := 13) d_Code_init_13 1 rfl rfl ?_
  refine pb_newi (pc := 14) (N := N) d_Code_init_14 k_211 hn hN (by rw [show componentBytes .int = 4 from rfl]; omega) (by decide) (by show 16 + N ≤ 316; omega) (fun q2 => ?_)
  refine pb_widen (k' := 2) (n' := 316) (by decide) (by omega) ?_
  refine pb_eq (pc' := 16) (lo' := [(0, .ref h), (1, .int n)]) (rest' := [.ref q2, .ref h]) (ws' := [(h, .inr (1, [.ref q1, .null, .int 0])), (q1, .inl (G.2.2.1, 16, .inl (fun _ => 0))), (q2, .inl (G.2.2.1, N, .inl (fun _ => 0)))]) ?_
  refine pb_putF (pc := 16) (ty := (.array .int)) (ws' := [(h, .inr (1, [.ref q1, .ref q2, .int 0])), (q1, .inl (G.2.2.1, 16, .inl (fun _ => 0))), (q2, .inl (G.2.2.1, N, .inl (fun _ => 0)))]) d_Code_init_16 0 1 t_Code t_Code_ok n_Code rfl rfl (by decide) in_Code k_228 rfl rfl rfl (by decide +kernel) rfl rfl (Nat.le_of_ble_eq_true rfl) rfl ?_
  exact pb_vret (pc := 19) hQ d_Code_init_19 rfl (q1, q2) rfl [0, 1, 2] (by decide) rfl rfl (by decide) (by decide)

theorem d_Shelf_init_0 : decode prog_10_method_1_code 0 = .ok (.aload_n 0, 1) := by decide +kernel
theorem d_Shelf_init_1 : decode prog_10_method_1_code 1 = .ok (.invokespecial 3, 3) := by decide +kernel
theorem k_388 : (Jvm.Cond.methodLink "PackageBook$Shelf" (3 : Nat) ({ cls := "java/lang/Object", name := "<init>", desc := "()V" } : Jvm.MethodName)) ∈ uW := uW_of 388 (by decide +kernel) (by decide +kernel)
theorem d_Shelf_init_4 : decode prog_10_method_1_code 4 = .ok (.aload_n 0, 1) := by decide +kernel
theorem d_Shelf_init_5 : decode prog_10_method_1_code 5 = .ok (.sipush 384, 3) := by decide +kernel
theorem d_Shelf_init_8 : decode prog_10_method_1_code 8 = .ok (.newarray .byte, 2) := by decide +kernel
theorem d_Shelf_init_10 : decode prog_10_method_1_code 10 = .ok (.putfield 9, 3) := by decide +kernel
theorem k_389 : (Jvm.Cond.fieldLink "PackageBook$Shelf" (9 : Nat) "PackageBook$Shelf" "names" "[B") ∈ uW := uW_of 389 (by decide +kernel) (by decide +kernel)
theorem d_Shelf_init_13 : decode prog_10_method_1_code 13 = .ok (.aload_n 0, 1) := by decide +kernel
theorem d_Shelf_init_14 : decode prog_10_method_1_code 14 = .ok (.bipush 16, 2) := by decide +kernel
theorem d_Shelf_init_16 : decode prog_10_method_1_code 16 = .ok (.newarray .int, 2) := by decide +kernel
theorem d_Shelf_init_18 : decode prog_10_method_1_code 18 = .ok (.putfield 15, 3) := by decide +kernel
theorem k_392 : (Jvm.Cond.fieldLink "PackageBook$Shelf" (15 : Nat) "PackageBook$Shelf" "nameSizes" "[I") ∈ uW := uW_of 392 (by decide +kernel) (by decide +kernel)
theorem d_Shelf_init_21 : decode prog_10_method_1_code 21 = .ok (.aload_n 0, 1) := by decide +kernel
theorem d_Shelf_init_22 : decode prog_10_method_1_code 22 = .ok (.sipush 12000, 3) := by decide +kernel
theorem d_Shelf_init_25 : decode prog_10_method_1_code 25 = .ok (.newarray .byte, 2) := by decide +kernel
theorem d_Shelf_init_27 : decode prog_10_method_1_code 27 = .ok (.putfield 19, 3) := by decide +kernel
theorem k_395 : (Jvm.Cond.fieldLink "PackageBook$Shelf" (19 : Nat) "PackageBook$Shelf" "bytes" "[B") ∈ uW := uW_of 395 (by decide +kernel) (by decide +kernel)
theorem d_Shelf_init_30 : decode prog_10_method_1_code 30 = .ok (.aload_n 0, 1) := by decide +kernel
theorem d_Shelf_init_31 : decode prog_10_method_1_code 31 = .ok (.bipush 17, 2) := by decide +kernel
theorem d_Shelf_init_33 : decode prog_10_method_1_code 33 = .ok (.newarray .int, 2) := by decide +kernel
theorem d_Shelf_init_35 : decode prog_10_method_1_code 35 = .ok (.putfield 22, 3) := by decide +kernel
theorem k_399 : (Jvm.Cond.fieldLink "PackageBook$Shelf" (22 : Nat) "PackageBook$Shelf" "begins" "[I") ∈ uW := uW_of 399 (by decide +kernel) (by decide +kernel)
theorem d_Shelf_init_38 : decode prog_10_method_1_code 38 = .ok (.return_, 1) := by decide +kernel
abbrev y_Shelf_init : MethodName := ⟨"PackageBook$Shelf", "<init>", "()V"⟩
abbrev i_Shelf_init : pb_I := (y_Shelf_init, prog_10_method_1_code, 1, (Option.none : Option Jvm.ClassFile.FieldType), [], { frames := 1, cells := 4, slots := 12417, locals := 20 })
set_option maxRecDepth 100000 in
set_option maxHeartbeats 4000000 in
theorem g_Shelf_init {l : Launch} (hl : l.stackTraces = false) (G : pb_G) (h : Nat) : Cn l G i_Shelf_init [.ref h] [(h, .inr (3, [.null, .null, .null, .null, .int 0]))] (S := Nat × Nat × Nat × Nat) (fun rv_ u => rv_ = none) (fun u => [(h, .inr (3, [.ref u.1, .ref u.2.1, .ref u.2.2.1, .ref u.2.2.2, .int 0])), (u.1, .inl (G.2.1, 384, .inl (fun _ => 0))), (u.2.1, .inl (G.2.2.1, 16, .inl (fun _ => 0))), (u.2.2.1, .inl (G.2.1, 12000, .inl (fun _ => 0))), (u.2.2.2, .inl (G.2.2.1, 17, .inl (fun _ => 0)))]) := by
  refine Cn.of hl (by decide +kernel) rfl (Nat.le_of_ble_eq_true rfl) (fun M hQ => ?_)
  refine pb_eq (pc' := 0) (lo' := [(0, .ref h)]) (rest' := []) (ws' := [(h, .inr (3, [.null, .null, .null, .null, .int 0]))]) ?_
  have zl0 : (0 : Int32).toInt = 0 := by decide
  have zl1 : (1 : Int32).toInt = 1 := by decide
  have zl16 : (16 : Int32).toInt = 16 := by decide
  have zl17 : (17 : Int32).toInt = 17 := by decide
  have zl384 : (384 : Int32).toInt = 384 := by decide
  have zl12000 : (12000 : Int32).toInt = 12000 := by decide
  refine pb_aload_n (pc := 0) d_Shelf_init_0 0 rfl rfl ?_
  refine pb_objInit (pc := 1) d_Shelf_init_1 k_388 k_148 k_149 (by decide) (Nat.le_of_ble_eq_true rfl) ?_
  refine pb_aload_n (pc := 4) d_Shelf_init_4 0 rfl rfl ?_
  refine pb_sipush (pc := 5) (v := 384) d_Shelf_init_5 (by decide) ?_
  refine pb_newb (pc := 8) (N := 384) d_Shelf_init_8 k_172 (by decide) (by decide) (by decide) (by decide) (by decide) (fun q1 => ?_)
  refine pb_eq (pc' := 10) (lo' := [(0, .ref h)]) (rest' := [.ref q1, .ref h]) (ws' := [(h, .inr (3, [.null, .null, .null, .null, .int 0])), (q1, .inl (G.2.1, 384, .inl (fun _ => 0)))]) ?_
  refine pb_putF (pc := 10) (ty := (.array .byte)) (ws' := [(h, .inr (3, [.ref q1, .null, .null, .null, .int 0])), (q1, .inl (G.2.1, 384, .inl (fun _ => 0)))]) d_Shelf_init_10 0 0 t_Shelf t_Shelf_ok n_Shelf rfl rfl (by decide) in_Shelf k_389 rfl rfl rfl (by decide +kernel) rfl rfl (Nat.le_of_ble_eq_true rfl) rfl ?_
  refine pb_aload_n (pc := 13) d_Shelf_init_13 0 rfl rfl ?_
  refine pb_bipush (pc := 14) (v := 16) d_Shelf_init_14 (by decide) ?_
  refine pb_newi (pc := 16) (N := 16) d_Shelf_init_16 k_211 (by decide) (by decide) (by decide) (by decide) (by decide) (fun q2 => ?_)
  refine pb_eq (pc' := 18) (lo' := [(0, .ref h)]) (rest' := [.ref q2, .ref h]) (ws' := [(h, .inr (3, [.ref q1, .null, .null, .null, .int 0])), (q1, .inl (G.2.1, 384, .inl (fun _ => 0))), (q2, .inl (G.2.2.1, 16, .inl (fun _ => 0)))]) ?_
  refine pb_putF (pc := 18) (ty := (.array .int)) (ws' := [(h, .inr (3, [.ref q1, .ref q2, .null, .null, .int 0])), (q1, .inl (G.2.1, 384, .inl (fun _ => 0))), (q2, .inl (G.2.2.1, 16, .inl (fun _ => 0)))]) d_Shelf_init_18 0 1 t_Shelf t_Shelf_ok n_Shelf rfl rfl (by decide) in_Shelf k_392 rfl rfl rfl (by decide +kernel) rfl rfl (Nat.le_of_ble_eq_true rfl) rfl ?_
  refine pb_aload_n (pc := 21) d_Shelf_init_21 0 rfl rfl ?_
  refine pb_sipush (pc := 22) (v := 12000) d_Shelf_init_22 (by decide) ?_
  refine pb_newb (pc := 25) (N := 12000) d_Shelf_init_25 k_172 (by decide) (by decide) (by decide) (by decide) (by decide) (fun q3 => ?_)
  refine pb_eq (pc' := 27) (lo' := [(0, .ref h)]) (rest' := [.ref q3, .ref h]) (ws' := [(h, .inr (3, [.ref q1, .ref q2, .null, .null, .int 0])), (q1, .inl (G.2.1, 384, .inl (fun _ => 0))), (q2, .inl (G.2.2.1, 16, .inl (fun _ => 0))), (q3, .inl (G.2.1, 12000, .inl (fun _ => 0)))]) ?_
  refine pb_putF (pc := 27) (ty := (.array .byte)) (ws' := [(h, .inr (3, [.ref q1, .ref q2, .ref q3, .null, .int 0])), (q1, .inl (G.2.1, 384, .inl (fun _ => 0))), (q2, .inl (G.2.2.1, 16, .inl (fun _ => 0))), (q3, .inl (G.2.1, 12000, .inl (fun _ => 0)))]) d_Shelf_init_27 0 2 t_Shelf t_Shelf_ok n_Shelf rfl rfl (by decide) in_Shelf k_395 rfl rfl rfl (by decide +kernel) rfl rfl (Nat.le_of_ble_eq_true rfl) rfl ?_
  refine pb_aload_n (pc := 30) d_Shelf_init_30 0 rfl rfl ?_
  refine pb_bipush (pc := 31) (v := 17) d_Shelf_init_31 (by decide) ?_
  refine pb_newi (pc := 33) (N := 17) d_Shelf_init_33 k_211 (by decide) (by decide) (by decide) (by decide) (by decide) (fun q4 => ?_)
  refine pb_eq (pc' := 35) (lo' := [(0, .ref h)]) (rest' := [.ref q4, .ref h]) (ws' := [(h, .inr (3, [.ref q1, .ref q2, .ref q3, .null, .int 0])), (q1, .inl (G.2.1, 384, .inl (fun _ => 0))), (q2, .inl (G.2.2.1, 16, .inl (fun _ => 0))), (q3, .inl (G.2.1, 12000, .inl (fun _ => 0))), (q4, .inl (G.2.2.1, 17, .inl (fun _ => 0)))]) ?_
  refine pb_putF (pc := 35) (ty := (.array .int)) (ws' := [(h, .inr (3, [.ref q1, .ref q2, .ref q3, .ref q4, .int 0])), (q1, .inl (G.2.1, 384, .inl (fun _ => 0))), (q2, .inl (G.2.2.1, 16, .inl (fun _ => 0))), (q3, .inl (G.2.1, 12000, .inl (fun _ => 0))), (q4, .inl (G.2.2.1, 17, .inl (fun _ => 0)))]) d_Shelf_init_35 0 3 t_Shelf t_Shelf_ok n_Shelf rfl rfl (by decide) in_Shelf k_399 rfl rfl rfl (by decide +kernel) rfl rfl (Nat.le_of_ble_eq_true rfl) rfl ?_
  exact pb_vret (pc := 38) hQ d_Shelf_init_38 rfl (q1, q2, q3, q4) rfl [0, 1, 2, 3, 4] (by decide) rfl rfl (by decide) (by decide)

theorem d_Findings_init_0 : decode prog_6_method_1_code 0 = .ok (.aload_n 0, 1) := by decide +kernel
theorem d_Findings_init_1 : decode prog_6_method_1_code 1 = .ok (.invokespecial 3, 3) := by decide +kernel
theorem k_365 : (Jvm.Cond.methodLink "PackageBook$Findings" (3 : Nat) ({ cls := "java/lang/Object", name := "<init>", desc := "()V" } : Jvm.MethodName)) ∈ uW := uW_of 365 (by decide +kernel) (by decide +kernel)
theorem d_Findings_init_4 : decode prog_6_method_1_code 4 = .ok (.aload_n 0, 1) := by decide +kernel
theorem d_Findings_init_5 : decode prog_6_method_1_code 5 = .ok (.sipush 1232, 3) := by decide +kernel
theorem d_Findings_init_8 : decode prog_6_method_1_code 8 = .ok (.newarray .int, 2) := by decide +kernel
theorem d_Findings_init_10 : decode prog_6_method_1_code 10 = .ok (.putfield 11, 3) := by decide +kernel
theorem k_366 : (Jvm.Cond.fieldLink "PackageBook$Findings" (11 : Nat) "PackageBook$Findings" "kinds" "[I") ∈ uW := uW_of 366 (by decide +kernel) (by decide +kernel)
theorem d_Findings_init_13 : decode prog_6_method_1_code 13 = .ok (.aload_n 0, 1) := by decide +kernel
theorem d_Findings_init_14 : decode prog_6_method_1_code 14 = .ok (.sipush 1232, 3) := by decide +kernel
theorem d_Findings_init_17 : decode prog_6_method_1_code 17 = .ok (.newarray .int, 2) := by decide +kernel
theorem d_Findings_init_19 : decode prog_6_method_1_code 19 = .ok (.putfield 15, 3) := by decide +kernel
theorem k_368 : (Jvm.Cond.fieldLink "PackageBook$Findings" (15 : Nat) "PackageBook$Findings" "owners" "[I") ∈ uW := uW_of 368 (by decide +kernel) (by decide +kernel)
theorem d_Findings_init_22 : decode prog_6_method_1_code 22 = .ok (.aload_n 0, 1) := by decide +kernel
theorem d_Findings_init_23 : decode prog_6_method_1_code 23 = .ok (.sipush 1232, 3) := by decide +kernel
theorem d_Findings_init_26 : decode prog_6_method_1_code 26 = .ok (.newarray .int, 2) := by decide +kernel
theorem d_Findings_init_28 : decode prog_6_method_1_code 28 = .ok (.putfield 18, 3) := by decide +kernel
theorem k_370 : (Jvm.Cond.fieldLink "PackageBook$Findings" (18 : Nat) "PackageBook$Findings" "places" "[I") ∈ uW := uW_of 370 (by decide +kernel) (by decide +kernel)
theorem d_Findings_init_31 : decode prog_6_method_1_code 31 = .ok (.return_, 1) := by decide +kernel
abbrev y_Findings_init : MethodName := ⟨"PackageBook$Findings", "<init>", "()V"⟩
abbrev i_Findings_init : pb_I := (y_Findings_init, prog_6_method_1_code, 1, (Option.none : Option Jvm.ClassFile.FieldType), [], { frames := 1, cells := 3, slots := 3696, locals := 20 })
set_option maxRecDepth 100000 in
set_option maxHeartbeats 4000000 in
theorem g_Findings_init {l : Launch} (hl : l.stackTraces = false) (G : pb_G) (h : Nat) : Cn l G i_Findings_init [.ref h] [(h, .inr (2, [.null, .null, .null, .int 0]))] (S := Nat × Nat × Nat) (fun rv_ u => rv_ = none) (fun u => [(h, .inr (2, [.ref u.1, .ref u.2.1, .ref u.2.2, .int 0])), (u.1, .inl (G.2.2.1, 1232, .inl (fun _ => 0))), (u.2.1, .inl (G.2.2.1, 1232, .inl (fun _ => 0))), (u.2.2, .inl (G.2.2.1, 1232, .inl (fun _ => 0)))]) := by
  refine Cn.of hl (by decide +kernel) rfl (Nat.le_of_ble_eq_true rfl) (fun M hQ => ?_)
  refine pb_eq (pc' := 0) (lo' := [(0, .ref h)]) (rest' := []) (ws' := [(h, .inr (2, [.null, .null, .null, .int 0]))]) ?_
  have zl0 : (0 : Int32).toInt = 0 := by decide
  have zl1 : (1 : Int32).toInt = 1 := by decide
  have zl1232 : (1232 : Int32).toInt = 1232 := by decide
  refine pb_aload_n (pc := 0) d_Findings_init_0 0 rfl rfl ?_
  refine pb_objInit (pc := 1) d_Findings_init_1 k_365 k_148 k_149 (by decide) (Nat.le_of_ble_eq_true rfl) ?_
  refine pb_aload_n (pc := 4) d_Findings_init_4 0 rfl rfl ?_
  refine pb_sipush (pc := 5) (v := 1232) d_Findings_init_5 (by decide) ?_
  refine pb_newi (pc := 8) (N := 1232) d_Findings_init_8 k_211 (by decide) (by decide) (by decide) (by decide) (by decide) (fun q1 => ?_)
  refine pb_eq (pc' := 10) (lo' := [(0, .ref h)]) (rest' := [.ref q1, .ref h]) (ws' := [(h, .inr (2, [.null, .null, .null, .int 0])), (q1, .inl (G.2.2.1, 1232, .inl (fun _ => 0)))]) ?_
  refine pb_putF (pc := 10) (ty := (.array .int)) (ws' := [(h, .inr (2, [.ref q1, .null, .null, .int 0])), (q1, .inl (G.2.2.1, 1232, .inl (fun _ => 0)))]) d_Findings_init_10 0 0 t_Findings t_Findings_ok n_Findings rfl rfl (by decide) in_Findings k_366 rfl rfl rfl (by decide +kernel) rfl rfl (Nat.le_of_ble_eq_true rfl) rfl ?_
  refine pb_aload_n (pc := 13) d_Findings_init_13 0 rfl rfl ?_
  refine pb_sipush (pc := 14) (v := 1232) d_Findings_init_14 (by decide) ?_
  refine pb_newi (pc := 17) (N := 1232) d_Findings_init_17 k_211 (by decide) (by decide) (by decide) (by decide) (by decide) (fun q2 => ?_)
  refine pb_eq (pc' := 19) (lo' := [(0, .ref h)]) (rest' := [.ref q2, .ref h]) (ws' := [(h, .inr (2, [.ref q1, .null, .null, .int 0])), (q1, .inl (G.2.2.1, 1232, .inl (fun _ => 0))), (q2, .inl (G.2.2.1, 1232, .inl (fun _ => 0)))]) ?_
  refine pb_putF (pc := 19) (ty := (.array .int)) (ws' := [(h, .inr (2, [.ref q1, .ref q2, .null, .int 0])), (q1, .inl (G.2.2.1, 1232, .inl (fun _ => 0))), (q2, .inl (G.2.2.1, 1232, .inl (fun _ => 0)))]) d_Findings_init_19 0 1 t_Findings t_Findings_ok n_Findings rfl rfl (by decide) in_Findings k_368 rfl rfl rfl (by decide +kernel) rfl rfl (Nat.le_of_ble_eq_true rfl) rfl ?_
  refine pb_aload_n (pc := 22) d_Findings_init_22 0 rfl rfl ?_
  refine pb_sipush (pc := 23) (v := 1232) d_Findings_init_23 (by decide) ?_
  refine pb_newi (pc := 26) (N := 1232) d_Findings_init_26 k_211 (by decide) (by decide) (by decide) (by decide) (by decide) (fun q3 => ?_)
  refine pb_eq (pc' := 28) (lo' := [(0, .ref h)]) (rest' := [.ref q3, .ref h]) (ws' := [(h, .inr (2, [.ref q1, .ref q2, .null, .int 0])), (q1, .inl (G.2.2.1, 1232, .inl (fun _ => 0))), (q2, .inl (G.2.2.1, 1232, .inl (fun _ => 0))), (q3, .inl (G.2.2.1, 1232, .inl (fun _ => 0)))]) ?_
  refine pb_putF (pc := 28) (ty := (.array .int)) (ws' := [(h, .inr (2, [.ref q1, .ref q2, .ref q3, .int 0])), (q1, .inl (G.2.2.1, 1232, .inl (fun _ => 0))), (q2, .inl (G.2.2.1, 1232, .inl (fun _ => 0))), (q3, .inl (G.2.2.1, 1232, .inl (fun _ => 0)))]) d_Findings_init_28 0 2 t_Findings t_Findings_ok n_Findings rfl rfl (by decide) in_Findings k_370 rfl rfl rfl (by decide +kernel) rfl rfl (Nat.le_of_ble_eq_true rfl) rfl ?_
  exact pb_vret (pc := 31) hQ d_Findings_init_31 rfl (q1, q2, q3) rfl [0, 1, 2, 3] (by decide) rfl rfl (by decide) (by decide)

theorem d_FileReader_init_0 : decode prog_5_method_1_code 0 = .ok (.aload_n 0, 1) := by decide +kernel
theorem d_FileReader_init_1 : decode prog_5_method_1_code 1 = .ok (.invokespecial 3, 3) := by decide +kernel
theorem k_305 : (Jvm.Cond.methodLink "PackageBook$FileReader" (3 : Nat) ({ cls := "java/lang/Object", name := "<init>", desc := "()V" } : Jvm.MethodName)) ∈ uW := uW_of 305 (by decide +kernel) (by decide +kernel)
theorem d_FileReader_init_4 : decode prog_5_method_1_code 4 = .ok (.aload_n 0, 1) := by decide +kernel
theorem d_FileReader_init_5 : decode prog_5_method_1_code 5 = .ok (.iconst 0, 1) := by decide +kernel
theorem d_FileReader_init_6 : decode prog_5_method_1_code 6 = .ok (.newarray .byte, 2) := by decide +kernel
theorem d_FileReader_init_8 : decode prog_5_method_1_code 8 = .ok (.putfield 9, 3) := by decide +kernel
theorem k_306 : (Jvm.Cond.fieldLink "PackageBook$FileReader" (9 : Nat) "PackageBook$FileReader" "row" "[B") ∈ uW := uW_of 306 (by decide +kernel) (by decide +kernel)
theorem d_FileReader_init_11 : decode prog_5_method_1_code 11 = .ok (.return_, 1) := by decide +kernel
abbrev y_FileReader_init : MethodName := ⟨"PackageBook$FileReader", "<init>", "()V"⟩
abbrev i_FileReader_init : pb_I := (y_FileReader_init, prog_5_method_1_code, 1, (Option.none : Option Jvm.ClassFile.FieldType), [], { frames := 1, cells := 1, slots := 0, locals := 20 })
set_option maxRecDepth 100000 in
set_option maxHeartbeats 4000000 in
theorem g_FileReader_init {l : Launch} (hl : l.stackTraces = false) (G : pb_G) (h : Nat) : Cn l G i_FileReader_init [.ref h] [(h, .inr (7, [.null]))] (S := Nat) (fun rv_ u => rv_ = none) (fun u => [(h, .inr (7, [.ref u]))]) := by
  refine Cn.of hl (by decide +kernel) rfl (Nat.le_of_ble_eq_true rfl) (fun M hQ => ?_)
  refine pb_eq (pc' := 0) (lo' := [(0, .ref h)]) (rest' := []) (ws' := [(h, .inr (7, [.null]))]) ?_
  have zl0 : (0 : Int32).toInt = 0 := by decide
  have zl1 : (1 : Int32).toInt = 1 := by decide
  refine pb_aload_n (pc := 0) d_FileReader_init_0 0 rfl rfl ?_
  refine pb_objInit (pc := 1) d_FileReader_init_1 k_305 k_148 k_149 (by decide) (Nat.le_of_ble_eq_true rfl) ?_
  refine pb_aload_n (pc := 4) d_FileReader_init_4 0 rfl rfl ?_
  refine pb_iconst (pc := 5) (v := 0) d_FileReader_init_5 (by decide) ?_
  refine pb_newb (pc := 6) (N := 0) d_FileReader_init_6 k_172 (by decide) (by decide) (by decide) (by decide) (by decide) (fun q1 => ?_)
  refine pb_eq (pc' := 8) (lo' := [(0, .ref h)]) (rest' := [.ref q1, .ref h]) (ws' := [(h, .inr (7, [.null])), (q1, .inl (G.2.1, 0, .inl (fun _ => 0)))]) ?_
  refine pb_put (pc := 8) (ty := (.array .byte)) (ws' := [(h, .inr (7, [.ref q1])), (q1, .inl (G.2.1, 0, .inl (fun _ => 0)))]) d_FileReader_init_8 0 0 t_FileReader t_FileReader_ok n_FileReader rfl rfl (by decide) in_FileReader k_306 rfl (by decide +kernel) rfl rfl (Nat.le_of_ble_eq_true rfl) rfl ?_
  exact pb_vret (pc := 11) hQ d_FileReader_init_11 rfl (q1) rfl [0] (by decide) rfl rfl (by decide) (by decide)

theorem d_FileMaker_init_0 : decode prog_4_method_1_code 0 = .ok (.aload_n 0, 1) := by decide +kernel
theorem d_FileMaker_init_1 : decode prog_4_method_1_code 1 = .ok (.invokespecial 3, 3) := by decide +kernel
theorem k_289 : (Jvm.Cond.methodLink "PackageBook$FileMaker" (3 : Nat) ({ cls := "java/lang/Object", name := "<init>", desc := "()V" } : Jvm.MethodName)) ∈ uW := uW_of 289 (by decide +kernel) (by decide +kernel)
theorem d_FileMaker_init_4 : decode prog_4_method_1_code 4 = .ok (.aload_n 0, 1) := by decide +kernel
theorem d_FileMaker_init_5 : decode prog_4_method_1_code 5 = .ok (.new 9, 3) := by decide +kernel
theorem k_290 : (Jvm.Cond.classLink "PackageBook$FileMaker" (9 : Nat) "PackageBook$Row") ∈ uW := uW_of 290 (by decide +kernel) (by decide +kernel)
theorem k_151 : (Jvm.Cond.instantiable "PackageBook$Row" (2 : Nat)) ∈ uW := uW_of 151 (by decide +kernel) (by decide +kernel)
theorem k_119 : (Jvm.Cond.initialized "PackageBook$Row") ∈ uW := uW_of 119 (by decide +kernel) (by decide +kernel)
theorem d_FileMaker_init_8 : decode prog_4_method_1_code 8 = .ok (.dup, 1) := by decide +kernel
theorem d_FileMaker_init_9 : decode prog_4_method_1_code 9 = .ok (.sipush 14006, 3) := by decide +kernel
theorem d_FileMaker_init_12 : decode prog_4_method_1_code 12 = .ok (.invokespecial 11, 3) := by decide +kernel
theorem k_291 : (Jvm.Cond.methodLink "PackageBook$FileMaker" (11 : Nat) ({ cls := "PackageBook$Row", name := "<init>", desc := "(I)V" } : Jvm.MethodName)) ∈ uW := uW_of 291 (by decide +kernel) (by decide +kernel)
theorem k_154 : (Jvm.Cond.code ({ cls := "PackageBook$Row", name := "<init>", desc := "(I)V" } : Jvm.MethodName) prog_9_method_1_code (2 : Nat) (Option.none : Option Jvm.ClassFile.FieldType)) ∈ uW := uW_of 154 (by decide +kernel) (by decide +kernel)
theorem k_153 : (Jvm.Cond.instanceMethod ({ cls := "PackageBook$Row", name := "<init>", desc := "(I)V" } : Jvm.MethodName)) ∈ uW := uW_of 153 (by decide +kernel) (by decide +kernel)
theorem hy_Row_init : (y_Row_init).cls ≠ "java/lang/invoke/MethodHandle" ∧ (y_Row_init).cls ≠ "java/lang/invoke/VarHandle" ∧ (parseMethodDescriptor (y_Row_init).desc).map (fun d => d.parameters.length) = some 1 := by decide +kernel
theorem d_FileMaker_init_15 : decode prog_4_method_1_code 15 = .ok (.putfield 14, 3) := by decide +kernel
theorem k_292 : (Jvm.Cond.fieldLink "PackageBook$FileMaker" (14 : Nat) "PackageBook$FileMaker" "made" "LPackageBook$Row;") ∈ uW := uW_of 292 (by decide +kernel) (by decide +kernel)
theorem d_FileMaker_init_18 : decode prog_4_method_1_code 18 = .ok (.aload_n 0, 1) := by decide +kernel
theorem d_FileMaker_init_19 : decode prog_4_method_1_code 19 = .ok (.bipush 16, 2) := by decide +kernel
theorem d_FileMaker_init_21 : decode prog_4_method_1_code 21 = .ok (.newarray .int, 2) := by decide +kernel
theorem d_FileMaker_init_23 : decode prog_4_method_1_code 23 = .ok (.putfield 20, 3) := by decide +kernel
theorem k_294 : (Jvm.Cond.fieldLink "PackageBook$FileMaker" (20 : Nat) "PackageBook$FileMaker" "records" "[I") ∈ uW := uW_of 294 (by decide +kernel) (by decide +kernel)
theorem d_FileMaker_init_26 : decode prog_4_method_1_code 26 = .ok (.return_, 1) := by decide +kernel
abbrev y_FileMaker_init : MethodName := ⟨"PackageBook$FileMaker", "<init>", "()V"⟩
abbrev i_FileMaker_init : pb_I := (y_FileMaker_init, prog_4_method_1_code, 1, (Option.none : Option Jvm.ClassFile.FieldType), [], { frames := 2, cells := 3, slots := 15018, locals := 41 })
set_option maxRecDepth 100000 in
set_option maxHeartbeats 4000000 in
theorem g_FileMaker_init {l : Launch} (hl : l.stackTraces = false) (G : pb_G) (h : Nat) : Cn l G i_FileMaker_init [.ref h] [(h, .inr (6, [.null, .null]))] (S := Nat × Nat × Nat) (fun rv_ u => rv_ = none) (fun u => [(h, .inr (6, [.ref u.1, .ref u.2.2])), (u.1, .inr (0, [.ref u.2.1, .int 0])), (u.2.1, .inl (G.2.1, 14006, .inl (fun _ => 0))), (u.2.2, .inl (G.2.2.1, 16, .inl (fun _ => 0)))]) := by
  refine Cn.of hl (by decide +kernel) rfl (Nat.le_of_ble_eq_true rfl) (fun M hQ => ?_)
  refine pb_eq (pc' := 0) (lo' := [(0, .ref h)]) (rest' := []) (ws' := [(h, .inr (6, [.null, .null]))]) ?_
  have zl0 : (0 : Int32).toInt = 0 := by decide
  have zl1 : (1 : Int32).toInt = 1 := by decide
  have zl16 : (16 : Int32).toInt = 16 := by decide
  have zl14006 : (14006 : Int32).toInt = 14006 := by decide
  refine pb_aload_n (pc := 0) d_FileMaker_init_0 0 rfl rfl ?_
  refine pb_objInit (pc := 1) d_FileMaker_init_1 k_289 k_148 k_149 (by decide) (Nat.le_of_ble_eq_true rfl) ?_
  refine pb_aload_n (pc := 4) d_FileMaker_init_4 0 rfl rfl ?_
  refine pb_new (pc := 5) (ci := 0) (fs := [.null, .int 0]) d_FileMaker_init_5 t_Row t_Row_ok rfl in_Row k_290 k_151 k_119 (by decide) (by decide) (by decide) (fun q1 => ?_)
  refine pb_eq (pc' := 8) (lo' := [(0, .ref h)]) (rest' := [.ref q1, .ref h]) (ws' := [(h, .inr (6, [.null, .null])), (q1, .inr (0, [.null, .int 0]))]) ?_
  refine pb_dup (pc := 8) d_FileMaker_init_8 rfl ?_
  refine pb_sipush (pc := 9) (v := 14006) d_FileMaker_init_9 (by decide) ?_
  refine pb_callI (pc := 12) (I := i_FileMaker_init) (nA := 1) (rest := [.ref q1, .ref h]) (wr := [(h, .inr (6, [.null, .null]))]) d_FileMaker_init_12 (g_Row_init hl G q1 14006 14006 (by decide) (by decide) (by decide)) [1] [0] (by decide) rfl rfl rfl (by decide) (by decide) k_154 rfl k_119 k_291 k_153 rfl hy_Row_init (by decide) rfl rfl (Nat.le_of_ble_eq_true rfl) (by decide) (fun v9 u3 ch2 => ?_)
  obtain ⟨q_4, rfl⟩ : ∃ z9, z9 = u3 := ⟨_, rfl⟩
  have ech2 := ch2
  have ech2 : v9 = none := ech2
  subst ech2
  refine pb_eq (pc' := 15) (lo' := [(0, .ref h)]) (rest' := [.ref q1, .ref h]) (ws' := [(h, .inr (6, [.null, .null])), (q1, .inr (0, [.ref q_4, .int 0])), (q_4, .inl (G.2.1, 14006, .inl (fun _ => 0)))]) ?_
  refine pb_putF (pc := 15) (ty := (.object "PackageBook$Row")) (ws' := [(h, .inr (6, [.ref q1, .null])), (q1, .inr (0, [.ref q_4, .int 0])), (q_4, .inl (G.2.1, 14006, .inl (fun _ => 0)))]) d_FileMaker_init_15 0 0 t_FileMaker t_FileMaker_ok n_FileMaker rfl rfl (by decide) in_FileMaker k_292 rfl rfl rfl (by decide +kernel) rfl rfl (Nat.le_of_ble_eq_true rfl) rfl ?_
  refine pb_aload_n (pc := 18) d_FileMaker_init_18 0 rfl rfl ?_
  refine pb_bipush (pc := 19) (v := 16) d_FileMaker_init_19 (by decide) ?_
  refine pb_newi (pc := 21) (N := 16) d_FileMaker_init_21 k_211 (by decide) (by decide) (by decide) (by decide) (by decide) (fun q5 => ?_)
  refine pb_eq (pc' := 23) (lo' := [(0, .ref h)]) (rest' := [.ref q5, .ref h]) (ws' := [(h, .inr (6, [.ref q1, .null])), (q1, .inr (0, [.ref q_4, .int 0])), (q_4, .inl (G.2.1, 14006, .inl (fun _ => 0))), (q5, .inl (G.2.2.1, 16, .inl (fun _ => 0)))]) ?_
  refine pb_putF (pc := 23) (ty := (.array .int)) (ws' := [(h, .inr (6, [.ref q1, .ref q5])), (q1, .inr (0, [.ref q_4, .int 0])), (q_4, .inl (G.2.1, 14006, .inl (fun _ => 0))), (q5, .inl (G.2.2.1, 16, .inl (fun _ => 0)))]) d_FileMaker_init_23 0 1 t_FileMaker t_FileMaker_ok n_FileMaker rfl rfl (by decide) in_FileMaker k_294 rfl rfl rfl (by decide +kernel) rfl rfl (Nat.le_of_ble_eq_true rfl) rfl ?_
  exact pb_vret (pc := 26) hQ d_FileMaker_init_26 rfl (q1, q_4, q5) rfl [0, 1, 2, 3] (by decide) rfl rfl (by decide) (by decide)

theorem d_Presser_init_0 : decode prog_8_method_1_code 0 = .ok (.aload_n 0, 1) := by decide +kernel
theorem d_Presser_init_1 : decode prog_8_method_1_code 1 = .ok (.invokespecial 3, 3) := by decide +kernel
theorem k_178 : (Jvm.Cond.methodLink "PackageBook$Presser" (3 : Nat) ({ cls := "java/lang/Object", name := "<init>", desc := "()V" } : Jvm.MethodName)) ∈ uW := uW_of 178 (by decide +kernel) (by decide +kernel)
theorem d_Presser_init_4 : decode prog_8_method_1_code 4 = .ok (.aload_n 0, 1) := by decide +kernel
theorem d_Presser_init_5 : decode prog_8_method_1_code 5 = .ok (.new 9, 3) := by decide +kernel
theorem k_179 : (Jvm.Cond.classLink "PackageBook$Presser" (9 : Nat) "PackageBook$Row") ∈ uW := uW_of 179 (by decide +kernel) (by decide +kernel)
theorem d_Presser_init_8 : decode prog_8_method_1_code 8 = .ok (.dup, 1) := by decide +kernel
theorem d_Presser_init_9 : decode prog_8_method_1_code 9 = .ok (.sipush 4502, 3) := by decide +kernel
theorem d_Presser_init_12 : decode prog_8_method_1_code 12 = .ok (.invokespecial 11, 3) := by decide +kernel
theorem k_180 : (Jvm.Cond.methodLink "PackageBook$Presser" (11 : Nat) ({ cls := "PackageBook$Row", name := "<init>", desc := "(I)V" } : Jvm.MethodName)) ∈ uW := uW_of 180 (by decide +kernel) (by decide +kernel)
theorem d_Presser_init_15 : decode prog_8_method_1_code 15 = .ok (.putfield 14, 3) := by decide +kernel
theorem k_181 : (Jvm.Cond.fieldLink "PackageBook$Presser" (14 : Nat) "PackageBook$Presser" "pressed" "LPackageBook$Row;") ∈ uW := uW_of 181 (by decide +kernel) (by decide +kernel)
theorem d_Presser_init_18 : decode prog_8_method_1_code 18 = .ok (.aload_n 0, 1) := by decide +kernel
theorem d_Presser_init_19 : decode prog_8_method_1_code 19 = .ok (.sipush 1024, 3) := by decide +kernel
theorem d_Presser_init_22 : decode prog_8_method_1_code 22 = .ok (.newarray .int, 2) := by decide +kernel
theorem d_Presser_init_24 : decode prog_8_method_1_code 24 = .ok (.putfield 20, 3) := by decide +kernel
theorem k_184 : (Jvm.Cond.fieldLink "PackageBook$Presser" (20 : Nat) "PackageBook$Presser" "latest" "[I") ∈ uW := uW_of 184 (by decide +kernel) (by decide +kernel)
theorem d_Presser_init_27 : decode prog_8_method_1_code 27 = .ok (.aload_n 0, 1) := by decide +kernel
theorem d_Presser_init_28 : decode prog_8_method_1_code 28 = .ok (.sipush 4000, 3) := by decide +kernel
theorem d_Presser_init_31 : decode prog_8_method_1_code 31 = .ok (.newarray .int, 2) := by decide +kernel
theorem d_Presser_init_33 : decode prog_8_method_1_code 33 = .ok (.putfield 24, 3) := by decide +kernel
theorem k_185 : (Jvm.Cond.fieldLink "PackageBook$Presser" (24 : Nat) "PackageBook$Presser" "earlier" "[I") ∈ uW := uW_of 185 (by decide +kernel) (by decide +kernel)
theorem d_Presser_init_36 : decode prog_8_method_1_code 36 = .ok (.aload_n 0, 1) := by decide +kernel
theorem d_Presser_init_37 : decode prog_8_method_1_code 37 = .ok (.iconst 0, 1) := by decide +kernel
theorem d_Presser_init_38 : decode prog_8_method_1_code 38 = .ok (.newarray .byte, 2) := by decide +kernel
theorem d_Presser_init_40 : decode prog_8_method_1_code 40 = .ok (.putfield 27, 3) := by decide +kernel
theorem k_186 : (Jvm.Cond.fieldLink "PackageBook$Presser" (27 : Nat) "PackageBook$Presser" "row" "[B") ∈ uW := uW_of 186 (by decide +kernel) (by decide +kernel)
theorem d_Presser_init_43 : decode prog_8_method_1_code 43 = .ok (.return_, 1) := by decide +kernel
abbrev y_Presser_init : MethodName := ⟨"PackageBook$Presser", "<init>", "()V"⟩
abbrev i_Presser_init : pb_I := (y_Presser_init, prog_8_method_1_code, 1, (Option.none : Option Jvm.ClassFile.FieldType), [], { frames := 2, cells := 5, slots := 20026, locals := 41 })
set_option maxRecDepth 100000 in
set_option maxHeartbeats 4000000 in
theorem g_Presser_init {l : Launch} (hl : l.stackTraces = false) (G : pb_G) (h : Nat) : Cn l G i_Presser_init [.ref h] [(h, .inr (4, [.null, .null, .null, .null, .int 0, .int 0, .int 0, .int 0, .int 0]))] (S := Nat × Nat × Nat × Nat × Nat) (fun rv_ u => rv_ = none) (fun u => [(h, .inr (4, [.ref u.1, .ref u.2.2.1, .ref u.2.2.2.1, .ref u.2.2.2.2, .int 0, .int 0, .int 0, .int 0, .int 0])), (u.1, .inr (0, [.ref u.2.1, .int 0])), (u.2.1, .inl (G.2.1, 4502, .inl (fun _ => 0))), (u.2.2.1, .inl (G.2.2.1, 1024, .inl (fun _ => 0))), (u.2.2.2.1, .inl (G.2.2.1, 4000, .inl (fun _ => 0)))]) := by
  refine Cn.of hl (by decide +kernel) rfl (Nat.le_of_ble_eq_true rfl) (fun M hQ => ?_)
  refine pb_eq (pc' := 0) (lo' := [(0, .ref h)]) (rest' := []) (ws' := [(h, .inr (4, [.null, .null, .null, .null, .int 0, .int 0, .int 0, .int 0, .int 0]))]) ?_
  have zl0 : (0 : Int32).toInt = 0 := by decide
  have zl1 : (1 : Int32).toInt = 1 := by decide
  have zl1024 : (1024 : Int32).toInt = 1024 := by decide
  have zl4000 : (4000 : Int32).toInt = 4000 := by decide
  have zl4502 : (4502 : Int32).toInt = 4502 := by decide
  refine pb_aload_n (pc := 0) d_Presser_init_0 0 rfl rfl ?_
  refine pb_objInit (pc := 1) d_Presser_init_1 k_178 k_148 k_149 (by decide) (Nat.le_of_ble_eq_true rfl) ?_
  refine pb_aload_n (pc := 4) d_Presser_init_4 0 rfl rfl ?_
  refine pb_new (pc := 5) (ci := 0) (fs := [.null, .int 0]) d_Presser_init_5 t_Row t_Row_ok rfl in_Row k_179 k_151 k_119 (by decide) (by decide) (by decide) (fun q1 => ?_)
  refine pb_eq (pc' := 8) (lo' := [(0, .ref h)]) (rest' := [.ref q1, .ref h]) (ws' := [(h, .inr (4, [.null, .null, .null, .null, .int 0, .int 0, .int 0, .int 0, .int 0])), (q1, .inr (0, [.null, .int 0]))]) ?_
  refine pb_dup (pc := 8) d_Presser_init_8 rfl ?_
  refine pb_sipush (pc := 9) (v := 4502) d_Presser_init_9 (by decide) ?_
  refine pb_callI (pc := 12) (I := i_Presser_init) (nA := 1) (rest := [.ref q1, .ref h]) (wr := [(h, .inr (4, [.null, .null, .null, .null, .int 0, .int 0, .int 0, .int 0, .int 0]))]) d_Presser_init_12 (g_Row_init hl G q1 4502 4502 (by decide) (by decide) (by decide)) [1] [0] (by decide) rfl rfl rfl (by decide) (by decide) k_154 rfl k_119 k_180 k_153 rfl hy_Row_init (by decide) rfl rfl (Nat.le_of_ble_eq_true rfl) (by decide) (fun v9 u3 ch2 => ?_)
  obtain ⟨q_4, rfl⟩ : ∃ z9, z9 = u3 := ⟨_, rfl⟩
  have ech2 := ch2
  have ech2 : v9 = none := ech2
  subst ech2
  refine pb_eq (pc' := 15) (lo' := [(0, .ref h)]) (rest' := [.ref q1, .ref h]) (ws' := [(h, .inr (4, [.null, .null, .null, .null, .int 0, .int 0, .int 0, .int 0, .int 0])), (q1, .inr (0, [.ref q_4, .int 0])), (q_4, .inl (G.2.1, 4502, .inl (fun _ => 0)))]) ?_
  refine pb_putF (pc := 15) (ty := (.object "PackageBook$Row")) (ws' := [(h, .inr (4, [.ref q1, .null, .null, .null, .int 0, .int 0, .int 0, .int 0, .int 0])), (q1, .inr (0, [.ref q_4, .int 0])), (q_4, .inl (G.2.1, 4502, .inl (fun _ => 0)))]) d_Presser_init_15 0 0 t_Presser t_Presser_ok n_Presser rfl rfl (by decide) in_Presser k_181 rfl rfl rfl (by decide +kernel) rfl rfl (Nat.le_of_ble_eq_true rfl) rfl ?_
  refine pb_aload_n (pc := 18) d_Presser_init_18 0 rfl rfl ?_
  refine pb_sipush (pc := 19) (v := 1024) d_Presser_init_19 (by decide) ?_
  refine pb_newi (pc := 22) (N := 1024) d_Presser_init_22 k_211 (by decide) (by decide) (by decide) (by decide) (by decide) (fun q5 => ?_)
  refine pb_eq (pc' := 24) (lo' := [(0, .ref h)]) (rest' := [.ref q5, .ref h]) (ws' := [(h, .inr (4, [.ref q1, .null, .null, .null, .int 0, .int 0, .int 0, .int 0, .int 0])), (q1, .inr (0, [.ref q_4, .int 0])), (q_4, .inl (G.2.1, 4502, .inl (fun _ => 0))), (q5, .inl (G.2.2.1, 1024, .inl (fun _ => 0)))]) ?_
  refine pb_putF (pc := 24) (ty := (.array .int)) (ws' := [(h, .inr (4, [.ref q1, .ref q5, .null, .null, .int 0, .int 0, .int 0, .int 0, .int 0])), (q1, .inr (0, [.ref q_4, .int 0])), (q_4, .inl (G.2.1, 4502, .inl (fun _ => 0))), (q5, .inl (G.2.2.1, 1024, .inl (fun _ => 0)))]) d_Presser_init_24 0 1 t_Presser t_Presser_ok n_Presser rfl rfl (by decide) in_Presser k_184 rfl rfl rfl (by decide +kernel) rfl rfl (Nat.le_of_ble_eq_true rfl) rfl ?_
  refine pb_aload_n (pc := 27) d_Presser_init_27 0 rfl rfl ?_
  refine pb_sipush (pc := 28) (v := 4000) d_Presser_init_28 (by decide) ?_
  refine pb_newi (pc := 31) (N := 4000) d_Presser_init_31 k_211 (by decide) (by decide) (by decide) (by decide) (by decide) (fun q6 => ?_)
  refine pb_eq (pc' := 33) (lo' := [(0, .ref h)]) (rest' := [.ref q6, .ref h]) (ws' := [(h, .inr (4, [.ref q1, .ref q5, .null, .null, .int 0, .int 0, .int 0, .int 0, .int 0])), (q1, .inr (0, [.ref q_4, .int 0])), (q_4, .inl (G.2.1, 4502, .inl (fun _ => 0))), (q5, .inl (G.2.2.1, 1024, .inl (fun _ => 0))), (q6, .inl (G.2.2.1, 4000, .inl (fun _ => 0)))]) ?_
  refine pb_putF (pc := 33) (ty := (.array .int)) (ws' := [(h, .inr (4, [.ref q1, .ref q5, .ref q6, .null, .int 0, .int 0, .int 0, .int 0, .int 0])), (q1, .inr (0, [.ref q_4, .int 0])), (q_4, .inl (G.2.1, 4502, .inl (fun _ => 0))), (q5, .inl (G.2.2.1, 1024, .inl (fun _ => 0))), (q6, .inl (G.2.2.1, 4000, .inl (fun _ => 0)))]) d_Presser_init_33 0 2 t_Presser t_Presser_ok n_Presser rfl rfl (by decide) in_Presser k_185 rfl rfl rfl (by decide +kernel) rfl rfl (Nat.le_of_ble_eq_true rfl) rfl ?_
  refine pb_aload_n (pc := 36) d_Presser_init_36 0 rfl rfl ?_
  refine pb_iconst (pc := 37) (v := 0) d_Presser_init_37 (by decide) ?_
  refine pb_newb (pc := 38) (N := 0) d_Presser_init_38 k_172 (by decide) (by decide) (by decide) (by decide) (by decide) (fun q7 => ?_)
  refine pb_eq (pc' := 40) (lo' := [(0, .ref h)]) (rest' := [.ref q7, .ref h]) (ws' := [(h, .inr (4, [.ref q1, .ref q5, .ref q6, .null, .int 0, .int 0, .int 0, .int 0, .int 0])), (q1, .inr (0, [.ref q_4, .int 0])), (q_4, .inl (G.2.1, 4502, .inl (fun _ => 0))), (q5, .inl (G.2.2.1, 1024, .inl (fun _ => 0))), (q6, .inl (G.2.2.1, 4000, .inl (fun _ => 0))), (q7, .inl (G.2.1, 0, .inl (fun _ => 0)))]) ?_
  refine pb_put (pc := 40) (ty := (.array .byte)) (ws' := [(h, .inr (4, [.ref q1, .ref q5, .ref q6, .ref q7, .int 0, .int 0, .int 0, .int 0, .int 0])), (q1, .inr (0, [.ref q_4, .int 0])), (q_4, .inl (G.2.1, 4502, .inl (fun _ => 0))), (q5, .inl (G.2.2.1, 1024, .inl (fun _ => 0))), (q6, .inl (G.2.2.1, 4000, .inl (fun _ => 0))), (q7, .inl (G.2.1, 0, .inl (fun _ => 0)))]) d_Presser_init_40 0 3 t_Presser t_Presser_ok n_Presser rfl rfl (by decide) in_Presser k_186 rfl (by decide +kernel) rfl rfl (Nat.le_of_ble_eq_true rfl) rfl ?_
  exact pb_vret (pc := 43) hQ d_Presser_init_43 rfl (q1, q_4, q5, q6, q7) rfl [0, 1, 2, 3, 4] (by decide) rfl rfl (by decide) (by decide)

theorem d_Markup_init_0 : decode prog_7_method_1_code 0 = .ok (.aload_n 0, 1) := by decide +kernel
theorem d_Markup_init_1 : decode prog_7_method_1_code 1 = .ok (.invokespecial 3, 3) := by decide +kernel
theorem k_315 : (Jvm.Cond.methodLink "PackageBook$Markup" (3 : Nat) ({ cls := "java/lang/Object", name := "<init>", desc := "()V" } : Jvm.MethodName)) ∈ uW := uW_of 315 (by decide +kernel) (by decide +kernel)
theorem d_Markup_init_4 : decode prog_7_method_1_code 4 = .ok (.aload_n 0, 1) := by decide +kernel
theorem d_Markup_init_5 : decode prog_7_method_1_code 5 = .ok (.sipush 200, 3) := by decide +kernel
theorem d_Markup_init_8 : decode prog_7_method_1_code 8 = .ok (.newarray .long, 2) := by decide +kernel
theorem k_359 : (Jvm.Cond.arrayClass Jvm.ClassFile.FieldType.long) ∈ uW := uW_of 359 (by decide +kernel) (by decide +kernel)
theorem d_Markup_init_10 : decode prog_7_method_1_code 10 = .ok (.putfield 11, 3) := by decide +kernel
theorem k_316 : (Jvm.Cond.fieldLink "PackageBook$Markup" (11 : Nat) "PackageBook$Markup" "ids" "[J") ∈ uW := uW_of 316 (by decide +kernel) (by decide +kernel)
theorem d_Markup_init_13 : decode prog_7_method_1_code 13 = .ok (.aload_n 0, 1) := by decide +kernel
theorem d_Markup_init_14 : decode prog_7_method_1_code 14 = .ok (.sipush 200, 3) := by decide +kernel
theorem d_Markup_init_17 : decode prog_7_method_1_code 17 = .ok (.newarray .int, 2) := by decide +kernel
theorem d_Markup_init_19 : decode prog_7_method_1_code 19 = .ok (.putfield 15, 3) := by decide +kernel
theorem k_317 : (Jvm.Cond.fieldLink "PackageBook$Markup" (15 : Nat) "PackageBook$Markup" "goals" "[I") ∈ uW := uW_of 317 (by decide +kernel) (by decide +kernel)
theorem d_Markup_init_22 : decode prog_7_method_1_code 22 = .ok (.aload_n 0, 1) := by decide +kernel
theorem d_Markup_init_23 : decode prog_7_method_1_code 23 = .ok (.bipush 24, 2) := by decide +kernel
theorem d_Markup_init_25 : decode prog_7_method_1_code 25 = .ok (.newarray .byte, 2) := by decide +kernel
theorem d_Markup_init_27 : decode prog_7_method_1_code 27 = .ok (.putfield 19, 3) := by decide +kernel
theorem k_319 : (Jvm.Cond.fieldLink "PackageBook$Markup" (19 : Nat) "PackageBook$Markup" "value" "[B") ∈ uW := uW_of 319 (by decide +kernel) (by decide +kernel)
theorem d_Markup_init_30 : decode prog_7_method_1_code 30 = .ok (.aload_n 0, 1) := by decide +kernel
theorem d_Markup_init_31 : decode prog_7_method_1_code 31 = .ok (.iconst 0, 1) := by decide +kernel
theorem d_Markup_init_32 : decode prog_7_method_1_code 32 = .ok (.newarray .byte, 2) := by decide +kernel
theorem d_Markup_init_34 : decode prog_7_method_1_code 34 = .ok (.putfield 23, 3) := by decide +kernel
theorem k_320 : (Jvm.Cond.fieldLink "PackageBook$Markup" (23 : Nat) "PackageBook$Markup" "row" "[B") ∈ uW := uW_of 320 (by decide +kernel) (by decide +kernel)
theorem d_Markup_init_37 : decode prog_7_method_1_code 37 = .ok (.aload_n 0, 1) := by decide +kernel
theorem d_Markup_init_38 : decode prog_7_method_1_code 38 = .ok (.iconst (-1), 1) := by decide +kernel
theorem d_Markup_init_39 : decode prog_7_method_1_code 39 = .ok (.putfield 26, 3) := by decide +kernel
theorem k_323 : (Jvm.Cond.fieldLink "PackageBook$Markup" (26 : Nat) "PackageBook$Markup" "fault" "I") ∈ uW := uW_of 323 (by decide +kernel) (by decide +kernel)
theorem d_Markup_init_42 : decode prog_7_method_1_code 42 = .ok (.return_, 1) := by decide +kernel
abbrev y_Markup_init : MethodName := ⟨"PackageBook$Markup", "<init>", "()V"⟩
abbrev i_Markup_init : pb_I := (y_Markup_init, prog_7_method_1_code, 1, (Option.none : Option Jvm.ClassFile.FieldType), [], { frames := 1, cells := 4, slots := 424, locals := 20 })
set_option maxRecDepth 100000 in
set_option maxHeartbeats 4000000 in
theorem g_Markup_init {l : Launch} (hl : l.stackTraces = false) (G : pb_G) (h : Nat) : Cn l G i_Markup_init [.ref h] [(h, .inr (8, [.null, .null, .null, .null, .int 0, .int 0, .int 0, .int 0, .int 0, .int 0, .int 0, .int 0, .int 0]))] (S := Nat × Nat × Nat × Nat) (fun rv_ u => rv_ = none) (fun u => [(h, .inr (8, [.ref u.1, .ref u.2.1, .ref u.2.2.1, .ref u.2.2.2, .int 0, .int (-1), .int 0, .int 0, .int 0, .int 0, .int 0, .int 0, .int 0])), (u.1, .inl (G.2.2.2.1, 200, .inr (.inl (fun _ => 0)))), (u.2.1, .inl (G.2.2.1, 200, .inl (fun _ => 0))), (u.2.2.1, .inl (G.2.1, 24, .inl (fun _ => 0)))]) := by
  refine Cn.of hl (by decide +kernel) rfl (Nat.le_of_ble_eq_true rfl) (fun M hQ => ?_)
  refine pb_eq (pc' := 0) (lo' := [(0, .ref h)]) (rest' := []) (ws' := [(h, .inr (8, [.null, .null, .null, .null, .int 0, .int 0, .int 0, .int 0, .int 0, .int 0, .int 0, .int 0, .int 0]))]) ?_
  have zm1 : ((-1) : Int32).toInt = (-1) := by decide
  have zl0 : (0 : Int32).toInt = 0 := by decide
  have zl1 : (1 : Int32).toInt = 1 := by decide
  have zl24 : (24 : Int32).toInt = 24 := by decide
  have zl200 : (200 : Int32).toInt = 200 := by decide
  refine pb_aload_n (pc := 0) d_Markup_init_0 0 rfl rfl ?_
  refine pb_objInit (pc := 1) d_Markup_init_1 k_315 k_148 k_149 (by decide) (Nat.le_of_ble_eq_true rfl) ?_
  refine pb_aload_n (pc := 4) d_Markup_init_4 0 rfl rfl ?_
  refine pb_sipush (pc := 5) (v := 200) d_Markup_init_5 (by decide) ?_
  refine pb_newl (pc := 8) (N := 200) d_Markup_init_8 k_359 (by decide) (by decide) (by decide) (by decide) (by decide) (fun q1 => ?_)
  refine pb_eq (pc' := 10) (lo' := [(0, .ref h)]) (rest' := [.ref q1, .ref h]) (ws' := [(h, .inr (8, [.null, .null, .null, .null, .int 0, .int 0, .int 0, .int 0, .int 0, .int 0, .int 0, .int 0, .int 0])), (q1, .inl (G.2.2.2.1, 200, .inr (.inl (fun _ => 0))))]) ?_
  refine pb_putF (pc := 10) (ty := (.array .long)) (ws' := [(h, .inr (8, [.ref q1, .null, .null, .null, .int 0, .int 0, .int 0, .int 0, .int 0, .int 0, .int 0, .int 0, .int 0])), (q1, .inl (G.2.2.2.1, 200, .inr (.inl (fun _ => 0))))]) d_Markup_init_10 0 0 t_Markup t_Markup_ok n_Markup rfl rfl (by decide) in_Markup k_316 rfl rfl rfl (by decide +kernel) rfl rfl (Nat.le_of_ble_eq_true rfl) rfl ?_
  refine pb_aload_n (pc := 13) d_Markup_init_13 0 rfl rfl ?_
  refine pb_sipush (pc := 14) (v := 200) d_Markup_init_14 (by decide) ?_
  refine pb_newi (pc := 17) (N := 200) d_Markup_init_17 k_211 (by decide) (by decide) (by decide) (by decide) (by decide) (fun q2 => ?_)
  refine pb_eq (pc' := 19) (lo' := [(0, .ref h)]) (rest' := [.ref q2, .ref h]) (ws' := [(h, .inr (8, [.ref q1, .null, .null, .null, .int 0, .int 0, .int 0, .int 0, .int 0, .int 0, .int 0, .int 0, .int 0])), (q1, .inl (G.2.2.2.1, 200, .inr (.inl (fun _ => 0)))), (q2, .inl (G.2.2.1, 200, .inl (fun _ => 0)))]) ?_
  refine pb_putF (pc := 19) (ty := (.array .int)) (ws' := [(h, .inr (8, [.ref q1, .ref q2, .null, .null, .int 0, .int 0, .int 0, .int 0, .int 0, .int 0, .int 0, .int 0, .int 0])), (q1, .inl (G.2.2.2.1, 200, .inr (.inl (fun _ => 0)))), (q2, .inl (G.2.2.1, 200, .inl (fun _ => 0)))]) d_Markup_init_19 0 1 t_Markup t_Markup_ok n_Markup rfl rfl (by decide) in_Markup k_317 rfl rfl rfl (by decide +kernel) rfl rfl (Nat.le_of_ble_eq_true rfl) rfl ?_
  refine pb_aload_n (pc := 22) d_Markup_init_22 0 rfl rfl ?_
  refine pb_bipush (pc := 23) (v := 24) d_Markup_init_23 (by decide) ?_
  refine pb_newb (pc := 25) (N := 24) d_Markup_init_25 k_172 (by decide) (by decide) (by decide) (by decide) (by decide) (fun q3 => ?_)
  refine pb_eq (pc' := 27) (lo' := [(0, .ref h)]) (rest' := [.ref q3, .ref h]) (ws' := [(h, .inr (8, [.ref q1, .ref q2, .null, .null, .int 0, .int 0, .int 0, .int 0, .int 0, .int 0, .int 0, .int 0, .int 0])), (q1, .inl (G.2.2.2.1, 200, .inr (.inl (fun _ => 0)))), (q2, .inl (G.2.2.1, 200, .inl (fun _ => 0))), (q3, .inl (G.2.1, 24, .inl (fun _ => 0)))]) ?_
  refine pb_putF (pc := 27) (ty := (.array .byte)) (ws' := [(h, .inr (8, [.ref q1, .ref q2, .ref q3, .null, .int 0, .int 0, .int 0, .int 0, .int 0, .int 0, .int 0, .int 0, .int 0])), (q1, .inl (G.2.2.2.1, 200, .inr (.inl (fun _ => 0)))), (q2, .inl (G.2.2.1, 200, .inl (fun _ => 0))), (q3, .inl (G.2.1, 24, .inl (fun _ => 0)))]) d_Markup_init_27 0 2 t_Markup t_Markup_ok n_Markup rfl rfl (by decide) in_Markup k_319 rfl rfl rfl (by decide +kernel) rfl rfl (Nat.le_of_ble_eq_true rfl) rfl ?_
  refine pb_aload_n (pc := 30) d_Markup_init_30 0 rfl rfl ?_
  refine pb_iconst (pc := 31) (v := 0) d_Markup_init_31 (by decide) ?_
  refine pb_newb (pc := 32) (N := 0) d_Markup_init_32 k_172 (by decide) (by decide) (by decide) (by decide) (by decide) (fun q4 => ?_)
  refine pb_eq (pc' := 34) (lo' := [(0, .ref h)]) (rest' := [.ref q4, .ref h]) (ws' := [(h, .inr (8, [.ref q1, .ref q2, .ref q3, .null, .int 0, .int 0, .int 0, .int 0, .int 0, .int 0, .int 0, .int 0, .int 0])), (q1, .inl (G.2.2.2.1, 200, .inr (.inl (fun _ => 0)))), (q2, .inl (G.2.2.1, 200, .inl (fun _ => 0))), (q3, .inl (G.2.1, 24, .inl (fun _ => 0))), (q4, .inl (G.2.1, 0, .inl (fun _ => 0)))]) ?_
  refine pb_put (pc := 34) (ty := (.array .byte)) (ws' := [(h, .inr (8, [.ref q1, .ref q2, .ref q3, .ref q4, .int 0, .int 0, .int 0, .int 0, .int 0, .int 0, .int 0, .int 0, .int 0])), (q1, .inl (G.2.2.2.1, 200, .inr (.inl (fun _ => 0)))), (q2, .inl (G.2.2.1, 200, .inl (fun _ => 0))), (q3, .inl (G.2.1, 24, .inl (fun _ => 0))), (q4, .inl (G.2.1, 0, .inl (fun _ => 0)))]) d_Markup_init_34 0 3 t_Markup t_Markup_ok n_Markup rfl rfl (by decide) in_Markup k_320 rfl (by decide +kernel) rfl rfl (Nat.le_of_ble_eq_true rfl) rfl ?_
  refine pb_aload_n (pc := 37) d_Markup_init_37 0 rfl rfl ?_
  refine pb_iconst (pc := 38) (v := (-1)) d_Markup_init_38 (by decide) ?_
  refine pb_put (pc := 39) (ty := .int) (ws' := [(h, .inr (8, [.ref q1, .ref q2, .ref q3, .ref q4, .int 0, .int (-1), .int 0, .int 0, .int 0, .int 0, .int 0, .int 0, .int 0])), (q1, .inl (G.2.2.2.1, 200, .inr (.inl (fun _ => 0)))), (q2, .inl (G.2.2.1, 200, .inl (fun _ => 0))), (q3, .inl (G.2.1, 24, .inl (fun _ => 0))), (q4, .inl (G.2.1, 0, .inl (fun _ => 0)))]) d_Markup_init_39 0 5 t_Markup t_Markup_ok n_Markup rfl rfl (by decide) in_Markup k_323 rfl (by decide +kernel) rfl rfl (Nat.le_of_ble_eq_true rfl) rfl ?_
  exact pb_vret (pc := 42) hQ d_Markup_init_42 rfl (q1, q2, q3, q4) rfl [0, 1, 2, 3] (by decide) rfl rfl (by decide) (by decide)
