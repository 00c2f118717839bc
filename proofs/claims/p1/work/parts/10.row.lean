theorem d_Row_init_0 : decode prog_9_method_1_code 0 = .ok (.aload_n 0, 1) := by decide +kernel
theorem d_Row_init_1 : decode prog_9_method_1_code 1 = .ok (.invokespecial 1, 3) := by decide +kernel
theorem k_155 : (Jvm.Cond.methodLink "PackageBook$Row" (1 : Nat) ({ cls := "java/lang/Object", name := "<init>", desc := "()V" } : Jvm.MethodName)) ∈ uW := uW_of 155 (by decide +kernel) (by decide +kernel)
theorem k_148 : (Jvm.Cond.instanceMethod ({ cls := "java/lang/Object", name := "<init>", desc := "()V" } : Jvm.MethodName)) ∈ uW := uW_of 148 (by decide +kernel) (by decide +kernel)
theorem k_149 : (Jvm.Cond.code ({ cls := "java/lang/Object", name := "<init>", desc := "()V" } : Jvm.MethodName) object_method_1_code (1 : Nat) (Option.none : Option Jvm.ClassFile.FieldType)) ∈ uW := uW_of 149 (by decide +kernel) (by decide +kernel)
theorem d_Row_init_4 : decode prog_9_method_1_code 4 = .ok (.aload_n 0, 1) := by decide +kernel
theorem d_Row_init_5 : decode prog_9_method_1_code 5 = .ok (.iload_n 1, 1) := by decide +kernel
theorem d_Row_init_6 : decode prog_9_method_1_code 6 = .ok (.newarray .byte, 2) := by decide +kernel
theorem k_172 : (Jvm.Cond.arrayClass Jvm.ClassFile.FieldType.byte) ∈ uW := uW_of 172 (by decide +kernel) (by decide +kernel)
theorem d_Row_init_8 : decode prog_9_method_1_code 8 = .ok (.putfield 7, 3) := by decide +kernel
theorem k_156 : (Jvm.Cond.fieldLink "PackageBook$Row" (7 : Nat) "PackageBook$Row" "bytes" "[B") ∈ uW := uW_of 156 (by decide +kernel) (by decide +kernel)
theorem d_Row_init_11 : decode prog_9_method_1_code 11 = .ok (.return_, 1) := by decide +kernel
abbrev y_Row_init : MethodName := ⟨"PackageBook$Row", "<init>", "(I)V"⟩
abbrev i_Row_init : pb_I := (y_Row_init, prog_9_method_1_code, 2, (Option.none : Option Jvm.ClassFile.FieldType), [], { frames := 1, cells := 1, slots := 15000, locals := 20 })
set_option maxRecDepth 100000 in
set_option maxHeartbeats 4000000 in
theorem c_Row_init {l : Launch} (hl : l.stackTraces = false) (G : pb_G) (h : Nat) (n : Int32) (N : Nat) (hn : ¬ n < 0) (hN : n.toNatClampNeg = N) (hb : N ≤ 15000) : Cn l G i_Row_init [.ref h, .int n] [(h, .inr (0, [.null, .int 0]))] (S := Nat) (fun v u => v = none) (fun u => [(h, .inr (0, [.ref u, .int 0])), (u, .inl (G.2.1, N, .inl (fun _ => 0)))]) := by
  refine Cn.of hl (by decide +kernel) rfl (Nat.le_of_ble_eq_true rfl) (fun M hQ => ?_)
  refine pb_eq (pc' := 0) (lo' := [(0, .ref h), (1, .int n)]) (rest' := []) (ws' := [(h, .inr (0, [.null, .int 0]))]) ?_
  refine pb_aload_n (pc := 0) d_Row_init_0 0 rfl rfl ?_
  refine pb_objInit (pc := 1) d_Row_init_1 k_155 k_148 k_149 (by decide) (Nat.le_of_ble_eq_true rfl) ?_
  refine pb_aload_n (pc := 4) d_Row_init_4 0 rfl rfl ?_
  refine pb_iload_n (pc := 5) d_Row_init_5 1 rfl rfl ?_
  refine pb_newb (pc := 6) (N := N) d_Row_init_6 k_172 hn hN (by rw [show componentBytes .byte = 1 from rfl]; omega) (by decide) (by show 0 + N ≤ 15000; omega) (fun q1 => ?_)
  refine pb_widen (k' := 1) (n' := 15000) (by decide) (by omega) ?_
  refine pb_eq (pc' := 8) (lo' := [(0, .ref h), (1, .int n)]) (rest' := [.ref q1, .ref h]) (ws' := [(h, .inr (0, [.null, .int 0])), (q1, .inl (G.2.1, N, .inl (fun _ => 0)))]) ?_
  refine pb_putF (pc := 8) (ty := (.array .byte)) (ws' := [(h, .inr (0, [.ref q1, .int 0])), (q1, .inl (G.2.1, N, .inl (fun _ => 0)))]) d_Row_init_8 0 0 t_Row t_Row_ok n_Row rfl rfl (by decide) in_Row k_156 rfl rfl rfl (by decide +kernel) rfl rfl (Nat.le_of_ble_eq_true rfl) rfl ?_
  exact pb_vret (pc := 11) hQ d_Row_init_11 rfl (q1) rfl [0, 1] (by decide) rfl rfl (by decide) (by decide)
