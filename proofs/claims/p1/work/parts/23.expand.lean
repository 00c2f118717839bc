theorem d_Expander_number_0 : decode prog_3_method_17_code 0 = .ok (.aload_n 0, 1) := by decide +kernel
theorem d_Expander_number_1 : decode prog_3_method_17_code 1 = .ok (.getfield 65, 3) := by decide +kernel
theorem k_260 : (Jvm.Cond.fieldLink "PackageBook$Expander" (65 : Nat) "PackageBook$Expander" "fault" "I") ∈ uW := uW_of 260 (by decide +kernel) (by decide +kernel)
theorem d_Expander_number_4 : decode prog_3_method_17_code 4 = .ok (.ifCond .ne 21, 3) := by decide +kernel
theorem d_Expander_number_7 : decode prog_3_method_17_code 7 = .ok (.iload_n 1, 1) := by decide +kernel
theorem d_Expander_number_8 : decode prog_3_method_17_code 8 = .ok (.aload_n 0, 1) := by decide +kernel
theorem d_Expander_number_9 : decode prog_3_method_17_code 9 = .ok (.getfield 62, 3) := by decide +kernel
theorem k_259 : (Jvm.Cond.fieldLink "PackageBook$Expander" (62 : Nat) "PackageBook$Expander" "end" "I") ∈ uW := uW_of 259 (by decide +kernel) (by decide +kernel)
theorem d_Expander_number_12 : decode prog_3_method_17_code 12 = .ok (.aload_n 0, 1) := by decide +kernel
theorem d_Expander_number_13 : decode prog_3_method_17_code 13 = .ok (.getfield 58, 3) := by decide +kernel
theorem k_258 : (Jvm.Cond.fieldLink "PackageBook$Expander" (58 : Nat) "PackageBook$Expander" "at" "I") ∈ uW := uW_of 258 (by decide +kernel) (by decide +kernel)
theorem d_Expander_number_16 : decode prog_3_method_17_code 16 = .ok (.isub, 1) := by decide +kernel
theorem d_Expander_number_17 : decode prog_3_method_17_code 17 = .ok (.if_icmp .le 8, 3) := by decide +kernel
theorem d_Expander_number_20 : decode prog_3_method_17_code 20 = .ok (.aload_n 0, 1) := by decide +kernel
theorem d_Expander_number_21 : decode prog_3_method_17_code 21 = .ok (.iconst 1, 1) := by decide +kernel
theorem d_Expander_number_22 : decode prog_3_method_17_code 22 = .ok (.putfield 65, 3) := by decide +kernel
theorem d_Expander_number_25 : decode prog_3_method_17_code 25 = .ok (.aload_n 0, 1) := by decide +kernel
theorem d_Expander_number_26 : decode prog_3_method_17_code 26 = .ok (.getfield 65, 3) := by decide +kernel
theorem d_Expander_number_29 : decode prog_3_method_17_code 29 = .ok (.ifCond .eq 5, 3) := by decide +kernel
theorem d_Expander_number_32 : decode prog_3_method_17_code 32 = .ok (.iconst 0, 1) := by decide +kernel
theorem d_Expander_number_33 : decode prog_3_method_17_code 33 = .ok (.ireturn, 1) := by decide +kernel
abbrev y_Expander_number : MethodName := ⟨"PackageBook$Expander", "number", "(I)I"⟩
abbrev i_Expander_number : pb_I := (y_Expander_number, prog_3_method_17_code, 4, (some Jvm.ClassFile.FieldType.int), [], { frames := 0, cells := 0, slots := 0, locals := 0 })
set_option maxRecDepth 100000 in
set_option maxHeartbeats 4000000 in
theorem c_Exp_numA {l : Launch} (hl : l.stackTraces = false) (G : pb_G) (h : Nat) (ex : Nat) (et : Nat) (ea : Nat) (eb : Nat) (ec : Nat) (ed : Nat) (ef : Nat) (er : Nat) : Cn l G i_Expander_number [.ref h, .int 1] [(h, .inr (5, [.ref ex, .ref et, .ref ea, .ref eb, .ref ec, .ref ed, .ref ef, .ref er, .int 0, .int 0, .int 0]))] (S := Unit) (fun v u => v = some (.int 0)) (fun u => [(h, .inr (5, [.ref ex, .ref et, .ref ea, .ref eb, .ref ec, .ref ed, .ref ef, .ref er, .int 0, .int 0, .int 1]))]) := by
  refine Cn.of hl (by decide +kernel) rfl (Nat.le_of_ble_eq_true rfl) (fun M hQ => ?_)
  refine pb_eq (pc' := 0) (lo' := [(0, .ref h), (1, .int 1)]) (rest' := []) (ws' := [(h, .inr (5, [.ref ex, .ref et, .ref ea, .ref eb, .ref ec, .ref ed, .ref ef, .ref er, .int 0, .int 0, .int 0]))]) ?_
  refine pb_aload_n (pc := 0) d_Expander_number_0 0 rfl rfl ?_
  refine pb_get (pc := 1) d_Expander_number_1 0 10 rfl rfl (by decide) in_Expander k_260 rfl ?_
  refine pb_if_ne (pc := 4) (tgt := 25) d_Expander_number_4 (by decide) (fun h9 => absurd h9 (by decide)) (fun _ => ?_)
  refine pb_iload_n (pc := 7) d_Expander_number_7 1 rfl rfl ?_
  refine pb_aload_n (pc := 8) d_Expander_number_8 0 rfl rfl ?_
  refine pb_get (pc := 9) d_Expander_number_9 0 9 rfl rfl (by decide) in_Expander k_259 rfl ?_
  refine pb_aload_n (pc := 12) d_Expander_number_12 0 rfl rfl ?_
  refine pb_get (pc := 13) d_Expander_number_13 0 8 rfl rfl (by decide) in_Expander k_258 rfl ?_
  refine pb_isub (pc := 16) d_Expander_number_16 ?_
  refine pb_asi (y := 0) (by decide) ?_
  refine pb_icmp_le (pc := 17) (tgt := 25) d_Expander_number_17 (by decide) (fun h9 => absurd h9 (by decide)) (fun _ => ?_)
  refine pb_aload_n (pc := 20) d_Expander_number_20 0 rfl rfl ?_
  refine pb_iconst (pc := 21) (v := 1) d_Expander_number_21 (by decide) ?_
  refine pb_put (pc := 22) (ty := .int) (ws' := [(h, .inr (5, [.ref ex, .ref et, .ref ea, .ref eb, .ref ec, .ref ed, .ref ef, .ref er, .int 0, .int 0, .int 1]))]) d_Expander_number_22 0 10 t_Expander t_Expander_ok n_Expander rfl rfl (by decide) in_Expander k_260 rfl (by decide +kernel) rfl rfl (Nat.le_of_ble_eq_true rfl) rfl ?_
  refine pb_aload_n (pc := 25) d_Expander_number_25 0 rfl rfl ?_
  refine pb_get (pc := 26) d_Expander_number_26 0 10 rfl rfl (by decide) in_Expander k_260 rfl ?_
  refine pb_if_eq (pc := 29) (tgt := 34) d_Expander_number_29 (by decide) (fun h9 => absurd h9 (by decide)) (fun _ => ?_)
  refine pb_iconst (pc := 32) (v := 0) d_Expander_number_32 (by decide) ?_
  exact pb_iret (pc := 33) hQ d_Expander_number_33 rfl rfl () rfl [0] (by decide) rfl rfl (by decide) (by decide)

set_option maxRecDepth 100000 in
set_option maxHeartbeats 4000000 in
theorem c_Exp_numB {l : Launch} (hl : l.stackTraces = false) (G : pb_G) (h : Nat) (ex : Nat) (et : Nat) (ea : Nat) (eb : Nat) (ec : Nat) (ed : Nat) (ef : Nat) (er : Nat) (n : Int32) : Cn l G i_Expander_number [.ref h, .int n] [(h, .inr (5, [.ref ex, .ref et, .ref ea, .ref eb, .ref ec, .ref ed, .ref ef, .ref er, .int 0, .int 0, .int 1]))] (S := Unit) (fun v u => v = some (.int 0)) (fun u => [(h, .inr (5, [.ref ex, .ref et, .ref ea, .ref eb, .ref ec, .ref ed, .ref ef, .ref er, .int 0, .int 0, .int 1]))]) := by
  refine Cn.of hl (by decide +kernel) rfl (Nat.le_of_ble_eq_true rfl) (fun M hQ => ?_)
  refine pb_eq (pc' := 0) (lo' := [(0, .ref h), (1, .int n)]) (rest' := []) (ws' := [(h, .inr (5, [.ref ex, .ref et, .ref ea, .ref eb, .ref ec, .ref ed, .ref ef, .ref er, .int 0, .int 0, .int 1]))]) ?_
  refine pb_aload_n (pc := 0) d_Expander_number_0 0 rfl rfl ?_
  refine pb_get (pc := 1) d_Expander_number_1 0 10 rfl rfl (by decide) in_Expander k_260 rfl ?_
  refine pb_if_ne (pc := 4) (tgt := 25) d_Expander_number_4 (by decide) (fun _ => ?_) (fun h9 => absurd h9 (by decide))
  refine pb_aload_n (pc := 25) d_Expander_number_25 0 rfl rfl ?_
  refine pb_get (pc := 26) d_Expander_number_26 0 10 rfl rfl (by decide) in_Expander k_260 rfl ?_
  refine pb_if_eq (pc := 29) (tgt := 34) d_Expander_number_29 (by decide) (fun h9 => absurd h9 (by decide)) (fun _ => ?_)
  refine pb_iconst (pc := 32) (v := 0) d_Expander_number_32 (by decide) ?_
  exact pb_iret (pc := 33) hQ d_Expander_number_33 rfl rfl () rfl [0] (by decide) rfl rfl (by decide) (by decide)

theorem d_Expander_fail_0 : decode prog_3_method_18_code 0 = .ok (.aload_n 0, 1) := by decide +kernel
theorem d_Expander_fail_1 : decode prog_3_method_18_code 1 = .ok (.getfield 65, 3) := by decide +kernel
theorem d_Expander_fail_4 : decode prog_3_method_18_code 4 = .ok (.ifCond .ne 8, 3) := by decide +kernel
theorem d_Expander_fail_12 : decode prog_3_method_18_code 12 = .ok (.return_, 1) := by decide +kernel
abbrev y_Expander_fail : MethodName := ⟨"PackageBook$Expander", "fail", "(I)V"⟩
abbrev i_Expander_fail : pb_I := (y_Expander_fail, prog_3_method_18_code, 2, (Option.none : Option Jvm.ClassFile.FieldType), [], { frames := 0, cells := 0, slots := 0, locals := 0 })
set_option maxRecDepth 100000 in
set_option maxHeartbeats 4000000 in
theorem c_Exp_fail1 {l : Launch} (hl : l.stackTraces = false) (G : pb_G) (h : Nat) (ex : Nat) (et : Nat) (ea : Nat) (eb : Nat) (ec : Nat) (ed : Nat) (ef : Nat) (er : Nat) (n : Int32) : Cn l G i_Expander_fail [.ref h, .int n] [(h, .inr (5, [.ref ex, .ref et, .ref ea, .ref eb, .ref ec, .ref ed, .ref ef, .ref er, .int 0, .int 0, .int 1]))] (S := Unit) (fun v u => v = none) (fun u => [(h, .inr (5, [.ref ex, .ref et, .ref ea, .ref eb, .ref ec, .ref ed, .ref ef, .ref er, .int 0, .int 0, .int 1]))]) := by
  refine Cn.of hl (by decide +kernel) rfl (Nat.le_of_ble_eq_true rfl) (fun M hQ => ?_)
  refine pb_eq (pc' := 0) (lo' := [(0, .ref h), (1, .int n)]) (rest' := []) (ws' := [(h, .inr (5, [.ref ex, .ref et, .ref ea, .ref eb, .ref ec, .ref ed, .ref ef, .ref er, .int 0, .int 0, .int 1]))]) ?_
  refine pb_aload_n (pc := 0) d_Expander_fail_0 0 rfl rfl ?_
  refine pb_get (pc := 1) d_Expander_fail_1 0 10 rfl rfl (by decide) in_Expander k_260 rfl ?_
  refine pb_if_ne (pc := 4) (tgt := 12) d_Expander_fail_4 (by decide) (fun _ => ?_) (fun h9 => absurd h9 (by decide))
  exact pb_vret (pc := 12) hQ d_Expander_fail_12 rfl () rfl [0] (by decide) rfl rfl (by decide) (by decide)

theorem d_Expander_readStored_0 : decode prog_3_method_4_code 0 = .ok (.aload_n 0, 1) := by decide +kernel
theorem d_Expander_readStored_1 : decode prog_3_method_4_code 1 = .ok (.aload_n 0, 1) := by decide +kernel
theorem d_Expander_readStored_2 : decode prog_3_method_4_code 2 = .ok (.getfield 58, 3) := by decide +kernel
theorem d_Expander_readStored_5 : decode prog_3_method_4_code 5 = .ok (.bipush 7, 2) := by decide +kernel
theorem d_Expander_readStored_7 : decode prog_3_method_4_code 7 = .ok (.iadd, 1) := by decide +kernel
theorem d_Expander_readStored_8 : decode prog_3_method_4_code 8 = .ok (.bipush 8, 2) := by decide +kernel
theorem d_Expander_readStored_10 : decode prog_3_method_4_code 10 = .ok (.idiv, 1) := by decide +kernel
theorem d_Expander_readStored_11 : decode prog_3_method_4_code 11 = .ok (.bipush 8, 2) := by decide +kernel
theorem d_Expander_readStored_13 : decode prog_3_method_4_code 13 = .ok (.imul, 1) := by decide +kernel
theorem d_Expander_readStored_14 : decode prog_3_method_4_code 14 = .ok (.putfield 58, 3) := by decide +kernel
theorem d_Expander_readStored_17 : decode prog_3_method_4_code 17 = .ok (.aload_n 0, 1) := by decide +kernel
theorem d_Expander_readStored_18 : decode prog_3_method_4_code 18 = .ok (.bipush 16, 2) := by decide +kernel
theorem d_Expander_readStored_20 : decode prog_3_method_4_code 20 = .ok (.invokevirtual 71, 3) := by decide +kernel
theorem k_631 : (Jvm.Cond.methodLink "PackageBook$Expander" (71 : Nat) ({ cls := "PackageBook$Expander", name := "number", desc := "(I)I" } : Jvm.MethodName)) ∈ uW := uW_of 631 (by decide +kernel) (by decide +kernel)
theorem k_634 : (Jvm.Cond.code ({ cls := "PackageBook$Expander", name := "number", desc := "(I)I" } : Jvm.MethodName) prog_3_method_17_code (4 : Nat) (Option.some Jvm.ClassFile.FieldType.int)) ∈ uW := uW_of 634 (by decide +kernel) (by decide +kernel)
theorem k_633 : (Jvm.Cond.instanceMethod ({ cls := "PackageBook$Expander", name := "number", desc := "(I)I" } : Jvm.MethodName)) ∈ uW := uW_of 633 (by decide +kernel) (by decide +kernel)
theorem k_17 : Cond.selects "PackageBook$Expander" ⟨"PackageBook$Expander", "number", "(I)I"⟩ ⟨"PackageBook$Expander", "number", "(I)I"⟩ ∈ uW := uW_of 17 (by decide +kernel) (by decide +kernel)
theorem d_Expander_readStored_23 : decode prog_3_method_4_code 23 = .ok (.istore_n 1, 1) := by decide +kernel
theorem d_Expander_readStored_24 : decode prog_3_method_4_code 24 = .ok (.aload_n 0, 1) := by decide +kernel
theorem d_Expander_readStored_25 : decode prog_3_method_4_code 25 = .ok (.bipush 16, 2) := by decide +kernel
theorem d_Expander_readStored_27 : decode prog_3_method_4_code 27 = .ok (.invokevirtual 71, 3) := by decide +kernel
theorem d_Expander_readStored_30 : decode prog_3_method_4_code 30 = .ok (.ldc 88, 2) := by decide +kernel
theorem k_639 : (Jvm.Cond.constant "PackageBook$Expander" (88 : Nat) (65535 : Int32)) ∈ uW := uW_of 639 (by decide +kernel) (by decide +kernel)
theorem d_Expander_readStored_32 : decode prog_3_method_4_code 32 = .ok (.iload_n 1, 1) := by decide +kernel
theorem d_Expander_readStored_33 : decode prog_3_method_4_code 33 = .ok (.isub, 1) := by decide +kernel
theorem d_Expander_readStored_34 : decode prog_3_method_4_code 34 = .ok (.if_icmp .eq 8, 3) := by decide +kernel
theorem d_Expander_readStored_37 : decode prog_3_method_4_code 37 = .ok (.aload_n 0, 1) := by decide +kernel
theorem d_Expander_readStored_38 : decode prog_3_method_4_code 38 = .ok (.iconst 3, 1) := by decide +kernel
theorem d_Expander_readStored_39 : decode prog_3_method_4_code 39 = .ok (.invokevirtual 85, 3) := by decide +kernel
theorem k_640 : (Jvm.Cond.methodLink "PackageBook$Expander" (85 : Nat) ({ cls := "PackageBook$Expander", name := "fail", desc := "(I)V" } : Jvm.MethodName)) ∈ uW := uW_of 640 (by decide +kernel) (by decide +kernel)
theorem k_643 : (Jvm.Cond.code ({ cls := "PackageBook$Expander", name := "fail", desc := "(I)V" } : Jvm.MethodName) prog_3_method_18_code (2 : Nat) (Option.none : Option Jvm.ClassFile.FieldType)) ∈ uW := uW_of 643 (by decide +kernel) (by decide +kernel)
theorem k_642 : (Jvm.Cond.instanceMethod ({ cls := "PackageBook$Expander", name := "fail", desc := "(I)V" } : Jvm.MethodName)) ∈ uW := uW_of 642 (by decide +kernel) (by decide +kernel)
theorem k_19 : Cond.selects "PackageBook$Expander" ⟨"PackageBook$Expander", "fail", "(I)V"⟩ ⟨"PackageBook$Expander", "fail", "(I)V"⟩ ∈ uW := uW_of 19 (by decide +kernel) (by decide +kernel)
theorem d_Expander_readStored_42 : decode prog_3_method_4_code 42 = .ok (.iconst 0, 1) := by decide +kernel
theorem d_Expander_readStored_43 : decode prog_3_method_4_code 43 = .ok (.istore_n 2, 1) := by decide +kernel
theorem d_Expander_readStored_44 : decode prog_3_method_4_code 44 = .ok (.iload_n 2, 1) := by decide +kernel
theorem d_Expander_readStored_45 : decode prog_3_method_4_code 45 = .ok (.iload_n 1, 1) := by decide +kernel
theorem d_Expander_readStored_46 : decode prog_3_method_4_code 46 = .ok (.if_icmp .ge 26, 3) := by decide +kernel
theorem d_Expander_readStored_72 : decode prog_3_method_4_code 72 = .ok (.return_, 1) := by decide +kernel
abbrev y_Expander_readStored : MethodName := ⟨"PackageBook$Expander", "readStored", "()V"⟩
abbrev i_Expander_readStored : pb_I := (y_Expander_readStored, prog_3_method_4_code, 3, (Option.none : Option Jvm.ClassFile.FieldType), [], { frames := 1, cells := 0, slots := 0, locals := 23 })
set_option maxRecDepth 100000 in
set_option maxHeartbeats 4000000 in
theorem c_Exp_stored {l : Launch} (hl : l.stackTraces = false) (G : pb_G) (h : Nat) (ex : Nat) (et : Nat) (ea : Nat) (eb : Nat) (ec : Nat) (ed : Nat) (ef : Nat) (er : Nat) : Cn l G i_Expander_readStored [.ref h] [(h, .inr (5, [.ref ex, .ref et, .ref ea, .ref eb, .ref ec, .ref ed, .ref ef, .ref er, .int 0, .int 0, .int 1]))] (S := Unit) (fun v u => v = none) (fun u => [(h, .inr (5, [.ref ex, .ref et, .ref ea, .ref eb, .ref ec, .ref ed, .ref ef, .ref er, .int 0, .int 0, .int 1]))]) := by
  refine Cn.of hl (by decide +kernel) rfl (Nat.le_of_ble_eq_true rfl) (fun M hQ => ?_)
  refine pb_eq (pc' := 0) (lo' := [(0, .ref h)]) (rest' := []) (ws' := [(h, .inr (5, [.ref ex, .ref et, .ref ea, .ref eb, .ref ec, .ref ed, .ref ef, .ref er, .int 0, .int 0, .int 1]))]) ?_
  refine pb_aload_n (pc := 0) d_Expander_readStored_0 0 rfl rfl ?_
  refine pb_aload_n (pc := 1) d_Expander_readStored_1 0 rfl rfl ?_
  refine pb_get (pc := 2) d_Expander_readStored_2 0 8 rfl rfl (by decide) in_Expander k_258 rfl ?_
  refine pb_bipush (pc := 5) (v := 7) d_Expander_readStored_5 (by decide) ?_
  refine pb_iadd (pc := 7) d_Expander_readStored_7 ?_
  refine pb_asi (y := 7) (by decide) ?_
  refine pb_bipush (pc := 8) (v := 8) d_Expander_readStored_8 (by decide) ?_
  refine pb_idiv (pc := 10) d_Expander_readStored_10 (by decide) ?_
  refine pb_asi (y := 0) (by decide) ?_
  refine pb_bipush (pc := 11) (v := 8) d_Expander_readStored_11 (by decide) ?_
  refine pb_imul (pc := 13) d_Expander_readStored_13 ?_
  refine pb_asi (y := 0) (by decide) ?_
  refine pb_put (pc := 14) (ty := .int) (ws' := [(h, .inr (5, [.ref ex, .ref et, .ref ea, .ref eb, .ref ec, .ref ed, .ref ef, .ref er, .int 0, .int 0, .int 1]))]) d_Expander_readStored_14 0 8 t_Expander t_Expander_ok n_Expander rfl rfl (by decide) in_Expander k_258 rfl (by decide +kernel) rfl rfl (Nat.le_of_ble_eq_true rfl) rfl ?_
  refine pb_aload_n (pc := 17) d_Expander_readStored_17 0 rfl rfl ?_
  refine pb_bipush (pc := 18) (v := 16) d_Expander_readStored_18 (by decide) ?_
  refine pb_callV (pc := 20) (qb := 0) (ci := 5) (nA := 1) (rest := []) (wr := []) d_Expander_readStored_20 (c_Exp_numB hl G h ex et ea eb ec ed ef er 16) rfl rfl [0] [] (by decide) rfl rfl rfl (by decide) (by decide) k_634 rfl k_121 k_631 k_633 k_17 (by decide +kernel) (by decide) rfl rfl (Nat.le_of_ble_eq_true rfl) (by decide) (fun v9 u2 h1 => ?_)
  have eh1 := h1
  have eh1 : v9 = some (.int 0) := eh1
  subst eh1
  refine pb_eq (pc' := 23) (lo' := [(0, .ref h)]) (rest' := [.int 0]) (ws' := [(h, .inr (5, [.ref ex, .ref et, .ref ea, .ref eb, .ref ec, .ref ed, .ref ef, .ref er, .int 0, .int 0, .int 1]))]) ?_
  refine pb_istore_n (pc := 23) (lo' := [(1, .int 0), (0, .ref h)]) d_Expander_readStored_23 rfl (by decide) rfl ?_
  refine pb_aload_n (pc := 24) d_Expander_readStored_24 1 rfl rfl ?_
  refine pb_bipush (pc := 25) (v := 16) d_Expander_readStored_25 (by decide) ?_
  refine pb_callV (pc := 27) (qb := 0) (ci := 5) (nA := 1) (rest := []) (wr := []) d_Expander_readStored_27 (c_Exp_numB hl G h ex et ea eb ec ed ef er 16) rfl rfl [0] [] (by decide) rfl rfl rfl (by decide) (by decide) k_634 rfl k_121 k_631 k_633 k_17 (by decide +kernel) (by decide) rfl rfl (Nat.le_of_ble_eq_true rfl) (by decide) (fun v9 u4 h3 => ?_)
  have eh3 := h3
  have eh3 : v9 = some (.int 0) := eh3
  subst eh3
  refine pb_eq (pc' := 30) (lo' := [(1, .int 0), (0, .ref h)]) (rest' := [.int 0]) (ws' := [(h, .inr (5, [.ref ex, .ref et, .ref ea, .ref eb, .ref ec, .ref ed, .ref ef, .ref er, .int 0, .int 0, .int 1]))]) ?_
  refine pb_ldc (pc := 30) (v := 65535) d_Expander_readStored_30 k_639 ?_
  refine pb_iload_n (pc := 32) d_Expander_readStored_32 0 rfl rfl ?_
  refine pb_isub (pc := 33) d_Expander_readStored_33 ?_
  refine pb_asi (y := 65535) (by decide) ?_
  refine pb_icmp_eq (pc := 34) (tgt := 42) d_Expander_readStored_34 (by decide) (fun h9 => absurd h9 (by decide)) (fun _ => ?_)
  refine pb_aload_n (pc := 37) d_Expander_readStored_37 1 rfl rfl ?_
  refine pb_iconst (pc := 38) (v := 3) d_Expander_readStored_38 (by decide) ?_
  refine pb_callV (pc := 39) (qb := 0) (ci := 5) (nA := 1) (rest := []) (wr := []) d_Expander_readStored_39 (c_Exp_fail1 hl G h ex et ea eb ec ed ef er 3) rfl rfl [0] [] (by decide) rfl rfl rfl (by decide) (by decide) k_643 rfl k_121 k_640 k_642 k_19 (by decide +kernel) (by decide) rfl rfl (Nat.le_of_ble_eq_true rfl) (by decide) (fun v9 u7 h6 => ?_)
  have eh6 := h6
  have eh6 : v9 = none := eh6
  subst eh6
  refine pb_eq (pc' := 42) (lo' := [(1, .int 0), (0, .ref h)]) (rest' := []) (ws' := [(h, .inr (5, [.ref ex, .ref et, .ref ea, .ref eb, .ref ec, .ref ed, .ref ef, .ref er, .int 0, .int 0, .int 1]))]) ?_
  refine pb_iconst (pc := 42) (v := 0) d_Expander_readStored_42 (by decide) ?_
  refine pb_istore_n (pc := 43) (lo' := [(2, .int 0), (1, .int 0), (0, .ref h)]) d_Expander_readStored_43 rfl (by decide) rfl ?_
  refine pb_iload_n (pc := 44) d_Expander_readStored_44 0 rfl rfl ?_
  refine pb_iload_n (pc := 45) d_Expander_readStored_45 1 rfl rfl ?_
  refine pb_icmp_ge (pc := 46) (tgt := 72) d_Expander_readStored_46 (by decide) (fun _ => ?_) (fun h9 => absurd h9 (by decide))
  exact pb_vret (pc := 72) hQ d_Expander_readStored_72 rfl () rfl [0] (by decide) rfl rfl (by decide) (by decide)

theorem d_Expander_run_0 : decode prog_3_method_3_code 0 = .ok (.aload_n 0, 1) := by decide +kernel
theorem d_Expander_run_1 : decode prog_3_method_3_code 1 = .ok (.aload_n 1, 1) := by decide +kernel
theorem d_Expander_run_2 : decode prog_3_method_3_code 2 = .ok (.putfield 46, 3) := by decide +kernel
theorem d_Expander_run_5 : decode prog_3_method_3_code 5 = .ok (.aload_n 0, 1) := by decide +kernel
theorem d_Expander_run_6 : decode prog_3_method_3_code 6 = .ok (.bipush 8, 2) := by decide +kernel
theorem d_Expander_run_8 : decode prog_3_method_3_code 8 = .ok (.iload_n 2, 1) := by decide +kernel
theorem d_Expander_run_9 : decode prog_3_method_3_code 9 = .ok (.imul, 1) := by decide +kernel
theorem d_Expander_run_10 : decode prog_3_method_3_code 10 = .ok (.putfield 58, 3) := by decide +kernel
theorem d_Expander_run_13 : decode prog_3_method_3_code 13 = .ok (.aload_n 0, 1) := by decide +kernel
theorem d_Expander_run_14 : decode prog_3_method_3_code 14 = .ok (.bipush 8, 2) := by decide +kernel
theorem d_Expander_run_16 : decode prog_3_method_3_code 16 = .ok (.iload_n 2, 1) := by decide +kernel
theorem d_Expander_run_17 : decode prog_3_method_3_code 17 = .ok (.iload_n 3, 1) := by decide +kernel
theorem d_Expander_run_18 : decode prog_3_method_3_code 18 = .ok (.iadd, 1) := by decide +kernel
theorem d_Expander_run_19 : decode prog_3_method_3_code 19 = .ok (.imul, 1) := by decide +kernel
theorem d_Expander_run_20 : decode prog_3_method_3_code 20 = .ok (.putfield 62, 3) := by decide +kernel
theorem d_Expander_run_23 : decode prog_3_method_3_code 23 = .ok (.aload_n 0, 1) := by decide +kernel
theorem d_Expander_run_24 : decode prog_3_method_3_code 24 = .ok (.iconst 0, 1) := by decide +kernel
theorem d_Expander_run_25 : decode prog_3_method_3_code 25 = .ok (.putfield 65, 3) := by decide +kernel
theorem d_Expander_run_28 : decode prog_3_method_3_code 28 = .ok (.aload_n 0, 1) := by decide +kernel
theorem d_Expander_run_29 : decode prog_3_method_3_code 29 = .ok (.getfield 14, 3) := by decide +kernel
theorem d_Expander_run_32 : decode prog_3_method_3_code 32 = .ok (.iconst 0, 1) := by decide +kernel
theorem d_Expander_run_33 : decode prog_3_method_3_code 33 = .ok (.putfield 68, 3) := by decide +kernel
theorem k_166 : (Jvm.Cond.fieldLinkNest "PackageBook$Expander" (68 : Nat) "PackageBook$Row" "size" "I" "PackageBook") ∈ uN := uN_of 166 (by decide +kernel) (by decide +kernel)
theorem d_Expander_run_36 : decode prog_3_method_3_code 36 = .ok (.iconst 0, 1) := by decide +kernel
theorem d_Expander_run_37 : decode prog_3_method_3_code 37 = .ok (.istore 4, 2) := by decide +kernel
theorem d_Expander_run_39 : decode prog_3_method_3_code 39 = .ok (.iconst 0, 1) := by decide +kernel
theorem d_Expander_run_40 : decode prog_3_method_3_code 40 = .ok (.istore 5, 2) := by decide +kernel
theorem d_Expander_run_42 : decode prog_3_method_3_code 42 = .ok (.iload 5, 2) := by decide +kernel
theorem d_Expander_run_44 : decode prog_3_method_3_code 44 = .ok (.bipush 8, 2) := by decide +kernel
theorem d_Expander_run_46 : decode prog_3_method_3_code 46 = .ok (.iload_n 3, 1) := by decide +kernel
theorem d_Expander_run_47 : decode prog_3_method_3_code 47 = .ok (.imul, 1) := by decide +kernel
theorem d_Expander_run_48 : decode prog_3_method_3_code 48 = .ok (.if_icmp .gt 107, 3) := by decide +kernel
theorem d_Expander_run_51 : decode prog_3_method_3_code 51 = .ok (.iload 4, 2) := by decide +kernel
theorem d_Expander_run_53 : decode prog_3_method_3_code 53 = .ok (.ifCond .ne 102, 3) := by decide +kernel
theorem d_Expander_run_56 : decode prog_3_method_3_code 56 = .ok (.aload_n 0, 1) := by decide +kernel
theorem d_Expander_run_57 : decode prog_3_method_3_code 57 = .ok (.getfield 65, 3) := by decide +kernel
theorem d_Expander_run_60 : decode prog_3_method_3_code 60 = .ok (.ifCond .ne 95, 3) := by decide +kernel
theorem d_Expander_run_63 : decode prog_3_method_3_code 63 = .ok (.aload_n 0, 1) := by decide +kernel
theorem d_Expander_run_64 : decode prog_3_method_3_code 64 = .ok (.iconst 1, 1) := by decide +kernel
theorem d_Expander_run_65 : decode prog_3_method_3_code 65 = .ok (.invokevirtual 71, 3) := by decide +kernel
theorem d_Expander_run_68 : decode prog_3_method_3_code 68 = .ok (.iconst 1, 1) := by decide +kernel
theorem d_Expander_run_69 : decode prog_3_method_3_code 69 = .ok (.if_icmp .ne 7, 3) := by decide +kernel
theorem d_Expander_run_76 : decode prog_3_method_3_code 76 = .ok (.iconst 0, 1) := by decide +kernel
theorem d_Expander_run_77 : decode prog_3_method_3_code 77 = .ok (.istore 4, 2) := by decide +kernel
theorem d_Expander_run_79 : decode prog_3_method_3_code 79 = .ok (.aload_n 0, 1) := by decide +kernel
theorem d_Expander_run_80 : decode prog_3_method_3_code 80 = .ok (.iconst 2, 1) := by decide +kernel
theorem d_Expander_run_81 : decode prog_3_method_3_code 81 = .ok (.invokevirtual 71, 3) := by decide +kernel
theorem d_Expander_run_84 : decode prog_3_method_3_code 84 = .ok (.istore 6, 2) := by decide +kernel
theorem d_Expander_run_86 : decode prog_3_method_3_code 86 = .ok (.iload 6, 2) := by decide +kernel
theorem d_Expander_run_88 : decode prog_3_method_3_code 88 = .ok (.ifCond .ne 10, 3) := by decide +kernel
theorem d_Expander_run_91 : decode prog_3_method_3_code 91 = .ok (.aload_n 0, 1) := by decide +kernel
theorem d_Expander_run_92 : decode prog_3_method_3_code 92 = .ok (.invokevirtual 75, 3) := by decide +kernel
theorem k_635 : (Jvm.Cond.methodLink "PackageBook$Expander" (75 : Nat) ({ cls := "PackageBook$Expander", name := "readStored", desc := "()V" } : Jvm.MethodName)) ∈ uW := uW_of 635 (by decide +kernel) (by decide +kernel)
theorem k_638 : (Jvm.Cond.code ({ cls := "PackageBook$Expander", name := "readStored", desc := "()V" } : Jvm.MethodName) prog_3_method_4_code (3 : Nat) (Option.none : Option Jvm.ClassFile.FieldType)) ∈ uW := uW_of 638 (by decide +kernel) (by decide +kernel)
theorem k_637 : (Jvm.Cond.instanceMethod ({ cls := "PackageBook$Expander", name := "readStored", desc := "()V" } : Jvm.MethodName)) ∈ uW := uW_of 637 (by decide +kernel) (by decide +kernel)
theorem k_18 : Cond.selects "PackageBook$Expander" ⟨"PackageBook$Expander", "readStored", "()V"⟩ ⟨"PackageBook$Expander", "readStored", "()V"⟩ ∈ uW := uW_of 18 (by decide +kernel) (by decide +kernel)
theorem d_Expander_run_95 : decode prog_3_method_3_code 95 = .ok (.goto 54, 3) := by decide +kernel
theorem d_Expander_run_149 : decode prog_3_method_3_code 149 = .ok (.iinc 5 1, 3) := by decide +kernel
theorem d_Expander_run_152 : decode prog_3_method_3_code 152 = .ok (.goto (-110), 3) := by decide +kernel
theorem d_Expander_run_155 : decode prog_3_method_3_code 155 = .ok (.aload_n 0, 1) := by decide +kernel
theorem d_Expander_run_156 : decode prog_3_method_3_code 156 = .ok (.getfield 58, 3) := by decide +kernel
theorem d_Expander_run_159 : decode prog_3_method_3_code 159 = .ok (.bipush 7, 2) := by decide +kernel
theorem d_Expander_run_161 : decode prog_3_method_3_code 161 = .ok (.iadd, 1) := by decide +kernel
theorem d_Expander_run_162 : decode prog_3_method_3_code 162 = .ok (.aload_n 0, 1) := by decide +kernel
theorem d_Expander_run_163 : decode prog_3_method_3_code 163 = .ok (.getfield 62, 3) := by decide +kernel
theorem d_Expander_run_166 : decode prog_3_method_3_code 166 = .ok (.if_icmp .ge 9, 3) := by decide +kernel
theorem d_Expander_run_175 : decode prog_3_method_3_code 175 = .ok (.aload_n 0, 1) := by decide +kernel
theorem d_Expander_run_176 : decode prog_3_method_3_code 176 = .ok (.getfield 65, 3) := by decide +kernel
theorem d_Expander_run_179 : decode prog_3_method_3_code 179 = .ok (.ifCond .ne 13, 3) := by decide +kernel
theorem d_Expander_run_192 : decode prog_3_method_3_code 192 = .ok (.aload_n 0, 1) := by decide +kernel
theorem d_Expander_run_193 : decode prog_3_method_3_code 193 = .ok (.getfield 65, 3) := by decide +kernel
theorem d_Expander_run_196 : decode prog_3_method_3_code 196 = .ok (.ineg, 1) := by decide +kernel
theorem d_Expander_run_197 : decode prog_3_method_3_code 197 = .ok (.ireturn, 1) := by decide +kernel
abbrev y_Expander_run : MethodName := ⟨"PackageBook$Expander", "run", "([BII)I"⟩
abbrev i_Expander_run : pb_I := (y_Expander_run, prog_3_method_3_code, 7, (some Jvm.ClassFile.FieldType.int), [], { frames := 2, cells := 0, slots := 0, locals := 45 })
set_option maxRecDepth 100000 in
set_option maxHeartbeats 4000000 in
theorem c_Exp_run0 {l : Launch} (hl : l.stackTraces = false) (G : pb_G) (h : Nat) (ex : Nat) (et : Nat) (ea : Nat) (eb : Nat) (ec : Nat) (ed : Nat) (ef : Nat) (er : Nat) (ey : Nat) (b : Nat) (xs : Int32) : Cn l G i_Expander_run [.ref h, .ref b, .int 0, .int 0] [(h, .inr (5, [.ref ex, .ref et, .ref ea, .ref eb, .ref ec, .ref ed, .ref ef, .ref er, .int 0, .int 0, .int 0])), (ex, .inr (0, [.ref ey, .int xs]))] (S := Unit) (fun v u => v = some (.int (-1))) (fun u => [(h, .inr (5, [.ref ex, .ref et, .ref ea, .ref eb, .ref ec, .ref ed, .ref ef, .ref b, .int 0, .int 0, .int 1])), (ex, .inr (0, [.ref ey, .int 0]))]) := by
  refine Cn.of hl (by decide +kernel) rfl (Nat.le_of_ble_eq_true rfl) (fun M hQ => ?_)
  refine pb_eq (pc' := 0) (lo' := [(0, .ref h), (1, .ref b), (2, .int 0), (3, .int 0)]) (rest' := []) (ws' := [(h, .inr (5, [.ref ex, .ref et, .ref ea, .ref eb, .ref ec, .ref ed, .ref ef, .ref er, .int 0, .int 0, .int 0])), (ex, .inr (0, [.ref ey, .int xs]))]) ?_
  refine pb_aload_n (pc := 0) d_Expander_run_0 0 rfl rfl ?_
  refine pb_aload_n (pc := 1) d_Expander_run_1 1 rfl rfl ?_
  refine pb_put (pc := 2) (ty := (.array .byte)) (ws' := [(h, .inr (5, [.ref ex, .ref et, .ref ea, .ref eb, .ref ec, .ref ed, .ref ef, .ref b, .int 0, .int 0, .int 0])), (ex, .inr (0, [.ref ey, .int xs]))]) d_Expander_run_2 0 7 t_Expander t_Expander_ok n_Expander rfl rfl (by decide) in_Expander k_257 rfl (by decide +kernel) rfl rfl (Nat.le_of_ble_eq_true rfl) rfl ?_
  refine pb_aload_n (pc := 5) d_Expander_run_5 0 rfl rfl ?_
  refine pb_bipush (pc := 6) (v := 8) d_Expander_run_6 (by decide) ?_
  refine pb_iload_n (pc := 8) d_Expander_run_8 2 rfl rfl ?_
  refine pb_imul (pc := 9) d_Expander_run_9 ?_
  refine pb_asi (y := 0) (by decide) ?_
  refine pb_put (pc := 10) (ty := .int) (ws' := [(h, .inr (5, [.ref ex, .ref et, .ref ea, .ref eb, .ref ec, .ref ed, .ref ef, .ref b, .int 0, .int 0, .int 0])), (ex, .inr (0, [.ref ey, .int xs]))]) d_Expander_run_10 0 8 t_Expander t_Expander_ok n_Expander rfl rfl (by decide) in_Expander k_258 rfl (by decide +kernel) rfl rfl (Nat.le_of_ble_eq_true rfl) rfl ?_
  refine pb_aload_n (pc := 13) d_Expander_run_13 0 rfl rfl ?_
  refine pb_bipush (pc := 14) (v := 8) d_Expander_run_14 (by decide) ?_
  refine pb_iload_n (pc := 16) d_Expander_run_16 2 rfl rfl ?_
  refine pb_iload_n (pc := 17) d_Expander_run_17 3 rfl rfl ?_
  refine pb_iadd (pc := 18) d_Expander_run_18 ?_
  refine pb_asi (y := 0) (by decide) ?_
  refine pb_imul (pc := 19) d_Expander_run_19 ?_
  refine pb_asi (y := 0) (by decide) ?_
  refine pb_put (pc := 20) (ty := .int) (ws' := [(h, .inr (5, [.ref ex, .ref et, .ref ea, .ref eb, .ref ec, .ref ed, .ref ef, .ref b, .int 0, .int 0, .int 0])), (ex, .inr (0, [.ref ey, .int xs]))]) d_Expander_run_20 0 9 t_Expander t_Expander_ok n_Expander rfl rfl (by decide) in_Expander k_259 rfl (by decide +kernel) rfl rfl (Nat.le_of_ble_eq_true rfl) rfl ?_
  refine pb_aload_n (pc := 23) d_Expander_run_23 0 rfl rfl ?_
  refine pb_iconst (pc := 24) (v := 0) d_Expander_run_24 (by decide) ?_
  refine pb_put (pc := 25) (ty := .int) (ws' := [(h, .inr (5, [.ref ex, .ref et, .ref ea, .ref eb, .ref ec, .ref ed, .ref ef, .ref b, .int 0, .int 0, .int 0])), (ex, .inr (0, [.ref ey, .int xs]))]) d_Expander_run_25 0 10 t_Expander t_Expander_ok n_Expander rfl rfl (by decide) in_Expander k_260 rfl (by decide +kernel) rfl rfl (Nat.le_of_ble_eq_true rfl) rfl ?_
  refine pb_aload_n (pc := 28) d_Expander_run_28 0 rfl rfl ?_
  refine pb_get (pc := 29) d_Expander_run_29 0 0 rfl rfl (by decide) in_Expander k_248 rfl ?_
  refine pb_iconst (pc := 32) (v := 0) d_Expander_run_32 (by decide) ?_
  refine pb_putN (pc := 33) (ty := .int) (ws' := [(h, .inr (5, [.ref ex, .ref et, .ref ea, .ref eb, .ref ec, .ref ed, .ref ef, .ref b, .int 0, .int 0, .int 0])), (ex, .inr (0, [.ref ey, .int 0]))]) d_Expander_run_33 1 1 t_Row t_Row_ok n_Row rfl rfl (by decide) in_Row k_166 rfl (by decide +kernel) rfl rfl (Nat.le_of_ble_eq_true rfl) rfl ?_
  refine pb_iconst (pc := 36) (v := 0) d_Expander_run_36 (by decide) ?_
  refine pb_istore (pc := 37) (lo' := [(4, .int 0), (0, .ref h), (1, .ref b), (2, .int 0), (3, .int 0)]) d_Expander_run_37 (by decide) rfl ?_
  refine pb_iconst (pc := 39) (v := 0) d_Expander_run_39 (by decide) ?_
  refine pb_istore (pc := 40) (lo' := [(5, .int 0), (4, .int 0), (0, .ref h), (1, .ref b), (2, .int 0), (3, .int 0)]) d_Expander_run_40 (by decide) rfl ?_
  refine pb_iload (pc := 42) d_Expander_run_42 0 rfl ?_
  refine pb_bipush (pc := 44) (v := 8) d_Expander_run_44 (by decide) ?_
  refine pb_iload_n (pc := 46) d_Expander_run_46 5 rfl rfl ?_
  refine pb_imul (pc := 47) d_Expander_run_47 ?_
  refine pb_asi (y := 0) (by decide) ?_
  refine pb_icmp_gt (pc := 48) (tgt := 155) d_Expander_run_48 (by decide) (fun h9 => absurd h9 (by decide)) (fun _ => ?_)
  refine pb_iload (pc := 51) d_Expander_run_51 1 rfl ?_
  refine pb_if_ne (pc := 53) (tgt := 155) d_Expander_run_53 (by decide) (fun h9 => absurd h9 (by decide)) (fun _ => ?_)
  refine pb_aload_n (pc := 56) d_Expander_run_56 2 rfl rfl ?_
  refine pb_get (pc := 57) d_Expander_run_57 0 10 rfl rfl (by decide) in_Expander k_260 rfl ?_
  refine pb_if_ne (pc := 60) (tgt := 155) d_Expander_run_60 (by decide) (fun h9 => absurd h9 (by decide)) (fun _ => ?_)
  refine pb_aload_n (pc := 63) d_Expander_run_63 2 rfl rfl ?_
  refine pb_iconst (pc := 64) (v := 1) d_Expander_run_64 (by decide) ?_
  refine pb_callV (pc := 65) (qb := 0) (ci := 5) (nA := 1) (rest := []) (wr := [(ex, .inr (0, [.ref ey, .int 0]))]) d_Expander_run_65 (c_Exp_numA hl G h ex et ea eb ec ed ef b) rfl rfl [0] [1] (by decide) rfl rfl rfl (by decide) (by decide) k_634 rfl k_121 k_631 k_633 k_17 (by decide +kernel) (by decide) rfl rfl (Nat.le_of_ble_eq_true rfl) (by decide) (fun v9 u5 h4 => ?_)
  have eh4 := h4
  have eh4 : v9 = some (.int 0) := eh4
  subst eh4
  refine pb_eq (pc' := 68) (lo' := [(5, .int 0), (4, .int 0), (0, .ref h), (1, .ref b), (2, .int 0), (3, .int 0)]) (rest' := [.int 0]) (ws' := [(ex, .inr (0, [.ref ey, .int 0])), (h, .inr (5, [.ref ex, .ref et, .ref ea, .ref eb, .ref ec, .ref ed, .ref ef, .ref b, .int 0, .int 0, .int 1]))]) ?_
  refine pb_iconst (pc := 68) (v := 1) d_Expander_run_68 (by decide) ?_
  refine pb_icmp_ne (pc := 69) (tgt := 76) d_Expander_run_69 (by decide) (fun _ => ?_) (fun h9 => absurd h9 (by decide))
  refine pb_iconst (pc := 76) (v := 0) d_Expander_run_76 (by decide) ?_
  refine pb_istore (pc := 77) (lo' := [(4, .int 0), (5, .int 0), (0, .ref h), (1, .ref b), (2, .int 0), (3, .int 0)]) d_Expander_run_77 (by decide) rfl ?_
  refine pb_aload_n (pc := 79) d_Expander_run_79 2 rfl rfl ?_
  refine pb_iconst (pc := 80) (v := 2) d_Expander_run_80 (by decide) ?_
  refine pb_callV (pc := 81) (qb := 1) (ci := 5) (nA := 1) (rest := []) (wr := [(ex, .inr (0, [.ref ey, .int 0]))]) d_Expander_run_81 (c_Exp_numB hl G h ex et ea eb ec ed ef b 2) rfl rfl [1] [0] (by decide) rfl rfl rfl (by decide) (by decide) k_634 rfl k_121 k_631 k_633 k_17 (by decide +kernel) (by decide) rfl rfl (Nat.le_of_ble_eq_true rfl) (by decide) (fun v9 u8 h7 => ?_)
  have eh7 := h7
  have eh7 : v9 = some (.int 0) := eh7
  subst eh7
  refine pb_eq (pc' := 84) (lo' := [(4, .int 0), (5, .int 0), (0, .ref h), (1, .ref b), (2, .int 0), (3, .int 0)]) (rest' := [.int 0]) (ws' := [(ex, .inr (0, [.ref ey, .int 0])), (h, .inr (5, [.ref ex, .ref et, .ref ea, .ref eb, .ref ec, .ref ed, .ref ef, .ref b, .int 0, .int 0, .int 1]))]) ?_
  refine pb_istore (pc := 84) (lo' := [(6, .int 0), (4, .int 0), (5, .int 0), (0, .ref h), (1, .ref b), (2, .int 0), (3, .int 0)]) d_Expander_run_84 (by decide) rfl ?_
  refine pb_iload (pc := 86) d_Expander_run_86 0 rfl ?_
  refine pb_if_ne (pc := 88) (tgt := 98) d_Expander_run_88 (by decide) (fun h9 => absurd h9 (by decide)) (fun _ => ?_)
  refine pb_aload_n (pc := 91) d_Expander_run_91 3 rfl rfl ?_
  refine pb_callV (pc := 92) (qb := 1) (ci := 5) (nA := 0) (rest := []) (wr := [(ex, .inr (0, [.ref ey, .int 0]))]) d_Expander_run_92 (c_Exp_stored hl G h ex et ea eb ec ed ef b) rfl rfl [1] [0] (by decide) rfl rfl rfl (by decide) (by decide) k_638 rfl k_121 k_635 k_637 k_18 (by decide +kernel) (by decide) rfl rfl (Nat.le_of_ble_eq_true rfl) (by decide) (fun v9 u11 h10 => ?_)
  have eh10 := h10
  have eh10 : v9 = none := eh10
  subst eh10
  refine pb_eq (pc' := 95) (lo' := [(6, .int 0), (4, .int 0), (5, .int 0), (0, .ref h), (1, .ref b), (2, .int 0), (3, .int 0)]) (rest' := []) (ws' := [(ex, .inr (0, [.ref ey, .int 0])), (h, .inr (5, [.ref ex, .ref et, .ref ea, .ref eb, .ref ec, .ref ed, .ref ef, .ref b, .int 0, .int 0, .int 1]))]) ?_
  refine pb_goto (pc := 95) (tgt := 149) d_Expander_run_95 (by decide) ?_
  refine pb_iinc (pc := 149) (v := 1) (lo' := [(5, .int 1), (6, .int 0), (4, .int 0), (0, .ref h), (1, .ref b), (2, .int 0), (3, .int 0)]) d_Expander_run_149 2 rfl (by decide) (by decide) rfl ?_
  refine pb_goto (pc := 152) (tgt := 42) d_Expander_run_152 (by decide) ?_
  refine pb_iload (pc := 42) d_Expander_run_42 0 rfl ?_
  refine pb_bipush (pc := 44) (v := 8) d_Expander_run_44 (by decide) ?_
  refine pb_iload_n (pc := 46) d_Expander_run_46 6 rfl rfl ?_
  refine pb_imul (pc := 47) d_Expander_run_47 ?_
  refine pb_asi (y := 0) (by decide) ?_
  refine pb_icmp_gt (pc := 48) (tgt := 155) d_Expander_run_48 (by decide) (fun _ => ?_) (fun h9 => absurd h9 (by decide))
  refine pb_aload_n (pc := 155) d_Expander_run_155 3 rfl rfl ?_
  refine pb_get (pc := 156) d_Expander_run_156 1 8 rfl rfl (by decide) in_Expander k_258 rfl ?_
  refine pb_bipush (pc := 159) (v := 7) d_Expander_run_159 (by decide) ?_
  refine pb_iadd (pc := 161) d_Expander_run_161 ?_
  refine pb_asi (y := 7) (by decide) ?_
  refine pb_aload_n (pc := 162) d_Expander_run_162 3 rfl rfl ?_
  refine pb_get (pc := 163) d_Expander_run_163 1 9 rfl rfl (by decide) in_Expander k_259 rfl ?_
  refine pb_icmp_ge (pc := 166) (tgt := 175) d_Expander_run_166 (by decide) (fun _ => ?_) (fun h9 => absurd h9 (by decide))
  refine pb_aload_n (pc := 175) d_Expander_run_175 3 rfl rfl ?_
  refine pb_get (pc := 176) d_Expander_run_176 1 10 rfl rfl (by decide) in_Expander k_260 rfl ?_
  refine pb_if_ne (pc := 179) (tgt := 192) d_Expander_run_179 (by decide) (fun _ => ?_) (fun h9 => absurd h9 (by decide))
  refine pb_aload_n (pc := 192) d_Expander_run_192 3 rfl rfl ?_
  refine pb_get (pc := 193) d_Expander_run_193 1 10 rfl rfl (by decide) in_Expander k_260 rfl ?_
  refine pb_ineg (pc := 196) d_Expander_run_196 ?_
  refine pb_asi (y := (-1)) (by decide) ?_
  exact pb_iret (pc := 197) hQ d_Expander_run_197 rfl rfl () rfl [1, 0] (by decide) rfl rfl (by decide) (by decide)
