theorem d_FileMaker_putEnd_0 : decode prog_4_method_5_code 0 = .ok (.aload_n 0, 1) := by decide +kernel
theorem d_FileMaker_putEnd_1 : decode prog_4_method_5_code 1 = .ok (.getfield 14, 3) := by decide +kernel
theorem d_FileMaker_putEnd_4 : decode prog_4_method_5_code 4 = .ok (.getfield 24, 3) := by decide +kernel
theorem k_163 : (Jvm.Cond.fieldLinkNest "PackageBook$FileMaker" (24 : Nat) "PackageBook$Row" "size" "I" "PackageBook") ∈ uN := uN_of 163 (by decide +kernel) (by decide +kernel)
theorem d_FileMaker_putEnd_7 : decode prog_4_method_5_code 7 = .ok (.iload_n 2, 1) := by decide +kernel
theorem d_FileMaker_putEnd_8 : decode prog_4_method_5_code 8 = .ok (.isub, 1) := by decide +kernel
theorem d_FileMaker_putEnd_9 : decode prog_4_method_5_code 9 = .ok (.istore_n 3, 1) := by decide +kernel
theorem d_FileMaker_putEnd_10 : decode prog_4_method_5_code 10 = .ok (.aload_n 0, 1) := by decide +kernel
theorem d_FileMaker_putEnd_11 : decode prog_4_method_5_code 11 = .ok (.getfield 14, 3) := by decide +kernel
theorem d_FileMaker_putEnd_14 : decode prog_4_method_5_code 14 = .ok (.ldc 87, 2) := by decide +kernel
theorem k_575 : (Jvm.Cond.constant "PackageBook$FileMaker" (87 : Nat) (101010256 : Int32)) ∈ uW := uW_of 575 (by decide +kernel) (by decide +kernel)
theorem d_FileMaker_putEnd_16 : decode prog_4_method_5_code 16 = .ok (.invokevirtual 66, 3) := by decide +kernel
theorem k_544 : (Jvm.Cond.methodLink "PackageBook$FileMaker" (66 : Nat) ({ cls := "PackageBook$Row", name := "putFour", desc := "(I)V" } : Jvm.MethodName)) ∈ uW := uW_of 544 (by decide +kernel) (by decide +kernel)
theorem k_547 : (Jvm.Cond.code ({ cls := "PackageBook$Row", name := "putFour", desc := "(I)V" } : Jvm.MethodName) prog_9_method_4_code (2 : Nat) (Option.none : Option Jvm.ClassFile.FieldType)) ∈ uW := uW_of 547 (by decide +kernel) (by decide +kernel)
theorem k_545 : (Jvm.Cond.instanceMethod ({ cls := "PackageBook$Row", name := "putFour", desc := "(I)V" } : Jvm.MethodName)) ∈ uW := uW_of 545 (by decide +kernel) (by decide +kernel)
theorem k_546 : (Jvm.Cond.selects "PackageBook$Row" ({ cls := "PackageBook$Row", name := "putFour", desc := "(I)V" } : Jvm.MethodName) ({ cls := "PackageBook$Row", name := "putFour", desc := "(I)V" } : Jvm.MethodName)) ∈ uW := uW_of 546 (by decide +kernel) (by decide +kernel)
theorem d_FileMaker_putEnd_19 : decode prog_4_method_5_code 19 = .ok (.aload_n 0, 1) := by decide +kernel
theorem d_FileMaker_putEnd_20 : decode prog_4_method_5_code 20 = .ok (.getfield 14, 3) := by decide +kernel
theorem d_FileMaker_putEnd_23 : decode prog_4_method_5_code 23 = .ok (.iconst 0, 1) := by decide +kernel
theorem d_FileMaker_putEnd_24 : decode prog_4_method_5_code 24 = .ok (.invokevirtual 69, 3) := by decide +kernel
theorem k_556 : (Jvm.Cond.methodLink "PackageBook$FileMaker" (69 : Nat) ({ cls := "PackageBook$Row", name := "putTwo", desc := "(I)V" } : Jvm.MethodName)) ∈ uW := uW_of 556 (by decide +kernel) (by decide +kernel)
theorem d_FileMaker_putEnd_27 : decode prog_4_method_5_code 27 = .ok (.aload_n 0, 1) := by decide +kernel
theorem d_FileMaker_putEnd_28 : decode prog_4_method_5_code 28 = .ok (.getfield 14, 3) := by decide +kernel
theorem d_FileMaker_putEnd_31 : decode prog_4_method_5_code 31 = .ok (.iconst 0, 1) := by decide +kernel
theorem d_FileMaker_putEnd_32 : decode prog_4_method_5_code 32 = .ok (.invokevirtual 69, 3) := by decide +kernel
theorem d_FileMaker_putEnd_35 : decode prog_4_method_5_code 35 = .ok (.aload_n 0, 1) := by decide +kernel
theorem d_FileMaker_putEnd_36 : decode prog_4_method_5_code 36 = .ok (.getfield 14, 3) := by decide +kernel
theorem d_FileMaker_putEnd_39 : decode prog_4_method_5_code 39 = .ok (.iload_n 1, 1) := by decide +kernel
theorem d_FileMaker_putEnd_40 : decode prog_4_method_5_code 40 = .ok (.invokevirtual 69, 3) := by decide +kernel
theorem d_FileMaker_putEnd_43 : decode prog_4_method_5_code 43 = .ok (.aload_n 0, 1) := by decide +kernel
theorem d_FileMaker_putEnd_44 : decode prog_4_method_5_code 44 = .ok (.getfield 14, 3) := by decide +kernel
theorem d_FileMaker_putEnd_47 : decode prog_4_method_5_code 47 = .ok (.iload_n 1, 1) := by decide +kernel
theorem d_FileMaker_putEnd_48 : decode prog_4_method_5_code 48 = .ok (.invokevirtual 69, 3) := by decide +kernel
theorem d_FileMaker_putEnd_51 : decode prog_4_method_5_code 51 = .ok (.aload_n 0, 1) := by decide +kernel
theorem d_FileMaker_putEnd_52 : decode prog_4_method_5_code 52 = .ok (.getfield 14, 3) := by decide +kernel
theorem d_FileMaker_putEnd_55 : decode prog_4_method_5_code 55 = .ok (.iload_n 3, 1) := by decide +kernel
theorem d_FileMaker_putEnd_56 : decode prog_4_method_5_code 56 = .ok (.invokevirtual 66, 3) := by decide +kernel
theorem d_FileMaker_putEnd_59 : decode prog_4_method_5_code 59 = .ok (.aload_n 0, 1) := by decide +kernel
theorem d_FileMaker_putEnd_60 : decode prog_4_method_5_code 60 = .ok (.getfield 14, 3) := by decide +kernel
theorem d_FileMaker_putEnd_63 : decode prog_4_method_5_code 63 = .ok (.iload_n 2, 1) := by decide +kernel
theorem d_FileMaker_putEnd_64 : decode prog_4_method_5_code 64 = .ok (.invokevirtual 66, 3) := by decide +kernel
theorem d_FileMaker_putEnd_67 : decode prog_4_method_5_code 67 = .ok (.aload_n 0, 1) := by decide +kernel
theorem d_FileMaker_putEnd_68 : decode prog_4_method_5_code 68 = .ok (.getfield 14, 3) := by decide +kernel
theorem d_FileMaker_putEnd_71 : decode prog_4_method_5_code 71 = .ok (.iconst 0, 1) := by decide +kernel
theorem d_FileMaker_putEnd_72 : decode prog_4_method_5_code 72 = .ok (.invokevirtual 69, 3) := by decide +kernel
theorem d_FileMaker_putEnd_75 : decode prog_4_method_5_code 75 = .ok (.return_, 1) := by decide +kernel
abbrev y_FileMaker_putEnd : MethodName := ⟨"PackageBook$FileMaker", "putEnd", "(II)V"⟩
abbrev i_FileMaker_putEnd : pb_I := (y_FileMaker_putEnd, prog_4_method_5_code, 4, (Option.none : Option Jvm.ClassFile.FieldType), [], { frames := 3, cells := 0, slots := 0, locals := 63 })
set_option maxRecDepth 100000 in
set_option maxHeartbeats 4000000 in
theorem c_Maker_putEnd {l : Launch} (hl : l.stackTraces = false) (G : pb_G) (h : Nat) (mm : Nat) (mr : Nat) (mb : Nat) (f : Nat → Int32) : Cn l G i_FileMaker_putEnd [.ref h, .int 0, .int 0] [(h, .inr (6, [.ref mm, .ref mr])), (mm, .inr (0, [.ref mb, .int 0])), (mb, .inl (G.2.1, 14006, .inl f))] (S := Int32 × (Nat → Int32)) (fun v u => v = none ∧ (u.1.toInt = 22)) (fun u => [(h, .inr (6, [.ref mm, .ref mr])), (mm, .inr (0, [.ref mb, .int u.1])), (mb, .inl (G.2.1, 14006, .inl u.2))]) := by
  refine Cn.of hl (by decide +kernel) rfl (Nat.le_of_ble_eq_true rfl) (fun M hQ => ?_)
  refine pb_eq (pc' := 0) (lo' := [(0, .ref h), (1, .int 0), (2, .int 0)]) (rest' := []) (ws' := [(h, .inr (6, [.ref mm, .ref mr])), (mm, .inr (0, [.ref mb, .int 0])), (mb, .inl (G.2.1, 14006, .inl f))]) ?_
  have z0 : (0 : Int32).toInt = 0 := by decide
  have z1 : (1 : Int32).toInt = 1 := by decide
  have z2 : (0 : Int32).toNatClampNeg = 0 := by decide
  refine pb_aload_n (pc := 0) d_FileMaker_putEnd_0 0 rfl rfl ?_
  refine pb_get (pc := 1) d_FileMaker_putEnd_1 0 0 rfl rfl (by decide) in_FileMaker k_292 rfl ?_
  refine pb_getN (pc := 4) d_FileMaker_putEnd_4 1 1 rfl rfl (by decide) in_Row k_163 rfl ?_
  refine pb_iload_n (pc := 7) d_FileMaker_putEnd_7 2 rfl rfl ?_
  refine pb_isub (pc := 8) d_FileMaker_putEnd_8 ?_
  refine pb_asi (y := 0) (by decide) ?_
  refine pb_istore_n (pc := 9) (lo' := [(3, .int 0), (0, .ref h), (1, .int 0), (2, .int 0)]) d_FileMaker_putEnd_9 rfl (by decide) rfl ?_
  refine pb_aload_n (pc := 10) d_FileMaker_putEnd_10 1 rfl rfl ?_
  refine pb_get (pc := 11) d_FileMaker_putEnd_11 0 0 rfl rfl (by decide) in_FileMaker k_292 rfl ?_
  refine pb_ldc (pc := 14) (v := 101010256) d_FileMaker_putEnd_14 k_575 ?_
  refine pb_callV (pc := 16) (qb := 1) (ci := 0) (nA := 1) (rest := []) (wr := [(h, .inr (6, [.ref mm, .ref mr]))]) d_FileMaker_putEnd_16 (c_Row_putFour hl G mm mb 14006 f 0 101010256 (by omega) (by omega) (by omega)) rfl rfl [1, 2] [0] (by decide) rfl rfl rfl (by decide) (by decide) k_547 rfl k_119 k_544 k_545 k_546 (by decide +kernel) (by decide) rfl rfl (Nat.le_of_ble_eq_true rfl) (by decide) (fun v9 u2 h1 => ?_)
  obtain ⟨s_3, f_4⟩ := u2
  obtain ⟨eh1, h1⟩ := h1
  have eh1 : v9 = none := eh1
  subst eh1
  have h5 : s_3.toInt = (0 : Int32).toInt + 4 := h1
  refine pb_eq (pc' := 19) (lo' := [(3, .int 0), (0, .ref h), (1, .int 0), (2, .int 0)]) (rest' := []) (ws' := [(h, .inr (6, [.ref mm, .ref mr])), (mm, .inr (0, [.ref mb, .int s_3])), (mb, .inl (G.2.1, 14006, .inl f_4))]) ?_
  refine pb_aload_n (pc := 19) d_FileMaker_putEnd_19 1 rfl rfl ?_
  refine pb_get (pc := 20) d_FileMaker_putEnd_20 0 0 rfl rfl (by decide) in_FileMaker k_292 rfl ?_
  refine pb_iconst (pc := 23) (v := 0) d_FileMaker_putEnd_23 (by decide) ?_
  refine pb_callV (pc := 24) (qb := 1) (ci := 0) (nA := 1) (rest := []) (wr := [(h, .inr (6, [.ref mm, .ref mr]))]) d_FileMaker_putEnd_24 (c_Row_putTwo hl G mm mb 14006 f_4 s_3 0 (by omega) (by omega) (by omega)) rfl rfl [1, 2] [0] (by decide) rfl rfl rfl (by decide) (by decide) k_551 rfl k_119 k_556 k_549 k_550 (by decide +kernel) (by decide) rfl rfl (Nat.le_of_ble_eq_true rfl) (by decide) (fun v9 u7 h6 => ?_)
  obtain ⟨s_8, f_9⟩ := u7
  obtain ⟨eh6, h6⟩ := h6
  have eh6 : v9 = none := eh6
  subst eh6
  have h10 : s_8.toInt = s_3.toInt + 2 := h6
  refine pb_eq (pc' := 27) (lo' := [(3, .int 0), (0, .ref h), (1, .int 0), (2, .int 0)]) (rest' := []) (ws' := [(h, .inr (6, [.ref mm, .ref mr])), (mm, .inr (0, [.ref mb, .int s_8])), (mb, .inl (G.2.1, 14006, .inl f_9))]) ?_
  refine pb_aload_n (pc := 27) d_FileMaker_putEnd_27 1 rfl rfl ?_
  refine pb_get (pc := 28) d_FileMaker_putEnd_28 0 0 rfl rfl (by decide) in_FileMaker k_292 rfl ?_
  refine pb_iconst (pc := 31) (v := 0) d_FileMaker_putEnd_31 (by decide) ?_
  refine pb_callV (pc := 32) (qb := 1) (ci := 0) (nA := 1) (rest := []) (wr := [(h, .inr (6, [.ref mm, .ref mr]))]) d_FileMaker_putEnd_32 (c_Row_putTwo hl G mm mb 14006 f_9 s_8 0 (by omega) (by omega) (by omega)) rfl rfl [1, 2] [0] (by decide) rfl rfl rfl (by decide) (by decide) k_551 rfl k_119 k_556 k_549 k_550 (by decide +kernel) (by decide) rfl rfl (Nat.le_of_ble_eq_true rfl) (by decide) (fun v9 u12 h11 => ?_)
  obtain ⟨s_13, f_14⟩ := u12
  obtain ⟨eh11, h11⟩ := h11
  have eh11 : v9 = none := eh11
  subst eh11
  have h15 : s_13.toInt = s_8.toInt + 2 := h11
  refine pb_eq (pc' := 35) (lo' := [(3, .int 0), (0, .ref h), (1, .int 0), (2, .int 0)]) (rest' := []) (ws' := [(h, .inr (6, [.ref mm, .ref mr])), (mm, .inr (0, [.ref mb, .int s_13])), (mb, .inl (G.2.1, 14006, .inl f_14))]) ?_
  refine pb_aload_n (pc := 35) d_FileMaker_putEnd_35 1 rfl rfl ?_
  refine pb_get (pc := 36) d_FileMaker_putEnd_36 0 0 rfl rfl (by decide) in_FileMaker k_292 rfl ?_
  refine pb_iload_n (pc := 39) d_FileMaker_putEnd_39 2 rfl rfl ?_
  refine pb_callV (pc := 40) (qb := 1) (ci := 0) (nA := 1) (rest := []) (wr := [(h, .inr (6, [.ref mm, .ref mr]))]) d_FileMaker_putEnd_40 (c_Row_putTwo hl G mm mb 14006 f_14 s_13 0 (by omega) (by omega) (by omega)) rfl rfl [1, 2] [0] (by decide) rfl rfl rfl (by decide) (by decide) k_551 rfl k_119 k_556 k_549 k_550 (by decide +kernel) (by decide) rfl rfl (Nat.le_of_ble_eq_true rfl) (by decide) (fun v9 u17 h16 => ?_)
  obtain ⟨s_18, f_19⟩ := u17
  obtain ⟨eh16, h16⟩ := h16
  have eh16 : v9 = none := eh16
  subst eh16
  have h20 : s_18.toInt = s_13.toInt + 2 := h16
  refine pb_eq (pc' := 43) (lo' := [(3, .int 0), (0, .ref h), (1, .int 0), (2, .int 0)]) (rest' := []) (ws' := [(h, .inr (6, [.ref mm, .ref mr])), (mm, .inr (0, [.ref mb, .int s_18])), (mb, .inl (G.2.1, 14006, .inl f_19))]) ?_
  refine pb_aload_n (pc := 43) d_FileMaker_putEnd_43 1 rfl rfl ?_
  refine pb_get (pc := 44) d_FileMaker_putEnd_44 0 0 rfl rfl (by decide) in_FileMaker k_292 rfl ?_
  refine pb_iload_n (pc := 47) d_FileMaker_putEnd_47 2 rfl rfl ?_
  refine pb_callV (pc := 48) (qb := 1) (ci := 0) (nA := 1) (rest := []) (wr := [(h, .inr (6, [.ref mm, .ref mr]))]) d_FileMaker_putEnd_48 (c_Row_putTwo hl G mm mb 14006 f_19 s_18 0 (by omega) (by omega) (by omega)) rfl rfl [1, 2] [0] (by decide) rfl rfl rfl (by decide) (by decide) k_551 rfl k_119 k_556 k_549 k_550 (by decide +kernel) (by decide) rfl rfl (Nat.le_of_ble_eq_true rfl) (by decide) (fun v9 u22 h21 => ?_)
  obtain ⟨s_23, f_24⟩ := u22
  obtain ⟨eh21, h21⟩ := h21
  have eh21 : v9 = none := eh21
  subst eh21
  have h25 : s_23.toInt = s_18.toInt + 2 := h21
  refine pb_eq (pc' := 51) (lo' := [(3, .int 0), (0, .ref h), (1, .int 0), (2, .int 0)]) (rest' := []) (ws' := [(h, .inr (6, [.ref mm, .ref mr])), (mm, .inr (0, [.ref mb, .int s_23])), (mb, .inl (G.2.1, 14006, .inl f_24))]) ?_
  refine pb_aload_n (pc := 51) d_FileMaker_putEnd_51 1 rfl rfl ?_
  refine pb_get (pc := 52) d_FileMaker_putEnd_52 0 0 rfl rfl (by decide) in_FileMaker k_292 rfl ?_
  refine pb_iload_n (pc := 55) d_FileMaker_putEnd_55 0 rfl rfl ?_
  refine pb_callV (pc := 56) (qb := 1) (ci := 0) (nA := 1) (rest := []) (wr := [(h, .inr (6, [.ref mm, .ref mr]))]) d_FileMaker_putEnd_56 (c_Row_putFour hl G mm mb 14006 f_24 s_23 0 (by omega) (by omega) (by omega)) rfl rfl [1, 2] [0] (by decide) rfl rfl rfl (by decide) (by decide) k_547 rfl k_119 k_544 k_545 k_546 (by decide +kernel) (by decide) rfl rfl (Nat.le_of_ble_eq_true rfl) (by decide) (fun v9 u27 h26 => ?_)
  obtain ⟨s_28, f_29⟩ := u27
  obtain ⟨eh26, h26⟩ := h26
  have eh26 : v9 = none := eh26
  subst eh26
  have h30 : s_28.toInt = s_23.toInt + 4 := h26
  refine pb_eq (pc' := 59) (lo' := [(3, .int 0), (0, .ref h), (1, .int 0), (2, .int 0)]) (rest' := []) (ws' := [(h, .inr (6, [.ref mm, .ref mr])), (mm, .inr (0, [.ref mb, .int s_28])), (mb, .inl (G.2.1, 14006, .inl f_29))]) ?_
  refine pb_aload_n (pc := 59) d_FileMaker_putEnd_59 1 rfl rfl ?_
  refine pb_get (pc := 60) d_FileMaker_putEnd_60 0 0 rfl rfl (by decide) in_FileMaker k_292 rfl ?_
  refine pb_iload_n (pc := 63) d_FileMaker_putEnd_63 3 rfl rfl ?_
  refine pb_callV (pc := 64) (qb := 1) (ci := 0) (nA := 1) (rest := []) (wr := [(h, .inr (6, [.ref mm, .ref mr]))]) d_FileMaker_putEnd_64 (c_Row_putFour hl G mm mb 14006 f_29 s_28 0 (by omega) (by omega) (by omega)) rfl rfl [1, 2] [0] (by decide) rfl rfl rfl (by decide) (by decide) k_547 rfl k_119 k_544 k_545 k_546 (by decide +kernel) (by decide) rfl rfl (Nat.le_of_ble_eq_true rfl) (by decide) (fun v9 u32 h31 => ?_)
  obtain ⟨s_33, f_34⟩ := u32
  obtain ⟨eh31, h31⟩ := h31
  have eh31 : v9 = none := eh31
  subst eh31
  have h35 : s_33.toInt = s_28.toInt + 4 := h31
  refine pb_eq (pc' := 67) (lo' := [(3, .int 0), (0, .ref h), (1, .int 0), (2, .int 0)]) (rest' := []) (ws' := [(h, .inr (6, [.ref mm, .ref mr])), (mm, .inr (0, [.ref mb, .int s_33])), (mb, .inl (G.2.1, 14006, .inl f_34))]) ?_
  refine pb_aload_n (pc := 67) d_FileMaker_putEnd_67 1 rfl rfl ?_
  refine pb_get (pc := 68) d_FileMaker_putEnd_68 0 0 rfl rfl (by decide) in_FileMaker k_292 rfl ?_
  refine pb_iconst (pc := 71) (v := 0) d_FileMaker_putEnd_71 (by decide) ?_
  refine pb_callV (pc := 72) (qb := 1) (ci := 0) (nA := 1) (rest := []) (wr := [(h, .inr (6, [.ref mm, .ref mr]))]) d_FileMaker_putEnd_72 (c_Row_putTwo hl G mm mb 14006 f_34 s_33 0 (by omega) (by omega) (by omega)) rfl rfl [1, 2] [0] (by decide) rfl rfl rfl (by decide) (by decide) k_551 rfl k_119 k_556 k_549 k_550 (by decide +kernel) (by decide) rfl rfl (Nat.le_of_ble_eq_true rfl) (by decide) (fun v9 u37 h36 => ?_)
  obtain ⟨s_38, f_39⟩ := u37
  obtain ⟨eh36, h36⟩ := h36
  have eh36 : v9 = none := eh36
  subst eh36
  have h40 : s_38.toInt = s_33.toInt + 2 := h36
  refine pb_eq (pc' := 75) (lo' := [(3, .int 0), (0, .ref h), (1, .int 0), (2, .int 0)]) (rest' := []) (ws' := [(h, .inr (6, [.ref mm, .ref mr])), (mm, .inr (0, [.ref mb, .int s_38])), (mb, .inl (G.2.1, 14006, .inl f_39))]) ?_
  exact pb_vret (pc := 75) hQ d_FileMaker_putEnd_75 rfl (s_38, f_39) ⟨rfl, (by omega)⟩ [0, 1, 2] (by decide) rfl rfl (by decide) (by decide)

theorem d_FileMaker_make_0 : decode prog_4_method_2_code 0 = .ok (.aload_n 0, 1) := by decide +kernel
theorem d_FileMaker_make_1 : decode prog_4_method_2_code 1 = .ok (.getfield 14, 3) := by decide +kernel
theorem d_FileMaker_make_4 : decode prog_4_method_2_code 4 = .ok (.iconst 0, 1) := by decide +kernel
theorem d_FileMaker_make_5 : decode prog_4_method_2_code 5 = .ok (.putfield 24, 3) := by decide +kernel
theorem d_FileMaker_make_8 : decode prog_4_method_2_code 8 = .ok (.iconst 0, 1) := by decide +kernel
theorem d_FileMaker_make_9 : decode prog_4_method_2_code 9 = .ok (.istore_n 3, 1) := by decide +kernel
theorem d_FileMaker_make_10 : decode prog_4_method_2_code 10 = .ok (.iload_n 3, 1) := by decide +kernel
theorem d_FileMaker_make_11 : decode prog_4_method_2_code 11 = .ok (.aload_n 1, 1) := by decide +kernel
theorem d_FileMaker_make_12 : decode prog_4_method_2_code 12 = .ok (.getfield 28, 3) := by decide +kernel
theorem k_404 : (Jvm.Cond.fieldLinkNest "PackageBook$FileMaker" (28 : Nat) "PackageBook$Shelf" "count" "I" "PackageBook") ∈ uN := uN_of 404 (by decide +kernel) (by decide +kernel)
theorem d_FileMaker_make_15 : decode prog_4_method_2_code 15 = .ok (.if_icmp .ge 29, 3) := by decide +kernel
theorem d_FileMaker_make_44 : decode prog_4_method_2_code 44 = .ok (.aload_n 0, 1) := by decide +kernel
theorem d_FileMaker_make_45 : decode prog_4_method_2_code 45 = .ok (.getfield 14, 3) := by decide +kernel
theorem d_FileMaker_make_48 : decode prog_4_method_2_code 48 = .ok (.getfield 24, 3) := by decide +kernel
theorem d_FileMaker_make_51 : decode prog_4_method_2_code 51 = .ok (.istore_n 3, 1) := by decide +kernel
theorem d_FileMaker_make_52 : decode prog_4_method_2_code 52 = .ok (.iconst 0, 1) := by decide +kernel
theorem d_FileMaker_make_53 : decode prog_4_method_2_code 53 = .ok (.istore 4, 2) := by decide +kernel
theorem d_FileMaker_make_55 : decode prog_4_method_2_code 55 = .ok (.iload 4, 2) := by decide +kernel
theorem d_FileMaker_make_57 : decode prog_4_method_2_code 57 = .ok (.aload_n 1, 1) := by decide +kernel
theorem d_FileMaker_make_58 : decode prog_4_method_2_code 58 = .ok (.getfield 28, 3) := by decide +kernel
theorem d_FileMaker_make_61 : decode prog_4_method_2_code 61 = .ok (.if_icmp .ge 16, 3) := by decide +kernel
theorem d_FileMaker_make_77 : decode prog_4_method_2_code 77 = .ok (.aload_n 0, 1) := by decide +kernel
theorem d_FileMaker_make_78 : decode prog_4_method_2_code 78 = .ok (.aload_n 1, 1) := by decide +kernel
theorem d_FileMaker_make_79 : decode prog_4_method_2_code 79 = .ok (.getfield 28, 3) := by decide +kernel
theorem d_FileMaker_make_82 : decode prog_4_method_2_code 82 = .ok (.iload_n 3, 1) := by decide +kernel
theorem d_FileMaker_make_83 : decode prog_4_method_2_code 83 = .ok (.invokevirtual 41, 3) := by decide +kernel
theorem k_571 : (Jvm.Cond.methodLink "PackageBook$FileMaker" (41 : Nat) ({ cls := "PackageBook$FileMaker", name := "putEnd", desc := "(II)V" } : Jvm.MethodName)) ∈ uW := uW_of 571 (by decide +kernel) (by decide +kernel)
theorem k_574 : (Jvm.Cond.code ({ cls := "PackageBook$FileMaker", name := "putEnd", desc := "(II)V" } : Jvm.MethodName) prog_4_method_5_code (4 : Nat) (Option.none : Option Jvm.ClassFile.FieldType)) ∈ uW := uW_of 574 (by decide +kernel) (by decide +kernel)
theorem k_573 : (Jvm.Cond.instanceMethod ({ cls := "PackageBook$FileMaker", name := "putEnd", desc := "(II)V" } : Jvm.MethodName)) ∈ uW := uW_of 573 (by decide +kernel) (by decide +kernel)
theorem k_11 : Cond.selects "PackageBook$FileMaker" ⟨"PackageBook$FileMaker", "putEnd", "(II)V"⟩ ⟨"PackageBook$FileMaker", "putEnd", "(II)V"⟩ ∈ uW := uW_of 11 (by decide +kernel) (by decide +kernel)
theorem d_FileMaker_make_86 : decode prog_4_method_2_code 86 = .ok (.return_, 1) := by decide +kernel
abbrev y_FileMaker_make : MethodName := ⟨"PackageBook$FileMaker", "make", "(LPackageBook$Shelf;LPackageBook$Presser;)V"⟩
abbrev i_FileMaker_make : pb_I := (y_FileMaker_make, prog_4_method_2_code, 5, (Option.none : Option Jvm.ClassFile.FieldType), [], { frames := 4, cells := 0, slots := 0, locals := 86 })
set_option maxRecDepth 100000 in
set_option maxHeartbeats 4000000 in
theorem c_Maker_make {l : Launch} (hl : l.stackTraces = false) (G : pb_G) (h : Nat) (mm : Nat) (mr : Nat) (mb : Nat) (f : Nat → Int32) (sp : Nat) (spn : Nat) (spz : Nat) (spb : Nat) (spg : Nat) (p : Nat) : Cn l G i_FileMaker_make [.ref h, .ref sp, .ref p] [(h, .inr (6, [.ref mm, .ref mr])), (mm, .inr (0, [.ref mb, .int 0])), (mb, .inl (G.2.1, 14006, .inl f)), (sp, .inr (3, [.ref spn, .ref spz, .ref spb, .ref spg, .int 0]))] (S := Int32 × (Nat → Int32)) (fun v u => v = none ∧ (u.1.toInt = 22)) (fun u => [(h, .inr (6, [.ref mm, .ref mr])), (mm, .inr (0, [.ref mb, .int u.1])), (mb, .inl (G.2.1, 14006, .inl u.2))]) := by
  refine Cn.of hl (by decide +kernel) rfl (Nat.le_of_ble_eq_true rfl) (fun M hQ => ?_)
  refine pb_eq (pc' := 0) (lo' := [(0, .ref h), (1, .ref sp), (2, .ref p)]) (rest' := []) (ws' := [(h, .inr (6, [.ref mm, .ref mr])), (mm, .inr (0, [.ref mb, .int 0])), (mb, .inl (G.2.1, 14006, .inl f)), (sp, .inr (3, [.ref spn, .ref spz, .ref spb, .ref spg, .int 0]))]) ?_
  have z0 : (0 : Int32).toInt = 0 := by decide
  have z1 : (1 : Int32).toInt = 1 := by decide
  have z2 : (0 : Int32).toNatClampNeg = 0 := by decide
  refine pb_aload_n (pc := 0) d_FileMaker_make_0 0 rfl rfl ?_
  refine pb_get (pc := 1) d_FileMaker_make_1 0 0 rfl rfl (by decide) in_FileMaker k_292 rfl ?_
  refine pb_iconst (pc := 4) (v := 0) d_FileMaker_make_4 (by decide) ?_
  refine pb_putN (pc := 5) (ty := .int) (ws' := [(h, .inr (6, [.ref mm, .ref mr])), (mm, .inr (0, [.ref mb, .int 0])), (mb, .inl (G.2.1, 14006, .inl f)), (sp, .inr (3, [.ref spn, .ref spz, .ref spb, .ref spg, .int 0]))]) d_FileMaker_make_5 1 1 t_Row t_Row_ok n_Row rfl rfl (by decide) in_Row k_163 rfl (by decide +kernel) rfl rfl (Nat.le_of_ble_eq_true rfl) rfl ?_
  refine pb_iconst (pc := 8) (v := 0) d_FileMaker_make_8 (by decide) ?_
  refine pb_istore_n (pc := 9) (lo' := [(3, .int 0), (0, .ref h), (1, .ref sp), (2, .ref p)]) d_FileMaker_make_9 rfl (by decide) rfl ?_
  refine pb_iload_n (pc := 10) d_FileMaker_make_10 0 rfl rfl ?_
  refine pb_aload_n (pc := 11) d_FileMaker_make_11 2 rfl rfl ?_
  refine pb_getN (pc := 12) d_FileMaker_make_12 3 4 rfl rfl (by decide) in_Shelf k_404 rfl ?_
  refine pb_icmp_ge (pc := 15) (tgt := 44) d_FileMaker_make_15 (by decide) (fun _ => ?_) (fun h9 => absurd h9 (by decide))
  refine pb_aload_n (pc := 44) d_FileMaker_make_44 1 rfl rfl ?_
  refine pb_get (pc := 45) d_FileMaker_make_45 0 0 rfl rfl (by decide) in_FileMaker k_292 rfl ?_
  refine pb_getN (pc := 48) d_FileMaker_make_48 1 1 rfl rfl (by decide) in_Row k_163 rfl ?_
  refine pb_istore_n (pc := 51) (lo' := [(3, .int 0), (0, .ref h), (1, .ref sp), (2, .ref p)]) d_FileMaker_make_51 rfl (by decide) rfl ?_
  refine pb_iconst (pc := 52) (v := 0) d_FileMaker_make_52 (by decide) ?_
  refine pb_istore (pc := 53) (lo' := [(4, .int 0), (3, .int 0), (0, .ref h), (1, .ref sp), (2, .ref p)]) d_FileMaker_make_53 (by decide) rfl ?_
  refine pb_iload (pc := 55) d_FileMaker_make_55 0 rfl ?_
  refine pb_aload_n (pc := 57) d_FileMaker_make_57 3 rfl rfl ?_
  refine pb_getN (pc := 58) d_FileMaker_make_58 3 4 rfl rfl (by decide) in_Shelf k_404 rfl ?_
  refine pb_icmp_ge (pc := 61) (tgt := 77) d_FileMaker_make_61 (by decide) (fun _ => ?_) (fun h9 => absurd h9 (by decide))
  refine pb_aload_n (pc := 77) d_FileMaker_make_77 2 rfl rfl ?_
  refine pb_aload_n (pc := 78) d_FileMaker_make_78 3 rfl rfl ?_
  refine pb_getN (pc := 79) d_FileMaker_make_79 3 4 rfl rfl (by decide) in_Shelf k_404 rfl ?_
  refine pb_iload_n (pc := 82) d_FileMaker_make_82 1 rfl rfl ?_
  refine pb_callV (pc := 83) (qb := 0) (ci := 6) (nA := 2) (rest := []) (wr := [(sp, .inr (3, [.ref spn, .ref spz, .ref spb, .ref spg, .int 0]))]) d_FileMaker_make_83 (c_Maker_putEnd hl G h mm mr mb f) rfl rfl [0, 1, 2] [3] (by decide) rfl rfl rfl (by decide) (by decide) k_574 rfl k_123 k_571 k_573 k_11 (by decide +kernel) (by decide) rfl rfl (Nat.le_of_ble_eq_true rfl) (by decide) (fun v9 u4 h3 => ?_)
  obtain ⟨s_5, f_6⟩ := u4
  obtain ⟨eh3, h3⟩ := h3
  have eh3 : v9 = none := eh3
  subst eh3
  have h7 : s_5.toInt = 22 := h3
  refine pb_eq (pc' := 86) (lo' := [(4, .int 0), (3, .int 0), (0, .ref h), (1, .ref sp), (2, .ref p)]) (rest' := []) (ws' := [(sp, .inr (3, [.ref spn, .ref spz, .ref spb, .ref spg, .int 0])), (h, .inr (6, [.ref mm, .ref mr])), (mm, .inr (0, [.ref mb, .int s_5])), (mb, .inl (G.2.1, 14006, .inl f_6))]) ?_
  exact pb_vret (pc := 86) hQ d_FileMaker_make_86 rfl (s_5, f_6) ⟨rfl, (by omega)⟩ [1, 2, 3] (by decide) rfl rfl (by decide) (by decide)
