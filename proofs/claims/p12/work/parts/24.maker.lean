theorem d_FileMaker_putEnd_0 : decode prog_4_method_5_code 0 = .ok (.aload_n 0, 1) := by decide +kernel
theorem d_FileMaker_putEnd_1 : decode prog_4_method_5_code 1 = .ok (.getfield 14, 3) := by decide +kernel
theorem d_FileMaker_putEnd_4 : decode prog_4_method_5_code 4 = .ok (.getfield 24, 3) := by decide +kernel
theorem k_163 : (Jvm.Cond.fieldLinkNest "PackageBook$FileMaker" (24 : Nat) "PackageBook$Row" "size" "I" "PackageBook") ∈ uN := uN_of 163 (by decide +kernel) (by decide +kernel)
theorem d_FileMaker_putEnd_7 : decode prog_4_method_5_code 7 = .ok (.iload_n 2, 1) := by decide +kernel
theorem d_FileMaker_putEnd_8 : decode prog_4_method_5_code 8 = .ok (.isub, 1) := by decide +kernel
theorem d_FileMaker_putEnd_9 : decode prog_4_method_5_code 9 = .ok (.istore_n 3, 1) := by decide +kernel
theorem d_FileMaker_putEnd_10 : decode prog_4_method_5_code 10 = .ok (.aload_n 0, 1) := by decide +kernel
theorem d_FileMaker_putEnd_11 : decode prog_4_method_5_code 11 = .ok (.getfield 14, 3) := by decide +kernel
theorem d_FileMaker_putEnd_14 : decode prog_4_method_5_code 14 = .ok (.ldc 87, 2) := by decide +kernel
theorem k_575 : (Jvm.Cond.constant "PackageBook$FileMaker" (87 : Nat) (101010256 : Int32)) ∈ uW := uW_of 575 (by decide +kernel) (by decide +kernel)
theorem d_FileMaker_putEnd_16 : decode prog_4_method_5_code 16 = .ok (.invokevirtual 66, 3) := by decide +kernel
theorem k_544 : (Jvm.Cond.methodLink "PackageBook$FileMaker" (66 : Nat) ({ cls := "PackageBook$Row", name := "putFour", desc := "(I)V" } : Jvm.MethodName)) ∈ uW := uW_of 544 (by decide +kernel) (by decide +kernel)
theorem k_547 : (Jvm.Cond.code ({ cls := "PackageBook$Row", name := "putFour", desc := "(I)V" } : Jvm.MethodName) prog_9_method_4_code (2 : Nat) (Option.none : Option Jvm.ClassFile.FieldType)) ∈ uW := uW_of 547 (by decide +kernel) (by decide +kernel)
theorem k_545 : (Jvm.Cond.instanceMethod ({ cls := "PackageBook$Row", name := "putFour", desc := "(I)V" } : Jvm.MethodName)) ∈ uW := uW_of 545 (by decide +kernel) (by decide +kernel)
theorem k_546 : (Jvm.Cond.selects "PackageBook$Row" ({ cls := "PackageBook$Row", name := "putFour", desc := "(I)V" } : Jvm.MethodName) ({ cls := "PackageBook$Row", name := "putFour", desc := "(I)V" } : Jvm.MethodName)) ∈ uW := uW_of 546 (by decide +kernel) (by decide +kernel)
theorem hy_Row_putFour : (y_Row_putFour).cls ≠ "java/lang/invoke/MethodHandle" ∧ (y_Row_putFour).cls ≠ "java/lang/invoke/VarHandle" ∧ (parseMethodDescriptor (y_Row_putFour).desc).map (fun d => d.parameters.length) = some 1 := by decide +kernel
theorem d_FileMaker_putEnd_19 : decode prog_4_method_5_code 19 = .ok (.aload_n 0, 1) := by decide +kernel
theorem d_FileMaker_putEnd_20 : decode prog_4_method_5_code 20 = .ok (.getfield 14, 3) := by decide +kernel
theorem d_FileMaker_putEnd_23 : decode prog_4_method_5_code 23 = .ok (.iconst 0, 1) := by decide +kernel
theorem d_FileMaker_putEnd_24 : decode prog_4_method_5_code 24 = .ok (.invokevirtual 69, 3) := by decide +kernel
theorem k_556 : (Jvm.Cond.methodLink "PackageBook$FileMaker" (69 : Nat) ({ cls := "PackageBook$Row", name := "putTwo", desc := "(I)V" } : Jvm.MethodName)) ∈ uW := uW_of 556 (by decide +kernel) (by decide +kernel)
theorem d_FileMaker_putEnd_27 : decode prog_4_method_5_code 27 = .ok (.aload_n 0, 1) := by decide +kernel
theorem d_FileMaker_putEnd_28 : decode prog_4_method_5_code 28 = .ok (.getfield 14, 3) := by decide +kernel
theorem d_FileMaker_putEnd_31 : decode prog_4_method_5_code 31 = .ok (.iconst 0, 1) := by decide +kernel
theorem d_FileMaker_putEnd_32 : decode prog_4_method_5_code 32 = .ok (.invokevirtual 69, 3) := by decide +kernel
theorem d_FileMaker_putEnd_35 : decode prog_4_method_5_code 35 = .ok (.aload_n 0, 1) := by decide +kernel
theorem d_FileMaker_putEnd_36 : decode prog_4_method_5_code 36 = .ok (.getfield 14, 3) := by decide +kernel
theorem d_FileMaker_putEnd_39 : decode prog_4_method_5_code 39 = .ok (.iload_n 1, 1) := by decide +kernel
theorem d_FileMaker_putEnd_40 : decode prog_4_method_5_code 40 = .ok (.invokevirtual 69, 3) := by decide +kernel
theorem d_FileMaker_putEnd_43 : decode prog_4_method_5_code 43 = .ok (.aload_n 0, 1) := by decide +kernel
theorem d_FileMaker_putEnd_44 : decode prog_4_method_5_code 44 = .ok (.getfield 14, 3) := by decide +kernel
theorem d_FileMaker_putEnd_47 : decode prog_4_method_5_code 47 = .ok (.iload_n 1, 1) := by decide +kernel
theorem d_FileMaker_putEnd_48 : decode prog_4_method_5_code 48 = .ok (.invokevirtual 69, 3) := by decide +kernel
theorem d_FileMaker_putEnd_51 : decode prog_4_method_5_code 51 = .ok (.aload_n 0, 1) := by decide +kernel
theorem d_FileMaker_putEnd_52 : decode prog_4_method_5_code 52 = .ok (.getfield 14, 3) := by decide +kernel
theorem d_FileMaker_putEnd_55 : decode prog_4_method_5_code 55 = .ok (.iload_n 3, 1) := by decide +kernel
theorem d_FileMaker_putEnd_56 : decode prog_4_method_5_code 56 = .ok (.invokevirtual 66, 3) := by decide +kernel
theorem d_FileMaker_putEnd_59 : decode prog_4_method_5_code 59 = .ok (.aload_n 0, 1) := by decide +kernel
theorem d_FileMaker_putEnd_60 : decode prog_4_method_5_code 60 = .ok (.getfield 14, 3) := by decide +kernel
theorem d_FileMaker_putEnd_63 : decode prog_4_method_5_code 63 = .ok (.iload_n 2, 1) := by decide +kernel
theorem d_FileMaker_putEnd_64 : decode prog_4_method_5_code 64 = .ok (.invokevirtual 66, 3) := by decide +kernel
theorem d_FileMaker_putEnd_67 : decode prog_4_method_5_code 67 = .ok (.aload_n 0, 1) := by decide +kernel
theorem d_FileMaker_putEnd_68 : decode prog_4_method_5_code 68 = .ok (.getfield 14, 3) := by decide +kernel
theorem d_FileMaker_putEnd_71 : decode prog_4_method_5_code 71 = .ok (.iconst 0, 1) := by decide +kernel
theorem d_FileMaker_putEnd_72 : decode prog_4_method_5_code 72 = .ok (.invokevirtual 69, 3) := by decide +kernel
theorem d_FileMaker_putEnd_75 : decode prog_4_method_5_code 75 = .ok (.return_, 1) := by decide +kernel
abbrev y_FileMaker_putEnd : MethodName := ⟨"PackageBook$FileMaker", "putEnd", "(II)V"⟩
abbrev i_FileMaker_putEnd : pb_I := (y_FileMaker_putEnd, prog_4_method_5_code, 4, (Option.none : Option Jvm.ClassFile.FieldType), [], { frames := 3, cells := 0, slots := 0, locals := 63 })
set_option maxRecDepth 100000 in
set_option maxHeartbeats 4000000 in
theorem g_Mk_putEnd {l : Launch} (hl : l.stackTraces = false) (G : pb_G) (h : Nat) (mm : Nat) (mr : Nat) (mb : Nat) (f : Nat → Int32) (s : Int32) (n : Int32) (d : Int32) (h0 : 0 ≤ s.toInt) (h1 : s.toInt + 22 ≤ 14006) (F_f : sb_Fit f) : Cn l G i_FileMaker_putEnd [.ref h, .int n, .int d] [(h, .inr (6, [.ref mm, .ref mr])), (mm, .inr (0, [.ref mb, .int s])), (mb, .inl (G.2.1, 14006, .inl f))] (S := Int32 × (Nat → Int32)) (fun rv_ u => rv_ = none ∧ (u.1.toInt = s.toInt + 22) ∧ (sb_Fit u.2)) (fun u => [(h, .inr (6, [.ref mm, .ref mr])), (mm, .inr (0, [.ref mb, .int u.1])), (mb, .inl (G.2.1, 14006, .inl u.2))]) := by
  refine Cn.of hl (by decide +kernel) rfl (Nat.le_of_ble_eq_true rfl) (fun M hQ => ?_)
  refine pb_eq (pc' := 0) (lo' := [(0, .ref h), (1, .int n), (2, .int d)]) (rest' := []) (ws' := [(h, .inr (6, [.ref mm, .ref mr])), (mm, .inr (0, [.ref mb, .int s])), (mb, .inl (G.2.1, 14006, .inl f))]) ?_
  have zl0 : (0 : Int32).toInt = 0 := by decide
  have zl1 : (1 : Int32).toInt = 1 := by decide
  refine pb_aload_n (pc := 0) d_FileMaker_putEnd_0 0 rfl rfl ?_
  refine pb_get (pc := 1) d_FileMaker_putEnd_1 0 0 rfl rfl (by decide) in_FileMaker k_292 rfl ?_
  refine pb_getN (pc := 4) d_FileMaker_putEnd_4 1 1 rfl rfl (by decide) in_Row k_163 rfl ?_
  refine pb_iload_n (pc := 7) d_FileMaker_putEnd_7 2 rfl rfl ?_
  refine pb_isub (pc := 8) d_FileMaker_putEnd_8 ?_
  refine pb_topi (fun i1 ei1 => ?_)
  try have ti1 : i1.toInt = s.toInt - d.toInt := ti_sub ei1 rfl rfl (by omega) (by omega)
  refine pb_istore_n (pc := 9) (lo' := [(3, .int i1), (0, .ref h), (1, .int n), (2, .int d)]) d_FileMaker_putEnd_9 rfl (by decide) rfl ?_
  refine pb_aload_n (pc := 10) d_FileMaker_putEnd_10 1 rfl rfl ?_
  refine pb_get (pc := 11) d_FileMaker_putEnd_11 0 0 rfl rfl (by decide) in_FileMaker k_292 rfl ?_
  refine pb_ldc (pc := 14) (v := 101010256) d_FileMaker_putEnd_14 k_575 ?_
  refine pb_callV (pc := 16) (I := i_FileMaker_putEnd) (qb := 1) (ci := 0) (nA := 1) (rest := []) (wr := [(h, .inr (6, [.ref mm, .ref mr]))]) d_FileMaker_putEnd_16 (g_Row_putFour hl G mm mb 14006 f s 101010256 (by first | assumption | omega (splitDisjunctions := false) | omega | decide) (by first | assumption | omega (splitDisjunctions := false) | omega | decide) (by first | assumption | omega (splitDisjunctions := false) | omega | decide) F_f) rfl rfl [1, 2] [0] (by decide) rfl rfl rfl (by decide) (by decide) k_547 rfl k_119 k_544 k_545 k_546 ⟨rfl, hy_Row_putFour⟩ (by decide) rfl rfl (Nat.le_of_ble_eq_true rfl) (by decide) (fun v9 u3 ch2 => ?_)
  obtain ⟨s_4, f_5⟩ := u3
  obtain ⟨ech2, ch2⟩ := ch2
  have ech2 : v9 = none := ech2
  subst ech2
  obtain ⟨fh6, fh7⟩ : (s_4.toInt = s.toInt + 4) ∧ (sb_Fit f_5) := ch2
  refine pb_eq (pc' := 19) (lo' := [(3, .int i1), (0, .ref h), (1, .int n), (2, .int d)]) (rest' := []) (ws' := [(h, .inr (6, [.ref mm, .ref mr])), (mm, .inr (0, [.ref mb, .int s_4])), (mb, .inl (G.2.1, 14006, .inl f_5))]) ?_
  refine pb_aload_n (pc := 19) d_FileMaker_putEnd_19 1 rfl rfl ?_
  refine pb_get (pc := 20) d_FileMaker_putEnd_20 0 0 rfl rfl (by decide) in_FileMaker k_292 rfl ?_
  refine pb_iconst (pc := 23) (v := 0) d_FileMaker_putEnd_23 (by decide) ?_
  refine pb_callV (pc := 24) (I := i_FileMaker_putEnd) (qb := 1) (ci := 0) (nA := 1) (rest := []) (wr := [(h, .inr (6, [.ref mm, .ref mr]))]) d_FileMaker_putEnd_24 (g_Row_putTwo hl G mm mb 14006 f_5 s_4 0 (by first | assumption | omega (splitDisjunctions := false) | omega | decide) (by first | assumption | omega (splitDisjunctions := false) | omega | decide) (by first | assumption | omega (splitDisjunctions := false) | omega | decide) fh7) rfl rfl [1, 2] [0] (by decide) rfl rfl rfl (by decide) (by decide) k_551 rfl k_119 k_556 k_549 k_550 ⟨rfl, hy_Row_putTwo⟩ (by decide) rfl rfl (Nat.le_of_ble_eq_true rfl) (by decide) (fun v9 u9 ch8 => ?_)
  obtain ⟨s_10, f_11⟩ := u9
  obtain ⟨ech8, ch8⟩ := ch8
  have ech8 : v9 = none := ech8
  subst ech8
  obtain ⟨fh12, fh13⟩ : (s_10.toInt = s_4.toInt + 2) ∧ (sb_Fit f_11) := ch8
  refine pb_eq (pc' := 27) (lo' := [(3, .int i1), (0, .ref h), (1, .int n), (2, .int d)]) (rest' := []) (ws' := [(h, .inr (6, [.ref mm, .ref mr])), (mm, .inr (0, [.ref mb, .int s_10])), (mb, .inl (G.2.1, 14006, .inl f_11))]) ?_
  refine pb_aload_n (pc := 27) d_FileMaker_putEnd_27 1 rfl rfl ?_
  refine pb_get (pc := 28) d_FileMaker_putEnd_28 0 0 rfl rfl (by decide) in_FileMaker k_292 rfl ?_
  refine pb_iconst (pc := 31) (v := 0) d_FileMaker_putEnd_31 (by decide) ?_
  refine pb_callV (pc := 32) (I := i_FileMaker_putEnd) (qb := 1) (ci := 0) (nA := 1) (rest := []) (wr := [(h, .inr (6, [.ref mm, .ref mr]))]) d_FileMaker_putEnd_32 (g_Row_putTwo hl G mm mb 14006 f_11 s_10 0 (by first | assumption | omega (splitDisjunctions := false) | omega | decide) (by first | assumption | omega (splitDisjunctions := false) | omega | decide) (by first | assumption | omega (splitDisjunctions := false) | omega | decide) fh13) rfl rfl [1, 2] [0] (by decide) rfl rfl rfl (by decide) (by decide) k_551 rfl k_119 k_556 k_549 k_550 ⟨rfl, hy_Row_putTwo⟩ (by decide) rfl rfl (Nat.le_of_ble_eq_true rfl) (by decide) (fun v9 u15 ch14 => ?_)
  obtain ⟨s_16, f_17⟩ := u15
  obtain ⟨ech14, ch14⟩ := ch14
  have ech14 : v9 = none := ech14
  subst ech14
  obtain ⟨fh18, fh19⟩ : (s_16.toInt = s_10.toInt + 2) ∧ (sb_Fit f_17) := ch14
  refine pb_eq (pc' := 35) (lo' := [(3, .int i1), (0, .ref h), (1, .int n), (2, .int d)]) (rest' := []) (ws' := [(h, .inr (6, [.ref mm, .ref mr])), (mm, .inr (0, [.ref mb, .int s_16])), (mb, .inl (G.2.1, 14006, .inl f_17))]) ?_
  refine pb_aload_n (pc := 35) d_FileMaker_putEnd_35 1 rfl rfl ?_
  refine pb_get (pc := 36) d_FileMaker_putEnd_36 0 0 rfl rfl (by decide) in_FileMaker k_292 rfl ?_
  refine pb_iload_n (pc := 39) d_FileMaker_putEnd_39 2 rfl rfl ?_
  refine pb_callV (pc := 40) (I := i_FileMaker_putEnd) (qb := 1) (ci := 0) (nA := 1) (rest := []) (wr := [(h, .inr (6, [.ref mm, .ref mr]))]) d_FileMaker_putEnd_40 (g_Row_putTwo hl G mm mb 14006 f_17 s_16 n (by first | assumption | omega (splitDisjunctions := false) | omega | decide) (by first | assumption | omega (splitDisjunctions := false) | omega | decide) (by first | assumption | omega (splitDisjunctions := false) | omega | decide) fh19) rfl rfl [1, 2] [0] (by decide) rfl rfl rfl (by decide) (by decide) k_551 rfl k_119 k_556 k_549 k_550 ⟨rfl, hy_Row_putTwo⟩ (by decide) rfl rfl (Nat.le_of_ble_eq_true rfl) (by decide) (fun v9 u21 ch20 => ?_)
  obtain ⟨s_22, f_23⟩ := u21
  obtain ⟨ech20, ch20⟩ := ch20
  have ech20 : v9 = none := ech20
  subst ech20
  obtain ⟨fh24, fh25⟩ : (s_22.toInt = s_16.toInt + 2) ∧ (sb_Fit f_23) := ch20
  refine pb_eq (pc' := 43) (lo' := [(3, .int i1), (0, .ref h), (1, .int n), (2, .int d)]) (rest' := []) (ws' := [(h, .inr (6, [.ref mm, .ref mr])), (mm, .inr (0, [.ref mb, .int s_22])), (mb, .inl (G.2.1, 14006, .inl f_23))]) ?_
  refine pb_aload_n (pc := 43) d_FileMaker_putEnd_43 1 rfl rfl ?_
  refine pb_get (pc := 44) d_FileMaker_putEnd_44 0 0 rfl rfl (by decide) in_FileMaker k_292 rfl ?_
  refine pb_iload_n (pc := 47) d_FileMaker_putEnd_47 2 rfl rfl ?_
  refine pb_callV (pc := 48) (I := i_FileMaker_putEnd) (qb := 1) (ci := 0) (nA := 1) (rest := []) (wr := [(h, .inr (6, [.ref mm, .ref mr]))]) d_FileMaker_putEnd_48 (g_Row_putTwo hl G mm mb 14006 f_23 s_22 n (by first | assumption | omega (splitDisjunctions := false) | omega | decide) (by first | assumption | omega (splitDisjunctions := false) | omega | decide) (by first | assumption | omega (splitDisjunctions := false) | omega | decide) fh25) rfl rfl [1, 2] [0] (by decide) rfl rfl rfl (by decide) (by decide) k_551 rfl k_119 k_556 k_549 k_550 ⟨rfl, hy_Row_putTwo⟩ (by decide) rfl rfl (Nat.le_of_ble_eq_true rfl) (by decide) (fun v9 u27 ch26 => ?_)
  obtain ⟨s_28, f_29⟩ := u27
  obtain ⟨ech26, ch26⟩ := ch26
  have ech26 : v9 = none := ech26
  subst ech26
  obtain ⟨fh30, fh31⟩ : (s_28.toInt = s_22.toInt + 2) ∧ (sb_Fit f_29) := ch26
  refine pb_eq (pc' := 51) (lo' := [(3, .int i1), (0, .ref h), (1, .int n), (2, .int d)]) (rest' := []) (ws' := [(h, .inr (6, [.ref mm, .ref mr])), (mm, .inr (0, [.ref mb, .int s_28])), (mb, .inl (G.2.1, 14006, .inl f_29))]) ?_
  refine pb_aload_n (pc := 51) d_FileMaker_putEnd_51 1 rfl rfl ?_
  refine pb_get (pc := 52) d_FileMaker_putEnd_52 0 0 rfl rfl (by decide) in_FileMaker k_292 rfl ?_
  refine pb_iload_n (pc := 55) d_FileMaker_putEnd_55 0 rfl rfl ?_
  refine pb_callV (pc := 56) (I := i_FileMaker_putEnd) (qb := 1) (ci := 0) (nA := 1) (rest := []) (wr := [(h, .inr (6, [.ref mm, .ref mr]))]) d_FileMaker_putEnd_56 (g_Row_putFour hl G mm mb 14006 f_29 s_28 i1 (by first | assumption | omega (splitDisjunctions := false) | omega | decide) (by first | assumption | omega (splitDisjunctions := false) | omega | decide) (by first | assumption | omega (splitDisjunctions := false) | omega | decide) fh31) rfl rfl [1, 2] [0] (by decide) rfl rfl rfl (by decide) (by decide) k_547 rfl k_119 k_544 k_545 k_546 ⟨rfl, hy_Row_putFour⟩ (by decide) rfl rfl (Nat.le_of_ble_eq_true rfl) (by decide) (fun v9 u33 ch32 => ?_)
  obtain ⟨s_34, f_35⟩ := u33
  obtain ⟨ech32, ch32⟩ := ch32
  have ech32 : v9 = none := ech32
  subst ech32
  obtain ⟨fh36, fh37⟩ : (s_34.toInt = s_28.toInt + 4) ∧ (sb_Fit f_35) := ch32
  refine pb_eq (pc' := 59) (lo' := [(3, .int i1), (0, .ref h), (1, .int n), (2, .int d)]) (rest' := []) (ws' := [(h, .inr (6, [.ref mm, .ref mr])), (mm, .inr (0, [.ref mb, .int s_34])), (mb, .inl (G.2.1, 14006, .inl f_35))]) ?_
  refine pb_aload_n (pc := 59) d_FileMaker_putEnd_59 1 rfl rfl ?_
  refine pb_get (pc := 60) d_FileMaker_putEnd_60 0 0 rfl rfl (by decide) in_FileMaker k_292 rfl ?_
  refine pb_iload_n (pc := 63) d_FileMaker_putEnd_63 3 rfl rfl ?_
  refine pb_callV (pc := 64) (I := i_FileMaker_putEnd) (qb := 1) (ci := 0) (nA := 1) (rest := []) (wr := [(h, .inr (6, [.ref mm, .ref mr]))]) d_FileMaker_putEnd_64 (g_Row_putFour hl G mm mb 14006 f_35 s_34 d (by first | assumption | omega (splitDisjunctions := false) | omega | decide) (by first | assumption | omega (splitDisjunctions := false) | omega | decide) (by first | assumption | omega (splitDisjunctions := false) | omega | decide) fh37) rfl rfl [1, 2] [0] (by decide) rfl rfl rfl (by decide) (by decide) k_547 rfl k_119 k_544 k_545 k_546 ⟨rfl, hy_Row_putFour⟩ (by decide) rfl rfl (Nat.le_of_ble_eq_true rfl) (by decide) (fun v9 u39 ch38 => ?_)
  obtain ⟨s_40, f_41⟩ := u39
  obtain ⟨ech38, ch38⟩ := ch38
  have ech38 : v9 = none := ech38
  subst ech38
  obtain ⟨fh42, fh43⟩ : (s_40.toInt = s_34.toInt + 4) ∧ (sb_Fit f_41) := ch38
  refine pb_eq (pc' := 67) (lo' := [(3, .int i1), (0, .ref h), (1, .int n), (2, .int d)]) (rest' := []) (ws' := [(h, .inr (6, [.ref mm, .ref mr])), (mm, .inr (0, [.ref mb, .int s_40])), (mb, .inl (G.2.1, 14006, .inl f_41))]) ?_
  refine pb_aload_n (pc := 67) d_FileMaker_putEnd_67 1 rfl rfl ?_
  refine pb_get (pc := 68) d_FileMaker_putEnd_68 0 0 rfl rfl (by decide) in_FileMaker k_292 rfl ?_
  refine pb_iconst (pc := 71) (v := 0) d_FileMaker_putEnd_71 (by decide) ?_
  refine pb_callV (pc := 72) (I := i_FileMaker_putEnd) (qb := 1) (ci := 0) (nA := 1) (rest := []) (wr := [(h, .inr (6, [.ref mm, .ref mr]))]) d_FileMaker_putEnd_72 (g_Row_putTwo hl G mm mb 14006 f_41 s_40 0 (by first | assumption | omega (splitDisjunctions := false) | omega | decide) (by first | assumption | omega (splitDisjunctions := false) | omega | decide) (by first | assumption | omega (splitDisjunctions := false) | omega | decide) fh43) rfl rfl [1, 2] [0] (by decide) rfl rfl rfl (by decide) (by decide) k_551 rfl k_119 k_556 k_549 k_550 ⟨rfl, hy_Row_putTwo⟩ (by decide) rfl rfl (Nat.le_of_ble_eq_true rfl) (by decide) (fun v9 u45 ch44 => ?_)
  obtain ⟨s_46, f_47⟩ := u45
  obtain ⟨ech44, ch44⟩ := ch44
  have ech44 : v9 = none := ech44
  subst ech44
  obtain ⟨fh48, fh49⟩ : (s_46.toInt = s_40.toInt + 2) ∧ (sb_Fit f_47) := ch44
  refine pb_eq (pc' := 75) (lo' := [(3, .int i1), (0, .ref h), (1, .int n), (2, .int d)]) (rest' := []) (ws' := [(h, .inr (6, [.ref mm, .ref mr])), (mm, .inr (0, [.ref mb, .int s_46])), (mb, .inl (G.2.1, 14006, .inl f_47))]) ?_
  exact pb_vret (pc := 75) hQ d_FileMaker_putEnd_75 rfl (s_46, f_47) ⟨rfl, (by (try dsimp only); first | done | assumption | omega (splitDisjunctions := false) | omega | decide), fh49⟩ [0, 1, 2] (by decide) rfl rfl (by decide) (by decide)

theorem d_FileMaker_putEntry_0 : decode prog_4_method_4_code 0 = .ok (.aload_n 0, 1) := by decide +kernel
theorem d_FileMaker_putEntry_1 : decode prog_4_method_4_code 1 = .ok (.getfield 14, 3) := by decide +kernel
theorem d_FileMaker_putEntry_4 : decode prog_4_method_4_code 4 = .ok (.ldc 86, 2) := by decide +kernel
theorem k_570 : (Jvm.Cond.constant "PackageBook$FileMaker" (86 : Nat) (33639248 : Int32)) ∈ uW := uW_of 570 (by decide +kernel) (by decide +kernel)
theorem d_FileMaker_putEntry_6 : decode prog_4_method_4_code 6 = .ok (.invokevirtual 66, 3) := by decide +kernel
theorem d_FileMaker_putEntry_9 : decode prog_4_method_4_code 9 = .ok (.aload_n 0, 1) := by decide +kernel
theorem d_FileMaker_putEntry_10 : decode prog_4_method_4_code 10 = .ok (.getfield 14, 3) := by decide +kernel
theorem d_FileMaker_putEntry_13 : decode prog_4_method_4_code 13 = .ok (.bipush 20, 2) := by decide +kernel
theorem d_FileMaker_putEntry_15 : decode prog_4_method_4_code 15 = .ok (.invokevirtual 69, 3) := by decide +kernel
theorem d_FileMaker_putEntry_18 : decode prog_4_method_4_code 18 = .ok (.aload_n 0, 1) := by decide +kernel
theorem d_FileMaker_putEntry_19 : decode prog_4_method_4_code 19 = .ok (.getfield 14, 3) := by decide +kernel
theorem d_FileMaker_putEntry_22 : decode prog_4_method_4_code 22 = .ok (.aload_n 0, 1) := by decide +kernel
theorem d_FileMaker_putEntry_23 : decode prog_4_method_4_code 23 = .ok (.getfield 14, 3) := by decide +kernel
theorem d_FileMaker_putEntry_26 : decode prog_4_method_4_code 26 = .ok (.getfield 85, 3) := by decide +kernel
theorem k_158 : (Jvm.Cond.fieldLinkNest "PackageBook$FileMaker" (85 : Nat) "PackageBook$Row" "bytes" "[B" "PackageBook") ∈ uN := uN_of 158 (by decide +kernel) (by decide +kernel)
theorem d_FileMaker_putEntry_29 : decode prog_4_method_4_code 29 = .ok (.aload_n 0, 1) := by decide +kernel
theorem d_FileMaker_putEntry_30 : decode prog_4_method_4_code 30 = .ok (.getfield 20, 3) := by decide +kernel
theorem d_FileMaker_putEntry_33 : decode prog_4_method_4_code 33 = .ok (.iload_n 2, 1) := by decide +kernel
theorem d_FileMaker_putEntry_34 : decode prog_4_method_4_code 34 = .ok (.iaload, 1) := by decide +kernel
theorem d_FileMaker_putEntry_35 : decode prog_4_method_4_code 35 = .ok (.iconst 4, 1) := by decide +kernel
theorem d_FileMaker_putEntry_36 : decode prog_4_method_4_code 36 = .ok (.iadd, 1) := by decide +kernel
theorem d_FileMaker_putEntry_37 : decode prog_4_method_4_code 37 = .ok (.bipush 26, 2) := by decide +kernel
theorem d_FileMaker_putEntry_39 : decode prog_4_method_4_code 39 = .ok (.invokevirtual 82, 3) := by decide +kernel
theorem k_561 : (Jvm.Cond.methodLink "PackageBook$FileMaker" (82 : Nat) ({ cls := "PackageBook$Row", name := "putBytes", desc := "([BII)V" } : Jvm.MethodName)) ∈ uW := uW_of 561 (by decide +kernel) (by decide +kernel)
theorem d_FileMaker_putEntry_42 : decode prog_4_method_4_code 42 = .ok (.aload_n 0, 1) := by decide +kernel
theorem d_FileMaker_putEntry_43 : decode prog_4_method_4_code 43 = .ok (.getfield 14, 3) := by decide +kernel
theorem d_FileMaker_putEntry_46 : decode prog_4_method_4_code 46 = .ok (.iconst 0, 1) := by decide +kernel
theorem d_FileMaker_putEntry_47 : decode prog_4_method_4_code 47 = .ok (.invokevirtual 69, 3) := by decide +kernel
theorem d_FileMaker_putEntry_50 : decode prog_4_method_4_code 50 = .ok (.aload_n 0, 1) := by decide +kernel
theorem d_FileMaker_putEntry_51 : decode prog_4_method_4_code 51 = .ok (.getfield 14, 3) := by decide +kernel
theorem d_FileMaker_putEntry_54 : decode prog_4_method_4_code 54 = .ok (.iconst 0, 1) := by decide +kernel
theorem d_FileMaker_putEntry_55 : decode prog_4_method_4_code 55 = .ok (.invokevirtual 69, 3) := by decide +kernel
theorem d_FileMaker_putEntry_58 : decode prog_4_method_4_code 58 = .ok (.aload_n 0, 1) := by decide +kernel
theorem d_FileMaker_putEntry_59 : decode prog_4_method_4_code 59 = .ok (.getfield 14, 3) := by decide +kernel
theorem d_FileMaker_putEntry_62 : decode prog_4_method_4_code 62 = .ok (.iconst 0, 1) := by decide +kernel
theorem d_FileMaker_putEntry_63 : decode prog_4_method_4_code 63 = .ok (.invokevirtual 69, 3) := by decide +kernel
theorem d_FileMaker_putEntry_66 : decode prog_4_method_4_code 66 = .ok (.aload_n 0, 1) := by decide +kernel
theorem d_FileMaker_putEntry_67 : decode prog_4_method_4_code 67 = .ok (.getfield 14, 3) := by decide +kernel
theorem d_FileMaker_putEntry_70 : decode prog_4_method_4_code 70 = .ok (.iconst 0, 1) := by decide +kernel
theorem d_FileMaker_putEntry_71 : decode prog_4_method_4_code 71 = .ok (.invokevirtual 66, 3) := by decide +kernel
theorem d_FileMaker_putEntry_74 : decode prog_4_method_4_code 74 = .ok (.aload_n 0, 1) := by decide +kernel
theorem d_FileMaker_putEntry_75 : decode prog_4_method_4_code 75 = .ok (.getfield 14, 3) := by decide +kernel
theorem d_FileMaker_putEntry_78 : decode prog_4_method_4_code 78 = .ok (.aload_n 0, 1) := by decide +kernel
theorem d_FileMaker_putEntry_79 : decode prog_4_method_4_code 79 = .ok (.getfield 20, 3) := by decide +kernel
theorem d_FileMaker_putEntry_82 : decode prog_4_method_4_code 82 = .ok (.iload_n 2, 1) := by decide +kernel
theorem d_FileMaker_putEntry_83 : decode prog_4_method_4_code 83 = .ok (.iaload, 1) := by decide +kernel
theorem d_FileMaker_putEntry_84 : decode prog_4_method_4_code 84 = .ok (.invokevirtual 66, 3) := by decide +kernel
theorem d_FileMaker_putEntry_87 : decode prog_4_method_4_code 87 = .ok (.aload_n 0, 1) := by decide +kernel
theorem d_FileMaker_putEntry_88 : decode prog_4_method_4_code 88 = .ok (.getfield 14, 3) := by decide +kernel
theorem d_FileMaker_putEntry_91 : decode prog_4_method_4_code 91 = .ok (.aload_n 1, 1) := by decide +kernel
theorem d_FileMaker_putEntry_92 : decode prog_4_method_4_code 92 = .ok (.getfield 79, 3) := by decide +kernel
theorem k_390 : (Jvm.Cond.fieldLinkNest "PackageBook$FileMaker" (79 : Nat) "PackageBook$Shelf" "names" "[B" "PackageBook") ∈ uN := uN_of 390 (by decide +kernel) (by decide +kernel)
theorem d_FileMaker_putEntry_95 : decode prog_4_method_4_code 95 = .ok (.bipush 24, 2) := by decide +kernel
theorem d_FileMaker_putEntry_97 : decode prog_4_method_4_code 97 = .ok (.iload_n 2, 1) := by decide +kernel
theorem d_FileMaker_putEntry_98 : decode prog_4_method_4_code 98 = .ok (.imul, 1) := by decide +kernel
theorem d_FileMaker_putEntry_99 : decode prog_4_method_4_code 99 = .ok (.aload_n 1, 1) := by decide +kernel
theorem d_FileMaker_putEntry_100 : decode prog_4_method_4_code 100 = .ok (.getfield 76, 3) := by decide +kernel
theorem k_393 : (Jvm.Cond.fieldLinkNest "PackageBook$FileMaker" (76 : Nat) "PackageBook$Shelf" "nameSizes" "[I" "PackageBook") ∈ uN := uN_of 393 (by decide +kernel) (by decide +kernel)
theorem d_FileMaker_putEntry_103 : decode prog_4_method_4_code 103 = .ok (.iload_n 2, 1) := by decide +kernel
theorem d_FileMaker_putEntry_104 : decode prog_4_method_4_code 104 = .ok (.iaload, 1) := by decide +kernel
theorem d_FileMaker_putEntry_105 : decode prog_4_method_4_code 105 = .ok (.invokevirtual 82, 3) := by decide +kernel
theorem d_FileMaker_putEntry_108 : decode prog_4_method_4_code 108 = .ok (.return_, 1) := by decide +kernel
abbrev y_FileMaker_putEntry : MethodName := ⟨"PackageBook$FileMaker", "putEntry", "(LPackageBook$Shelf;I)V"⟩
abbrev i_FileMaker_putEntry : pb_I := (y_FileMaker_putEntry, prog_4_method_4_code, 3, (Option.none : Option Jvm.ClassFile.FieldType), [], { frames := 3, cells := 0, slots := 0, locals := 83 })
set_option maxRecDepth 100000 in
set_option maxHeartbeats 4000000 in
theorem g_Mk_putEntry {l : Launch} (hl : l.stackTraces = false) (G : pb_G) (h : Nat) (mm : Nat) (mr : Nat) (mb : Nat) (f : Nat → Int32) (s : Int32) (fr : Nat → Int32) (sp : Nat) (tn : Nat) (tz : Nat) (tb : Nat) (tg : Nat) (c : Int32) (tfn : Nat → Int32) (tfz : Nat → Int32) (tfg : Nat → Int32) (i : Int32) (I : sh_I c.toInt tfz tfg) (h0 : 0 ≤ s.toInt) (h1 : s.toInt + 70 ≤ 14006) (h2 : 0 ≤ i.toInt) (h3 : i.toInt < c.toInt) (h4 : 0 ≤ gx fr i.toInt) (h5 : gx fr i.toInt ≤ 13000) (F_f : sb_Fit f) (F_tfn : sb_Fit tfn) : Cn l G i_FileMaker_putEntry [.ref h, .ref sp, .int i] [(h, .inr (6, [.ref mm, .ref mr])), (mm, .inr (0, [.ref mb, .int s])), (mb, .inl (G.2.1, 14006, .inl f)), (mr, .inl (G.2.2.1, 16, .inl fr)), (sp, .inr (3, [.ref tn, .ref tz, .ref tb, .ref tg, .int c])), (tn, .inl (G.2.1, 384, .inl tfn)), (tz, .inl (G.2.2.1, 16, .inl tfz))] (S := Int32 × (Nat → Int32)) (fun rv_ u => rv_ = none ∧ (s.toInt ≤ u.1.toInt) ∧ (u.1.toInt ≤ s.toInt + 70) ∧ (sb_Fit u.2)) (fun u => [(h, .inr (6, [.ref mm, .ref mr])), (mm, .inr (0, [.ref mb, .int u.1])), (mb, .inl (G.2.1, 14006, .inl u.2)), (mr, .inl (G.2.2.1, 16, .inl fr)), (sp, .inr (3, [.ref tn, .ref tz, .ref tb, .ref tg, .int c])), (tn, .inl (G.2.1, 384, .inl tfn)), (tz, .inl (G.2.2.1, 16, .inl tfz))]) := by
  refine Cn.of hl (by decide +kernel) rfl (Nat.le_of_ble_eq_true rfl) (fun M hQ => ?_)
  refine pb_eq (pc' := 0) (lo' := [(0, .ref h), (1, .ref sp), (2, .int i)]) (rest' := []) (ws' := [(h, .inr (6, [.ref mm, .ref mr])), (mm, .inr (0, [.ref mb, .int s])), (mb, .inl (G.2.1, 14006, .inl f)), (mr, .inl (G.2.2.1, 16, .inl fr)), (sp, .inr (3, [.ref tn, .ref tz, .ref tb, .ref tg, .int c])), (tn, .inl (G.2.1, 384, .inl tfn)), (tz, .inl (G.2.2.1, 16, .inl tfz))]) ?_
  have zl0 : (0 : Int32).toInt = 0 := by decide
  have zl1 : (1 : Int32).toInt = 1 := by decide
  have zl4 : (4 : Int32).toInt = 4 := by decide
  have zl20 : (20 : Int32).toInt = 20 := by decide
  have zl24 : (24 : Int32).toInt = 24 := by decide
  have zl26 : (26 : Int32).toInt = 26 := by decide
  have p2 := I.2.1
  have p5 := I.2.2.2.2 i.toInt (by omega) (by omega)
  refine pb_aload_n (pc := 0) d_FileMaker_putEntry_0 0 rfl rfl ?_
  refine pb_get (pc := 1) d_FileMaker_putEntry_1 0 0 rfl rfl (by decide) in_FileMaker k_292 rfl ?_
  refine pb_ldc (pc := 4) (v := 33639248) d_FileMaker_putEntry_4 k_570 ?_
  refine pb_callV (pc := 6) (I := i_FileMaker_putEntry) (qb := 1) (ci := 0) (nA := 1) (rest := []) (wr := [(h, .inr (6, [.ref mm, .ref mr])), (mr, .inl (G.2.2.1, 16, .inl fr)), (sp, .inr (3, [.ref tn, .ref tz, .ref tb, .ref tg, .int c])), (tn, .inl (G.2.1, 384, .inl tfn)), (tz, .inl (G.2.2.1, 16, .inl tfz))]) d_FileMaker_putEntry_6 (g_Row_putFour hl G mm mb 14006 f s 33639248 (by first | assumption | omega (splitDisjunctions := false) | omega | decide) (by first | assumption | omega (splitDisjunctions := false) | omega | decide) (by first | assumption | omega (splitDisjunctions := false) | omega | decide) F_f) rfl rfl [1, 2] [0, 3, 4, 5, 6] (by decide) rfl rfl rfl (by decide) (by decide) k_547 rfl k_119 k_544 k_545 k_546 ⟨rfl, hy_Row_putFour⟩ (by decide) rfl rfl (Nat.le_of_ble_eq_true rfl) (by decide) (fun v9 u2 ch1 => ?_)
  obtain ⟨s_3, f_4⟩ := u2
  obtain ⟨ech1, ch1⟩ := ch1
  have ech1 : v9 = none := ech1
  subst ech1
  obtain ⟨fh5, fh6⟩ : (s_3.toInt = s.toInt + 4) ∧ (sb_Fit f_4) := ch1
  refine pb_eq (pc' := 9) (lo' := [(0, .ref h), (1, .ref sp), (2, .int i)]) (rest' := []) (ws' := [(h, .inr (6, [.ref mm, .ref mr])), (mr, .inl (G.2.2.1, 16, .inl fr)), (sp, .inr (3, [.ref tn, .ref tz, .ref tb, .ref tg, .int c])), (tn, .inl (G.2.1, 384, .inl tfn)), (tz, .inl (G.2.2.1, 16, .inl tfz)), (mm, .inr (0, [.ref mb, .int s_3])), (mb, .inl (G.2.1, 14006, .inl f_4))]) ?_
  refine pb_aload_n (pc := 9) d_FileMaker_putEntry_9 0 rfl rfl ?_
  refine pb_get (pc := 10) d_FileMaker_putEntry_10 0 0 rfl rfl (by decide) in_FileMaker k_292 rfl ?_
  refine pb_bipush (pc := 13) (v := 20) d_FileMaker_putEntry_13 (by decide) ?_
  refine pb_callV (pc := 15) (I := i_FileMaker_putEntry) (qb := 5) (ci := 0) (nA := 1) (rest := []) (wr := [(h, .inr (6, [.ref mm, .ref mr])), (mr, .inl (G.2.2.1, 16, .inl fr)), (sp, .inr (3, [.ref tn, .ref tz, .ref tb, .ref tg, .int c])), (tn, .inl (G.2.1, 384, .inl tfn)), (tz, .inl (G.2.2.1, 16, .inl tfz))]) d_FileMaker_putEntry_15 (g_Row_putTwo hl G mm mb 14006 f_4 s_3 20 (by first | assumption | omega (splitDisjunctions := false) | omega | decide) (by first | assumption | omega (splitDisjunctions := false) | omega | decide) (by first | assumption | omega (splitDisjunctions := false) | omega | decide) fh6) rfl rfl [5, 6] [0, 1, 2, 3, 4] (by decide) rfl rfl rfl (by decide) (by decide) k_551 rfl k_119 k_556 k_549 k_550 ⟨rfl, hy_Row_putTwo⟩ (by decide) rfl rfl (Nat.le_of_ble_eq_true rfl) (by decide) (fun v9 u8 ch7 => ?_)
  obtain ⟨s_9, f_10⟩ := u8
  obtain ⟨ech7, ch7⟩ := ch7
  have ech7 : v9 = none := ech7
  subst ech7
  obtain ⟨fh11, fh12⟩ : (s_9.toInt = s_3.toInt + 2) ∧ (sb_Fit f_10) := ch7
  refine pb_eq (pc' := 18) (lo' := [(0, .ref h), (1, .ref sp), (2, .int i)]) (rest' := []) (ws' := [(h, .inr (6, [.ref mm, .ref mr])), (mr, .inl (G.2.2.1, 16, .inl fr)), (sp, .inr (3, [.ref tn, .ref tz, .ref tb, .ref tg, .int c])), (tn, .inl (G.2.1, 384, .inl tfn)), (tz, .inl (G.2.2.1, 16, .inl tfz)), (mm, .inr (0, [.ref mb, .int s_9])), (mb, .inl (G.2.1, 14006, .inl f_10))]) ?_
  refine pb_aload_n (pc := 18) d_FileMaker_putEntry_18 0 rfl rfl ?_
  refine pb_get (pc := 19) d_FileMaker_putEntry_19 0 0 rfl rfl (by decide) in_FileMaker k_292 rfl ?_
  refine pb_aload_n (pc := 22) d_FileMaker_putEntry_22 0 rfl rfl ?_
  refine pb_get (pc := 23) d_FileMaker_putEntry_23 0 0 rfl rfl (by decide) in_FileMaker k_292 rfl ?_
  refine pb_getN (pc := 26) d_FileMaker_putEntry_26 5 0 rfl rfl (by decide) in_Row k_158 rfl ?_
  refine pb_aload_n (pc := 29) d_FileMaker_putEntry_29 0 rfl rfl ?_
  refine pb_get (pc := 30) d_FileMaker_putEntry_30 0 1 rfl rfl (by decide) in_FileMaker k_294 rfl ?_
  refine pb_iload_n (pc := 33) d_FileMaker_putEntry_33 2 rfl rfl ?_
  refine pb_iald (pc := 34) d_FileMaker_putEntry_34 1 rfl (vp_in_iff.mpr (by constructor <;> omega)) ?_
  refine pb_topi (fun i13 ei13 => ?_)
  have ti13 : i13.toInt = gx fr (i.toInt) := gx_ld ei13 rfl
  refine pb_iconst (pc := 35) (v := 4) d_FileMaker_putEntry_35 (by decide) ?_
  refine pb_iadd (pc := 36) d_FileMaker_putEntry_36 ?_
  refine pb_topi (fun i14 ei14 => ?_)
  try have ti14 : i14.toInt = i13.toInt + 4 := ti_add ei14 rfl (by decide) (by omega) (by omega)
  refine pb_bipush (pc := 37) (v := 26) d_FileMaker_putEntry_37 (by decide) ?_
  refine pb_callV (pc := 39) (I := i_FileMaker_putEntry) (qb := 5) (ci := 0) (nA := 3) (rest := []) (wr := [(h, .inr (6, [.ref mm, .ref mr])), (mr, .inl (G.2.2.1, 16, .inl fr)), (sp, .inr (3, [.ref tn, .ref tz, .ref tb, .ref tg, .int c])), (tn, .inl (G.2.1, 384, .inl tfn)), (tz, .inl (G.2.2.1, 16, .inl tfz))]) d_FileMaker_putEntry_39 (g_Row_putBytes1 hl G mm mb 14006 f_10 s_9 i14 26 (by first | assumption | omega (splitDisjunctions := false) | omega | decide) (by first | assumption | omega (splitDisjunctions := false) | omega | decide) (by first | assumption | omega (splitDisjunctions := false) | omega | decide) (by first | assumption | omega (splitDisjunctions := false) | omega | decide) (by first | assumption | omega (splitDisjunctions := false) | omega | decide) (by first | assumption | omega (splitDisjunctions := false) | omega | decide) fh12) rfl rfl [5, 6] [0, 1, 2, 3, 4] (by decide) rfl rfl rfl (by decide) (by decide) k_564 rfl k_119 k_561 k_562 k_563 ⟨rfl, hy_Row_putBytes⟩ (by decide) rfl rfl (Nat.le_of_ble_eq_true rfl) (by decide) (fun v9 u16 ch15 => ?_)
  obtain ⟨s_17, f_18⟩ := u16
  obtain ⟨ech15, ch15⟩ := ch15
  have ech15 : v9 = none := ech15
  subst ech15
  obtain ⟨fh19, fh20, fh21⟩ : (s_17.toInt = s_9.toInt + (26 : Int32).toInt) ∧ (∀ j : Int, 0 ≤ j → gr f_18 j = if s_9.toInt ≤ j ∧ j < s_9.toInt + (26 : Int32).toInt then gr f_10 (i14.toInt + (j - s_9.toInt)) else gr f_10 j) ∧ (sb_Fit f_18) := ch15
  refine pb_eq (pc' := 42) (lo' := [(0, .ref h), (1, .ref sp), (2, .int i)]) (rest' := []) (ws' := [(h, .inr (6, [.ref mm, .ref mr])), (mr, .inl (G.2.2.1, 16, .inl fr)), (sp, .inr (3, [.ref tn, .ref tz, .ref tb, .ref tg, .int c])), (tn, .inl (G.2.1, 384, .inl tfn)), (tz, .inl (G.2.2.1, 16, .inl tfz)), (mm, .inr (0, [.ref mb, .int s_17])), (mb, .inl (G.2.1, 14006, .inl f_18))]) ?_
  refine pb_aload_n (pc := 42) d_FileMaker_putEntry_42 0 rfl rfl ?_
  refine pb_get (pc := 43) d_FileMaker_putEntry_43 0 0 rfl rfl (by decide) in_FileMaker k_292 rfl ?_
  refine pb_iconst (pc := 46) (v := 0) d_FileMaker_putEntry_46 (by decide) ?_
  refine pb_callV (pc := 47) (I := i_FileMaker_putEntry) (qb := 5) (ci := 0) (nA := 1) (rest := []) (wr := [(h, .inr (6, [.ref mm, .ref mr])), (mr, .inl (G.2.2.1, 16, .inl fr)), (sp, .inr (3, [.ref tn, .ref tz, .ref tb, .ref tg, .int c])), (tn, .inl (G.2.1, 384, .inl tfn)), (tz, .inl (G.2.2.1, 16, .inl tfz))]) d_FileMaker_putEntry_47 (g_Row_putTwo hl G mm mb 14006 f_18 s_17 0 (by first | assumption | omega (splitDisjunctions := false) | omega | decide) (by first | assumption | omega (splitDisjunctions := false) | omega | decide) (by first | assumption | omega (splitDisjunctions := false) | omega | decide) fh21) rfl rfl [5, 6] [0, 1, 2, 3, 4] (by decide) rfl rfl rfl (by decide) (by decide) k_551 rfl k_119 k_556 k_549 k_550 ⟨rfl, hy_Row_putTwo⟩ (by decide) rfl rfl (Nat.le_of_ble_eq_true rfl) (by decide) (fun v9 u23 ch22 => ?_)
  obtain ⟨s_24, f_25⟩ := u23
  obtain ⟨ech22, ch22⟩ := ch22
  have ech22 : v9 = none := ech22
  subst ech22
  obtain ⟨fh26, fh27⟩ : (s_24.toInt = s_17.toInt + 2) ∧ (sb_Fit f_25) := ch22
  refine pb_eq (pc' := 50) (lo' := [(0, .ref h), (1, .ref sp), (2, .int i)]) (rest' := []) (ws' := [(h, .inr (6, [.ref mm, .ref mr])), (mr, .inl (G.2.2.1, 16, .inl fr)), (sp, .inr (3, [.ref tn, .ref tz, .ref tb, .ref tg, .int c])), (tn, .inl (G.2.1, 384, .inl tfn)), (tz, .inl (G.2.2.1, 16, .inl tfz)), (mm, .inr (0, [.ref mb, .int s_24])), (mb, .inl (G.2.1, 14006, .inl f_25))]) ?_
  refine pb_aload_n (pc := 50) d_FileMaker_putEntry_50 0 rfl rfl ?_
  refine pb_get (pc := 51) d_FileMaker_putEntry_51 0 0 rfl rfl (by decide) in_FileMaker k_292 rfl ?_
  refine pb_iconst (pc := 54) (v := 0) d_FileMaker_putEntry_54 (by decide) ?_
  refine pb_callV (pc := 55) (I := i_FileMaker_putEntry) (qb := 5) (ci := 0) (nA := 1) (rest := []) (wr := [(h, .inr (6, [.ref mm, .ref mr])), (mr, .inl (G.2.2.1, 16, .inl fr)), (sp, .inr (3, [.ref tn, .ref tz, .ref tb, .ref tg, .int c])), (tn, .inl (G.2.1, 384, .inl tfn)), (tz, .inl (G.2.2.1, 16, .inl tfz))]) d_FileMaker_putEntry_55 (g_Row_putTwo hl G mm mb 14006 f_25 s_24 0 (by first | assumption | omega (splitDisjunctions := false) | omega | decide) (by first | assumption | omega (splitDisjunctions := false) | omega | decide) (by first | assumption | omega (splitDisjunctions := false) | omega | decide) fh27) rfl rfl [5, 6] [0, 1, 2, 3, 4] (by decide) rfl rfl rfl (by decide) (by decide) k_551 rfl k_119 k_556 k_549 k_550 ⟨rfl, hy_Row_putTwo⟩ (by decide) rfl rfl (Nat.le_of_ble_eq_true rfl) (by decide) (fun v9 u29 ch28 => ?_)
  obtain ⟨s_30, f_31⟩ := u29
  obtain ⟨ech28, ch28⟩ := ch28
  have ech28 : v9 = none := ech28
  subst ech28
  obtain ⟨fh32, fh33⟩ : (s_30.toInt = s_24.toInt + 2) ∧ (sb_Fit f_31) := ch28
  refine pb_eq (pc' := 58) (lo' := [(0, .ref h), (1, .ref sp), (2, .int i)]) (rest' := []) (ws' := [(h, .inr (6, [.ref mm, .ref mr])), (mr, .inl (G.2.2.1, 16, .inl fr)), (sp, .inr (3, [.ref tn, .ref tz, .ref tb, .ref tg, .int c])), (tn, .inl (G.2.1, 384, .inl tfn)), (tz, .inl (G.2.2.1, 16, .inl tfz)), (mm, .inr (0, [.ref mb, .int s_30])), (mb, .inl (G.2.1, 14006, .inl f_31))]) ?_
  refine pb_aload_n (pc := 58) d_FileMaker_putEntry_58 0 rfl rfl ?_
  refine pb_get (pc := 59) d_FileMaker_putEntry_59 0 0 rfl rfl (by decide) in_FileMaker k_292 rfl ?_
  refine pb_iconst (pc := 62) (v := 0) d_FileMaker_putEntry_62 (by decide) ?_
  refine pb_callV (pc := 63) (I := i_FileMaker_putEntry) (qb := 5) (ci := 0) (nA := 1) (rest := []) (wr := [(h, .inr (6, [.ref mm, .ref mr])), (mr, .inl (G.2.2.1, 16, .inl fr)), (sp, .inr (3, [.ref tn, .ref tz, .ref tb, .ref tg, .int c])), (tn, .inl (G.2.1, 384, .inl tfn)), (tz, .inl (G.2.2.1, 16, .inl tfz))]) d_FileMaker_putEntry_63 (g_Row_putTwo hl G mm mb 14006 f_31 s_30 0 (by first | assumption | omega (splitDisjunctions := false) | omega | decide) (by first | assumption | omega (splitDisjunctions := false) | omega | decide) (by first | assumption | omega (splitDisjunctions := false) | omega | decide) fh33) rfl rfl [5, 6] [0, 1, 2, 3, 4] (by decide) rfl rfl rfl (by decide) (by decide) k_551 rfl k_119 k_556 k_549 k_550 ⟨rfl, hy_Row_putTwo⟩ (by decide) rfl rfl (Nat.le_of_ble_eq_true rfl) (by decide) (fun v9 u35 ch34 => ?_)
  obtain ⟨s_36, f_37⟩ := u35
  obtain ⟨ech34, ch34⟩ := ch34
  have ech34 : v9 = none := ech34
  subst ech34
  obtain ⟨fh38, fh39⟩ : (s_36.toInt = s_30.toInt + 2) ∧ (sb_Fit f_37) := ch34
  refine pb_eq (pc' := 66) (lo' := [(0, .ref h), (1, .ref sp), (2, .int i)]) (rest' := []) (ws' := [(h, .inr (6, [.ref mm, .ref mr])), (mr, .inl (G.2.2.1, 16, .inl fr)), (sp, .inr (3, [.ref tn, .ref tz, .ref tb, .ref tg, .int c])), (tn, .inl (G.2.1, 384, .inl tfn)), (tz, .inl (G.2.2.1, 16, .inl tfz)), (mm, .inr (0, [.ref mb, .int s_36])), (mb, .inl (G.2.1, 14006, .inl f_37))]) ?_
  refine pb_aload_n (pc := 66) d_FileMaker_putEntry_66 0 rfl rfl ?_
  refine pb_get (pc := 67) d_FileMaker_putEntry_67 0 0 rfl rfl (by decide) in_FileMaker k_292 rfl ?_
  refine pb_iconst (pc := 70) (v := 0) d_FileMaker_putEntry_70 (by decide) ?_
  refine pb_callV (pc := 71) (I := i_FileMaker_putEntry) (qb := 5) (ci := 0) (nA := 1) (rest := []) (wr := [(h, .inr (6, [.ref mm, .ref mr])), (mr, .inl (G.2.2.1, 16, .inl fr)), (sp, .inr (3, [.ref tn, .ref tz, .ref tb, .ref tg, .int c])), (tn, .inl (G.2.1, 384, .inl tfn)), (tz, .inl (G.2.2.1, 16, .inl tfz))]) d_FileMaker_putEntry_71 (g_Row_putFour hl G mm mb 14006 f_37 s_36 0 (by first | assumption | omega (splitDisjunctions := false) | omega | decide) (by first | assumption | omega (splitDisjunctions := false) | omega | decide) (by first | assumption | omega (splitDisjunctions := false) | omega | decide) fh39) rfl rfl [5, 6] [0, 1, 2, 3, 4] (by decide) rfl rfl rfl (by decide) (by decide) k_547 rfl k_119 k_544 k_545 k_546 ⟨rfl, hy_Row_putFour⟩ (by decide) rfl rfl (Nat.le_of_ble_eq_true rfl) (by decide) (fun v9 u41 ch40 => ?_)
  obtain ⟨s_42, f_43⟩ := u41
  obtain ⟨ech40, ch40⟩ := ch40
  have ech40 : v9 = none := ech40
  subst ech40
  obtain ⟨fh44, fh45⟩ : (s_42.toInt = s_36.toInt + 4) ∧ (sb_Fit f_43) := ch40
  refine pb_eq (pc' := 74) (lo' := [(0, .ref h), (1, .ref sp), (2, .int i)]) (rest' := []) (ws' := [(h, .inr (6, [.ref mm, .ref mr])), (mr, .inl (G.2.2.1, 16, .inl fr)), (sp, .inr (3, [.ref tn, .ref tz, .ref tb, .ref tg, .int c])), (tn, .inl (G.2.1, 384, .inl tfn)), (tz, .inl (G.2.2.1, 16, .inl tfz)), (mm, .inr (0, [.ref mb, .int s_42])), (mb, .inl (G.2.1, 14006, .inl f_43))]) ?_
  refine pb_aload_n (pc := 74) d_FileMaker_putEntry_74 0 rfl rfl ?_
  refine pb_get (pc := 75) d_FileMaker_putEntry_75 0 0 rfl rfl (by decide) in_FileMaker k_292 rfl ?_
  refine pb_aload_n (pc := 78) d_FileMaker_putEntry_78 0 rfl rfl ?_
  refine pb_get (pc := 79) d_FileMaker_putEntry_79 0 1 rfl rfl (by decide) in_FileMaker k_294 rfl ?_
  refine pb_iload_n (pc := 82) d_FileMaker_putEntry_82 2 rfl rfl ?_
  refine pb_iald (pc := 83) d_FileMaker_putEntry_83 1 rfl (vp_in_iff.mpr (by constructor <;> omega)) ?_
  refine pb_topi (fun i46 ei46 => ?_)
  have ti46 : i46.toInt = gx fr (i.toInt) := gx_ld ei46 rfl
  refine pb_callV (pc := 84) (I := i_FileMaker_putEntry) (qb := 5) (ci := 0) (nA := 1) (rest := []) (wr := [(h, .inr (6, [.ref mm, .ref mr])), (mr, .inl (G.2.2.1, 16, .inl fr)), (sp, .inr (3, [.ref tn, .ref tz, .ref tb, .ref tg, .int c])), (tn, .inl (G.2.1, 384, .inl tfn)), (tz, .inl (G.2.2.1, 16, .inl tfz))]) d_FileMaker_putEntry_84 (g_Row_putFour hl G mm mb 14006 f_43 s_42 i46 (by first | assumption | omega (splitDisjunctions := false) | omega | decide) (by first | assumption | omega (splitDisjunctions := false) | omega | decide) (by first | assumption | omega (splitDisjunctions := false) | omega | decide) fh45) rfl rfl [5, 6] [0, 1, 2, 3, 4] (by decide) rfl rfl rfl (by decide) (by decide) k_547 rfl k_119 k_544 k_545 k_546 ⟨rfl, hy_Row_putFour⟩ (by decide) rfl rfl (Nat.le_of_ble_eq_true rfl) (by decide) (fun v9 u48 ch47 => ?_)
  obtain ⟨s_49, f_50⟩ := u48
  obtain ⟨ech47, ch47⟩ := ch47
  have ech47 : v9 = none := ech47
  subst ech47
  obtain ⟨fh51, fh52⟩ : (s_49.toInt = s_42.toInt + 4) ∧ (sb_Fit f_50) := ch47
  refine pb_eq (pc' := 87) (lo' := [(0, .ref h), (1, .ref sp), (2, .int i)]) (rest' := []) (ws' := [(h, .inr (6, [.ref mm, .ref mr])), (mr, .inl (G.2.2.1, 16, .inl fr)), (sp, .inr (3, [.ref tn, .ref tz, .ref tb, .ref tg, .int c])), (tn, .inl (G.2.1, 384, .inl tfn)), (tz, .inl (G.2.2.1, 16, .inl tfz)), (mm, .inr (0, [.ref mb, .int s_49])), (mb, .inl (G.2.1, 14006, .inl f_50))]) ?_
  refine pb_aload_n (pc := 87) d_FileMaker_putEntry_87 0 rfl rfl ?_
  refine pb_get (pc := 88) d_FileMaker_putEntry_88 0 0 rfl rfl (by decide) in_FileMaker k_292 rfl ?_
  refine pb_aload_n (pc := 91) d_FileMaker_putEntry_91 1 rfl rfl ?_
  refine pb_getN (pc := 92) d_FileMaker_putEntry_92 2 0 rfl rfl (by decide) in_Shelf k_390 rfl ?_
  refine pb_bipush (pc := 95) (v := 24) d_FileMaker_putEntry_95 (by decide) ?_
  refine pb_iload_n (pc := 97) d_FileMaker_putEntry_97 2 rfl rfl ?_
  refine pb_imul (pc := 98) d_FileMaker_putEntry_98 ?_
  refine pb_topi (fun i53 ei53 => ?_)
  try have ti53 : i53.toInt = 24 * i.toInt := ti_mul ei53 (by decide) rfl (by omega) (by omega)
  refine pb_aload_n (pc := 99) d_FileMaker_putEntry_99 1 rfl rfl ?_
  refine pb_getN (pc := 100) d_FileMaker_putEntry_100 2 1 rfl rfl (by decide) in_Shelf k_393 rfl ?_
  refine pb_iload_n (pc := 103) d_FileMaker_putEntry_103 2 rfl rfl ?_
  refine pb_iald (pc := 104) d_FileMaker_putEntry_104 4 rfl (vp_in_iff.mpr (by constructor <;> omega)) ?_
  refine pb_topi (fun i54 ei54 => ?_)
  have ti54 : i54.toInt = gx tfz (i.toInt) := gx_ld ei54 rfl
  refine pb_callV (pc := 105) (I := i_FileMaker_putEntry) (qb := 5) (ci := 0) (nA := 3) (rest := []) (wr := [(h, .inr (6, [.ref mm, .ref mr])), (mr, .inl (G.2.2.1, 16, .inl fr)), (sp, .inr (3, [.ref tn, .ref tz, .ref tb, .ref tg, .int c])), (tz, .inl (G.2.2.1, 16, .inl tfz))]) d_FileMaker_putEntry_105 (g_Row_putBytes hl G mm mb 14006 f_50 s_49 tn 384 tfn i53 i54 (by first | assumption | omega (splitDisjunctions := false) | omega | decide) (by first | assumption | omega (splitDisjunctions := false) | omega | decide) (by first | assumption | omega (splitDisjunctions := false) | omega | decide) (by first | assumption | omega (splitDisjunctions := false) | omega | decide) (by first | assumption | omega (splitDisjunctions := false) | omega | decide) (by first | assumption | omega (splitDisjunctions := false) | omega | decide) (by first | assumption | omega (splitDisjunctions := false) | omega | decide) fh52 F_tfn) rfl rfl [5, 6, 3] [0, 1, 2, 4] (by decide) rfl rfl rfl (by decide) (by decide) k_564 rfl k_119 k_561 k_562 k_563 ⟨rfl, hy_Row_putBytes⟩ (by decide) rfl rfl (Nat.le_of_ble_eq_true rfl) (by decide) (fun v9 u56 ch55 => ?_)
  obtain ⟨s_57, f_58⟩ := u56
  obtain ⟨ech55, ch55⟩ := ch55
  have ech55 : v9 = none := ech55
  subst ech55
  obtain ⟨fh59, fh60, fh61⟩ : (s_57.toInt = s_49.toInt + i54.toInt) ∧ (∀ j : Int, 0 ≤ j → gr f_58 j = if s_49.toInt ≤ j ∧ j < s_49.toInt + i54.toInt then gr tfn (i53.toInt + (j - s_49.toInt)) else gr f_50 j) ∧ (sb_Fit f_58) := ch55
  refine pb_eq (pc' := 108) (lo' := [(0, .ref h), (1, .ref sp), (2, .int i)]) (rest' := []) (ws' := [(h, .inr (6, [.ref mm, .ref mr])), (mr, .inl (G.2.2.1, 16, .inl fr)), (sp, .inr (3, [.ref tn, .ref tz, .ref tb, .ref tg, .int c])), (tz, .inl (G.2.2.1, 16, .inl tfz)), (mm, .inr (0, [.ref mb, .int s_57])), (mb, .inl (G.2.1, 14006, .inl f_58)), (tn, .inl (G.2.1, 384, .inl tfn))]) ?_
  exact pb_vret (pc := 108) hQ d_FileMaker_putEntry_108 rfl (s_57, f_58) ⟨rfl, (by (try dsimp only); first | done | assumption | omega (splitDisjunctions := false) | omega | decide), (by (try dsimp only); first | done | assumption | omega (splitDisjunctions := false) | omega | decide), fh61⟩ [0, 4, 5, 1, 2, 6, 3] (by decide) rfl rfl (by decide) (by decide)

theorem d_FileMaker_putRecord_0 : decode prog_4_method_3_code 0 = .ok (.aload_n 1, 1) := by decide +kernel
theorem d_FileMaker_putRecord_1 : decode prog_4_method_3_code 1 = .ok (.getfield 45, 3) := by decide +kernel
theorem k_401 : (Jvm.Cond.fieldLinkNest "PackageBook$FileMaker" (45 : Nat) "PackageBook$Shelf" "begins" "[I" "PackageBook") ∈ uN := uN_of 401 (by decide +kernel) (by decide +kernel)
theorem d_FileMaker_putRecord_4 : decode prog_4_method_3_code 4 = .ok (.iload_n 2, 1) := by decide +kernel
theorem d_FileMaker_putRecord_5 : decode prog_4_method_3_code 5 = .ok (.iaload, 1) := by decide +kernel
theorem d_FileMaker_putRecord_6 : decode prog_4_method_3_code 6 = .ok (.istore 4, 2) := by decide +kernel
theorem d_FileMaker_putRecord_8 : decode prog_4_method_3_code 8 = .ok (.aload_n 1, 1) := by decide +kernel
theorem d_FileMaker_putRecord_9 : decode prog_4_method_3_code 9 = .ok (.iload_n 2, 1) := by decide +kernel
theorem d_FileMaker_putRecord_10 : decode prog_4_method_3_code 10 = .ok (.invokevirtual 48, 3) := by decide +kernel
theorem k_497 : (Jvm.Cond.methodLink "PackageBook$FileMaker" (48 : Nat) ({ cls := "PackageBook$Shelf", name := "sizeOf", desc := "(I)I" } : Jvm.MethodName)) ∈ uW := uW_of 497 (by decide +kernel) (by decide +kernel)
theorem d_FileMaker_putRecord_13 : decode prog_4_method_3_code 13 = .ok (.istore 5, 2) := by decide +kernel
theorem d_FileMaker_putRecord_15 : decode prog_4_method_3_code 15 = .ok (.aload_n 3, 1) := by decide +kernel
theorem d_FileMaker_putRecord_16 : decode prog_4_method_3_code 16 = .ok (.aload_n 1, 1) := by decide +kernel
theorem d_FileMaker_putRecord_17 : decode prog_4_method_3_code 17 = .ok (.getfield 52, 3) := by decide +kernel
theorem k_397 : (Jvm.Cond.fieldLinkNest "PackageBook$FileMaker" (52 : Nat) "PackageBook$Shelf" "bytes" "[B" "PackageBook") ∈ uN := uN_of 397 (by decide +kernel) (by decide +kernel)
theorem d_FileMaker_putRecord_20 : decode prog_4_method_3_code 20 = .ok (.iload 4, 2) := by decide +kernel
theorem d_FileMaker_putRecord_22 : decode prog_4_method_3_code 22 = .ok (.iload 5, 2) := by decide +kernel
theorem d_FileMaker_putRecord_24 : decode prog_4_method_3_code 24 = .ok (.invokevirtual 56, 3) := by decide +kernel
theorem k_498 : (Jvm.Cond.methodLink "PackageBook$FileMaker" (56 : Nat) ({ cls := "PackageBook$Presser", name := "run", desc := "([BII)V" } : Jvm.MethodName)) ∈ uW := uW_of 498 (by decide +kernel) (by decide +kernel)
theorem k_501 : (Jvm.Cond.code ({ cls := "PackageBook$Presser", name := "run", desc := "([BII)V" } : Jvm.MethodName) prog_8_method_2_code (6 : Nat) (Option.none : Option Jvm.ClassFile.FieldType)) ∈ uW := uW_of 501 (by decide +kernel) (by decide +kernel)
theorem k_499 : (Jvm.Cond.instanceMethod ({ cls := "PackageBook$Presser", name := "run", desc := "([BII)V" } : Jvm.MethodName)) ∈ uW := uW_of 499 (by decide +kernel) (by decide +kernel)
theorem k_500 : (Jvm.Cond.selects "PackageBook$Presser" ({ cls := "PackageBook$Presser", name := "run", desc := "([BII)V" } : Jvm.MethodName) ({ cls := "PackageBook$Presser", name := "run", desc := "([BII)V" } : Jvm.MethodName)) ∈ uW := uW_of 500 (by decide +kernel) (by decide +kernel)
theorem hy_Presser_run : (y_Presser_run).cls ≠ "java/lang/invoke/MethodHandle" ∧ (y_Presser_run).cls ≠ "java/lang/invoke/VarHandle" ∧ (parseMethodDescriptor (y_Presser_run).desc).map (fun d => d.parameters.length) = some 3 := by decide +kernel
theorem d_FileMaker_putRecord_27 : decode prog_4_method_3_code 27 = .ok (.aload_n 3, 1) := by decide +kernel
theorem d_FileMaker_putRecord_28 : decode prog_4_method_3_code 28 = .ok (.getfield 62, 3) := by decide +kernel
theorem k_182 : (Jvm.Cond.fieldLinkNest "PackageBook$FileMaker" (62 : Nat) "PackageBook$Presser" "pressed" "LPackageBook$Row;" "PackageBook") ∈ uN := uN_of 182 (by decide +kernel) (by decide +kernel)
theorem d_FileMaker_putRecord_31 : decode prog_4_method_3_code 31 = .ok (.getfield 24, 3) := by decide +kernel
theorem d_FileMaker_putRecord_34 : decode prog_4_method_3_code 34 = .ok (.iload 5, 2) := by decide +kernel
theorem d_FileMaker_putRecord_36 : decode prog_4_method_3_code 36 = .ok (.if_icmp .ge 7, 3) := by decide +kernel
theorem d_FileMaker_putRecord_43 : decode prog_4_method_3_code 43 = .ok (.iconst 0, 1) := by decide +kernel
theorem d_FileMaker_putRecord_44 : decode prog_4_method_3_code 44 = .ok (.istore 6, 2) := by decide +kernel
theorem d_FileMaker_putRecord_46 : decode prog_4_method_3_code 46 = .ok (.aload_n 0, 1) := by decide +kernel
theorem d_FileMaker_putRecord_47 : decode prog_4_method_3_code 47 = .ok (.getfield 14, 3) := by decide +kernel
theorem d_FileMaker_putRecord_50 : decode prog_4_method_3_code 50 = .ok (.ldc 65, 2) := by decide +kernel
theorem k_543 : (Jvm.Cond.constant "PackageBook$FileMaker" (65 : Nat) (67324752 : Int32)) ∈ uW := uW_of 543 (by decide +kernel) (by decide +kernel)
theorem d_FileMaker_putRecord_52 : decode prog_4_method_3_code 52 = .ok (.invokevirtual 66, 3) := by decide +kernel
theorem d_FileMaker_putRecord_55 : decode prog_4_method_3_code 55 = .ok (.aload_n 0, 1) := by decide +kernel
theorem d_FileMaker_putRecord_56 : decode prog_4_method_3_code 56 = .ok (.getfield 14, 3) := by decide +kernel
theorem d_FileMaker_putRecord_59 : decode prog_4_method_3_code 59 = .ok (.bipush 20, 2) := by decide +kernel
theorem d_FileMaker_putRecord_61 : decode prog_4_method_3_code 61 = .ok (.invokevirtual 69, 3) := by decide +kernel
theorem d_FileMaker_putRecord_64 : decode prog_4_method_3_code 64 = .ok (.aload_n 0, 1) := by decide +kernel
theorem d_FileMaker_putRecord_65 : decode prog_4_method_3_code 65 = .ok (.getfield 14, 3) := by decide +kernel
theorem d_FileMaker_putRecord_68 : decode prog_4_method_3_code 68 = .ok (.iconst 0, 1) := by decide +kernel
theorem d_FileMaker_putRecord_69 : decode prog_4_method_3_code 69 = .ok (.invokevirtual 69, 3) := by decide +kernel
theorem d_FileMaker_putRecord_72 : decode prog_4_method_3_code 72 = .ok (.aload_n 0, 1) := by decide +kernel
theorem d_FileMaker_putRecord_73 : decode prog_4_method_3_code 73 = .ok (.getfield 14, 3) := by decide +kernel
theorem d_FileMaker_putRecord_76 : decode prog_4_method_3_code 76 = .ok (.iload 6, 2) := by decide +kernel
theorem d_FileMaker_putRecord_78 : decode prog_4_method_3_code 78 = .ok (.ifCond .eq 8, 3) := by decide +kernel
theorem d_FileMaker_putRecord_86 : decode prog_4_method_3_code 86 = .ok (.iconst 0, 1) := by decide +kernel
theorem d_FileMaker_putRecord_87 : decode prog_4_method_3_code 87 = .ok (.invokevirtual 69, 3) := by decide +kernel
theorem d_FileMaker_putRecord_90 : decode prog_4_method_3_code 90 = .ok (.aload_n 0, 1) := by decide +kernel
theorem d_FileMaker_putRecord_91 : decode prog_4_method_3_code 91 = .ok (.getfield 14, 3) := by decide +kernel
theorem d_FileMaker_putRecord_94 : decode prog_4_method_3_code 94 = .ok (.iconst 0, 1) := by decide +kernel
theorem d_FileMaker_putRecord_95 : decode prog_4_method_3_code 95 = .ok (.invokevirtual 69, 3) := by decide +kernel
theorem d_FileMaker_putRecord_98 : decode prog_4_method_3_code 98 = .ok (.aload_n 0, 1) := by decide +kernel
theorem d_FileMaker_putRecord_99 : decode prog_4_method_3_code 99 = .ok (.getfield 14, 3) := by decide +kernel
theorem d_FileMaker_putRecord_102 : decode prog_4_method_3_code 102 = .ok (.bipush 33, 2) := by decide +kernel
theorem d_FileMaker_putRecord_104 : decode prog_4_method_3_code 104 = .ok (.invokevirtual 69, 3) := by decide +kernel
theorem d_FileMaker_putRecord_107 : decode prog_4_method_3_code 107 = .ok (.aload_n 0, 1) := by decide +kernel
theorem d_FileMaker_putRecord_108 : decode prog_4_method_3_code 108 = .ok (.getfield 14, 3) := by decide +kernel
theorem d_FileMaker_putRecord_111 : decode prog_4_method_3_code 111 = .ok (.aload_n 1, 1) := by decide +kernel
theorem d_FileMaker_putRecord_112 : decode prog_4_method_3_code 112 = .ok (.getfield 52, 3) := by decide +kernel
theorem d_FileMaker_putRecord_115 : decode prog_4_method_3_code 115 = .ok (.iload 4, 2) := by decide +kernel
theorem d_FileMaker_putRecord_117 : decode prog_4_method_3_code 117 = .ok (.iload 5, 2) := by decide +kernel
theorem d_FileMaker_putRecord_119 : decode prog_4_method_3_code 119 = .ok (.invokestatic 72, 3) := by decide +kernel
theorem k_557 : (Jvm.Cond.methodLinkNest "PackageBook$FileMaker" (72 : Nat) ({ cls := "PackageBook", name := "sumOf", desc := "([BII)I" } : Jvm.MethodName) "PackageBook") ∈ uN := uN_of 557 (by decide +kernel) (by decide +kernel)
theorem k_559 : (Jvm.Cond.code ({ cls := "PackageBook", name := "sumOf", desc := "([BII)I" } : Jvm.MethodName) prog_1_method_29_code (7 : Nat) (Option.some Jvm.ClassFile.FieldType.int)) ∈ uW := uW_of 559 (by decide +kernel) (by decide +kernel)
theorem k_558 : (Jvm.Cond.static ({ cls := "PackageBook", name := "sumOf", desc := "([BII)I" } : Jvm.MethodName)) ∈ uW := uW_of 558 (by decide +kernel) (by decide +kernel)
theorem hy_Book_sumOf : (y_Book_sumOf).cls ≠ "java/lang/invoke/MethodHandle" ∧ (y_Book_sumOf).cls ≠ "java/lang/invoke/VarHandle" ∧ (parseMethodDescriptor (y_Book_sumOf).desc).map (fun d => d.parameters.length) = some 3 := by decide +kernel
theorem d_FileMaker_putRecord_122 : decode prog_4_method_3_code 122 = .ok (.invokevirtual 66, 3) := by decide +kernel
theorem d_FileMaker_putRecord_125 : decode prog_4_method_3_code 125 = .ok (.aload_n 0, 1) := by decide +kernel
theorem d_FileMaker_putRecord_126 : decode prog_4_method_3_code 126 = .ok (.getfield 14, 3) := by decide +kernel
theorem d_FileMaker_putRecord_129 : decode prog_4_method_3_code 129 = .ok (.iload 6, 2) := by decide +kernel
theorem d_FileMaker_putRecord_131 : decode prog_4_method_3_code 131 = .ok (.ifCond .eq 13, 3) := by decide +kernel
theorem d_FileMaker_putRecord_144 : decode prog_4_method_3_code 144 = .ok (.iload 5, 2) := by decide +kernel
theorem d_FileMaker_putRecord_146 : decode prog_4_method_3_code 146 = .ok (.invokevirtual 66, 3) := by decide +kernel
theorem d_FileMaker_putRecord_149 : decode prog_4_method_3_code 149 = .ok (.aload_n 0, 1) := by decide +kernel
theorem d_FileMaker_putRecord_150 : decode prog_4_method_3_code 150 = .ok (.getfield 14, 3) := by decide +kernel
theorem d_FileMaker_putRecord_153 : decode prog_4_method_3_code 153 = .ok (.iload 5, 2) := by decide +kernel
theorem d_FileMaker_putRecord_155 : decode prog_4_method_3_code 155 = .ok (.invokevirtual 66, 3) := by decide +kernel
theorem d_FileMaker_putRecord_158 : decode prog_4_method_3_code 158 = .ok (.aload_n 0, 1) := by decide +kernel
theorem d_FileMaker_putRecord_159 : decode prog_4_method_3_code 159 = .ok (.getfield 14, 3) := by decide +kernel
theorem d_FileMaker_putRecord_162 : decode prog_4_method_3_code 162 = .ok (.aload_n 1, 1) := by decide +kernel
theorem d_FileMaker_putRecord_163 : decode prog_4_method_3_code 163 = .ok (.getfield 76, 3) := by decide +kernel
theorem d_FileMaker_putRecord_166 : decode prog_4_method_3_code 166 = .ok (.iload_n 2, 1) := by decide +kernel
theorem d_FileMaker_putRecord_167 : decode prog_4_method_3_code 167 = .ok (.iaload, 1) := by decide +kernel
theorem d_FileMaker_putRecord_168 : decode prog_4_method_3_code 168 = .ok (.invokevirtual 69, 3) := by decide +kernel
theorem d_FileMaker_putRecord_171 : decode prog_4_method_3_code 171 = .ok (.aload_n 0, 1) := by decide +kernel
theorem d_FileMaker_putRecord_172 : decode prog_4_method_3_code 172 = .ok (.getfield 14, 3) := by decide +kernel
theorem d_FileMaker_putRecord_175 : decode prog_4_method_3_code 175 = .ok (.iconst 0, 1) := by decide +kernel
theorem d_FileMaker_putRecord_176 : decode prog_4_method_3_code 176 = .ok (.invokevirtual 69, 3) := by decide +kernel
theorem d_FileMaker_putRecord_179 : decode prog_4_method_3_code 179 = .ok (.aload_n 0, 1) := by decide +kernel
theorem d_FileMaker_putRecord_180 : decode prog_4_method_3_code 180 = .ok (.getfield 14, 3) := by decide +kernel
theorem d_FileMaker_putRecord_183 : decode prog_4_method_3_code 183 = .ok (.aload_n 1, 1) := by decide +kernel
theorem d_FileMaker_putRecord_184 : decode prog_4_method_3_code 184 = .ok (.getfield 79, 3) := by decide +kernel
theorem d_FileMaker_putRecord_187 : decode prog_4_method_3_code 187 = .ok (.bipush 24, 2) := by decide +kernel
theorem d_FileMaker_putRecord_189 : decode prog_4_method_3_code 189 = .ok (.iload_n 2, 1) := by decide +kernel
theorem d_FileMaker_putRecord_190 : decode prog_4_method_3_code 190 = .ok (.imul, 1) := by decide +kernel
theorem d_FileMaker_putRecord_191 : decode prog_4_method_3_code 191 = .ok (.aload_n 1, 1) := by decide +kernel
theorem d_FileMaker_putRecord_192 : decode prog_4_method_3_code 192 = .ok (.getfield 76, 3) := by decide +kernel
theorem d_FileMaker_putRecord_195 : decode prog_4_method_3_code 195 = .ok (.iload_n 2, 1) := by decide +kernel
theorem d_FileMaker_putRecord_196 : decode prog_4_method_3_code 196 = .ok (.iaload, 1) := by decide +kernel
theorem d_FileMaker_putRecord_197 : decode prog_4_method_3_code 197 = .ok (.invokevirtual 82, 3) := by decide +kernel
theorem d_FileMaker_putRecord_200 : decode prog_4_method_3_code 200 = .ok (.iload 6, 2) := by decide +kernel
theorem d_FileMaker_putRecord_202 : decode prog_4_method_3_code 202 = .ok (.ifCond .eq 28, 3) := by decide +kernel
theorem d_FileMaker_putRecord_230 : decode prog_4_method_3_code 230 = .ok (.aload_n 0, 1) := by decide +kernel
theorem d_FileMaker_putRecord_231 : decode prog_4_method_3_code 231 = .ok (.getfield 14, 3) := by decide +kernel
theorem d_FileMaker_putRecord_234 : decode prog_4_method_3_code 234 = .ok (.aload_n 1, 1) := by decide +kernel
theorem d_FileMaker_putRecord_235 : decode prog_4_method_3_code 235 = .ok (.getfield 52, 3) := by decide +kernel
theorem d_FileMaker_putRecord_238 : decode prog_4_method_3_code 238 = .ok (.iload 4, 2) := by decide +kernel
theorem d_FileMaker_putRecord_240 : decode prog_4_method_3_code 240 = .ok (.iload 5, 2) := by decide +kernel
theorem d_FileMaker_putRecord_242 : decode prog_4_method_3_code 242 = .ok (.invokevirtual 82, 3) := by decide +kernel
theorem d_FileMaker_putRecord_245 : decode prog_4_method_3_code 245 = .ok (.return_, 1) := by decide +kernel
theorem d_FileMaker_putRecord_39 : decode prog_4_method_3_code 39 = .ok (.iconst 1, 1) := by decide +kernel
theorem d_FileMaker_putRecord_40 : decode prog_4_method_3_code 40 = .ok (.goto 4, 3) := by decide +kernel
theorem d_FileMaker_putRecord_81 : decode prog_4_method_3_code 81 = .ok (.bipush 8, 2) := by decide +kernel
theorem d_FileMaker_putRecord_83 : decode prog_4_method_3_code 83 = .ok (.goto 4, 3) := by decide +kernel
theorem d_FileMaker_putRecord_134 : decode prog_4_method_3_code 134 = .ok (.aload_n 3, 1) := by decide +kernel
theorem d_FileMaker_putRecord_135 : decode prog_4_method_3_code 135 = .ok (.getfield 62, 3) := by decide +kernel
theorem d_FileMaker_putRecord_138 : decode prog_4_method_3_code 138 = .ok (.getfield 24, 3) := by decide +kernel
theorem d_FileMaker_putRecord_141 : decode prog_4_method_3_code 141 = .ok (.goto 5, 3) := by decide +kernel
theorem d_FileMaker_putRecord_205 : decode prog_4_method_3_code 205 = .ok (.aload_n 0, 1) := by decide +kernel
theorem d_FileMaker_putRecord_206 : decode prog_4_method_3_code 206 = .ok (.getfield 14, 3) := by decide +kernel
theorem d_FileMaker_putRecord_209 : decode prog_4_method_3_code 209 = .ok (.aload_n 3, 1) := by decide +kernel
theorem d_FileMaker_putRecord_210 : decode prog_4_method_3_code 210 = .ok (.getfield 62, 3) := by decide +kernel
theorem d_FileMaker_putRecord_213 : decode prog_4_method_3_code 213 = .ok (.getfield 85, 3) := by decide +kernel
theorem d_FileMaker_putRecord_216 : decode prog_4_method_3_code 216 = .ok (.iconst 0, 1) := by decide +kernel
theorem d_FileMaker_putRecord_217 : decode prog_4_method_3_code 217 = .ok (.aload_n 3, 1) := by decide +kernel
theorem d_FileMaker_putRecord_218 : decode prog_4_method_3_code 218 = .ok (.getfield 62, 3) := by decide +kernel
theorem d_FileMaker_putRecord_221 : decode prog_4_method_3_code 221 = .ok (.getfield 24, 3) := by decide +kernel
theorem d_FileMaker_putRecord_224 : decode prog_4_method_3_code 224 = .ok (.invokevirtual 82, 3) := by decide +kernel
theorem d_FileMaker_putRecord_227 : decode prog_4_method_3_code 227 = .ok (.goto 18, 3) := by decide +kernel
abbrev y_FileMaker_putRecord : MethodName := ⟨"PackageBook$FileMaker", "putRecord", "(LPackageBook$Shelf;ILPackageBook$Presser;)V"⟩
abbrev i_FileMaker_putRecord : pb_I := (y_FileMaker_putRecord, prog_4_method_3_code, 7, (Option.none : Option Jvm.ClassFile.FieldType), [], { frames := 4, cells := 0, slots := 0, locals := 91 })
set_option maxRecDepth 100000 in
set_option maxHeartbeats 4000000 in
theorem g_Mk_putRecord {l : Launch} (hl : l.stackTraces = false) (G : pb_G) (h : Nat) (mm : Nat) (mr : Nat) (mb : Nat) (f : Nat → Int32) (s : Int32) (sp : Nat) (tn : Nat) (tz : Nat) (tb : Nat) (tg : Nat) (c : Int32) (tfn : Nat → Int32) (tfz : Nat → Int32) (tfb : Nat → Int32) (tfg : Nat → Int32) (q : Nat) (pp : Nat) (pl : Nat) (pe : Nat) (pr : Nat) (pb : Nat) (bg : Int32) (sz : Int32) (bt : Int32) (ln : Int32) (ds : Int32) (ps : Int32) (pf : Nat → Int32) (fl : Nat → Int32) (fe : Nat → Int32) (i : Int32) (I : sh_I c.toInt tfz tfg) (h0 : 0 ≤ s.toInt) (h1 : s.toInt + 54 + (gx tfg (i.toInt + 1) - gx tfg i.toInt) ≤ 14006) (h2 : 0 ≤ i.toInt) (h3 : i.toInt < c.toInt) (F_f : sb_Fit f) (F_tfn : sb_Fit tfn) (F_tfb : sb_Fit tfb) (F_pf : sb_Fit pf) : Cn l G i_FileMaker_putRecord [.ref h, .ref sp, .int i, .ref q] [(h, .inr (6, [.ref mm, .ref mr])), (mm, .inr (0, [.ref mb, .int s])), (mb, .inl (G.2.1, 14006, .inl f)), (sp, .inr (3, [.ref tn, .ref tz, .ref tb, .ref tg, .int c])), (tn, .inl (G.2.1, 384, .inl tfn)), (tz, .inl (G.2.2.1, 16, .inl tfz)), (tb, .inl (G.2.1, 12000, .inl tfb)), (tg, .inl (G.2.2.1, 17, .inl tfg)), (q, .inr (4, [.ref pp, .ref pl, .ref pe, .ref pr, .int bg, .int sz, .int bt, .int ln, .int ds])), (pp, .inr (0, [.ref pb, .int ps])), (pb, .inl (G.2.1, 4502, .inl pf)), (pl, .inl (G.2.2.1, 1024, .inl fl)), (pe, .inl (G.2.2.1, 4000, .inl fe))] (S := Int32 × (Nat → Int32) × Nat × Int32 × Int32 × Int32 × Int32 × Int32 × Int32 × (Nat → Int32) × (Nat → Int32) × (Nat → Int32)) (fun rv_ u => rv_ = none ∧ (s.toInt ≤ u.1.toInt) ∧ (u.1.toInt ≤ s.toInt + 54 + (gx tfg (i.toInt + 1) - gx tfg i.toInt)) ∧ (sb_Fit u.2.1) ∧ (sb_Fit u.2.2.2.2.2.2.2.2.2.1)) (fun u => [(h, .inr (6, [.ref mm, .ref mr])), (mm, .inr (0, [.ref mb, .int u.1])), (mb, .inl (G.2.1, 14006, .inl u.2.1)), (sp, .inr (3, [.ref tn, .ref tz, .ref tb, .ref tg, .int c])), (tn, .inl (G.2.1, 384, .inl tfn)), (tz, .inl (G.2.2.1, 16, .inl tfz)), (tb, .inl (G.2.1, 12000, .inl tfb)), (tg, .inl (G.2.2.1, 17, .inl tfg)), (q, .inr (4, [.ref pp, .ref pl, .ref pe, .ref u.2.2.1, .int u.2.2.2.1, .int u.2.2.2.2.1, .int u.2.2.2.2.2.1, .int u.2.2.2.2.2.2.1, .int u.2.2.2.2.2.2.2.1])), (pp, .inr (0, [.ref pb, .int u.2.2.2.2.2.2.2.2.1])), (pb, .inl (G.2.1, 4502, .inl u.2.2.2.2.2.2.2.2.2.1)), (pl, .inl (G.2.2.1, 1024, .inl u.2.2.2.2.2.2.2.2.2.2.1)), (pe, .inl (G.2.2.1, 4000, .inl u.2.2.2.2.2.2.2.2.2.2.2))]) := by
  refine Cn.of hl (by decide +kernel) rfl (Nat.le_of_ble_eq_true rfl) (fun M hQ => ?_)
  refine pb_eq (pc' := 0) (lo' := [(0, .ref h), (1, .ref sp), (2, .int i), (3, .ref q)]) (rest' := []) (ws' := [(h, .inr (6, [.ref mm, .ref mr])), (mm, .inr (0, [.ref mb, .int s])), (mb, .inl (G.2.1, 14006, .inl f)), (sp, .inr (3, [.ref tn, .ref tz, .ref tb, .ref tg, .int c])), (tn, .inl (G.2.1, 384, .inl tfn)), (tz, .inl (G.2.2.1, 16, .inl tfz)), (tb, .inl (G.2.1, 12000, .inl tfb)), (tg, .inl (G.2.2.1, 17, .inl tfg)), (q, .inr (4, [.ref pp, .ref pl, .ref pe, .ref pr, .int bg, .int sz, .int bt, .int ln, .int ds])), (pp, .inr (0, [.ref pb, .int ps])), (pb, .inl (G.2.1, 4502, .inl pf)), (pl, .inl (G.2.2.1, 1024, .inl fl)), (pe, .inl (G.2.2.1, 4000, .inl fe))]) ?_
  have zl0 : (0 : Int32).toInt = 0 := by decide
  have zl1 : (1 : Int32).toInt = 1 := by decide
  have zl8 : (8 : Int32).toInt = 8 := by decide
  have zl20 : (20 : Int32).toInt = 20 := by decide
  have zl24 : (24 : Int32).toInt = 24 := by decide
  have zl33 : (33 : Int32).toInt = 33 := by decide
  have p2 := I.2.1
  have p5 := I.2.2.2.2 i.toInt (by omega) (by omega)
  have p6 := sh_rng I (k := i.toInt) (by omega) (by omega)
  have p7 := sh_rng I (k := i.toInt + 1) (by omega) (by omega)
  refine pb_aload_n (pc := 0) d_FileMaker_putRecord_0 1 rfl rfl ?_
  refine pb_getN (pc := 1) d_FileMaker_putRecord_1 3 3 rfl rfl (by decide) in_Shelf k_401 rfl ?_
  refine pb_iload_n (pc := 4) d_FileMaker_putRecord_4 2 rfl rfl ?_
  refine pb_iald (pc := 5) d_FileMaker_putRecord_5 7 rfl (vp_in_iff.mpr (by constructor <;> omega)) ?_
  refine pb_topi (fun i1 ei1 => ?_)
  have ti1 : i1.toInt = gx tfg (i.toInt) := gx_ld ei1 rfl
  refine pb_istore (pc := 6) (lo' := [(4, .int i1), (0, .ref h), (1, .ref sp), (2, .int i), (3, .ref q)]) d_FileMaker_putRecord_6 (by decide) rfl ?_
  refine pb_aload_n (pc := 8) d_FileMaker_putRecord_8 2 rfl rfl ?_
  refine pb_iload_n (pc := 9) d_FileMaker_putRecord_9 3 rfl rfl ?_
  refine pb_callV (pc := 10) (I := i_FileMaker_putRecord) (qb := 3) (ci := 3) (nA := 1) (rest := []) (wr := [(h, .inr (6, [.ref mm, .ref mr])), (mm, .inr (0, [.ref mb, .int s])), (mb, .inl (G.2.1, 14006, .inl f)), (tn, .inl (G.2.1, 384, .inl tfn)), (tz, .inl (G.2.2.1, 16, .inl tfz)), (tb, .inl (G.2.1, 12000, .inl tfb)), (q, .inr (4, [.ref pp, .ref pl, .ref pe, .ref pr, .int bg, .int sz, .int bt, .int ln, .int ds])), (pp, .inr (0, [.ref pb, .int ps])), (pb, .inl (G.2.1, 4502, .inl pf)), (pl, .inl (G.2.2.1, 1024, .inl fl)), (pe, .inl (G.2.2.1, 4000, .inl fe))]) d_FileMaker_putRecord_10 (g_Shelf_sizeOf hl G sp tn tz tb tg c tfz tfg i (by first | assumption | omega (splitDisjunctions := false) | omega | decide) (by first | assumption | omega (splitDisjunctions := false) | omega | decide) (by first | assumption | omega (splitDisjunctions := false) | omega | decide)) rfl rfl [3, 7] [0, 1, 2, 4, 5, 6, 8, 9, 10, 11, 12] (by decide) rfl rfl rfl (by decide) (by decide) k_477 rfl k_127 k_497 k_475 k_476 ⟨rfl, hy_Shelf_sizeOf⟩ (by decide) rfl rfl (Nat.le_of_ble_eq_true rfl) (by decide) (fun v9 u3 ch2 => ?_)
  obtain ⟨r_4, rfl⟩ : ∃ z9, z9 = u3 := ⟨_, rfl⟩
  obtain ⟨ech2, ch2⟩ := ch2
  have ech2 : v9 = some (.int r_4) := ech2
  subst ech2
  obtain ⟨fh5, fh6, fh7⟩ : (r_4.toInt = gx tfg (i.toInt + 1) - gx tfg i.toInt) ∧ (0 ≤ r_4.toInt) ∧ (r_4.toInt ≤ 4000) := ch2
  refine pb_eq (pc' := 13) (lo' := [(4, .int i1), (0, .ref h), (1, .ref sp), (2, .int i), (3, .ref q)]) (rest' := [.int r_4]) (ws' := [(h, .inr (6, [.ref mm, .ref mr])), (mm, .inr (0, [.ref mb, .int s])), (mb, .inl (G.2.1, 14006, .inl f)), (tn, .inl (G.2.1, 384, .inl tfn)), (tz, .inl (G.2.2.1, 16, .inl tfz)), (tb, .inl (G.2.1, 12000, .inl tfb)), (q, .inr (4, [.ref pp, .ref pl, .ref pe, .ref pr, .int bg, .int sz, .int bt, .int ln, .int ds])), (pp, .inr (0, [.ref pb, .int ps])), (pb, .inl (G.2.1, 4502, .inl pf)), (pl, .inl (G.2.2.1, 1024, .inl fl)), (pe, .inl (G.2.2.1, 4000, .inl fe)), (sp, .inr (3, [.ref tn, .ref tz, .ref tb, .ref tg, .int c])), (tg, .inl (G.2.2.1, 17, .inl tfg))]) ?_
  refine pb_istore (pc := 13) (lo' := [(5, .int r_4), (4, .int i1), (0, .ref h), (1, .ref sp), (2, .int i), (3, .ref q)]) d_FileMaker_putRecord_13 (by decide) rfl ?_
  refine pb_aload_n (pc := 15) d_FileMaker_putRecord_15 5 rfl rfl ?_
  refine pb_aload_n (pc := 16) d_FileMaker_putRecord_16 3 rfl rfl ?_
  refine pb_getN (pc := 17) d_FileMaker_putRecord_17 11 2 rfl rfl (by decide) in_Shelf k_397 rfl ?_
  refine pb_iload (pc := 20) d_FileMaker_putRecord_20 1 rfl ?_
  refine pb_iload (pc := 22) d_FileMaker_putRecord_22 0 rfl ?_
  refine pb_callV (pc := 24) (I := i_FileMaker_putRecord) (qb := 6) (ci := 4) (nA := 3) (rest := []) (wr := [(h, .inr (6, [.ref mm, .ref mr])), (mm, .inr (0, [.ref mb, .int s])), (mb, .inl (G.2.1, 14006, .inl f)), (tn, .inl (G.2.1, 384, .inl tfn)), (tz, .inl (G.2.2.1, 16, .inl tfz)), (sp, .inr (3, [.ref tn, .ref tz, .ref tb, .ref tg, .int c])), (tg, .inl (G.2.2.1, 17, .inl tfg))]) d_FileMaker_putRecord_24 (g_Pr_run hl G q pp pl pe pr pb bg sz bt ln ds tb 12000 pf tfb fl fe ps i1 r_4 (by first | assumption | omega (splitDisjunctions := false) | omega | decide) (by first | assumption | omega (splitDisjunctions := false) | omega | decide) (by first | assumption | omega (splitDisjunctions := false) | omega | decide) (by first | assumption | omega (splitDisjunctions := false) | omega | decide) (by first | assumption | omega (splitDisjunctions := false) | omega | decide) F_pf F_tfb) rfl rfl [6, 7, 8, 9, 10, 5] [0, 1, 2, 3, 4, 11, 12] (by decide) rfl rfl rfl (by decide) (by decide) k_501 rfl k_120 k_498 k_499 k_500 ⟨rfl, hy_Presser_run⟩ (by decide) rfl rfl (Nat.le_of_ble_eq_true rfl) (by decide) (fun v9 u9 ch8 => ?_)
  obtain ⟨b_10, l_11, d_12, p_13, f_14, fl_15, fe_16⟩ := u9
  obtain ⟨ech8, ch8⟩ := ch8
  have ech8 : v9 = none := ech8
  subst ech8
  obtain ⟨fh17, fh18, fh19, fh20, fh21⟩ : (0 ≤ p_13.toInt) ∧ (p_13.toInt ≤ 4502) ∧ (pt_F (sq tfb i1.toInt r_4.toInt) r_4.toInt p_13.toInt) ∧ (pF_ (sq tfb i1.toInt r_4.toInt) r_4.toInt f_14 p_13.toInt) ∧ (sb_Fit f_14) := ch8
  refine pb_eq (pc' := 27) (lo' := [(5, .int r_4), (4, .int i1), (0, .ref h), (1, .ref sp), (2, .int i), (3, .ref q)]) (rest' := []) (ws' := [(h, .inr (6, [.ref mm, .ref mr])), (mm, .inr (0, [.ref mb, .int s])), (mb, .inl (G.2.1, 14006, .inl f)), (tn, .inl (G.2.1, 384, .inl tfn)), (tz, .inl (G.2.2.1, 16, .inl tfz)), (sp, .inr (3, [.ref tn, .ref tz, .ref tb, .ref tg, .int c])), (tg, .inl (G.2.2.1, 17, .inl tfg)), (q, .inr (4, [.ref pp, .ref pl, .ref pe, .ref tb, .int i1, .int r_4, .int b_10, .int l_11, .int d_12])), (pp, .inr (0, [.ref pb, .int p_13])), (pb, .inl (G.2.1, 4502, .inl f_14)), (pl, .inl (G.2.2.1, 1024, .inl fl_15)), (pe, .inl (G.2.2.1, 4000, .inl fe_16)), (tb, .inl (G.2.1, 12000, .inl tfb))]) ?_
  refine pb_aload_n (pc := 27) d_FileMaker_putRecord_27 5 rfl rfl ?_
  refine pb_getN (pc := 28) d_FileMaker_putRecord_28 7 0 rfl rfl (by decide) in_Presser k_182 rfl ?_
  refine pb_getN (pc := 31) d_FileMaker_putRecord_31 8 1 rfl rfl (by decide) in_Row k_163 rfl ?_
  refine pb_iload (pc := 34) d_FileMaker_putRecord_34 0 rfl ?_
  refine pb_icmp_ge (pc := 36) (tgt := 43) d_FileMaker_putRecord_36 (by decide) (fun w22 => ?_) (fun w22 => ?_)
  · have tw22 : r_4.toInt ≤ p_13.toInt := (ti_le rfl rfl).mp w22
    refine pb_iconst (pc := 43) (v := 0) d_FileMaker_putRecord_43 (by decide) ?_
    refine pb_istore (pc := 44) (lo' := [(6, .int 0), (5, .int r_4), (4, .int i1), (0, .ref h), (1, .ref sp), (2, .int i), (3, .ref q)]) d_FileMaker_putRecord_44 (by decide) rfl ?_
    refine pb_aload_n (pc := 46) d_FileMaker_putRecord_46 3 rfl rfl ?_
    refine pb_get (pc := 47) d_FileMaker_putRecord_47 0 0 rfl rfl (by decide) in_FileMaker k_292 rfl ?_
    refine pb_ldc (pc := 50) (v := 67324752) d_FileMaker_putRecord_50 k_543 ?_
    refine pb_callV (pc := 52) (I := i_FileMaker_putRecord) (qb := 1) (ci := 0) (nA := 1) (rest := []) (wr := [(h, .inr (6, [.ref mm, .ref mr])), (tn, .inl (G.2.1, 384, .inl tfn)), (tz, .inl (G.2.2.1, 16, .inl tfz)), (sp, .inr (3, [.ref tn, .ref tz, .ref tb, .ref tg, .int c])), (tg, .inl (G.2.2.1, 17, .inl tfg)), (q, .inr (4, [.ref pp, .ref pl, .ref pe, .ref tb, .int i1, .int r_4, .int b_10, .int l_11, .int d_12])), (pp, .inr (0, [.ref pb, .int p_13])), (pb, .inl (G.2.1, 4502, .inl f_14)), (pl, .inl (G.2.2.1, 1024, .inl fl_15)), (pe, .inl (G.2.2.1, 4000, .inl fe_16)), (tb, .inl (G.2.1, 12000, .inl tfb))]) d_FileMaker_putRecord_52 (g_Row_putFour hl G mm mb 14006 f s 67324752 (by first | assumption | omega (splitDisjunctions := false) | omega | decide) (by first | assumption | omega (splitDisjunctions := false) | omega | decide) (by first | assumption | omega (splitDisjunctions := false) | omega | decide) F_f) rfl rfl [1, 2] [0, 3, 4, 5, 6, 7, 8, 9, 10, 11, 12] (by decide) rfl rfl rfl (by decide) (by decide) k_547 rfl k_119 k_544 k_545 k_546 ⟨rfl, hy_Row_putFour⟩ (by decide) rfl rfl (Nat.le_of_ble_eq_true rfl) (by decide) (fun v9 u24 ch23 => ?_)
    obtain ⟨s_25, f_26⟩ := u24
    obtain ⟨ech23, ch23⟩ := ch23
    have ech23 : v9 = none := ech23
    subst ech23
    obtain ⟨fh27, fh28⟩ : (s_25.toInt = s.toInt + 4) ∧ (sb_Fit f_26) := ch23
    refine pb_eq (pc' := 55) (lo' := [(6, .int 0), (5, .int r_4), (4, .int i1), (0, .ref h), (1, .ref sp), (2, .int i), (3, .ref q)]) (rest' := []) (ws' := [(h, .inr (6, [.ref mm, .ref mr])), (tn, .inl (G.2.1, 384, .inl tfn)), (tz, .inl (G.2.2.1, 16, .inl tfz)), (sp, .inr (3, [.ref tn, .ref tz, .ref tb, .ref tg, .int c])), (tg, .inl (G.2.2.1, 17, .inl tfg)), (q, .inr (4, [.ref pp, .ref pl, .ref pe, .ref tb, .int i1, .int r_4, .int b_10, .int l_11, .int d_12])), (pp, .inr (0, [.ref pb, .int p_13])), (pb, .inl (G.2.1, 4502, .inl f_14)), (pl, .inl (G.2.2.1, 1024, .inl fl_15)), (pe, .inl (G.2.2.1, 4000, .inl fe_16)), (tb, .inl (G.2.1, 12000, .inl tfb)), (mm, .inr (0, [.ref mb, .int s_25])), (mb, .inl (G.2.1, 14006, .inl f_26))]) ?_
    refine pb_aload_n (pc := 55) d_FileMaker_putRecord_55 3 rfl rfl ?_
    refine pb_get (pc := 56) d_FileMaker_putRecord_56 0 0 rfl rfl (by decide) in_FileMaker k_292 rfl ?_
    refine pb_bipush (pc := 59) (v := 20) d_FileMaker_putRecord_59 (by decide) ?_
    refine pb_callV (pc := 61) (I := i_FileMaker_putRecord) (qb := 11) (ci := 0) (nA := 1) (rest := []) (wr := [(h, .inr (6, [.ref mm, .ref mr])), (tn, .inl (G.2.1, 384, .inl tfn)), (tz, .inl (G.2.2.1, 16, .inl tfz)), (sp, .inr (3, [.ref tn, .ref tz, .ref tb, .ref tg, .int c])), (tg, .inl (G.2.2.1, 17, .inl tfg)), (q, .inr (4, [.ref pp, .ref pl, .ref pe, .ref tb, .int i1, .int r_4, .int b_10, .int l_11, .int d_12])), (pp, .inr (0, [.ref pb, .int p_13])), (pb, .inl (G.2.1, 4502, .inl f_14)), (pl, .inl (G.2.2.1, 1024, .inl fl_15)), (pe, .inl (G.2.2.1, 4000, .inl fe_16)), (tb, .inl (G.2.1, 12000, .inl tfb))]) d_FileMaker_putRecord_61 (g_Row_putTwo hl G mm mb 14006 f_26 s_25 20 (by first | assumption | omega (splitDisjunctions := false) | omega | decide) (by first | assumption | omega (splitDisjunctions := false) | omega | decide) (by first | assumption | omega (splitDisjunctions := false) | omega | decide) fh28) rfl rfl [11, 12] [0, 1, 2, 3, 4, 5, 6, 7, 8, 9, 10] (by decide) rfl rfl rfl (by decide) (by decide) k_551 rfl k_119 k_556 k_549 k_550 ⟨rfl, hy_Row_putTwo⟩ (by decide) rfl rfl (Nat.le_of_ble_eq_true rfl) (by decide) (fun v9 u30 ch29 => ?_)
    obtain ⟨s_31, f_32⟩ := u30
    obtain ⟨ech29, ch29⟩ := ch29
    have ech29 : v9 = none := ech29
    subst ech29
    obtain ⟨fh33, fh34⟩ : (s_31.toInt = s_25.toInt + 2) ∧ (sb_Fit f_32) := ch29
    refine pb_eq (pc' := 64) (lo' := [(6, .int 0), (5, .int r_4), (4, .int i1), (0, .ref h), (1, .ref sp), (2, .int i), (3, .ref q)]) (rest' := []) (ws' := [(h, .inr (6, [.ref mm, .ref mr])), (tn, .inl (G.2.1, 384, .inl tfn)), (tz, .inl (G.2.2.1, 16, .inl tfz)), (sp, .inr (3, [.ref tn, .ref tz, .ref tb, .ref tg, .int c])), (tg, .inl (G.2.2.1, 17, .inl tfg)), (q, .inr (4, [.ref pp, .ref pl, .ref pe, .ref tb, .int i1, .int r_4, .int b_10, .int l_11, .int d_12])), (pp, .inr (0, [.ref pb, .int p_13])), (pb, .inl (G.2.1, 4502, .inl f_14)), (pl, .inl (G.2.2.1, 1024, .inl fl_15)), (pe, .inl (G.2.2.1, 4000, .inl fe_16)), (tb, .inl (G.2.1, 12000, .inl tfb)), (mm, .inr (0, [.ref mb, .int s_31])), (mb, .inl (G.2.1, 14006, .inl f_32))]) ?_
    refine pb_aload_n (pc := 64) d_FileMaker_putRecord_64 3 rfl rfl ?_
    refine pb_get (pc := 65) d_FileMaker_putRecord_65 0 0 rfl rfl (by decide) in_FileMaker k_292 rfl ?_
    refine pb_iconst (pc := 68) (v := 0) d_FileMaker_putRecord_68 (by decide) ?_
    refine pb_callV (pc := 69) (I := i_FileMaker_putRecord) (qb := 11) (ci := 0) (nA := 1) (rest := []) (wr := [(h, .inr (6, [.ref mm, .ref mr])), (tn, .inl (G.2.1, 384, .inl tfn)), (tz, .inl (G.2.2.1, 16, .inl tfz)), (sp, .inr (3, [.ref tn, .ref tz, .ref tb, .ref tg, .int c])), (tg, .inl (G.2.2.1, 17, .inl tfg)), (q, .inr (4, [.ref pp, .ref pl, .ref pe, .ref tb, .int i1, .int r_4, .int b_10, .int l_11, .int d_12])), (pp, .inr (0, [.ref pb, .int p_13])), (pb, .inl (G.2.1, 4502, .inl f_14)), (pl, .inl (G.2.2.1, 1024, .inl fl_15)), (pe, .inl (G.2.2.1, 4000, .inl fe_16)), (tb, .inl (G.2.1, 12000, .inl tfb))]) d_FileMaker_putRecord_69 (g_Row_putTwo hl G mm mb 14006 f_32 s_31 0 (by first | assumption | omega (splitDisjunctions := false) | omega | decide) (by first | assumption | omega (splitDisjunctions := false) | omega | decide) (by first | assumption | omega (splitDisjunctions := false) | omega | decide) fh34) rfl rfl [11, 12] [0, 1, 2, 3, 4, 5, 6, 7, 8, 9, 10] (by decide) rfl rfl rfl (by decide) (by decide) k_551 rfl k_119 k_556 k_549 k_550 ⟨rfl, hy_Row_putTwo⟩ (by decide) rfl rfl (Nat.le_of_ble_eq_true rfl) (by decide) (fun v9 u36 ch35 => ?_)
    obtain ⟨s_37, f_38⟩ := u36
    obtain ⟨ech35, ch35⟩ := ch35
    have ech35 : v9 = none := ech35
    subst ech35
    obtain ⟨fh39, fh40⟩ : (s_37.toInt = s_31.toInt + 2) ∧ (sb_Fit f_38) := ch35
    refine pb_eq (pc' := 72) (lo' := [(6, .int 0), (5, .int r_4), (4, .int i1), (0, .ref h), (1, .ref sp), (2, .int i), (3, .ref q)]) (rest' := []) (ws' := [(h, .inr (6, [.ref mm, .ref mr])), (tn, .inl (G.2.1, 384, .inl tfn)), (tz, .inl (G.2.2.1, 16, .inl tfz)), (sp, .inr (3, [.ref tn, .ref tz, .ref tb, .ref tg, .int c])), (tg, .inl (G.2.2.1, 17, .inl tfg)), (q, .inr (4, [.ref pp, .ref pl, .ref pe, .ref tb, .int i1, .int r_4, .int b_10, .int l_11, .int d_12])), (pp, .inr (0, [.ref pb, .int p_13])), (pb, .inl (G.2.1, 4502, .inl f_14)), (pl, .inl (G.2.2.1, 1024, .inl fl_15)), (pe, .inl (G.2.2.1, 4000, .inl fe_16)), (tb, .inl (G.2.1, 12000, .inl tfb)), (mm, .inr (0, [.ref mb, .int s_37])), (mb, .inl (G.2.1, 14006, .inl f_38))]) ?_
    refine pb_aload_n (pc := 72) d_FileMaker_putRecord_72 3 rfl rfl ?_
    refine pb_get (pc := 73) d_FileMaker_putRecord_73 0 0 rfl rfl (by decide) in_FileMaker k_292 rfl ?_
    refine pb_iload (pc := 76) d_FileMaker_putRecord_76 0 rfl ?_
    refine pb_if_eq (pc := 78) (tgt := 86) d_FileMaker_putRecord_78 (by decide) (fun _ => ?_) (fun h9 => absurd h9 (by decide))
    refine pb_iconst (pc := 86) (v := 0) d_FileMaker_putRecord_86 (by decide) ?_
    refine pb_callV (pc := 87) (I := i_FileMaker_putRecord) (qb := 11) (ci := 0) (nA := 1) (rest := []) (wr := [(h, .inr (6, [.ref mm, .ref mr])), (tn, .inl (G.2.1, 384, .inl tfn)), (tz, .inl (G.2.2.1, 16, .inl tfz)), (sp, .inr (3, [.ref tn, .ref tz, .ref tb, .ref tg, .int c])), (tg, .inl (G.2.2.1, 17, .inl tfg)), (q, .inr (4, [.ref pp, .ref pl, .ref pe, .ref tb, .int i1, .int r_4, .int b_10, .int l_11, .int d_12])), (pp, .inr (0, [.ref pb, .int p_13])), (pb, .inl (G.2.1, 4502, .inl f_14)), (pl, .inl (G.2.2.1, 1024, .inl fl_15)), (pe, .inl (G.2.2.1, 4000, .inl fe_16)), (tb, .inl (G.2.1, 12000, .inl tfb))]) d_FileMaker_putRecord_87 (g_Row_putTwo hl G mm mb 14006 f_38 s_37 0 (by first | assumption | omega (splitDisjunctions := false) | omega | decide) (by first | assumption | omega (splitDisjunctions := false) | omega | decide) (by first | assumption | omega (splitDisjunctions := false) | omega | decide) fh40) rfl rfl [11, 12] [0, 1, 2, 3, 4, 5, 6, 7, 8, 9, 10] (by decide) rfl rfl rfl (by decide) (by decide) k_551 rfl k_119 k_556 k_549 k_550 ⟨rfl, hy_Row_putTwo⟩ (by decide) rfl rfl (Nat.le_of_ble_eq_true rfl) (by decide) (fun v9 u43 ch42 => ?_)
    obtain ⟨s_44, f_45⟩ := u43
    obtain ⟨ech42, ch42⟩ := ch42
    have ech42 : v9 = none := ech42
    subst ech42
    obtain ⟨fh46, fh47⟩ : (s_44.toInt = s_37.toInt + 2) ∧ (sb_Fit f_45) := ch42
    refine pb_eq (pc' := 90) (lo' := [(6, .int 0), (5, .int r_4), (4, .int i1), (0, .ref h), (1, .ref sp), (2, .int i), (3, .ref q)]) (rest' := []) (ws' := [(h, .inr (6, [.ref mm, .ref mr])), (tn, .inl (G.2.1, 384, .inl tfn)), (tz, .inl (G.2.2.1, 16, .inl tfz)), (sp, .inr (3, [.ref tn, .ref tz, .ref tb, .ref tg, .int c])), (tg, .inl (G.2.2.1, 17, .inl tfg)), (q, .inr (4, [.ref pp, .ref pl, .ref pe, .ref tb, .int i1, .int r_4, .int b_10, .int l_11, .int d_12])), (pp, .inr (0, [.ref pb, .int p_13])), (pb, .inl (G.2.1, 4502, .inl f_14)), (pl, .inl (G.2.2.1, 1024, .inl fl_15)), (pe, .inl (G.2.2.1, 4000, .inl fe_16)), (tb, .inl (G.2.1, 12000, .inl tfb)), (mm, .inr (0, [.ref mb, .int s_44])), (mb, .inl (G.2.1, 14006, .inl f_45))]) ?_
    refine pb_aload_n (pc := 90) d_FileMaker_putRecord_90 3 rfl rfl ?_
    refine pb_get (pc := 91) d_FileMaker_putRecord_91 0 0 rfl rfl (by decide) in_FileMaker k_292 rfl ?_
    refine pb_iconst (pc := 94) (v := 0) d_FileMaker_putRecord_94 (by decide) ?_
    refine pb_callV (pc := 95) (I := i_FileMaker_putRecord) (qb := 11) (ci := 0) (nA := 1) (rest := []) (wr := [(h, .inr (6, [.ref mm, .ref mr])), (tn, .inl (G.2.1, 384, .inl tfn)), (tz, .inl (G.2.2.1, 16, .inl tfz)), (sp, .inr (3, [.ref tn, .ref tz, .ref tb, .ref tg, .int c])), (tg, .inl (G.2.2.1, 17, .inl tfg)), (q, .inr (4, [.ref pp, .ref pl, .ref pe, .ref tb, .int i1, .int r_4, .int b_10, .int l_11, .int d_12])), (pp, .inr (0, [.ref pb, .int p_13])), (pb, .inl (G.2.1, 4502, .inl f_14)), (pl, .inl (G.2.2.1, 1024, .inl fl_15)), (pe, .inl (G.2.2.1, 4000, .inl fe_16)), (tb, .inl (G.2.1, 12000, .inl tfb))]) d_FileMaker_putRecord_95 (g_Row_putTwo hl G mm mb 14006 f_45 s_44 0 (by first | assumption | omega (splitDisjunctions := false) | omega | decide) (by first | assumption | omega (splitDisjunctions := false) | omega | decide) (by first | assumption | omega (splitDisjunctions := false) | omega | decide) fh47) rfl rfl [11, 12] [0, 1, 2, 3, 4, 5, 6, 7, 8, 9, 10] (by decide) rfl rfl rfl (by decide) (by decide) k_551 rfl k_119 k_556 k_549 k_550 ⟨rfl, hy_Row_putTwo⟩ (by decide) rfl rfl (Nat.le_of_ble_eq_true rfl) (by decide) (fun v9 u49 ch48 => ?_)
    obtain ⟨s_50, f_51⟩ := u49
    obtain ⟨ech48, ch48⟩ := ch48
    have ech48 : v9 = none := ech48
    subst ech48
    obtain ⟨fh52, fh53⟩ : (s_50.toInt = s_44.toInt + 2) ∧ (sb_Fit f_51) := ch48
    refine pb_eq (pc' := 98) (lo' := [(6, .int 0), (5, .int r_4), (4, .int i1), (0, .ref h), (1, .ref sp), (2, .int i), (3, .ref q)]) (rest' := []) (ws' := [(h, .inr (6, [.ref mm, .ref mr])), (tn, .inl (G.2.1, 384, .inl tfn)), (tz, .inl (G.2.2.1, 16, .inl tfz)), (sp, .inr (3, [.ref tn, .ref tz, .ref tb, .ref tg, .int c])), (tg, .inl (G.2.2.1, 17, .inl tfg)), (q, .inr (4, [.ref pp, .ref pl, .ref pe, .ref tb, .int i1, .int r_4, .int b_10, .int l_11, .int d_12])), (pp, .inr (0, [.ref pb, .int p_13])), (pb, .inl (G.2.1, 4502, .inl f_14)), (pl, .inl (G.2.2.1, 1024, .inl fl_15)), (pe, .inl (G.2.2.1, 4000, .inl fe_16)), (tb, .inl (G.2.1, 12000, .inl tfb)), (mm, .inr (0, [.ref mb, .int s_50])), (mb, .inl (G.2.1, 14006, .inl f_51))]) ?_
    refine pb_aload_n (pc := 98) d_FileMaker_putRecord_98 3 rfl rfl ?_
    refine pb_get (pc := 99) d_FileMaker_putRecord_99 0 0 rfl rfl (by decide) in_FileMaker k_292 rfl ?_
    refine pb_bipush (pc := 102) (v := 33) d_FileMaker_putRecord_102 (by decide) ?_
    refine pb_callV (pc := 104) (I := i_FileMaker_putRecord) (qb := 11) (ci := 0) (nA := 1) (rest := []) (wr := [(h, .inr (6, [.ref mm, .ref mr])), (tn, .inl (G.2.1, 384, .inl tfn)), (tz, .inl (G.2.2.1, 16, .inl tfz)), (sp, .inr (3, [.ref tn, .ref tz, .ref tb, .ref tg, .int c])), (tg, .inl (G.2.2.1, 17, .inl tfg)), (q, .inr (4, [.ref pp, .ref pl, .ref pe, .ref tb, .int i1, .int r_4, .int b_10, .int l_11, .int d_12])), (pp, .inr (0, [.ref pb, .int p_13])), (pb, .inl (G.2.1, 4502, .inl f_14)), (pl, .inl (G.2.2.1, 1024, .inl fl_15)), (pe, .inl (G.2.2.1, 4000, .inl fe_16)), (tb, .inl (G.2.1, 12000, .inl tfb))]) d_FileMaker_putRecord_104 (g_Row_putTwo hl G mm mb 14006 f_51 s_50 33 (by first | assumption | omega (splitDisjunctions := false) | omega | decide) (by first | assumption | omega (splitDisjunctions := false) | omega | decide) (by first | assumption | omega (splitDisjunctions := false) | omega | decide) fh53) rfl rfl [11, 12] [0, 1, 2, 3, 4, 5, 6, 7, 8, 9, 10] (by decide) rfl rfl rfl (by decide) (by decide) k_551 rfl k_119 k_556 k_549 k_550 ⟨rfl, hy_Row_putTwo⟩ (by decide) rfl rfl (Nat.le_of_ble_eq_true rfl) (by decide) (fun v9 u55 ch54 => ?_)
    obtain ⟨s_56, f_57⟩ := u55
    obtain ⟨ech54, ch54⟩ := ch54
    have ech54 : v9 = none := ech54
    subst ech54
    obtain ⟨fh58, fh59⟩ : (s_56.toInt = s_50.toInt + 2) ∧ (sb_Fit f_57) := ch54
    refine pb_eq (pc' := 107) (lo' := [(6, .int 0), (5, .int r_4), (4, .int i1), (0, .ref h), (1, .ref sp), (2, .int i), (3, .ref q)]) (rest' := []) (ws' := [(h, .inr (6, [.ref mm, .ref mr])), (tn, .inl (G.2.1, 384, .inl tfn)), (tz, .inl (G.2.2.1, 16, .inl tfz)), (sp, .inr (3, [.ref tn, .ref tz, .ref tb, .ref tg, .int c])), (tg, .inl (G.2.2.1, 17, .inl tfg)), (q, .inr (4, [.ref pp, .ref pl, .ref pe, .ref tb, .int i1, .int r_4, .int b_10, .int l_11, .int d_12])), (pp, .inr (0, [.ref pb, .int p_13])), (pb, .inl (G.2.1, 4502, .inl f_14)), (pl, .inl (G.2.2.1, 1024, .inl fl_15)), (pe, .inl (G.2.2.1, 4000, .inl fe_16)), (tb, .inl (G.2.1, 12000, .inl tfb)), (mm, .inr (0, [.ref mb, .int s_56])), (mb, .inl (G.2.1, 14006, .inl f_57))]) ?_
    refine pb_aload_n (pc := 107) d_FileMaker_putRecord_107 3 rfl rfl ?_
    refine pb_get (pc := 108) d_FileMaker_putRecord_108 0 0 rfl rfl (by decide) in_FileMaker k_292 rfl ?_
    refine pb_aload_n (pc := 111) d_FileMaker_putRecord_111 4 rfl rfl ?_
    refine pb_getN (pc := 112) d_FileMaker_putRecord_112 3 2 rfl rfl (by decide) in_Shelf k_397 rfl ?_
    refine pb_iload (pc := 115) d_FileMaker_putRecord_115 2 rfl ?_
    refine pb_iload (pc := 117) d_FileMaker_putRecord_117 1 rfl ?_
    refine pb_callSN (pc := 119) (I := i_FileMaker_putRecord) (nA := 3) (rest := [.ref mm]) (wr := [(h, .inr (6, [.ref mm, .ref mr])), (tn, .inl (G.2.1, 384, .inl tfn)), (tz, .inl (G.2.2.1, 16, .inl tfz)), (sp, .inr (3, [.ref tn, .ref tz, .ref tb, .ref tg, .int c])), (tg, .inl (G.2.2.1, 17, .inl tfg)), (q, .inr (4, [.ref pp, .ref pl, .ref pe, .ref tb, .int i1, .int r_4, .int b_10, .int l_11, .int d_12])), (pp, .inr (0, [.ref pb, .int p_13])), (pb, .inl (G.2.1, 4502, .inl f_14)), (pl, .inl (G.2.2.1, 1024, .inl fl_15)), (pe, .inl (G.2.2.1, 4000, .inl fe_16)), (mm, .inr (0, [.ref mb, .int s_56])), (mb, .inl (G.2.1, 14006, .inl f_57))]) d_FileMaker_putRecord_119 (g_sumOf hl G tb 12000 tfb i1 r_4 (by first | assumption | omega (splitDisjunctions := false) | omega | decide) (by first | assumption | omega (splitDisjunctions := false) | omega | decide) (by first | assumption | omega (splitDisjunctions := false) | omega | decide) (by first | assumption | omega (splitDisjunctions := false) | omega | decide) F_tfb) [10] [0, 1, 2, 3, 4, 5, 6, 7, 8, 9, 11, 12] (by decide) rfl rfl rfl (by decide) (by decide) k_559 rfl k_118 k_557 k_558 hy_Book_sumOf (by decide) rfl rfl (Nat.le_of_ble_eq_true rfl) (by decide) (fun v9 u61 ch60 => ?_)
    obtain ⟨r_62, rfl⟩ : ∃ z9, z9 = u61 := ⟨_, rfl⟩
    obtain ⟨ech60, ch60⟩ := ch60
    have ech60 : v9 = some (.int r_62) := ech60
    subst ech60
    have fh63 : r_62 = cr_n tfb i1.toInt r_4.toInt.toNat ^^^ (-1) := ch60
    refine pb_eq (pc' := 122) (lo' := [(6, .int 0), (5, .int r_4), (4, .int i1), (0, .ref h), (1, .ref sp), (2, .int i), (3, .ref q)]) (rest' := [.int r_62, .ref mm]) (ws' := [(h, .inr (6, [.ref mm, .ref mr])), (tn, .inl (G.2.1, 384, .inl tfn)), (tz, .inl (G.2.2.1, 16, .inl tfz)), (sp, .inr (3, [.ref tn, .ref tz, .ref tb, .ref tg, .int c])), (tg, .inl (G.2.2.1, 17, .inl tfg)), (q, .inr (4, [.ref pp, .ref pl, .ref pe, .ref tb, .int i1, .int r_4, .int b_10, .int l_11, .int d_12])), (pp, .inr (0, [.ref pb, .int p_13])), (pb, .inl (G.2.1, 4502, .inl f_14)), (pl, .inl (G.2.2.1, 1024, .inl fl_15)), (pe, .inl (G.2.2.1, 4000, .inl fe_16)), (mm, .inr (0, [.ref mb, .int s_56])), (mb, .inl (G.2.1, 14006, .inl f_57)), (tb, .inl (G.2.1, 12000, .inl tfb))]) ?_
    refine pb_callV (pc := 122) (I := i_FileMaker_putRecord) (qb := 10) (ci := 0) (nA := 1) (rest := []) (wr := [(h, .inr (6, [.ref mm, .ref mr])), (tn, .inl (G.2.1, 384, .inl tfn)), (tz, .inl (G.2.2.1, 16, .inl tfz)), (sp, .inr (3, [.ref tn, .ref tz, .ref tb, .ref tg, .int c])), (tg, .inl (G.2.2.1, 17, .inl tfg)), (q, .inr (4, [.ref pp, .ref pl, .ref pe, .ref tb, .int i1, .int r_4, .int b_10, .int l_11, .int d_12])), (pp, .inr (0, [.ref pb, .int p_13])), (pb, .inl (G.2.1, 4502, .inl f_14)), (pl, .inl (G.2.2.1, 1024, .inl fl_15)), (pe, .inl (G.2.2.1, 4000, .inl fe_16)), (tb, .inl (G.2.1, 12000, .inl tfb))]) d_FileMaker_putRecord_122 (g_Row_putFour hl G mm mb 14006 f_57 s_56 r_62 (by first | assumption | omega (splitDisjunctions := false) | omega | decide) (by first | assumption | omega (splitDisjunctions := false) | omega | decide) (by first | assumption | omega (splitDisjunctions := false) | omega | decide) fh59) rfl rfl [10, 11] [0, 1, 2, 3, 4, 5, 6, 7, 8, 9, 12] (by decide) rfl rfl rfl (by decide) (by decide) k_547 rfl k_119 k_544 k_545 k_546 ⟨rfl, hy_Row_putFour⟩ (by decide) rfl rfl (Nat.le_of_ble_eq_true rfl) (by decide) (fun v9 u65 ch64 => ?_)
    obtain ⟨s_66, f_67⟩ := u65
    obtain ⟨ech64, ch64⟩ := ch64
    have ech64 : v9 = none := ech64
    subst ech64
    obtain ⟨fh68, fh69⟩ : (s_66.toInt = s_56.toInt + 4) ∧ (sb_Fit f_67) := ch64
    refine pb_eq (pc' := 125) (lo' := [(6, .int 0), (5, .int r_4), (4, .int i1), (0, .ref h), (1, .ref sp), (2, .int i), (3, .ref q)]) (rest' := []) (ws' := [(h, .inr (6, [.ref mm, .ref mr])), (tn, .inl (G.2.1, 384, .inl tfn)), (tz, .inl (G.2.2.1, 16, .inl tfz)), (sp, .inr (3, [.ref tn, .ref tz, .ref tb, .ref tg, .int c])), (tg, .inl (G.2.2.1, 17, .inl tfg)), (q, .inr (4, [.ref pp, .ref pl, .ref pe, .ref tb, .int i1, .int r_4, .int b_10, .int l_11, .int d_12])), (pp, .inr (0, [.ref pb, .int p_13])), (pb, .inl (G.2.1, 4502, .inl f_14)), (pl, .inl (G.2.2.1, 1024, .inl fl_15)), (pe, .inl (G.2.2.1, 4000, .inl fe_16)), (tb, .inl (G.2.1, 12000, .inl tfb)), (mm, .inr (0, [.ref mb, .int s_66])), (mb, .inl (G.2.1, 14006, .inl f_67))]) ?_
    refine pb_aload_n (pc := 125) d_FileMaker_putRecord_125 3 rfl rfl ?_
    refine pb_get (pc := 126) d_FileMaker_putRecord_126 0 0 rfl rfl (by decide) in_FileMaker k_292 rfl ?_
    refine pb_iload (pc := 129) d_FileMaker_putRecord_129 0 rfl ?_
    refine pb_if_eq (pc := 131) (tgt := 144) d_FileMaker_putRecord_131 (by decide) (fun _ => ?_) (fun h9 => absurd h9 (by decide))
    refine pb_iload (pc := 144) d_FileMaker_putRecord_144 1 rfl ?_
    refine pb_callV (pc := 146) (I := i_FileMaker_putRecord) (qb := 11) (ci := 0) (nA := 1) (rest := []) (wr := [(h, .inr (6, [.ref mm, .ref mr])), (tn, .inl (G.2.1, 384, .inl tfn)), (tz, .inl (G.2.2.1, 16, .inl tfz)), (sp, .inr (3, [.ref tn, .ref tz, .ref tb, .ref tg, .int c])), (tg, .inl (G.2.2.1, 17, .inl tfg)), (q, .inr (4, [.ref pp, .ref pl, .ref pe, .ref tb, .int i1, .int r_4, .int b_10, .int l_11, .int d_12])), (pp, .inr (0, [.ref pb, .int p_13])), (pb, .inl (G.2.1, 4502, .inl f_14)), (pl, .inl (G.2.2.1, 1024, .inl fl_15)), (pe, .inl (G.2.2.1, 4000, .inl fe_16)), (tb, .inl (G.2.1, 12000, .inl tfb))]) d_FileMaker_putRecord_146 (g_Row_putFour hl G mm mb 14006 f_67 s_66 r_4 (by first | assumption | omega (splitDisjunctions := false) | omega | decide) (by first | assumption | omega (splitDisjunctions := false) | omega | decide) (by first | assumption | omega (splitDisjunctions := false) | omega | decide) fh69) rfl rfl [11, 12] [0, 1, 2, 3, 4, 5, 6, 7, 8, 9, 10] (by decide) rfl rfl rfl (by decide) (by decide) k_547 rfl k_119 k_544 k_545 k_546 ⟨rfl, hy_Row_putFour⟩ (by decide) rfl rfl (Nat.le_of_ble_eq_true rfl) (by decide) (fun v9 u72 ch71 => ?_)
    obtain ⟨s_73, f_74⟩ := u72
    obtain ⟨ech71, ch71⟩ := ch71
    have ech71 : v9 = none := ech71
    subst ech71
    obtain ⟨fh75, fh76⟩ : (s_73.toInt = s_66.toInt + 4) ∧ (sb_Fit f_74) := ch71
    refine pb_eq (pc' := 149) (lo' := [(6, .int 0), (5, .int r_4), (4, .int i1), (0, .ref h), (1, .ref sp), (2, .int i), (3, .ref q)]) (rest' := []) (ws' := [(h, .inr (6, [.ref mm, .ref mr])), (tn, .inl (G.2.1, 384, .inl tfn)), (tz, .inl (G.2.2.1, 16, .inl tfz)), (sp, .inr (3, [.ref tn, .ref tz, .ref tb, .ref tg, .int c])), (tg, .inl (G.2.2.1, 17, .inl tfg)), (q, .inr (4, [.ref pp, .ref pl, .ref pe, .ref tb, .int i1, .int r_4, .int b_10, .int l_11, .int d_12])), (pp, .inr (0, [.ref pb, .int p_13])), (pb, .inl (G.2.1, 4502, .inl f_14)), (pl, .inl (G.2.2.1, 1024, .inl fl_15)), (pe, .inl (G.2.2.1, 4000, .inl fe_16)), (tb, .inl (G.2.1, 12000, .inl tfb)), (mm, .inr (0, [.ref mb, .int s_73])), (mb, .inl (G.2.1, 14006, .inl f_74))]) ?_
    refine pb_aload_n (pc := 149) d_FileMaker_putRecord_149 3 rfl rfl ?_
    refine pb_get (pc := 150) d_FileMaker_putRecord_150 0 0 rfl rfl (by decide) in_FileMaker k_292 rfl ?_
    refine pb_iload (pc := 153) d_FileMaker_putRecord_153 1 rfl ?_
    refine pb_callV (pc := 155) (I := i_FileMaker_putRecord) (qb := 11) (ci := 0) (nA := 1) (rest := []) (wr := [(h, .inr (6, [.ref mm, .ref mr])), (tn, .inl (G.2.1, 384, .inl tfn)), (tz, .inl (G.2.2.1, 16, .inl tfz)), (sp, .inr (3, [.ref tn, .ref tz, .ref tb, .ref tg, .int c])), (tg, .inl (G.2.2.1, 17, .inl tfg)), (q, .inr (4, [.ref pp, .ref pl, .ref pe, .ref tb, .int i1, .int r_4, .int b_10, .int l_11, .int d_12])), (pp, .inr (0, [.ref pb, .int p_13])), (pb, .inl (G.2.1, 4502, .inl f_14)), (pl, .inl (G.2.2.1, 1024, .inl fl_15)), (pe, .inl (G.2.2.1, 4000, .inl fe_16)), (tb, .inl (G.2.1, 12000, .inl tfb))]) d_FileMaker_putRecord_155 (g_Row_putFour hl G mm mb 14006 f_74 s_73 r_4 (by first | assumption | omega (splitDisjunctions := false) | omega | decide) (by first | assumption | omega (splitDisjunctions := false) | omega | decide) (by first | assumption | omega (splitDisjunctions := false) | omega | decide) fh76) rfl rfl [11, 12] [0, 1, 2, 3, 4, 5, 6, 7, 8, 9, 10] (by decide) rfl rfl rfl (by decide) (by decide) k_547 rfl k_119 k_544 k_545 k_546 ⟨rfl, hy_Row_putFour⟩ (by decide) rfl rfl (Nat.le_of_ble_eq_true rfl) (by decide) (fun v9 u78 ch77 => ?_)
    obtain ⟨s_79, f_80⟩ := u78
    obtain ⟨ech77, ch77⟩ := ch77
    have ech77 : v9 = none := ech77
    subst ech77
    obtain ⟨fh81, fh82⟩ : (s_79.toInt = s_73.toInt + 4) ∧ (sb_Fit f_80) := ch77
    refine pb_eq (pc' := 158) (lo' := [(6, .int 0), (5, .int r_4), (4, .int i1), (0, .ref h), (1, .ref sp), (2, .int i), (3, .ref q)]) (rest' := []) (ws' := [(h, .inr (6, [.ref mm, .ref mr])), (tn, .inl (G.2.1, 384, .inl tfn)), (tz, .inl (G.2.2.1, 16, .inl tfz)), (sp, .inr (3, [.ref tn, .ref tz, .ref tb, .ref tg, .int c])), (tg, .inl (G.2.2.1, 17, .inl tfg)), (q, .inr (4, [.ref pp, .ref pl, .ref pe, .ref tb, .int i1, .int r_4, .int b_10, .int l_11, .int d_12])), (pp, .inr (0, [.ref pb, .int p_13])), (pb, .inl (G.2.1, 4502, .inl f_14)), (pl, .inl (G.2.2.1, 1024, .inl fl_15)), (pe, .inl (G.2.2.1, 4000, .inl fe_16)), (tb, .inl (G.2.1, 12000, .inl tfb)), (mm, .inr (0, [.ref mb, .int s_79])), (mb, .inl (G.2.1, 14006, .inl f_80))]) ?_
    refine pb_aload_n (pc := 158) d_FileMaker_putRecord_158 3 rfl rfl ?_
    refine pb_get (pc := 159) d_FileMaker_putRecord_159 0 0 rfl rfl (by decide) in_FileMaker k_292 rfl ?_
    refine pb_aload_n (pc := 162) d_FileMaker_putRecord_162 4 rfl rfl ?_
    refine pb_getN (pc := 163) d_FileMaker_putRecord_163 3 1 rfl rfl (by decide) in_Shelf k_393 rfl ?_
    refine pb_iload_n (pc := 166) d_FileMaker_putRecord_166 5 rfl rfl ?_
    refine pb_iald (pc := 167) d_FileMaker_putRecord_167 2 rfl (vp_in_iff.mpr (by constructor <;> omega)) ?_
    refine pb_topi (fun i83 ei83 => ?_)
    have ti83 : i83.toInt = gx tfz (i.toInt) := gx_ld ei83 rfl
    refine pb_callV (pc := 168) (I := i_FileMaker_putRecord) (qb := 11) (ci := 0) (nA := 1) (rest := []) (wr := [(h, .inr (6, [.ref mm, .ref mr])), (tn, .inl (G.2.1, 384, .inl tfn)), (tz, .inl (G.2.2.1, 16, .inl tfz)), (sp, .inr (3, [.ref tn, .ref tz, .ref tb, .ref tg, .int c])), (tg, .inl (G.2.2.1, 17, .inl tfg)), (q, .inr (4, [.ref pp, .ref pl, .ref pe, .ref tb, .int i1, .int r_4, .int b_10, .int l_11, .int d_12])), (pp, .inr (0, [.ref pb, .int p_13])), (pb, .inl (G.2.1, 4502, .inl f_14)), (pl, .inl (G.2.2.1, 1024, .inl fl_15)), (pe, .inl (G.2.2.1, 4000, .inl fe_16)), (tb, .inl (G.2.1, 12000, .inl tfb))]) d_FileMaker_putRecord_168 (g_Row_putTwo hl G mm mb 14006 f_80 s_79 i83 (by first | assumption | omega (splitDisjunctions := false) | omega | decide) (by first | assumption | omega (splitDisjunctions := false) | omega | decide) (by first | assumption | omega (splitDisjunctions := false) | omega | decide) fh82) rfl rfl [11, 12] [0, 1, 2, 3, 4, 5, 6, 7, 8, 9, 10] (by decide) rfl rfl rfl (by decide) (by decide) k_551 rfl k_119 k_556 k_549 k_550 ⟨rfl, hy_Row_putTwo⟩ (by decide) rfl rfl (Nat.le_of_ble_eq_true rfl) (by decide) (fun v9 u85 ch84 => ?_)
    obtain ⟨s_86, f_87⟩ := u85
    obtain ⟨ech84, ch84⟩ := ch84
    have ech84 : v9 = none := ech84
    subst ech84
    obtain ⟨fh88, fh89⟩ : (s_86.toInt = s_79.toInt + 2) ∧ (sb_Fit f_87) := ch84
    refine pb_eq (pc' := 171) (lo' := [(6, .int 0), (5, .int r_4), (4, .int i1), (0, .ref h), (1, .ref sp), (2, .int i), (3, .ref q)]) (rest' := []) (ws' := [(h, .inr (6, [.ref mm, .ref mr])), (tn, .inl (G.2.1, 384, .inl tfn)), (tz, .inl (G.2.2.1, 16, .inl tfz)), (sp, .inr (3, [.ref tn, .ref tz, .ref tb, .ref tg, .int c])), (tg, .inl (G.2.2.1, 17, .inl tfg)), (q, .inr (4, [.ref pp, .ref pl, .ref pe, .ref tb, .int i1, .int r_4, .int b_10, .int l_11, .int d_12])), (pp, .inr (0, [.ref pb, .int p_13])), (pb, .inl (G.2.1, 4502, .inl f_14)), (pl, .inl (G.2.2.1, 1024, .inl fl_15)), (pe, .inl (G.2.2.1, 4000, .inl fe_16)), (tb, .inl (G.2.1, 12000, .inl tfb)), (mm, .inr (0, [.ref mb, .int s_86])), (mb, .inl (G.2.1, 14006, .inl f_87))]) ?_
    refine pb_aload_n (pc := 171) d_FileMaker_putRecord_171 3 rfl rfl ?_
    refine pb_get (pc := 172) d_FileMaker_putRecord_172 0 0 rfl rfl (by decide) in_FileMaker k_292 rfl ?_
    refine pb_iconst (pc := 175) (v := 0) d_FileMaker_putRecord_175 (by decide) ?_
    refine pb_callV (pc := 176) (I := i_FileMaker_putRecord) (qb := 11) (ci := 0) (nA := 1) (rest := []) (wr := [(h, .inr (6, [.ref mm, .ref mr])), (tn, .inl (G.2.1, 384, .inl tfn)), (tz, .inl (G.2.2.1, 16, .inl tfz)), (sp, .inr (3, [.ref tn, .ref tz, .ref tb, .ref tg, .int c])), (tg, .inl (G.2.2.1, 17, .inl tfg)), (q, .inr (4, [.ref pp, .ref pl, .ref pe, .ref tb, .int i1, .int r_4, .int b_10, .int l_11, .int d_12])), (pp, .inr (0, [.ref pb, .int p_13])), (pb, .inl (G.2.1, 4502, .inl f_14)), (pl, .inl (G.2.2.1, 1024, .inl fl_15)), (pe, .inl (G.2.2.1, 4000, .inl fe_16)), (tb, .inl (G.2.1, 12000, .inl tfb))]) d_FileMaker_putRecord_176 (g_Row_putTwo hl G mm mb 14006 f_87 s_86 0 (by first | assumption | omega (splitDisjunctions := false) | omega | decide) (by first | assumption | omega (splitDisjunctions := false) | omega | decide) (by first | assumption | omega (splitDisjunctions := false) | omega | decide) fh89) rfl rfl [11, 12] [0, 1, 2, 3, 4, 5, 6, 7, 8, 9, 10] (by decide) rfl rfl rfl (by decide) (by decide) k_551 rfl k_119 k_556 k_549 k_550 ⟨rfl, hy_Row_putTwo⟩ (by decide) rfl rfl (Nat.le_of_ble_eq_true rfl) (by decide) (fun v9 u91 ch90 => ?_)
    obtain ⟨s_92, f_93⟩ := u91
    obtain ⟨ech90, ch90⟩ := ch90
    have ech90 : v9 = none := ech90
    subst ech90
    obtain ⟨fh94, fh95⟩ : (s_92.toInt = s_86.toInt + 2) ∧ (sb_Fit f_93) := ch90
    refine pb_eq (pc' := 179) (lo' := [(6, .int 0), (5, .int r_4), (4, .int i1), (0, .ref h), (1, .ref sp), (2, .int i), (3, .ref q)]) (rest' := []) (ws' := [(h, .inr (6, [.ref mm, .ref mr])), (tn, .inl (G.2.1, 384, .inl tfn)), (tz, .inl (G.2.2.1, 16, .inl tfz)), (sp, .inr (3, [.ref tn, .ref tz, .ref tb, .ref tg, .int c])), (tg, .inl (G.2.2.1, 17, .inl tfg)), (q, .inr (4, [.ref pp, .ref pl, .ref pe, .ref tb, .int i1, .int r_4, .int b_10, .int l_11, .int d_12])), (pp, .inr (0, [.ref pb, .int p_13])), (pb, .inl (G.2.1, 4502, .inl f_14)), (pl, .inl (G.2.2.1, 1024, .inl fl_15)), (pe, .inl (G.2.2.1, 4000, .inl fe_16)), (tb, .inl (G.2.1, 12000, .inl tfb)), (mm, .inr (0, [.ref mb, .int s_92])), (mb, .inl (G.2.1, 14006, .inl f_93))]) ?_
    refine pb_aload_n (pc := 179) d_FileMaker_putRecord_179 3 rfl rfl ?_
    refine pb_get (pc := 180) d_FileMaker_putRecord_180 0 0 rfl rfl (by decide) in_FileMaker k_292 rfl ?_
    refine pb_aload_n (pc := 183) d_FileMaker_putRecord_183 4 rfl rfl ?_
    refine pb_getN (pc := 184) d_FileMaker_putRecord_184 3 0 rfl rfl (by decide) in_Shelf k_390 rfl ?_
    refine pb_bipush (pc := 187) (v := 24) d_FileMaker_putRecord_187 (by decide) ?_
    refine pb_iload_n (pc := 189) d_FileMaker_putRecord_189 5 rfl rfl ?_
    refine pb_imul (pc := 190) d_FileMaker_putRecord_190 ?_
    refine pb_topi (fun i96 ei96 => ?_)
    try have ti96 : i96.toInt = 24 * i.toInt := ti_mul ei96 (by decide) rfl (by omega) (by omega)
    refine pb_aload_n (pc := 191) d_FileMaker_putRecord_191 4 rfl rfl ?_
    refine pb_getN (pc := 192) d_FileMaker_putRecord_192 3 1 rfl rfl (by decide) in_Shelf k_393 rfl ?_
    refine pb_iload_n (pc := 195) d_FileMaker_putRecord_195 5 rfl rfl ?_
    refine pb_iald (pc := 196) d_FileMaker_putRecord_196 2 rfl (vp_in_iff.mpr (by constructor <;> omega)) ?_
    refine pb_topi (fun i97 ei97 => ?_)
    have ti97 : i97.toInt = gx tfz (i.toInt) := gx_ld ei97 rfl
    refine pb_callV (pc := 197) (I := i_FileMaker_putRecord) (qb := 11) (ci := 0) (nA := 3) (rest := []) (wr := [(h, .inr (6, [.ref mm, .ref mr])), (tz, .inl (G.2.2.1, 16, .inl tfz)), (sp, .inr (3, [.ref tn, .ref tz, .ref tb, .ref tg, .int c])), (tg, .inl (G.2.2.1, 17, .inl tfg)), (q, .inr (4, [.ref pp, .ref pl, .ref pe, .ref tb, .int i1, .int r_4, .int b_10, .int l_11, .int d_12])), (pp, .inr (0, [.ref pb, .int p_13])), (pb, .inl (G.2.1, 4502, .inl f_14)), (pl, .inl (G.2.2.1, 1024, .inl fl_15)), (pe, .inl (G.2.2.1, 4000, .inl fe_16)), (tb, .inl (G.2.1, 12000, .inl tfb))]) d_FileMaker_putRecord_197 (g_Row_putBytes hl G mm mb 14006 f_93 s_92 tn 384 tfn i96 i97 (by first | assumption | omega (splitDisjunctions := false) | omega | decide) (by first | assumption | omega (splitDisjunctions := false) | omega | decide) (by first | assumption | omega (splitDisjunctions := false) | omega | decide) (by first | assumption | omega (splitDisjunctions := false) | omega | decide) (by first | assumption | omega (splitDisjunctions := false) | omega | decide) (by first | assumption | omega (splitDisjunctions := false) | omega | decide) (by first | assumption | omega (splitDisjunctions := false) | omega | decide) fh95 F_tfn) rfl rfl [11, 12, 1] [0, 2, 3, 4, 5, 6, 7, 8, 9, 10] (by decide) rfl rfl rfl (by decide) (by decide) k_564 rfl k_119 k_561 k_562 k_563 ⟨rfl, hy_Row_putBytes⟩ (by decide) rfl rfl (Nat.le_of_ble_eq_true rfl) (by decide) (fun v9 u99 ch98 => ?_)
    obtain ⟨s_100, f_101⟩ := u99
    obtain ⟨ech98, ch98⟩ := ch98
    have ech98 : v9 = none := ech98
    subst ech98
    obtain ⟨fh102, fh103, fh104⟩ : (s_100.toInt = s_92.toInt + i97.toInt) ∧ (∀ j : Int, 0 ≤ j → gr f_101 j = if s_92.toInt ≤ j ∧ j < s_92.toInt + i97.toInt then gr tfn (i96.toInt + (j - s_92.toInt)) else gr f_93 j) ∧ (sb_Fit f_101) := ch98
    refine pb_eq (pc' := 200) (lo' := [(6, .int 0), (5, .int r_4), (4, .int i1), (0, .ref h), (1, .ref sp), (2, .int i), (3, .ref q)]) (rest' := []) (ws' := [(h, .inr (6, [.ref mm, .ref mr])), (tz, .inl (G.2.2.1, 16, .inl tfz)), (sp, .inr (3, [.ref tn, .ref tz, .ref tb, .ref tg, .int c])), (tg, .inl (G.2.2.1, 17, .inl tfg)), (q, .inr (4, [.ref pp, .ref pl, .ref pe, .ref tb, .int i1, .int r_4, .int b_10, .int l_11, .int d_12])), (pp, .inr (0, [.ref pb, .int p_13])), (pb, .inl (G.2.1, 4502, .inl f_14)), (pl, .inl (G.2.2.1, 1024, .inl fl_15)), (pe, .inl (G.2.2.1, 4000, .inl fe_16)), (tb, .inl (G.2.1, 12000, .inl tfb)), (mm, .inr (0, [.ref mb, .int s_100])), (mb, .inl (G.2.1, 14006, .inl f_101)), (tn, .inl (G.2.1, 384, .inl tfn))]) ?_
    refine pb_iload (pc := 200) d_FileMaker_putRecord_200 0 rfl ?_
    refine pb_if_eq (pc := 202) (tgt := 230) d_FileMaker_putRecord_202 (by decide) (fun _ => ?_) (fun h9 => absurd h9 (by decide))
    refine pb_aload_n (pc := 230) d_FileMaker_putRecord_230 3 rfl rfl ?_
    refine pb_get (pc := 231) d_FileMaker_putRecord_231 0 0 rfl rfl (by decide) in_FileMaker k_292 rfl ?_
    refine pb_aload_n (pc := 234) d_FileMaker_putRecord_234 4 rfl rfl ?_
    refine pb_getN (pc := 235) d_FileMaker_putRecord_235 2 2 rfl rfl (by decide) in_Shelf k_397 rfl ?_
    refine pb_iload (pc := 238) d_FileMaker_putRecord_238 2 rfl ?_
    refine pb_iload (pc := 240) d_FileMaker_putRecord_240 1 rfl ?_
    refine pb_callV (pc := 242) (I := i_FileMaker_putRecord) (qb := 10) (ci := 0) (nA := 3) (rest := []) (wr := [(h, .inr (6, [.ref mm, .ref mr])), (tz, .inl (G.2.2.1, 16, .inl tfz)), (sp, .inr (3, [.ref tn, .ref tz, .ref tb, .ref tg, .int c])), (tg, .inl (G.2.2.1, 17, .inl tfg)), (q, .inr (4, [.ref pp, .ref pl, .ref pe, .ref tb, .int i1, .int r_4, .int b_10, .int l_11, .int d_12])), (pp, .inr (0, [.ref pb, .int p_13])), (pb, .inl (G.2.1, 4502, .inl f_14)), (pl, .inl (G.2.2.1, 1024, .inl fl_15)), (pe, .inl (G.2.2.1, 4000, .inl fe_16)), (tn, .inl (G.2.1, 384, .inl tfn))]) d_FileMaker_putRecord_242 (g_Row_putBytes hl G mm mb 14006 f_101 s_100 tb 12000 tfb i1 r_4 (by first | assumption | omega (splitDisjunctions := false) | omega | decide) (by first | assumption | omega (splitDisjunctions := false) | omega | decide) (by first | assumption | omega (splitDisjunctions := false) | omega | decide) (by first | assumption | omega (splitDisjunctions := false) | omega | decide) (by first | assumption | omega (splitDisjunctions := false) | omega | decide) (by first | assumption | omega (splitDisjunctions := false) | omega | decide) (by first | assumption | omega (splitDisjunctions := false) | omega | decide) fh104 F_tfb) rfl rfl [10, 11, 9] [0, 1, 2, 3, 4, 5, 6, 7, 8, 12] (by decide) rfl rfl rfl (by decide) (by decide) k_564 rfl k_119 k_561 k_562 k_563 ⟨rfl, hy_Row_putBytes⟩ (by decide) rfl rfl (Nat.le_of_ble_eq_true rfl) (by decide) (fun v9 u107 ch106 => ?_)
    obtain ⟨s_108, f_109⟩ := u107
    obtain ⟨ech106, ch106⟩ := ch106
    have ech106 : v9 = none := ech106
    subst ech106
    obtain ⟨fh110, fh111, fh112⟩ : (s_108.toInt = s_100.toInt + r_4.toInt) ∧ (∀ j : Int, 0 ≤ j → gr f_109 j = if s_100.toInt ≤ j ∧ j < s_100.toInt + r_4.toInt then gr tfb (i1.toInt + (j - s_100.toInt)) else gr f_101 j) ∧ (sb_Fit f_109) := ch106
    refine pb_eq (pc' := 245) (lo' := [(6, .int 0), (5, .int r_4), (4, .int i1), (0, .ref h), (1, .ref sp), (2, .int i), (3, .ref q)]) (rest' := []) (ws' := [(h, .inr (6, [.ref mm, .ref mr])), (tz, .inl (G.2.2.1, 16, .inl tfz)), (sp, .inr (3, [.ref tn, .ref tz, .ref tb, .ref tg, .int c])), (tg, .inl (G.2.2.1, 17, .inl tfg)), (q, .inr (4, [.ref pp, .ref pl, .ref pe, .ref tb, .int i1, .int r_4, .int b_10, .int l_11, .int d_12])), (pp, .inr (0, [.ref pb, .int p_13])), (pb, .inl (G.2.1, 4502, .inl f_14)), (pl, .inl (G.2.2.1, 1024, .inl fl_15)), (pe, .inl (G.2.2.1, 4000, .inl fe_16)), (tn, .inl (G.2.1, 384, .inl tfn)), (mm, .inr (0, [.ref mb, .int s_108])), (mb, .inl (G.2.1, 14006, .inl f_109)), (tb, .inl (G.2.1, 12000, .inl tfb))]) ?_
    exact pb_vret (pc := 245) hQ d_FileMaker_putRecord_245 rfl (s_108, f_109, tb, i1, r_4, b_10, l_11, d_12, p_13, f_14, fl_15, fe_16) ⟨rfl, (by (try dsimp only); first | done | assumption | omega (splitDisjunctions := false) | omega | decide), (by (try dsimp only); first | done | assumption | omega (splitDisjunctions := false) | omega | decide), fh112, fh21⟩ [0, 10, 11, 2, 9, 1, 12, 3, 4, 5, 6, 7, 8] (by decide) rfl rfl (by decide) (by decide)
  · have tw22 : ¬ r_4.toInt ≤ p_13.toInt := fun z9 => w22 ((ti_le rfl rfl).mpr z9)
    refine pb_iconst (pc := 39) (v := 1) d_FileMaker_putRecord_39 (by decide) ?_
    refine pb_goto (pc := 40) (tgt := 44) d_FileMaker_putRecord_40 (by decide) ?_
    refine pb_istore (pc := 44) (lo' := [(6, .int 1), (5, .int r_4), (4, .int i1), (0, .ref h), (1, .ref sp), (2, .int i), (3, .ref q)]) d_FileMaker_putRecord_44 (by decide) rfl ?_
    refine pb_aload_n (pc := 46) d_FileMaker_putRecord_46 3 rfl rfl ?_
    refine pb_get (pc := 47) d_FileMaker_putRecord_47 0 0 rfl rfl (by decide) in_FileMaker k_292 rfl ?_
    refine pb_ldc (pc := 50) (v := 67324752) d_FileMaker_putRecord_50 k_543 ?_
    refine pb_callV (pc := 52) (I := i_FileMaker_putRecord) (qb := 1) (ci := 0) (nA := 1) (rest := []) (wr := [(h, .inr (6, [.ref mm, .ref mr])), (tn, .inl (G.2.1, 384, .inl tfn)), (tz, .inl (G.2.2.1, 16, .inl tfz)), (sp, .inr (3, [.ref tn, .ref tz, .ref tb, .ref tg, .int c])), (tg, .inl (G.2.2.1, 17, .inl tfg)), (q, .inr (4, [.ref pp, .ref pl, .ref pe, .ref tb, .int i1, .int r_4, .int b_10, .int l_11, .int d_12])), (pp, .inr (0, [.ref pb, .int p_13])), (pb, .inl (G.2.1, 4502, .inl f_14)), (pl, .inl (G.2.2.1, 1024, .inl fl_15)), (pe, .inl (G.2.2.1, 4000, .inl fe_16)), (tb, .inl (G.2.1, 12000, .inl tfb))]) d_FileMaker_putRecord_52 (g_Row_putFour hl G mm mb 14006 f s 67324752 (by first | assumption | omega (splitDisjunctions := false) | omega | decide) (by first | assumption | omega (splitDisjunctions := false) | omega | decide) (by first | assumption | omega (splitDisjunctions := false) | omega | decide) F_f) rfl rfl [1, 2] [0, 3, 4, 5, 6, 7, 8, 9, 10, 11, 12] (by decide) rfl rfl rfl (by decide) (by decide) k_547 rfl k_119 k_544 k_545 k_546 ⟨rfl, hy_Row_putFour⟩ (by decide) rfl rfl (Nat.le_of_ble_eq_true rfl) (by decide) (fun v9 u114 ch113 => ?_)
    obtain ⟨s_115, f_116⟩ := u114
    obtain ⟨ech113, ch113⟩ := ch113
    have ech113 : v9 = none := ech113
    subst ech113
    obtain ⟨fh117, fh118⟩ : (s_115.toInt = s.toInt + 4) ∧ (sb_Fit f_116) := ch113
    refine pb_eq (pc' := 55) (lo' := [(6, .int 1), (5, .int r_4), (4, .int i1), (0, .ref h), (1, .ref sp), (2, .int i), (3, .ref q)]) (rest' := []) (ws' := [(h, .inr (6, [.ref mm, .ref mr])), (tn, .inl (G.2.1, 384, .inl tfn)), (tz, .inl (G.2.2.1, 16, .inl tfz)), (sp, .inr (3, [.ref tn, .ref tz, .ref tb, .ref tg, .int c])), (tg, .inl (G.2.2.1, 17, .inl tfg)), (q, .inr (4, [.ref pp, .ref pl, .ref pe, .ref tb, .int i1, .int r_4, .int b_10, .int l_11, .int d_12])), (pp, .inr (0, [.ref pb, .int p_13])), (pb, .inl (G.2.1, 4502, .inl f_14)), (pl, .inl (G.2.2.1, 1024, .inl fl_15)), (pe, .inl (G.2.2.1, 4000, .inl fe_16)), (tb, .inl (G.2.1, 12000, .inl tfb)), (mm, .inr (0, [.ref mb, .int s_115])), (mb, .inl (G.2.1, 14006, .inl f_116))]) ?_
    refine pb_aload_n (pc := 55) d_FileMaker_putRecord_55 3 rfl rfl ?_
    refine pb_get (pc := 56) d_FileMaker_putRecord_56 0 0 rfl rfl (by decide) in_FileMaker k_292 rfl ?_
    refine pb_bipush (pc := 59) (v := 20) d_FileMaker_putRecord_59 (by decide) ?_
    refine pb_callV (pc := 61) (I := i_FileMaker_putRecord) (qb := 11) (ci := 0) (nA := 1) (rest := []) (wr := [(h, .inr (6, [.ref mm, .ref mr])), (tn, .inl (G.2.1, 384, .inl tfn)), (tz, .inl (G.2.2.1, 16, .inl tfz)), (sp, .inr (3, [.ref tn, .ref tz, .ref tb, .ref tg, .int c])), (tg, .inl (G.2.2.1, 17, .inl tfg)), (q, .inr (4, [.ref pp, .ref pl, .ref pe, .ref tb, .int i1, .int r_4, .int b_10, .int l_11, .int d_12])), (pp, .inr (0, [.ref pb, .int p_13])), (pb, .inl (G.2.1, 4502, .inl f_14)), (pl, .inl (G.2.2.1, 1024, .inl fl_15)), (pe, .inl (G.2.2.1, 4000, .inl fe_16)), (tb, .inl (G.2.1, 12000, .inl tfb))]) d_FileMaker_putRecord_61 (g_Row_putTwo hl G mm mb 14006 f_116 s_115 20 (by first | assumption | omega (splitDisjunctions := false) | omega | decide) (by first | assumption | omega (splitDisjunctions := false) | omega | decide) (by first | assumption | omega (splitDisjunctions := false) | omega | decide) fh118) rfl rfl [11, 12] [0, 1, 2, 3, 4, 5, 6, 7, 8, 9, 10] (by decide) rfl rfl rfl (by decide) (by decide) k_551 rfl k_119 k_556 k_549 k_550 ⟨rfl, hy_Row_putTwo⟩ (by decide) rfl rfl (Nat.le_of_ble_eq_true rfl) (by decide) (fun v9 u120 ch119 => ?_)
    obtain ⟨s_121, f_122⟩ := u120
    obtain ⟨ech119, ch119⟩ := ch119
    have ech119 : v9 = none := ech119
    subst ech119
    obtain ⟨fh123, fh124⟩ : (s_121.toInt = s_115.toInt + 2) ∧ (sb_Fit f_122) := ch119
    refine pb_eq (pc' := 64) (lo' := [(6, .int 1), (5, .int r_4), (4, .int i1), (0, .ref h), (1, .ref sp), (2, .int i), (3, .ref q)]) (rest' := []) (ws' := [(h, .inr (6, [.ref mm, .ref mr])), (tn, .inl (G.2.1, 384, .inl tfn)), (tz, .inl (G.2.2.1, 16, .inl tfz)), (sp, .inr (3, [.ref tn, .ref tz, .ref tb, .ref tg, .int c])), (tg, .inl (G.2.2.1, 17, .inl tfg)), (q, .inr (4, [.ref pp, .ref pl, .ref pe, .ref tb, .int i1, .int r_4, .int b_10, .int l_11, .int d_12])), (pp, .inr (0, [.ref pb, .int p_13])), (pb, .inl (G.2.1, 4502, .inl f_14)), (pl, .inl (G.2.2.1, 1024, .inl fl_15)), (pe, .inl (G.2.2.1, 4000, .inl fe_16)), (tb, .inl (G.2.1, 12000, .inl tfb)), (mm, .inr (0, [.ref mb, .int s_121])), (mb, .inl (G.2.1, 14006, .inl f_122))]) ?_
    refine pb_aload_n (pc := 64) d_FileMaker_putRecord_64 3 rfl rfl ?_
    refine pb_get (pc := 65) d_FileMaker_putRecord_65 0 0 rfl rfl (by decide) in_FileMaker k_292 rfl ?_
    refine pb_iconst (pc := 68) (v := 0) d_FileMaker_putRecord_68 (by decide) ?_
    refine pb_callV (pc := 69) (I := i_FileMaker_putRecord) (qb := 11) (ci := 0) (nA := 1) (rest := []) (wr := [(h, .inr (6, [.ref mm, .ref mr])), (tn, .inl (G.2.1, 384, .inl tfn)), (tz, .inl (G.2.2.1, 16, .inl tfz)), (sp, .inr (3, [.ref tn, .ref tz, .ref tb, .ref tg, .int c])), (tg, .inl (G.2.2.1, 17, .inl tfg)), (q, .inr (4, [.ref pp, .ref pl, .ref pe, .ref tb, .int i1, .int r_4, .int b_10, .int l_11, .int d_12])), (pp, .inr (0, [.ref pb, .int p_13])), (pb, .inl (G.2.1, 4502, .inl f_14)), (pl, .inl (G.2.2.1, 1024, .inl fl_15)), (pe, .inl (G.2.2.1, 4000, .inl fe_16)), (tb, .inl (G.2.1, 12000, .inl tfb))]) d_FileMaker_putRecord_69 (g_Row_putTwo hl G mm mb 14006 f_122 s_121 0 (by first | assumption | omega (splitDisjunctions := false) | omega | decide) (by first | assumption | omega (splitDisjunctions := false) | omega | decide) (by first | assumption | omega (splitDisjunctions := false) | omega | decide) fh124) rfl rfl [11, 12] [0, 1, 2, 3, 4, 5, 6, 7, 8, 9, 10] (by decide) rfl rfl rfl (by decide) (by decide) k_551 rfl k_119 k_556 k_549 k_550 ⟨rfl, hy_Row_putTwo⟩ (by decide) rfl rfl (Nat.le_of_ble_eq_true rfl) (by decide) (fun v9 u126 ch125 => ?_)
    obtain ⟨s_127, f_128⟩ := u126
    obtain ⟨ech125, ch125⟩ := ch125
    have ech125 : v9 = none := ech125
    subst ech125
    obtain ⟨fh129, fh130⟩ : (s_127.toInt = s_121.toInt + 2) ∧ (sb_Fit f_128) := ch125
    refine pb_eq (pc' := 72) (lo' := [(6, .int 1), (5, .int r_4), (4, .int i1), (0, .ref h), (1, .ref sp), (2, .int i), (3, .ref q)]) (rest' := []) (ws' := [(h, .inr (6, [.ref mm, .ref mr])), (tn, .inl (G.2.1, 384, .inl tfn)), (tz, .inl (G.2.2.1, 16, .inl tfz)), (sp, .inr (3, [.ref tn, .ref tz, .ref tb, .ref tg, .int c])), (tg, .inl (G.2.2.1, 17, .inl tfg)), (q, .inr (4, [.ref pp, .ref pl, .ref pe, .ref tb, .int i1, .int r_4, .int b_10, .int l_11, .int d_12])), (pp, .inr (0, [.ref pb, .int p_13])), (pb, .inl (G.2.1, 4502, .inl f_14)), (pl, .inl (G.2.2.1, 1024, .inl fl_15)), (pe, .inl (G.2.2.1, 4000, .inl fe_16)), (tb, .inl (G.2.1, 12000, .inl tfb)), (mm, .inr (0, [.ref mb, .int s_127])), (mb, .inl (G.2.1, 14006, .inl f_128))]) ?_
    refine pb_aload_n (pc := 72) d_FileMaker_putRecord_72 3 rfl rfl ?_
    refine pb_get (pc := 73) d_FileMaker_putRecord_73 0 0 rfl rfl (by decide) in_FileMaker k_292 rfl ?_
    refine pb_iload (pc := 76) d_FileMaker_putRecord_76 0 rfl ?_
    refine pb_if_eq (pc := 78) (tgt := 86) d_FileMaker_putRecord_78 (by decide) (fun h9 => absurd h9 (by decide)) (fun _ => ?_)
    refine pb_bipush (pc := 81) (v := 8) d_FileMaker_putRecord_81 (by decide) ?_
    refine pb_goto (pc := 83) (tgt := 87) d_FileMaker_putRecord_83 (by decide) ?_
    refine pb_callV (pc := 87) (I := i_FileMaker_putRecord) (qb := 11) (ci := 0) (nA := 1) (rest := []) (wr := [(h, .inr (6, [.ref mm, .ref mr])), (tn, .inl (G.2.1, 384, .inl tfn)), (tz, .inl (G.2.2.1, 16, .inl tfz)), (sp, .inr (3, [.ref tn, .ref tz, .ref tb, .ref tg, .int c])), (tg, .inl (G.2.2.1, 17, .inl tfg)), (q, .inr (4, [.ref pp, .ref pl, .ref pe, .ref tb, .int i1, .int r_4, .int b_10, .int l_11, .int d_12])), (pp, .inr (0, [.ref pb, .int p_13])), (pb, .inl (G.2.1, 4502, .inl f_14)), (pl, .inl (G.2.2.1, 1024, .inl fl_15)), (pe, .inl (G.2.2.1, 4000, .inl fe_16)), (tb, .inl (G.2.1, 12000, .inl tfb))]) d_FileMaker_putRecord_87 (g_Row_putTwo hl G mm mb 14006 f_128 s_127 8 (by first | assumption | omega (splitDisjunctions := false) | omega | decide) (by first | assumption | omega (splitDisjunctions := false) | omega | decide) (by first | assumption | omega (splitDisjunctions := false) | omega | decide) fh130) rfl rfl [11, 12] [0, 1, 2, 3, 4, 5, 6, 7, 8, 9, 10] (by decide) rfl rfl rfl (by decide) (by decide) k_551 rfl k_119 k_556 k_549 k_550 ⟨rfl, hy_Row_putTwo⟩ (by decide) rfl rfl (Nat.le_of_ble_eq_true rfl) (by decide) (fun v9 u133 ch132 => ?_)
    obtain ⟨s_134, f_135⟩ := u133
    obtain ⟨ech132, ch132⟩ := ch132
    have ech132 : v9 = none := ech132
    subst ech132
    obtain ⟨fh136, fh137⟩ : (s_134.toInt = s_127.toInt + 2) ∧ (sb_Fit f_135) := ch132
    refine pb_eq (pc' := 90) (lo' := [(6, .int 1), (5, .int r_4), (4, .int i1), (0, .ref h), (1, .ref sp), (2, .int i), (3, .ref q)]) (rest' := []) (ws' := [(h, .inr (6, [.ref mm, .ref mr])), (tn, .inl (G.2.1, 384, .inl tfn)), (tz, .inl (G.2.2.1, 16, .inl tfz)), (sp, .inr (3, [.ref tn, .ref tz, .ref tb, .ref tg, .int c])), (tg, .inl (G.2.2.1, 17, .inl tfg)), (q, .inr (4, [.ref pp, .ref pl, .ref pe, .ref tb, .int i1, .int r_4, .int b_10, .int l_11, .int d_12])), (pp, .inr (0, [.ref pb, .int p_13])), (pb, .inl (G.2.1, 4502, .inl f_14)), (pl, .inl (G.2.2.1, 1024, .inl fl_15)), (pe, .inl (G.2.2.1, 4000, .inl fe_16)), (tb, .inl (G.2.1, 12000, .inl tfb)), (mm, .inr (0, [.ref mb, .int s_134])), (mb, .inl (G.2.1, 14006, .inl f_135))]) ?_
    refine pb_aload_n (pc := 90) d_FileMaker_putRecord_90 3 rfl rfl ?_
    refine pb_get (pc := 91) d_FileMaker_putRecord_91 0 0 rfl rfl (by decide) in_FileMaker k_292 rfl ?_
    refine pb_iconst (pc := 94) (v := 0) d_FileMaker_putRecord_94 (by decide) ?_
    refine pb_callV (pc := 95) (I := i_FileMaker_putRecord) (qb := 11) (ci := 0) (nA := 1) (rest := []) (wr := [(h, .inr (6, [.ref mm, .ref mr])), (tn, .inl (G.2.1, 384, .inl tfn)), (tz, .inl (G.2.2.1, 16, .inl tfz)), (sp, .inr (3, [.ref tn, .ref tz, .ref tb, .ref tg, .int c])), (tg, .inl (G.2.2.1, 17, .inl tfg)), (q, .inr (4, [.ref pp, .ref pl, .ref pe, .ref tb, .int i1, .int r_4, .int b_10, .int l_11, .int d_12])), (pp, .inr (0, [.ref pb, .int p_13])), (pb, .inl (G.2.1, 4502, .inl f_14)), (pl, .inl (G.2.2.1, 1024, .inl fl_15)), (pe, .inl (G.2.2.1, 4000, .inl fe_16)), (tb, .inl (G.2.1, 12000, .inl tfb))]) d_FileMaker_putRecord_95 (g_Row_putTwo hl G mm mb 14006 f_135 s_134 0 (by first | assumption | omega (splitDisjunctions := false) | omega | decide) (by first | assumption | omega (splitDisjunctions := false) | omega | decide) (by first | assumption | omega (splitDisjunctions := false) | omega | decide) fh137) rfl rfl [11, 12] [0, 1, 2, 3, 4, 5, 6, 7, 8, 9, 10] (by decide) rfl rfl rfl (by decide) (by decide) k_551 rfl k_119 k_556 k_549 k_550 ⟨rfl, hy_Row_putTwo⟩ (by decide) rfl rfl (Nat.le_of_ble_eq_true rfl) (by decide) (fun v9 u139 ch138 => ?_)
    obtain ⟨s_140, f_141⟩ := u139
    obtain ⟨ech138, ch138⟩ := ch138
    have ech138 : v9 = none := ech138
    subst ech138
    obtain ⟨fh142, fh143⟩ : (s_140.toInt = s_134.toInt + 2) ∧ (sb_Fit f_141) := ch138
    refine pb_eq (pc' := 98) (lo' := [(6, .int 1), (5, .int r_4), (4, .int i1), (0, .ref h), (1, .ref sp), (2, .int i), (3, .ref q)]) (rest' := []) (ws' := [(h, .inr (6, [.ref mm, .ref mr])), (tn, .inl (G.2.1, 384, .inl tfn)), (tz, .inl (G.2.2.1, 16, .inl tfz)), (sp, .inr (3, [.ref tn, .ref tz, .ref tb, .ref tg, .int c])), (tg, .inl (G.2.2.1, 17, .inl tfg)), (q, .inr (4, [.ref pp, .ref pl, .ref pe, .ref tb, .int i1, .int r_4, .int b_10, .int l_11, .int d_12])), (pp, .inr (0, [.ref pb, .int p_13])), (pb, .inl (G.2.1, 4502, .inl f_14)), (pl, .inl (G.2.2.1, 1024, .inl fl_15)), (pe, .inl (G.2.2.1, 4000, .inl fe_16)), (tb, .inl (G.2.1, 12000, .inl tfb)), (mm, .inr (0, [.ref mb, .int s_140])), (mb, .inl (G.2.1, 14006, .inl f_141))]) ?_
    refine pb_aload_n (pc := 98) d_FileMaker_putRecord_98 3 rfl rfl ?_
    refine pb_get (pc := 99) d_FileMaker_putRecord_99 0 0 rfl rfl (by decide) in_FileMaker k_292 rfl ?_
    refine pb_bipush (pc := 102) (v := 33) d_FileMaker_putRecord_102 (by decide) ?_
    refine pb_callV (pc := 104) (I := i_FileMaker_putRecord) (qb := 11) (ci := 0) (nA := 1) (rest := []) (wr := [(h, .inr (6, [.ref mm, .ref mr])), (tn, .inl (G.2.1, 384, .inl tfn)), (tz, .inl (G.2.2.1, 16, .inl tfz)), (sp, .inr (3, [.ref tn, .ref tz, .ref tb, .ref tg, .int c])), (tg, .inl (G.2.2.1, 17, .inl tfg)), (q, .inr (4, [.ref pp, .ref pl, .ref pe, .ref tb, .int i1, .int r_4, .int b_10, .int l_11, .int d_12])), (pp, .inr (0, [.ref pb, .int p_13])), (pb, .inl (G.2.1, 4502, .inl f_14)), (pl, .inl (G.2.2.1, 1024, .inl fl_15)), (pe, .inl (G.2.2.1, 4000, .inl fe_16)), (tb, .inl (G.2.1, 12000, .inl tfb))]) d_FileMaker_putRecord_104 (g_Row_putTwo hl G mm mb 14006 f_141 s_140 33 (by first | assumption | omega (splitDisjunctions := false) | omega | decide) (by first | assumption | omega (splitDisjunctions := false) | omega | decide) (by first | assumption | omega (splitDisjunctions := false) | omega | decide) fh143) rfl rfl [11, 12] [0, 1, 2, 3, 4, 5, 6, 7, 8, 9, 10] (by decide) rfl rfl rfl (by decide) (by decide) k_551 rfl k_119 k_556 k_549 k_550 ⟨rfl, hy_Row_putTwo⟩ (by decide) rfl rfl (Nat.le_of_ble_eq_true rfl) (by decide) (fun v9 u145 ch144 => ?_)
    obtain ⟨s_146, f_147⟩ := u145
    obtain ⟨ech144, ch144⟩ := ch144
    have ech144 : v9 = none := ech144
    subst ech144
    obtain ⟨fh148, fh149⟩ : (s_146.toInt = s_140.toInt + 2) ∧ (sb_Fit f_147) := ch144
    refine pb_eq (pc' := 107) (lo' := [(6, .int 1), (5, .int r_4), (4, .int i1), (0, .ref h), (1, .ref sp), (2, .int i), (3, .ref q)]) (rest' := []) (ws' := [(h, .inr (6, [.ref mm, .ref mr])), (tn, .inl (G.2.1, 384, .inl tfn)), (tz, .inl (G.2.2.1, 16, .inl tfz)), (sp, .inr (3, [.ref tn, .ref tz, .ref tb, .ref tg, .int c])), (tg, .inl (G.2.2.1, 17, .inl tfg)), (q, .inr (4, [.ref pp, .ref pl, .ref pe, .ref tb, .int i1, .int r_4, .int b_10, .int l_11, .int d_12])), (pp, .inr (0, [.ref pb, .int p_13])), (pb, .inl (G.2.1, 4502, .inl f_14)), (pl, .inl (G.2.2.1, 1024, .inl fl_15)), (pe, .inl (G.2.2.1, 4000, .inl fe_16)), (tb, .inl (G.2.1, 12000, .inl tfb)), (mm, .inr (0, [.ref mb, .int s_146])), (mb, .inl (G.2.1, 14006, .inl f_147))]) ?_
    refine pb_aload_n (pc := 107) d_FileMaker_putRecord_107 3 rfl rfl ?_
    refine pb_get (pc := 108) d_FileMaker_putRecord_108 0 0 rfl rfl (by decide) in_FileMaker k_292 rfl ?_
    refine pb_aload_n (pc := 111) d_FileMaker_putRecord_111 4 rfl rfl ?_
    refine pb_getN (pc := 112) d_FileMaker_putRecord_112 3 2 rfl rfl (by decide) in_Shelf k_397 rfl ?_
    refine pb_iload (pc := 115) d_FileMaker_putRecord_115 2 rfl ?_
    refine pb_iload (pc := 117) d_FileMaker_putRecord_117 1 rfl ?_
    refine pb_callSN (pc := 119) (I := i_FileMaker_putRecord) (nA := 3) (rest := [.ref mm]) (wr := [(h, .inr (6, [.ref mm, .ref mr])), (tn, .inl (G.2.1, 384, .inl tfn)), (tz, .inl (G.2.2.1, 16, .inl tfz)), (sp, .inr (3, [.ref tn, .ref tz, .ref tb, .ref tg, .int c])), (tg, .inl (G.2.2.1, 17, .inl tfg)), (q, .inr (4, [.ref pp, .ref pl, .ref pe, .ref tb, .int i1, .int r_4, .int b_10, .int l_11, .int d_12])), (pp, .inr (0, [.ref pb, .int p_13])), (pb, .inl (G.2.1, 4502, .inl f_14)), (pl, .inl (G.2.2.1, 1024, .inl fl_15)), (pe, .inl (G.2.2.1, 4000, .inl fe_16)), (mm, .inr (0, [.ref mb, .int s_146])), (mb, .inl (G.2.1, 14006, .inl f_147))]) d_FileMaker_putRecord_119 (g_sumOf hl G tb 12000 tfb i1 r_4 (by first | assumption | omega (splitDisjunctions := false) | omega | decide) (by first | assumption | omega (splitDisjunctions := false) | omega | decide) (by first | assumption | omega (splitDisjunctions := false) | omega | decide) (by first | assumption | omega (splitDisjunctions := false) | omega | decide) F_tfb) [10] [0, 1, 2, 3, 4, 5, 6, 7, 8, 9, 11, 12] (by decide) rfl rfl rfl (by decide) (by decide) k_559 rfl k_118 k_557 k_558 hy_Book_sumOf (by decide) rfl rfl (Nat.le_of_ble_eq_true rfl) (by decide) (fun v9 u151 ch150 => ?_)
    obtain ⟨r_152, rfl⟩ : ∃ z9, z9 = u151 := ⟨_, rfl⟩
    obtain ⟨ech150, ch150⟩ := ch150
    have ech150 : v9 = some (.int r_152) := ech150
    subst ech150
    have fh153 : r_152 = cr_n tfb i1.toInt r_4.toInt.toNat ^^^ (-1) := ch150
    refine pb_eq (pc' := 122) (lo' := [(6, .int 1), (5, .int r_4), (4, .int i1), (0, .ref h), (1, .ref sp), (2, .int i), (3, .ref q)]) (rest' := [.int r_152, .ref mm]) (ws' := [(h, .inr (6, [.ref mm, .ref mr])), (tn, .inl (G.2.1, 384, .inl tfn)), (tz, .inl (G.2.2.1, 16, .inl tfz)), (sp, .inr (3, [.ref tn, .ref tz, .ref tb, .ref tg, .int c])), (tg, .inl (G.2.2.1, 17, .inl tfg)), (q, .inr (4, [.ref pp, .ref pl, .ref pe, .ref tb, .int i1, .int r_4, .int b_10, .int l_11, .int d_12])), (pp, .inr (0, [.ref pb, .int p_13])), (pb, .inl (G.2.1, 4502, .inl f_14)), (pl, .inl (G.2.2.1, 1024, .inl fl_15)), (pe, .inl (G.2.2.1, 4000, .inl fe_16)), (mm, .inr (0, [.ref mb, .int s_146])), (mb, .inl (G.2.1, 14006, .inl f_147)), (tb, .inl (G.2.1, 12000, .inl tfb))]) ?_
    refine pb_callV (pc := 122) (I := i_FileMaker_putRecord) (qb := 10) (ci := 0) (nA := 1) (rest := []) (wr := [(h, .inr (6, [.ref mm, .ref mr])), (tn, .inl (G.2.1, 384, .inl tfn)), (tz, .inl (G.2.2.1, 16, .inl tfz)), (sp, .inr (3, [.ref tn, .ref tz, .ref tb, .ref tg, .int c])), (tg, .inl (G.2.2.1, 17, .inl tfg)), (q, .inr (4, [.ref pp, .ref pl, .ref pe, .ref tb, .int i1, .int r_4, .int b_10, .int l_11, .int d_12])), (pp, .inr (0, [.ref pb, .int p_13])), (pb, .inl (G.2.1, 4502, .inl f_14)), (pl, .inl (G.2.2.1, 1024, .inl fl_15)), (pe, .inl (G.2.2.1, 4000, .inl fe_16)), (tb, .inl (G.2.1, 12000, .inl tfb))]) d_FileMaker_putRecord_122 (g_Row_putFour hl G mm mb 14006 f_147 s_146 r_152 (by first | assumption | omega (splitDisjunctions := false) | omega | decide) (by first | assumption | omega (splitDisjunctions := false) | omega | decide) (by first | assumption | omega (splitDisjunctions := false) | omega | decide) fh149) rfl rfl [10, 11] [0, 1, 2, 3, 4, 5, 6, 7, 8, 9, 12] (by decide) rfl rfl rfl (by decide) (by decide) k_547 rfl k_119 k_544 k_545 k_546 ⟨rfl, hy_Row_putFour⟩ (by decide) rfl rfl (Nat.le_of_ble_eq_true rfl) (by decide) (fun v9 u155 ch154 => ?_)
    obtain ⟨s_156, f_157⟩ := u155
    obtain ⟨ech154, ch154⟩ := ch154
    have ech154 : v9 = none := ech154
    subst ech154
    obtain ⟨fh158, fh159⟩ : (s_156.toInt = s_146.toInt + 4) ∧ (sb_Fit f_157) := ch154
    refine pb_eq (pc' := 125) (lo' := [(6, .int 1), (5, .int r_4), (4, .int i1), (0, .ref h), (1, .ref sp), (2, .int i), (3, .ref q)]) (rest' := []) (ws' := [(h, .inr (6, [.ref mm, .ref mr])), (tn, .inl (G.2.1, 384, .inl tfn)), (tz, .inl (G.2.2.1, 16, .inl tfz)), (sp, .inr (3, [.ref tn, .ref tz, .ref tb, .ref tg, .int c])), (tg, .inl (G.2.2.1, 17, .inl tfg)), (q, .inr (4, [.ref pp, .ref pl, .ref pe, .ref tb, .int i1, .int r_4, .int b_10, .int l_11, .int d_12])), (pp, .inr (0, [.ref pb, .int p_13])), (pb, .inl (G.2.1, 4502, .inl f_14)), (pl, .inl (G.2.2.1, 1024, .inl fl_15)), (pe, .inl (G.2.2.1, 4000, .inl fe_16)), (tb, .inl (G.2.1, 12000, .inl tfb)), (mm, .inr (0, [.ref mb, .int s_156])), (mb, .inl (G.2.1, 14006, .inl f_157))]) ?_
    refine pb_aload_n (pc := 125) d_FileMaker_putRecord_125 3 rfl rfl ?_
    refine pb_get (pc := 126) d_FileMaker_putRecord_126 0 0 rfl rfl (by decide) in_FileMaker k_292 rfl ?_
    refine pb_iload (pc := 129) d_FileMaker_putRecord_129 0 rfl ?_
    refine pb_if_eq (pc := 131) (tgt := 144) d_FileMaker_putRecord_131 (by decide) (fun h9 => absurd h9 (by decide)) (fun _ => ?_)
    refine pb_aload_n (pc := 134) d_FileMaker_putRecord_134 6 rfl rfl ?_
    refine pb_getN (pc := 135) d_FileMaker_putRecord_135 5 0 rfl rfl (by decide) in_Presser k_182 rfl ?_
    refine pb_getN (pc := 138) d_FileMaker_putRecord_138 6 1 rfl rfl (by decide) in_Row k_163 rfl ?_
    refine pb_goto (pc := 141) (tgt := 146) d_FileMaker_putRecord_141 (by decide) ?_
    refine pb_callV (pc := 146) (I := i_FileMaker_putRecord) (qb := 11) (ci := 0) (nA := 1) (rest := []) (wr := [(h, .inr (6, [.ref mm, .ref mr])), (tn, .inl (G.2.1, 384, .inl tfn)), (tz, .inl (G.2.2.1, 16, .inl tfz)), (sp, .inr (3, [.ref tn, .ref tz, .ref tb, .ref tg, .int c])), (tg, .inl (G.2.2.1, 17, .inl tfg)), (q, .inr (4, [.ref pp, .ref pl, .ref pe, .ref tb, .int i1, .int r_4, .int b_10, .int l_11, .int d_12])), (pp, .inr (0, [.ref pb, .int p_13])), (pb, .inl (G.2.1, 4502, .inl f_14)), (pl, .inl (G.2.2.1, 1024, .inl fl_15)), (pe, .inl (G.2.2.1, 4000, .inl fe_16)), (tb, .inl (G.2.1, 12000, .inl tfb))]) d_FileMaker_putRecord_146 (g_Row_putFour hl G mm mb 14006 f_157 s_156 p_13 (by first | assumption | omega (splitDisjunctions := false) | omega | decide) (by first | assumption | omega (splitDisjunctions := false) | omega | decide) (by first | assumption | omega (splitDisjunctions := false) | omega | decide) fh159) rfl rfl [11, 12] [0, 1, 2, 3, 4, 5, 6, 7, 8, 9, 10] (by decide) rfl rfl rfl (by decide) (by decide) k_547 rfl k_119 k_544 k_545 k_546 ⟨rfl, hy_Row_putFour⟩ (by decide) rfl rfl (Nat.le_of_ble_eq_true rfl) (by decide) (fun v9 u162 ch161 => ?_)
    obtain ⟨s_163, f_164⟩ := u162
    obtain ⟨ech161, ch161⟩ := ch161
    have ech161 : v9 = none := ech161
    subst ech161
    obtain ⟨fh165, fh166⟩ : (s_163.toInt = s_156.toInt + 4) ∧ (sb_Fit f_164) := ch161
    refine pb_eq (pc' := 149) (lo' := [(6, .int 1), (5, .int r_4), (4, .int i1), (0, .ref h), (1, .ref sp), (2, .int i), (3, .ref q)]) (rest' := []) (ws' := [(h, .inr (6, [.ref mm, .ref mr])), (tn, .inl (G.2.1, 384, .inl tfn)), (tz, .inl (G.2.2.1, 16, .inl tfz)), (sp, .inr (3, [.ref tn, .ref tz, .ref tb, .ref tg, .int c])), (tg, .inl (G.2.2.1, 17, .inl tfg)), (q, .inr (4, [.ref pp, .ref pl, .ref pe, .ref tb, .int i1, .int r_4, .int b_10, .int l_11, .int d_12])), (pp, .inr (0, [.ref pb, .int p_13])), (pb, .inl (G.2.1, 4502, .inl f_14)), (pl, .inl (G.2.2.1, 1024, .inl fl_15)), (pe, .inl (G.2.2.1, 4000, .inl fe_16)), (tb, .inl (G.2.1, 12000, .inl tfb)), (mm, .inr (0, [.ref mb, .int s_163])), (mb, .inl (G.2.1, 14006, .inl f_164))]) ?_
    refine pb_aload_n (pc := 149) d_FileMaker_putRecord_149 3 rfl rfl ?_
    refine pb_get (pc := 150) d_FileMaker_putRecord_150 0 0 rfl rfl (by decide) in_FileMaker k_292 rfl ?_
    refine pb_iload (pc := 153) d_FileMaker_putRecord_153 1 rfl ?_
    refine pb_callV (pc := 155) (I := i_FileMaker_putRecord) (qb := 11) (ci := 0) (nA := 1) (rest := []) (wr := [(h, .inr (6, [.ref mm, .ref mr])), (tn, .inl (G.2.1, 384, .inl tfn)), (tz, .inl (G.2.2.1, 16, .inl tfz)), (sp, .inr (3, [.ref tn, .ref tz, .ref tb, .ref tg, .int c])), (tg, .inl (G.2.2.1, 17, .inl tfg)), (q, .inr (4, [.ref pp, .ref pl, .ref pe, .ref tb, .int i1, .int r_4, .int b_10, .int l_11, .int d_12])), (pp, .inr (0, [.ref pb, .int p_13])), (pb, .inl (G.2.1, 4502, .inl f_14)), (pl, .inl (G.2.2.1, 1024, .inl fl_15)), (pe, .inl (G.2.2.1, 4000, .inl fe_16)), (tb, .inl (G.2.1, 12000, .inl tfb))]) d_FileMaker_putRecord_155 (g_Row_putFour hl G mm mb 14006 f_164 s_163 r_4 (by first | assumption | omega (splitDisjunctions := false) | omega | decide) (by first | assumption | omega (splitDisjunctions := false) | omega | decide) (by first | assumption | omega (splitDisjunctions := false) | omega | decide) fh166) rfl rfl [11, 12] [0, 1, 2, 3, 4, 5, 6, 7, 8, 9, 10] (by decide) rfl rfl rfl (by decide) (by decide) k_547 rfl k_119 k_544 k_545 k_546 ⟨rfl, hy_Row_putFour⟩ (by decide) rfl rfl (Nat.le_of_ble_eq_true rfl) (by decide) (fun v9 u168 ch167 => ?_)
    obtain ⟨s_169, f_170⟩ := u168
    obtain ⟨ech167, ch167⟩ := ch167
    have ech167 : v9 = none := ech167
    subst ech167
    obtain ⟨fh171, fh172⟩ : (s_169.toInt = s_163.toInt + 4) ∧ (sb_Fit f_170) := ch167
    refine pb_eq (pc' := 158) (lo' := [(6, .int 1), (5, .int r_4), (4, .int i1), (0, .ref h), (1, .ref sp), (2, .int i), (3, .ref q)]) (rest' := []) (ws' := [(h, .inr (6, [.ref mm, .ref mr])), (tn, .inl (G.2.1, 384, .inl tfn)), (tz, .inl (G.2.2.1, 16, .inl tfz)), (sp, .inr (3, [.ref tn, .ref tz, .ref tb, .ref tg, .int c])), (tg, .inl (G.2.2.1, 17, .inl tfg)), (q, .inr (4, [.ref pp, .ref pl, .ref pe, .ref tb, .int i1, .int r_4, .int b_10, .int l_11, .int d_12])), (pp, .inr (0, [.ref pb, .int p_13])), (pb, .inl (G.2.1, 4502, .inl f_14)), (pl, .inl (G.2.2.1, 1024, .inl fl_15)), (pe, .inl (G.2.2.1, 4000, .inl fe_16)), (tb, .inl (G.2.1, 12000, .inl tfb)), (mm, .inr (0, [.ref mb, .int s_169])), (mb, .inl (G.2.1, 14006, .inl f_170))]) ?_
    refine pb_aload_n (pc := 158) d_FileMaker_putRecord_158 3 rfl rfl ?_
    refine pb_get (pc := 159) d_FileMaker_putRecord_159 0 0 rfl rfl (by decide) in_FileMaker k_292 rfl ?_
    refine pb_aload_n (pc := 162) d_FileMaker_putRecord_162 4 rfl rfl ?_
    refine pb_getN (pc := 163) d_FileMaker_putRecord_163 3 1 rfl rfl (by decide) in_Shelf k_393 rfl ?_
    refine pb_iload_n (pc := 166) d_FileMaker_putRecord_166 5 rfl rfl ?_
    refine pb_iald (pc := 167) d_FileMaker_putRecord_167 2 rfl (vp_in_iff.mpr (by constructor <;> omega)) ?_
    refine pb_topi (fun i173 ei173 => ?_)
    have ti173 : i173.toInt = gx tfz (i.toInt) := gx_ld ei173 rfl
    refine pb_callV (pc := 168) (I := i_FileMaker_putRecord) (qb := 11) (ci := 0) (nA := 1) (rest := []) (wr := [(h, .inr (6, [.ref mm, .ref mr])), (tn, .inl (G.2.1, 384, .inl tfn)), (tz, .inl (G.2.2.1, 16, .inl tfz)), (sp, .inr (3, [.ref tn, .ref tz, .ref tb, .ref tg, .int c])), (tg, .inl (G.2.2.1, 17, .inl tfg)), (q, .inr (4, [.ref pp, .ref pl, .ref pe, .ref tb, .int i1, .int r_4, .int b_10, .int l_11, .int d_12])), (pp, .inr (0, [.ref pb, .int p_13])), (pb, .inl (G.2.1, 4502, .inl f_14)), (pl, .inl (G.2.2.1, 1024, .inl fl_15)), (pe, .inl (G.2.2.1, 4000, .inl fe_16)), (tb, .inl (G.2.1, 12000, .inl tfb))]) d_FileMaker_putRecord_168 (g_Row_putTwo hl G mm mb 14006 f_170 s_169 i173 (by first | assumption | omega (splitDisjunctions := false) | omega | decide) (by first | assumption | omega (splitDisjunctions := false) | omega | decide) (by first | assumption | omega (splitDisjunctions := false) | omega | decide) fh172) rfl rfl [11, 12] [0, 1, 2, 3, 4, 5, 6, 7, 8, 9, 10] (by decide) rfl rfl rfl (by decide) (by decide) k_551 rfl k_119 k_556 k_549 k_550 ⟨rfl, hy_Row_putTwo⟩ (by decide) rfl rfl (Nat.le_of_ble_eq_true rfl) (by decide) (fun v9 u175 ch174 => ?_)
    obtain ⟨s_176, f_177⟩ := u175
    obtain ⟨ech174, ch174⟩ := ch174
    have ech174 : v9 = none := ech174
    subst ech174
    obtain ⟨fh178, fh179⟩ : (s_176.toInt = s_169.toInt + 2) ∧ (sb_Fit f_177) := ch174
    refine pb_eq (pc' := 171) (lo' := [(6, .int 1), (5, .int r_4), (4, .int i1), (0, .ref h), (1, .ref sp), (2, .int i), (3, .ref q)]) (rest' := []) (ws' := [(h, .inr (6, [.ref mm, .ref mr])), (tn, .inl (G.2.1, 384, .inl tfn)), (tz, .inl (G.2.2.1, 16, .inl tfz)), (sp, .inr (3, [.ref tn, .ref tz, .ref tb, .ref tg, .int c])), (tg, .inl (G.2.2.1, 17, .inl tfg)), (q, .inr (4, [.ref pp, .ref pl, .ref pe, .ref tb, .int i1, .int r_4, .int b_10, .int l_11, .int d_12])), (pp, .inr (0, [.ref pb, .int p_13])), (pb, .inl (G.2.1, 4502, .inl f_14)), (pl, .inl (G.2.2.1, 1024, .inl fl_15)), (pe, .inl (G.2.2.1, 4000, .inl fe_16)), (tb, .inl (G.2.1, 12000, .inl tfb)), (mm, .inr (0, [.ref mb, .int s_176])), (mb, .inl (G.2.1, 14006, .inl f_177))]) ?_
    refine pb_aload_n (pc := 171) d_FileMaker_putRecord_171 3 rfl rfl ?_
    refine pb_get (pc := 172) d_FileMaker_putRecord_172 0 0 rfl rfl (by decide) in_FileMaker k_292 rfl ?_
    refine pb_iconst (pc := 175) (v := 0) d_FileMaker_putRecord_175 (by decide) ?_
    refine pb_callV (pc := 176) (I := i_FileMaker_putRecord) (qb := 11) (ci := 0) (nA := 1) (rest := []) (wr := [(h, .inr (6, [.ref mm, .ref mr])), (tn, .inl (G.2.1, 384, .inl tfn)), (tz, .inl (G.2.2.1, 16, .inl tfz)), (sp, .inr (3, [.ref tn, .ref tz, .ref tb, .ref tg, .int c])), (tg, .inl (G.2.2.1, 17, .inl tfg)), (q, .inr (4, [.ref pp, .ref pl, .ref pe, .ref tb, .int i1, .int r_4, .int b_10, .int l_11, .int d_12])), (pp, .inr (0, [.ref pb, .int p_13])), (pb, .inl (G.2.1, 4502, .inl f_14)), (pl, .inl (G.2.2.1, 1024, .inl fl_15)), (pe, .inl (G.2.2.1, 4000, .inl fe_16)), (tb, .inl (G.2.1, 12000, .inl tfb))]) d_FileMaker_putRecord_176 (g_Row_putTwo hl G mm mb 14006 f_177 s_176 0 (by first | assumption | omega (splitDisjunctions := false) | omega | decide) (by first | assumption | omega (splitDisjunctions := false) | omega | decide) (by first | assumption | omega (splitDisjunctions := false) | omega | decide) fh179) rfl rfl [11, 12] [0, 1, 2, 3, 4, 5, 6, 7, 8, 9, 10] (by decide) rfl rfl rfl (by decide) (by decide) k_551 rfl k_119 k_556 k_549 k_550 ⟨rfl, hy_Row_putTwo⟩ (by decide) rfl rfl (Nat.le_of_ble_eq_true rfl) (by decide) (fun v9 u181 ch180 => ?_)
    obtain ⟨s_182, f_183⟩ := u181
    obtain ⟨ech180, ch180⟩ := ch180
    have ech180 : v9 = none := ech180
    subst ech180
    obtain ⟨fh184, fh185⟩ : (s_182.toInt = s_176.toInt + 2) ∧ (sb_Fit f_183) := ch180
    refine pb_eq (pc' := 179) (lo' := [(6, .int 1), (5, .int r_4), (4, .int i1), (0, .ref h), (1, .ref sp), (2, .int i), (3, .ref q)]) (rest' := []) (ws' := [(h, .inr (6, [.ref mm, .ref mr])), (tn, .inl (G.2.1, 384, .inl tfn)), (tz, .inl (G.2.2.1, 16, .inl tfz)), (sp, .inr (3, [.ref tn, .ref tz, .ref tb, .ref tg, .int c])), (tg, .inl (G.2.2.1, 17, .inl tfg)), (q, .inr (4, [.ref pp, .ref pl, .ref pe, .ref tb, .int i1, .int r_4, .int b_10, .int l_11, .int d_12])), (pp, .inr (0, [.ref pb, .int p_13])), (pb, .inl (G.2.1, 4502, .inl f_14)), (pl, .inl (G.2.2.1, 1024, .inl fl_15)), (pe, .inl (G.2.2.1, 4000, .inl fe_16)), (tb, .inl (G.2.1, 12000, .inl tfb)), (mm, .inr (0, [.ref mb, .int s_182])), (mb, .inl (G.2.1, 14006, .inl f_183))]) ?_
    refine pb_aload_n (pc := 179) d_FileMaker_putRecord_179 3 rfl rfl ?_
    refine pb_get (pc := 180) d_FileMaker_putRecord_180 0 0 rfl rfl (by decide) in_FileMaker k_292 rfl ?_
    refine pb_aload_n (pc := 183) d_FileMaker_putRecord_183 4 rfl rfl ?_
    refine pb_getN (pc := 184) d_FileMaker_putRecord_184 3 0 rfl rfl (by decide) in_Shelf k_390 rfl ?_
    refine pb_bipush (pc := 187) (v := 24) d_FileMaker_putRecord_187 (by decide) ?_
    refine pb_iload_n (pc := 189) d_FileMaker_putRecord_189 5 rfl rfl ?_
    refine pb_imul (pc := 190) d_FileMaker_putRecord_190 ?_
    refine pb_topi (fun i186 ei186 => ?_)
    try have ti186 : i186.toInt = 24 * i.toInt := ti_mul ei186 (by decide) rfl (by omega) (by omega)
    refine pb_aload_n (pc := 191) d_FileMaker_putRecord_191 4 rfl rfl ?_
    refine pb_getN (pc := 192) d_FileMaker_putRecord_192 3 1 rfl rfl (by decide) in_Shelf k_393 rfl ?_
    refine pb_iload_n (pc := 195) d_FileMaker_putRecord_195 5 rfl rfl ?_
    refine pb_iald (pc := 196) d_FileMaker_putRecord_196 2 rfl (vp_in_iff.mpr (by constructor <;> omega)) ?_
    refine pb_topi (fun i187 ei187 => ?_)
    have ti187 : i187.toInt = gx tfz (i.toInt) := gx_ld ei187 rfl
    refine pb_callV (pc := 197) (I := i_FileMaker_putRecord) (qb := 11) (ci := 0) (nA := 3) (rest := []) (wr := [(h, .inr (6, [.ref mm, .ref mr])), (tz, .inl (G.2.2.1, 16, .inl tfz)), (sp, .inr (3, [.ref tn, .ref tz, .ref tb, .ref tg, .int c])), (tg, .inl (G.2.2.1, 17, .inl tfg)), (q, .inr (4, [.ref pp, .ref pl, .ref pe, .ref tb, .int i1, .int r_4, .int b_10, .int l_11, .int d_12])), (pp, .inr (0, [.ref pb, .int p_13])), (pb, .inl (G.2.1, 4502, .inl f_14)), (pl, .inl (G.2.2.1, 1024, .inl fl_15)), (pe, .inl (G.2.2.1, 4000, .inl fe_16)), (tb, .inl (G.2.1, 12000, .inl tfb))]) d_FileMaker_putRecord_197 (g_Row_putBytes hl G mm mb 14006 f_183 s_182 tn 384 tfn i186 i187 (by first | assumption | omega (splitDisjunctions := false) | omega | decide) (by first | assumption | omega (splitDisjunctions := false) | omega | decide) (by first | assumption | omega (splitDisjunctions := false) | omega | decide) (by first | assumption | omega (splitDisjunctions := false) | omega | decide) (by first | assumption | omega (splitDisjunctions := false) | omega | decide) (by first | assumption | omega (splitDisjunctions := false) | omega | decide) (by first | assumption | omega (splitDisjunctions := false) | omega | decide) fh185 F_tfn) rfl rfl [11, 12, 1] [0, 2, 3, 4, 5, 6, 7, 8, 9, 10] (by decide) rfl rfl rfl (by decide) (by decide) k_564 rfl k_119 k_561 k_562 k_563 ⟨rfl, hy_Row_putBytes⟩ (by decide) rfl rfl (Nat.le_of_ble_eq_true rfl) (by decide) (fun v9 u189 ch188 => ?_)
    obtain ⟨s_190, f_191⟩ := u189
    obtain ⟨ech188, ch188⟩ := ch188
    have ech188 : v9 = none := ech188
    subst ech188
    obtain ⟨fh192, fh193, fh194⟩ : (s_190.toInt = s_182.toInt + i187.toInt) ∧ (∀ j : Int, 0 ≤ j → gr f_191 j = if s_182.toInt ≤ j ∧ j < s_182.toInt + i187.toInt then gr tfn (i186.toInt + (j - s_182.toInt)) else gr f_183 j) ∧ (sb_Fit f_191) := ch188
    refine pb_eq (pc' := 200) (lo' := [(6, .int 1), (5, .int r_4), (4, .int i1), (0, .ref h), (1, .ref sp), (2, .int i), (3, .ref q)]) (rest' := []) (ws' := [(h, .inr (6, [.ref mm, .ref mr])), (tz, .inl (G.2.2.1, 16, .inl tfz)), (sp, .inr (3, [.ref tn, .ref tz, .ref tb, .ref tg, .int c])), (tg, .inl (G.2.2.1, 17, .inl tfg)), (q, .inr (4, [.ref pp, .ref pl, .ref pe, .ref tb, .int i1, .int r_4, .int b_10, .int l_11, .int d_12])), (pp, .inr (0, [.ref pb, .int p_13])), (pb, .inl (G.2.1, 4502, .inl f_14)), (pl, .inl (G.2.2.1, 1024, .inl fl_15)), (pe, .inl (G.2.2.1, 4000, .inl fe_16)), (tb, .inl (G.2.1, 12000, .inl tfb)), (mm, .inr (0, [.ref mb, .int s_190])), (mb, .inl (G.2.1, 14006, .inl f_191)), (tn, .inl (G.2.1, 384, .inl tfn))]) ?_
    refine pb_iload (pc := 200) d_FileMaker_putRecord_200 0 rfl ?_
    refine pb_if_eq (pc := 202) (tgt := 230) d_FileMaker_putRecord_202 (by decide) (fun h9 => absurd h9 (by decide)) (fun _ => ?_)
    refine pb_aload_n (pc := 205) d_FileMaker_putRecord_205 3 rfl rfl ?_
    refine pb_get (pc := 206) d_FileMaker_putRecord_206 0 0 rfl rfl (by decide) in_FileMaker k_292 rfl ?_
    refine pb_aload_n (pc := 209) d_FileMaker_putRecord_209 6 rfl rfl ?_
    refine pb_getN (pc := 210) d_FileMaker_putRecord_210 4 0 rfl rfl (by decide) in_Presser k_182 rfl ?_
    refine pb_getN (pc := 213) d_FileMaker_putRecord_213 5 0 rfl rfl (by decide) in_Row k_158 rfl ?_
    refine pb_iconst (pc := 216) (v := 0) d_FileMaker_putRecord_216 (by decide) ?_
    refine pb_aload_n (pc := 217) d_FileMaker_putRecord_217 6 rfl rfl ?_
    refine pb_getN (pc := 218) d_FileMaker_putRecord_218 4 0 rfl rfl (by decide) in_Presser k_182 rfl ?_
    refine pb_getN (pc := 221) d_FileMaker_putRecord_221 5 1 rfl rfl (by decide) in_Row k_163 rfl ?_
    refine pb_callV (pc := 224) (I := i_FileMaker_putRecord) (qb := 10) (ci := 0) (nA := 3) (rest := []) (wr := [(h, .inr (6, [.ref mm, .ref mr])), (tz, .inl (G.2.2.1, 16, .inl tfz)), (sp, .inr (3, [.ref tn, .ref tz, .ref tb, .ref tg, .int c])), (tg, .inl (G.2.2.1, 17, .inl tfg)), (q, .inr (4, [.ref pp, .ref pl, .ref pe, .ref tb, .int i1, .int r_4, .int b_10, .int l_11, .int d_12])), (pp, .inr (0, [.ref pb, .int p_13])), (pl, .inl (G.2.2.1, 1024, .inl fl_15)), (pe, .inl (G.2.2.1, 4000, .inl fe_16)), (tb, .inl (G.2.1, 12000, .inl tfb)), (tn, .inl (G.2.1, 384, .inl tfn))]) d_FileMaker_putRecord_224 (g_Row_putBytes hl G mm mb 14006 f_191 s_190 pb 4502 f_14 0 p_13 (by first | assumption | omega (splitDisjunctions := false) | omega | decide) (by first | assumption | omega (splitDisjunctions := false) | omega | decide) (by first | assumption | omega (splitDisjunctions := false) | omega | decide) (by first | assumption | omega (splitDisjunctions := false) | omega | decide) (by first | assumption | omega (splitDisjunctions := false) | omega | decide) (by first | assumption | omega (splitDisjunctions := false) | omega | decide) (by first | assumption | omega (splitDisjunctions := false) | omega | decide) fh194 fh21) rfl rfl [10, 11, 6] [0, 1, 2, 3, 4, 5, 7, 8, 9, 12] (by decide) rfl rfl rfl (by decide) (by decide) k_564 rfl k_119 k_561 k_562 k_563 ⟨rfl, hy_Row_putBytes⟩ (by decide) rfl rfl (Nat.le_of_ble_eq_true rfl) (by decide) (fun v9 u197 ch196 => ?_)
    obtain ⟨s_198, f_199⟩ := u197
    obtain ⟨ech196, ch196⟩ := ch196
    have ech196 : v9 = none := ech196
    subst ech196
    obtain ⟨fh200, fh201, fh202⟩ : (s_198.toInt = s_190.toInt + p_13.toInt) ∧ (∀ j : Int, 0 ≤ j → gr f_199 j = if s_190.toInt ≤ j ∧ j < s_190.toInt + p_13.toInt then gr f_14 ((0 : Int32).toInt + (j - s_190.toInt)) else gr f_191 j) ∧ (sb_Fit f_199) := ch196
    refine pb_eq (pc' := 227) (lo' := [(6, .int 1), (5, .int r_4), (4, .int i1), (0, .ref h), (1, .ref sp), (2, .int i), (3, .ref q)]) (rest' := []) (ws' := [(h, .inr (6, [.ref mm, .ref mr])), (tz, .inl (G.2.2.1, 16, .inl tfz)), (sp, .inr (3, [.ref tn, .ref tz, .ref tb, .ref tg, .int c])), (tg, .inl (G.2.2.1, 17, .inl tfg)), (q, .inr (4, [.ref pp, .ref pl, .ref pe, .ref tb, .int i1, .int r_4, .int b_10, .int l_11, .int d_12])), (pp, .inr (0, [.ref pb, .int p_13])), (pl, .inl (G.2.2.1, 1024, .inl fl_15)), (pe, .inl (G.2.2.1, 4000, .inl fe_16)), (tb, .inl (G.2.1, 12000, .inl tfb)), (tn, .inl (G.2.1, 384, .inl tfn)), (mm, .inr (0, [.ref mb, .int s_198])), (mb, .inl (G.2.1, 14006, .inl f_199)), (pb, .inl (G.2.1, 4502, .inl f_14))]) ?_
    refine pb_goto (pc := 227) (tgt := 245) d_FileMaker_putRecord_227 (by decide) ?_
    exact pb_vret (pc := 245) hQ d_FileMaker_putRecord_245 rfl (s_198, f_199, tb, i1, r_4, b_10, l_11, d_12, p_13, f_14, fl_15, fe_16) ⟨rfl, (by (try dsimp only); first | done | assumption | omega (splitDisjunctions := false) | omega | decide), (by (try dsimp only); first | done | assumption | omega (splitDisjunctions := false) | omega | decide), fh202, fh21⟩ [0, 10, 11, 2, 9, 1, 8, 3, 4, 5, 12, 6, 7] (by decide) rfl rfl (by decide) (by decide)

theorem d_FileMaker_make_0 : decode prog_4_method_2_code 0 = .ok (.aload_n 0, 1) := by decide +kernel
theorem d_FileMaker_make_1 : decode prog_4_method_2_code 1 = .ok (.getfield 14, 3) := by decide +kernel
theorem d_FileMaker_make_4 : decode prog_4_method_2_code 4 = .ok (.iconst 0, 1) := by decide +kernel
theorem d_FileMaker_make_5 : decode prog_4_method_2_code 5 = .ok (.putfield 24, 3) := by decide +kernel
theorem d_FileMaker_make_8 : decode prog_4_method_2_code 8 = .ok (.iconst 0, 1) := by decide +kernel
theorem d_FileMaker_make_9 : decode prog_4_method_2_code 9 = .ok (.istore_n 3, 1) := by decide +kernel
theorem d_FileMaker_make_10 : decode prog_4_method_2_code 10 = .ok (.iload_n 3, 1) := by decide +kernel
theorem d_FileMaker_make_11 : decode prog_4_method_2_code 11 = .ok (.aload_n 1, 1) := by decide +kernel
theorem d_FileMaker_make_12 : decode prog_4_method_2_code 12 = .ok (.getfield 28, 3) := by decide +kernel
theorem k_404 : (Jvm.Cond.fieldLinkNest "PackageBook$FileMaker" (28 : Nat) "PackageBook$Shelf" "count" "I" "PackageBook") ∈ uN := uN_of 404 (by decide +kernel) (by decide +kernel)
theorem d_FileMaker_make_15 : decode prog_4_method_2_code 15 = .ok (.if_icmp .ge 29, 3) := by decide +kernel
theorem d_FileMaker_make_44 : decode prog_4_method_2_code 44 = .ok (.aload_n 0, 1) := by decide +kernel
theorem d_FileMaker_make_45 : decode prog_4_method_2_code 45 = .ok (.getfield 14, 3) := by decide +kernel
theorem d_FileMaker_make_48 : decode prog_4_method_2_code 48 = .ok (.getfield 24, 3) := by decide +kernel
theorem d_FileMaker_make_51 : decode prog_4_method_2_code 51 = .ok (.istore_n 3, 1) := by decide +kernel
theorem d_FileMaker_make_52 : decode prog_4_method_2_code 52 = .ok (.iconst 0, 1) := by decide +kernel
theorem d_FileMaker_make_53 : decode prog_4_method_2_code 53 = .ok (.istore 4, 2) := by decide +kernel
theorem d_FileMaker_make_55 : decode prog_4_method_2_code 55 = .ok (.iload 4, 2) := by decide +kernel
theorem d_FileMaker_make_57 : decode prog_4_method_2_code 57 = .ok (.aload_n 1, 1) := by decide +kernel
theorem d_FileMaker_make_58 : decode prog_4_method_2_code 58 = .ok (.getfield 28, 3) := by decide +kernel
theorem d_FileMaker_make_61 : decode prog_4_method_2_code 61 = .ok (.if_icmp .ge 16, 3) := by decide +kernel
theorem d_FileMaker_make_77 : decode prog_4_method_2_code 77 = .ok (.aload_n 0, 1) := by decide +kernel
theorem d_FileMaker_make_78 : decode prog_4_method_2_code 78 = .ok (.aload_n 1, 1) := by decide +kernel
theorem d_FileMaker_make_79 : decode prog_4_method_2_code 79 = .ok (.getfield 28, 3) := by decide +kernel
theorem d_FileMaker_make_82 : decode prog_4_method_2_code 82 = .ok (.iload_n 3, 1) := by decide +kernel
theorem d_FileMaker_make_83 : decode prog_4_method_2_code 83 = .ok (.invokevirtual 41, 3) := by decide +kernel
theorem k_571 : (Jvm.Cond.methodLink "PackageBook$FileMaker" (41 : Nat) ({ cls := "PackageBook$FileMaker", name := "putEnd", desc := "(II)V" } : Jvm.MethodName)) ∈ uW := uW_of 571 (by decide +kernel) (by decide +kernel)
theorem k_123 : (Jvm.Cond.initialized "PackageBook$FileMaker") ∈ uW := uW_of 123 (by decide +kernel) (by decide +kernel)
theorem k_574 : (Jvm.Cond.code ({ cls := "PackageBook$FileMaker", name := "putEnd", desc := "(II)V" } : Jvm.MethodName) prog_4_method_5_code (4 : Nat) (Option.none : Option Jvm.ClassFile.FieldType)) ∈ uW := uW_of 574 (by decide +kernel) (by decide +kernel)
theorem k_573 : (Jvm.Cond.instanceMethod ({ cls := "PackageBook$FileMaker", name := "putEnd", desc := "(II)V" } : Jvm.MethodName)) ∈ uW := uW_of 573 (by decide +kernel) (by decide +kernel)
theorem k_11 : Cond.selects "PackageBook$FileMaker" ⟨"PackageBook$FileMaker", "putEnd", "(II)V"⟩ ⟨"PackageBook$FileMaker", "putEnd", "(II)V"⟩ ∈ uW := uW_of 11 (by decide +kernel) (by decide +kernel)
theorem hy_FileMaker_putEnd : (y_FileMaker_putEnd).cls ≠ "java/lang/invoke/MethodHandle" ∧ (y_FileMaker_putEnd).cls ≠ "java/lang/invoke/VarHandle" ∧ (parseMethodDescriptor (y_FileMaker_putEnd).desc).map (fun d => d.parameters.length) = some 2 := by decide +kernel
theorem d_FileMaker_make_86 : decode prog_4_method_2_code 86 = .ok (.return_, 1) := by decide +kernel
theorem d_FileMaker_make_64 : decode prog_4_method_2_code 64 = .ok (.aload_n 0, 1) := by decide +kernel
theorem d_FileMaker_make_65 : decode prog_4_method_2_code 65 = .ok (.aload_n 1, 1) := by decide +kernel
theorem d_FileMaker_make_66 : decode prog_4_method_2_code 66 = .ok (.iload 4, 2) := by decide +kernel
theorem d_FileMaker_make_68 : decode prog_4_method_2_code 68 = .ok (.invokevirtual 37, 3) := by decide +kernel
theorem k_566 : (Jvm.Cond.methodLink "PackageBook$FileMaker" (37 : Nat) ({ cls := "PackageBook$FileMaker", name := "putEntry", desc := "(LPackageBook$Shelf;I)V" } : Jvm.MethodName)) ∈ uW := uW_of 566 (by decide +kernel) (by decide +kernel)
theorem k_569 : (Jvm.Cond.code ({ cls := "PackageBook$FileMaker", name := "putEntry", desc := "(LPackageBook$Shelf;I)V" } : Jvm.MethodName) prog_4_method_4_code (3 : Nat) (Option.none : Option Jvm.ClassFile.FieldType)) ∈ uW := uW_of 569 (by decide +kernel) (by decide +kernel)
theorem k_568 : (Jvm.Cond.instanceMethod ({ cls := "PackageBook$FileMaker", name := "putEntry", desc := "(LPackageBook$Shelf;I)V" } : Jvm.MethodName)) ∈ uW := uW_of 568 (by decide +kernel) (by decide +kernel)
theorem k_10 : Cond.selects "PackageBook$FileMaker" ⟨"PackageBook$FileMaker", "putEntry", "(LPackageBook$Shelf;I)V"⟩ ⟨"PackageBook$FileMaker", "putEntry", "(LPackageBook$Shelf;I)V"⟩ ∈ uW := uW_of 10 (by decide +kernel) (by decide +kernel)
theorem hy_FileMaker_putEntry : (y_FileMaker_putEntry).cls ≠ "java/lang/invoke/MethodHandle" ∧ (y_FileMaker_putEntry).cls ≠ "java/lang/invoke/VarHandle" ∧ (parseMethodDescriptor (y_FileMaker_putEntry).desc).map (fun d => d.parameters.length) = some 2 := by decide +kernel
theorem d_FileMaker_make_71 : decode prog_4_method_2_code 71 = .ok (.iinc 4 1, 3) := by decide +kernel
theorem d_FileMaker_make_74 : decode prog_4_method_2_code 74 = .ok (.goto (-19), 3) := by decide +kernel
theorem d_FileMaker_make_18 : decode prog_4_method_2_code 18 = .ok (.aload_n 0, 1) := by decide +kernel
theorem d_FileMaker_make_19 : decode prog_4_method_2_code 19 = .ok (.getfield 20, 3) := by decide +kernel
theorem d_FileMaker_make_22 : decode prog_4_method_2_code 22 = .ok (.iload_n 3, 1) := by decide +kernel
theorem d_FileMaker_make_23 : decode prog_4_method_2_code 23 = .ok (.aload_n 0, 1) := by decide +kernel
theorem d_FileMaker_make_24 : decode prog_4_method_2_code 24 = .ok (.getfield 14, 3) := by decide +kernel
theorem d_FileMaker_make_27 : decode prog_4_method_2_code 27 = .ok (.getfield 24, 3) := by decide +kernel
theorem d_FileMaker_make_30 : decode prog_4_method_2_code 30 = .ok (.iastore, 1) := by decide +kernel
theorem d_FileMaker_make_31 : decode prog_4_method_2_code 31 = .ok (.aload_n 0, 1) := by decide +kernel
theorem d_FileMaker_make_32 : decode prog_4_method_2_code 32 = .ok (.aload_n 1, 1) := by decide +kernel
theorem d_FileMaker_make_33 : decode prog_4_method_2_code 33 = .ok (.iload_n 3, 1) := by decide +kernel
theorem d_FileMaker_make_34 : decode prog_4_method_2_code 34 = .ok (.aload_n 2, 1) := by decide +kernel
theorem d_FileMaker_make_35 : decode prog_4_method_2_code 35 = .ok (.invokevirtual 33, 3) := by decide +kernel
theorem k_493 : (Jvm.Cond.methodLink "PackageBook$FileMaker" (33 : Nat) ({ cls := "PackageBook$FileMaker", name := "putRecord", desc := "(LPackageBook$Shelf;ILPackageBook$Presser;)V" } : Jvm.MethodName)) ∈ uW := uW_of 493 (by decide +kernel) (by decide +kernel)
theorem k_496 : (Jvm.Cond.code ({ cls := "PackageBook$FileMaker", name := "putRecord", desc := "(LPackageBook$Shelf;ILPackageBook$Presser;)V" } : Jvm.MethodName) prog_4_method_3_code (7 : Nat) (Option.none : Option Jvm.ClassFile.FieldType)) ∈ uW := uW_of 496 (by decide +kernel) (by decide +kernel)
theorem k_495 : (Jvm.Cond.instanceMethod ({ cls := "PackageBook$FileMaker", name := "putRecord", desc := "(LPackageBook$Shelf;ILPackageBook$Presser;)V" } : Jvm.MethodName)) ∈ uW := uW_of 495 (by decide +kernel) (by decide +kernel)
theorem k_1 : Cond.selects "PackageBook$FileMaker" ⟨"PackageBook$FileMaker", "putRecord", "(LPackageBook$Shelf;ILPackageBook$Presser;)V"⟩ ⟨"PackageBook$FileMaker", "putRecord", "(LPackageBook$Shelf;ILPackageBook$Presser;)V"⟩ ∈ uW := uW_of 1 (by decide +kernel) (by decide +kernel)
theorem hy_FileMaker_putRecord : (y_FileMaker_putRecord).cls ≠ "java/lang/invoke/MethodHandle" ∧ (y_FileMaker_putRecord).cls ≠ "java/lang/invoke/VarHandle" ∧ (parseMethodDescriptor (y_FileMaker_putRecord).desc).map (fun d => d.parameters.length) = some 3 := by decide +kernel
theorem d_FileMaker_make_38 : decode prog_4_method_2_code 38 = .ok (.iinc 3 1, 3) := by decide +kernel
theorem d_FileMaker_make_41 : decode prog_4_method_2_code 41 = .ok (.goto (-31), 3) := by decide +kernel
abbrev y_FileMaker_make : MethodName := ⟨"PackageBook$FileMaker", "make", "(LPackageBook$Shelf;LPackageBook$Presser;)V"⟩
abbrev i_FileMaker_make : pb_I := (y_FileMaker_make, prog_4_method_2_code, 5, (Option.none : Option Jvm.ClassFile.FieldType), [], { frames := 5, cells := 0, slots := 0, locals := 117 })
set_option maxRecDepth 100000 in
set_option maxHeartbeats 4000000 in
theorem g_Mk_make {l : Launch} (hl : l.stackTraces = false) (G : pb_G) (h : Nat) (mm : Nat) (mr : Nat) (mb : Nat) (f : Nat → Int32) (s : Int32) (fr : Nat → Int32) (sp : Nat) (tn : Nat) (tz : Nat) (tb : Nat) (tg : Nat) (c : Int32) (tfn : Nat → Int32) (tfz : Nat → Int32) (tfb : Nat → Int32) (tfg : Nat → Int32) (q : Nat) (pp : Nat) (pl : Nat) (pe : Nat) (pr : Nat) (pb : Nat) (bg : Int32) (sz : Int32) (bt : Int32) (ln : Int32) (ds : Int32) (ps : Int32) (pf : Nat → Int32) (fl : Nat → Int32) (fe : Nat → Int32) (I : sh_I c.toInt tfz tfg) (F_f : sb_Fit f) (F_tfn : sb_Fit tfn) (F_tfb : sb_Fit tfb) (F_pf : sb_Fit pf) : Cn l G i_FileMaker_make [.ref h, .ref sp, .ref q] [(h, .inr (6, [.ref mm, .ref mr])), (mm, .inr (0, [.ref mb, .int s])), (mb, .inl (G.2.1, 14006, .inl f)), (mr, .inl (G.2.2.1, 16, .inl fr)), (sp, .inr (3, [.ref tn, .ref tz, .ref tb, .ref tg, .int c])), (tn, .inl (G.2.1, 384, .inl tfn)), (tz, .inl (G.2.2.1, 16, .inl tfz)), (tb, .inl (G.2.1, 12000, .inl tfb)), (tg, .inl (G.2.2.1, 17, .inl tfg)), (q, .inr (4, [.ref pp, .ref pl, .ref pe, .ref pr, .int bg, .int sz, .int bt, .int ln, .int ds])), (pp, .inr (0, [.ref pb, .int ps])), (pb, .inl (G.2.1, 4502, .inl pf)), (pl, .inl (G.2.2.1, 1024, .inl fl)), (pe, .inl (G.2.2.1, 4000, .inl fe))] (S := Int32 × (Nat → Int32) × (Nat → Int32) × Nat × Int32 × Int32 × Int32 × Int32 × Int32 × Int32 × (Nat → Int32) × (Nat → Int32) × (Nat → Int32)) (fun rv_ u => rv_ = none ∧ (0 ≤ u.1.toInt) ∧ (u.1.toInt ≤ 14006) ∧ (sb_Fit u.2.1) ∧ (sb_Fit u.2.2.2.2.2.2.2.2.2.2.1)) (fun u => [(h, .inr (6, [.ref mm, .ref mr])), (mm, .inr (0, [.ref mb, .int u.1])), (mb, .inl (G.2.1, 14006, .inl u.2.1)), (mr, .inl (G.2.2.1, 16, .inl u.2.2.1)), (sp, .inr (3, [.ref tn, .ref tz, .ref tb, .ref tg, .int c])), (tn, .inl (G.2.1, 384, .inl tfn)), (tz, .inl (G.2.2.1, 16, .inl tfz)), (tb, .inl (G.2.1, 12000, .inl tfb)), (tg, .inl (G.2.2.1, 17, .inl tfg)), (q, .inr (4, [.ref pp, .ref pl, .ref pe, .ref u.2.2.2.1, .int u.2.2.2.2.1, .int u.2.2.2.2.2.1, .int u.2.2.2.2.2.2.1, .int u.2.2.2.2.2.2.2.1, .int u.2.2.2.2.2.2.2.2.1])), (pp, .inr (0, [.ref pb, .int u.2.2.2.2.2.2.2.2.2.1])), (pb, .inl (G.2.1, 4502, .inl u.2.2.2.2.2.2.2.2.2.2.1)), (pl, .inl (G.2.2.1, 1024, .inl u.2.2.2.2.2.2.2.2.2.2.2.1)), (pe, .inl (G.2.2.1, 4000, .inl u.2.2.2.2.2.2.2.2.2.2.2.2))]) := by
  refine Cn.of hl (by decide +kernel) rfl (Nat.le_of_ble_eq_true rfl) (fun M hQ => ?_)
  refine pb_eq (pc' := 0) (lo' := [(0, .ref h), (1, .ref sp), (2, .ref q)]) (rest' := []) (ws' := [(h, .inr (6, [.ref mm, .ref mr])), (mm, .inr (0, [.ref mb, .int s])), (mb, .inl (G.2.1, 14006, .inl f)), (mr, .inl (G.2.2.1, 16, .inl fr)), (sp, .inr (3, [.ref tn, .ref tz, .ref tb, .ref tg, .int c])), (tn, .inl (G.2.1, 384, .inl tfn)), (tz, .inl (G.2.2.1, 16, .inl tfz)), (tb, .inl (G.2.1, 12000, .inl tfb)), (tg, .inl (G.2.2.1, 17, .inl tfg)), (q, .inr (4, [.ref pp, .ref pl, .ref pe, .ref pr, .int bg, .int sz, .int bt, .int ln, .int ds])), (pp, .inr (0, [.ref pb, .int ps])), (pb, .inl (G.2.1, 4502, .inl pf)), (pl, .inl (G.2.2.1, 1024, .inl fl)), (pe, .inl (G.2.2.1, 4000, .inl fe))]) ?_
  have zl0 : (0 : Int32).toInt = 0 := by decide
  have zl1 : (1 : Int32).toInt = 1 := by decide
  have p1 := I.1
  have p2 := I.2.1
  have p3 := I.2.2.1
  have p4 := I.2.2.2.1
  refine pb_aload_n (pc := 0) d_FileMaker_make_0 0 rfl rfl ?_
  refine pb_get (pc := 1) d_FileMaker_make_1 0 0 rfl rfl (by decide) in_FileMaker k_292 rfl ?_
  refine pb_iconst (pc := 4) (v := 0) d_FileMaker_make_4 (by decide) ?_
  refine pb_putN (pc := 5) (ty := .int) (ws' := [(h, .inr (6, [.ref mm, .ref mr])), (mm, .inr (0, [.ref mb, .int 0])), (mb, .inl (G.2.1, 14006, .inl f)), (mr, .inl (G.2.2.1, 16, .inl fr)), (sp, .inr (3, [.ref tn, .ref tz, .ref tb, .ref tg, .int c])), (tn, .inl (G.2.1, 384, .inl tfn)), (tz, .inl (G.2.2.1, 16, .inl tfz)), (tb, .inl (G.2.1, 12000, .inl tfb)), (tg, .inl (G.2.2.1, 17, .inl tfg)), (q, .inr (4, [.ref pp, .ref pl, .ref pe, .ref pr, .int bg, .int sz, .int bt, .int ln, .int ds])), (pp, .inr (0, [.ref pb, .int ps])), (pb, .inl (G.2.1, 4502, .inl pf)), (pl, .inl (G.2.2.1, 1024, .inl fl)), (pe, .inl (G.2.2.1, 4000, .inl fe))]) d_FileMaker_make_5 1 1 t_Row t_Row_ok n_Row rfl rfl (by decide) in_Row k_163 rfl (by decide +kernel) rfl rfl (Nat.le_of_ble_eq_true rfl) rfl ?_
  refine pb_iconst (pc := 8) (v := 0) d_FileMaker_make_8 (by decide) ?_
  refine pb_istore_n (pc := 9) (lo' := [(3, .int 0), (0, .ref h), (1, .ref sp), (2, .ref q)]) d_FileMaker_make_9 rfl (by decide) rfl ?_
  have hL10_1 : ∀ (N9 : Nat) (i : Int32) (s_ : Int32) (f_ : Nat → Int32) (fr_ : Nat → Int32) (pr_ : Nat) (bg_ : Int32) (sz_ : Int32) (bt_ : Int32) (ln_ : Int32) (ds_ : Int32) (ps_ : Int32) (pf_ : Nat → Int32) (fl_ : Nat → Int32) (fe_ : Nat → Int32), (sb_Fit f_) → (sb_Fit pf_) → (0 ≤ i.toInt) → (i.toInt ≤ c.toInt) → (0 ≤ s_.toInt) → (s_.toInt ≤ gx tfg i.toInt + 54 * i.toInt) → (∀ j : Int, 0 ≤ j → j < i.toInt → 0 ≤ gx fr_ j ∧ gx fr_ j ≤ 13000) → ((c.toInt - i.toInt).toNat) < N9 → pb_P l G M i_FileMaker_make 10 [(3, .int i), (0, .ref h), (1, .ref sp), (2, .ref q)] [] [(h, .inr (6, [.ref mm, .ref mr])), (mm, .inr (0, [.ref mb, .int s_])), (mb, .inl (G.2.1, 14006, .inl f_)), (mr, .inl (G.2.2.1, 16, .inl fr_)), (sp, .inr (3, [.ref tn, .ref tz, .ref tb, .ref tg, .int c])), (tn, .inl (G.2.1, 384, .inl tfn)), (tz, .inl (G.2.2.1, 16, .inl tfz)), (tb, .inl (G.2.1, 12000, .inl tfb)), (tg, .inl (G.2.2.1, 17, .inl tfg)), (q, .inr (4, [.ref pp, .ref pl, .ref pe, .ref pr_, .int bg_, .int sz_, .int bt_, .int ln_, .int ds_])), (pp, .inr (0, [.ref pb, .int ps_])), (pb, .inl (G.2.1, 4502, .inl pf_)), (pl, .inl (G.2.2.1, 1024, .inl fl_)), (pe, .inl (G.2.2.1, 4000, .inl fe_))] 0 0 := by
    intro N9
    induction N9 with
    | zero => intro i s_ f_ fr_ pr_ bg_ sz_ bt_ ln_ ds_ ps_ pf_ fl_ fe_ F_f_ F_pf_ hi hi2 hs0 hs1 hr hm9; exact absurd hm9 (Nat.not_lt_zero _)
    | succ N9 ih10 =>
      intro i s_ f_ fr_ pr_ bg_ sz_ bt_ ln_ ds_ ps_ pf_ fl_ fe_ F_f_ F_pf_ hi hi2 hs0 hs1 hr hm9
      refine pb_iload_n (pc := 10) d_FileMaker_make_10 0 rfl rfl ?_
      refine pb_aload_n (pc := 11) d_FileMaker_make_11 2 rfl rfl ?_
      refine pb_getN (pc := 12) d_FileMaker_make_12 4 4 rfl rfl (by decide) in_Shelf k_404 rfl ?_
      refine pb_icmp_ge (pc := 15) (tgt := 44) d_FileMaker_make_15 (by decide) (fun w2 => ?_) (fun w2 => ?_)
      · have tw2 : c.toInt ≤ i.toInt := (ti_le rfl rfl).mp w2
        have ic : i.toInt = c.toInt := by omega
        have p8 : gx tfg i.toInt ≤ 12000 := by rw [ic]; exact p4
        refine pb_aload_n (pc := 44) d_FileMaker_make_44 1 rfl rfl ?_
        refine pb_get (pc := 45) d_FileMaker_make_45 0 0 rfl rfl (by decide) in_FileMaker k_292 rfl ?_
        refine pb_getN (pc := 48) d_FileMaker_make_48 1 1 rfl rfl (by decide) in_Row k_163 rfl ?_
        refine pb_istore_n (pc := 51) (lo' := [(3, .int s_), (0, .ref h), (1, .ref sp), (2, .ref q)]) d_FileMaker_make_51 rfl (by decide) rfl ?_
        refine pb_iconst (pc := 52) (v := 0) d_FileMaker_make_52 (by decide) ?_
        refine pb_istore (pc := 53) (lo' := [(4, .int 0), (3, .int s_), (0, .ref h), (1, .ref sp), (2, .ref q)]) d_FileMaker_make_53 (by decide) rfl ?_
        have hL55_3 : ∀ (N9 : Nat) (i4 : Int32) (d4 : Int32) (s4 : Int32) (f4 : Nat → Int32), (sb_Fit f4) → (0 ≤ i4.toInt) → (i4.toInt ≤ c.toInt) → (0 ≤ s4.toInt) → (s4.toInt ≤ 12864 + 70 * i4.toInt) → ((c.toInt - i4.toInt).toNat) < N9 → pb_P l G M i_FileMaker_make 55 [(4, .int i4), (3, .int d4), (0, .ref h), (1, .ref sp), (2, .ref q)] [] [(h, .inr (6, [.ref mm, .ref mr])), (mm, .inr (0, [.ref mb, .int s4])), (mb, .inl (G.2.1, 14006, .inl f4)), (mr, .inl (G.2.2.1, 16, .inl fr_)), (sp, .inr (3, [.ref tn, .ref tz, .ref tb, .ref tg, .int c])), (tn, .inl (G.2.1, 384, .inl tfn)), (tz, .inl (G.2.2.1, 16, .inl tfz)), (tb, .inl (G.2.1, 12000, .inl tfb)), (tg, .inl (G.2.2.1, 17, .inl tfg)), (q, .inr (4, [.ref pp, .ref pl, .ref pe, .ref pr_, .int bg_, .int sz_, .int bt_, .int ln_, .int ds_])), (pp, .inr (0, [.ref pb, .int ps_])), (pb, .inl (G.2.1, 4502, .inl pf_)), (pl, .inl (G.2.2.1, 1024, .inl fl_)), (pe, .inl (G.2.2.1, 4000, .inl fe_))] 0 0 := by
          intro N9
          induction N9 with
          | zero => intro i4 d4 s4 f4 F_f4 hi4 hi5 hs4 hs5 hm9; exact absurd hm9 (Nat.not_lt_zero _)
          | succ N9 ih55 =>
            intro i4 d4 s4 f4 F_f4 hi4 hi5 hs4 hs5 hm9
            refine pb_iload (pc := 55) d_FileMaker_make_55 0 rfl ?_
            refine pb_aload_n (pc := 57) d_FileMaker_make_57 3 rfl rfl ?_
            refine pb_getN (pc := 58) d_FileMaker_make_58 4 4 rfl rfl (by decide) in_Shelf k_404 rfl ?_
            refine pb_icmp_ge (pc := 61) (tgt := 77) d_FileMaker_make_61 (by decide) (fun w4 => ?_) (fun w4 => ?_)
            · have tw4 : c.toInt ≤ i4.toInt := (ti_le rfl rfl).mp w4
              refine pb_aload_n (pc := 77) d_FileMaker_make_77 2 rfl rfl ?_
              refine pb_aload_n (pc := 78) d_FileMaker_make_78 3 rfl rfl ?_
              refine pb_getN (pc := 79) d_FileMaker_make_79 4 4 rfl rfl (by decide) in_Shelf k_404 rfl ?_
              refine pb_iload_n (pc := 82) d_FileMaker_make_82 1 rfl rfl ?_
              refine pb_callV (pc := 83) (I := i_FileMaker_make) (qb := 0) (ci := 6) (nA := 2) (rest := []) (wr := [(mr, .inl (G.2.2.1, 16, .inl fr_)), (sp, .inr (3, [.ref tn, .ref tz, .ref tb, .ref tg, .int c])), (tn, .inl (G.2.1, 384, .inl tfn)), (tz, .inl (G.2.2.1, 16, .inl tfz)), (tb, .inl (G.2.1, 12000, .inl tfb)), (tg, .inl (G.2.2.1, 17, .inl tfg)), (q, .inr (4, [.ref pp, .ref pl, .ref pe, .ref pr_, .int bg_, .int sz_, .int bt_, .int ln_, .int ds_])), (pp, .inr (0, [.ref pb, .int ps_])), (pb, .inl (G.2.1, 4502, .inl pf_)), (pl, .inl (G.2.2.1, 1024, .inl fl_)), (pe, .inl (G.2.2.1, 4000, .inl fe_))]) d_FileMaker_make_83 (g_Mk_putEnd hl G h mm mr mb f4 s4 c d4 (by first | assumption | omega (splitDisjunctions := false) | omega | decide) (by first | assumption | omega (splitDisjunctions := false) | omega | decide) F_f4) rfl rfl [0, 1, 2] [3, 4, 5, 6, 7, 8, 9, 10, 11, 12, 13] (by decide) rfl rfl rfl (by decide) (by decide) k_574 rfl k_123 k_571 k_573 k_11 ⟨rfl, hy_FileMaker_putEnd⟩ (by decide) rfl rfl (Nat.le_of_ble_eq_true rfl) (by decide) (fun v9 u6 ch5 => ?_)
              obtain ⟨s_7, f_8⟩ := u6
              obtain ⟨ech5, ch5⟩ := ch5
              have ech5 : v9 = none := ech5
              subst ech5
              obtain ⟨fh9, fh10⟩ : (s_7.toInt = s4.toInt + 22) ∧ (sb_Fit f_8) := ch5
              refine pb_eq (pc' := 86) (lo' := [(4, .int i4), (3, .int d4), (0, .ref h), (1, .ref sp), (2, .ref q)]) (rest' := []) (ws' := [(mr, .inl (G.2.2.1, 16, .inl fr_)), (sp, .inr (3, [.ref tn, .ref tz, .ref tb, .ref tg, .int c])), (tn, .inl (G.2.1, 384, .inl tfn)), (tz, .inl (G.2.2.1, 16, .inl tfz)), (tb, .inl (G.2.1, 12000, .inl tfb)), (tg, .inl (G.2.2.1, 17, .inl tfg)), (q, .inr (4, [.ref pp, .ref pl, .ref pe, .ref pr_, .int bg_, .int sz_, .int bt_, .int ln_, .int ds_])), (pp, .inr (0, [.ref pb, .int ps_])), (pb, .inl (G.2.1, 4502, .inl pf_)), (pl, .inl (G.2.2.1, 1024, .inl fl_)), (pe, .inl (G.2.2.1, 4000, .inl fe_)), (h, .inr (6, [.ref mm, .ref mr])), (mm, .inr (0, [.ref mb, .int s_7])), (mb, .inl (G.2.1, 14006, .inl f_8))]) ?_
              exact pb_vret (pc := 86) hQ d_FileMaker_make_86 rfl (s_7, f_8, fr_, pr_, bg_, sz_, bt_, ln_, ds_, ps_, pf_, fl_, fe_) ⟨rfl, (by (try dsimp only); first | done | assumption | omega (splitDisjunctions := false) | omega | decide), (by (try dsimp only); first | done | assumption | omega (splitDisjunctions := false) | omega | decide), fh10, F_pf_⟩ [11, 12, 13, 0, 1, 2, 3, 4, 5, 6, 7, 8, 9, 10] (by decide) rfl rfl (by decide) (by decide)
            · have tw4 : ¬ c.toInt ≤ i4.toInt := fun z9 => w4 ((ti_le rfl rfl).mpr z9)
              have r4 := hr i4.toInt (by omega) (by omega)
              refine pb_aload_n (pc := 64) d_FileMaker_make_64 2 rfl rfl ?_
              refine pb_aload_n (pc := 65) d_FileMaker_make_65 3 rfl rfl ?_
              refine pb_iload (pc := 66) d_FileMaker_make_66 0 rfl ?_
              refine pb_callV (pc := 68) (I := i_FileMaker_make) (qb := 0) (ci := 6) (nA := 2) (rest := []) (wr := [(tb, .inl (G.2.1, 12000, .inl tfb)), (tg, .inl (G.2.2.1, 17, .inl tfg)), (q, .inr (4, [.ref pp, .ref pl, .ref pe, .ref pr_, .int bg_, .int sz_, .int bt_, .int ln_, .int ds_])), (pp, .inr (0, [.ref pb, .int ps_])), (pb, .inl (G.2.1, 4502, .inl pf_)), (pl, .inl (G.2.2.1, 1024, .inl fl_)), (pe, .inl (G.2.2.1, 4000, .inl fe_))]) d_FileMaker_make_68 (g_Mk_putEntry hl G h mm mr mb f4 s4 fr_ sp tn tz tb tg c tfn tfz tfg i4 (by first | assumption | omega (splitDisjunctions := false) | omega | decide) (by first | assumption | omega (splitDisjunctions := false) | omega | decide) (by first | assumption | omega (splitDisjunctions := false) | omega | decide) (by first | assumption | omega (splitDisjunctions := false) | omega | decide) (by first | assumption | omega (splitDisjunctions := false) | omega | decide) (by first | assumption | omega (splitDisjunctions := false) | omega | decide) (by first | assumption | omega (splitDisjunctions := false) | omega | decide) F_f4 F_tfn) rfl rfl [0, 1, 2, 3, 4, 5, 6] [7, 8, 9, 10, 11, 12, 13] (by decide) rfl rfl rfl (by decide) (by decide) k_569 rfl k_123 k_566 k_568 k_10 ⟨rfl, hy_FileMaker_putEntry⟩ (by decide) rfl rfl (Nat.le_of_ble_eq_true rfl) (by decide) (fun v9 u12 ch11 => ?_)
              obtain ⟨s_13, f_14⟩ := u12
              obtain ⟨ech11, ch11⟩ := ch11
              have ech11 : v9 = none := ech11
              subst ech11
              obtain ⟨fh15, fh16, fh17⟩ : (s4.toInt ≤ s_13.toInt) ∧ (s_13.toInt ≤ s4.toInt + 70) ∧ (sb_Fit f_14) := ch11
              refine pb_eq (pc' := 71) (lo' := [(4, .int i4), (3, .int d4), (0, .ref h), (1, .ref sp), (2, .ref q)]) (rest' := []) (ws' := [(tb, .inl (G.2.1, 12000, .inl tfb)), (tg, .inl (G.2.2.1, 17, .inl tfg)), (q, .inr (4, [.ref pp, .ref pl, .ref pe, .ref pr_, .int bg_, .int sz_, .int bt_, .int ln_, .int ds_])), (pp, .inr (0, [.ref pb, .int ps_])), (pb, .inl (G.2.1, 4502, .inl pf_)), (pl, .inl (G.2.2.1, 1024, .inl fl_)), (pe, .inl (G.2.2.1, 4000, .inl fe_)), (h, .inr (6, [.ref mm, .ref mr])), (mm, .inr (0, [.ref mb, .int s_13])), (mb, .inl (G.2.1, 14006, .inl f_14)), (mr, .inl (G.2.2.1, 16, .inl fr_)), (sp, .inr (3, [.ref tn, .ref tz, .ref tb, .ref tg, .int c])), (tn, .inl (G.2.1, 384, .inl tfn)), (tz, .inl (G.2.2.1, 16, .inl tfz))]) ?_
              refine pb_iincN (pc := 71) (c := 1) d_FileMaker_make_71 0 rfl (by decide) (by decide) (fun i18 ei18 => ?_)
              have ti18 : i18.toInt = i4.toInt + 1 := ti_add ei18 rfl (by decide) (by omega) (by omega)
              refine pb_eq (pc' := 74) (lo' := [(4, .int i18), (3, .int d4), (0, .ref h), (1, .ref sp), (2, .ref q)]) (rest' := []) (ws' := [(tb, .inl (G.2.1, 12000, .inl tfb)), (tg, .inl (G.2.2.1, 17, .inl tfg)), (q, .inr (4, [.ref pp, .ref pl, .ref pe, .ref pr_, .int bg_, .int sz_, .int bt_, .int ln_, .int ds_])), (pp, .inr (0, [.ref pb, .int ps_])), (pb, .inl (G.2.1, 4502, .inl pf_)), (pl, .inl (G.2.2.1, 1024, .inl fl_)), (pe, .inl (G.2.2.1, 4000, .inl fe_)), (h, .inr (6, [.ref mm, .ref mr])), (mm, .inr (0, [.ref mb, .int s_13])), (mb, .inl (G.2.1, 14006, .inl f_14)), (mr, .inl (G.2.2.1, 16, .inl fr_)), (sp, .inr (3, [.ref tn, .ref tz, .ref tb, .ref tg, .int c])), (tn, .inl (G.2.1, 384, .inl tfn)), (tz, .inl (G.2.2.1, 16, .inl tfz))]) ?_
              refine pb_goto (pc := 74) (tgt := 55) d_FileMaker_make_74 (by decide) ?_
              refine pb_re (ws' := [(h, .inr (6, [.ref mm, .ref mr])), (mm, .inr (0, [.ref mb, .int s_13])), (mb, .inl (G.2.1, 14006, .inl f_14)), (mr, .inl (G.2.2.1, 16, .inl fr_)), (sp, .inr (3, [.ref tn, .ref tz, .ref tb, .ref tg, .int c])), (tn, .inl (G.2.1, 384, .inl tfn)), (tz, .inl (G.2.2.1, 16, .inl tfz)), (tb, .inl (G.2.1, 12000, .inl tfb)), (tg, .inl (G.2.2.1, 17, .inl tfg)), (q, .inr (4, [.ref pp, .ref pl, .ref pe, .ref pr_, .int bg_, .int sz_, .int bt_, .int ln_, .int ds_])), (pp, .inr (0, [.ref pb, .int ps_])), (pb, .inl (G.2.1, 4502, .inl pf_)), (pl, .inl (G.2.2.1, 1024, .inl fl_)), (pe, .inl (G.2.2.1, 4000, .inl fe_))]) (lo' := [(4, .int i18), (3, .int d4), (0, .ref h), (1, .ref sp), (2, .ref q)]) [7, 8, 9, 10, 11, 12, 13, 0, 1, 2, 3, 4, 5, 6] [0, 1, 2, 3, 4] (by decide) rfl rfl rfl ?_
              exact ih55 i18 d4 s_13 f_14 fh17 (by first | assumption | omega (splitDisjunctions := false) | omega | decide) (by first | assumption | omega (splitDisjunctions := false) | omega | decide) (by first | assumption | omega (splitDisjunctions := false) | omega | decide) (by first | assumption | omega (splitDisjunctions := false) | omega | decide) (by omega)
        exact hL55_3 _ 0 s_ s_ f_ F_f_ (by first | assumption | omega (splitDisjunctions := false) | omega | decide) (by first | assumption | omega (splitDisjunctions := false) | omega | decide) (by first | assumption | omega (splitDisjunctions := false) | omega | decide) (by first | assumption | omega (splitDisjunctions := false) | omega | decide) (Nat.lt_succ_self _)
      · have tw2 : ¬ c.toInt ≤ i.toInt := fun z9 => w2 ((ti_le rfl rfl).mpr z9)
        have p6 := sh_rng I (k := i.toInt) (by omega) (by omega)
        have p7 := sh_rng I (k := i.toInt + 1) (by omega) (by omega)
        have p5 := I.2.2.2.2 i.toInt (by omega) (by omega)
        refine pb_aload_n (pc := 18) d_FileMaker_make_18 1 rfl rfl ?_
        refine pb_get (pc := 19) d_FileMaker_make_19 0 1 rfl rfl (by decide) in_FileMaker k_294 rfl ?_
        refine pb_iload_n (pc := 22) d_FileMaker_make_22 0 rfl rfl ?_
        refine pb_aload_n (pc := 23) d_FileMaker_make_23 1 rfl rfl ?_
        refine pb_get (pc := 24) d_FileMaker_make_24 0 0 rfl rfl (by decide) in_FileMaker k_292 rfl ?_
        refine pb_getN (pc := 27) d_FileMaker_make_27 1 1 rfl rfl (by decide) in_Row k_163 rfl ?_
        refine pb_iast (pc := 30) (ws' := [(h, .inr (6, [.ref mm, .ref mr])), (mm, .inr (0, [.ref mb, .int s_])), (mb, .inl (G.2.1, 14006, .inl f_)), (mr, .inl (G.2.2.1, 16, .inl (upd fr_ ((i : Int32).toNatClampNeg) s_))), (sp, .inr (3, [.ref tn, .ref tz, .ref tb, .ref tg, .int c])), (tn, .inl (G.2.1, 384, .inl tfn)), (tz, .inl (G.2.2.1, 16, .inl tfz)), (tb, .inl (G.2.1, 12000, .inl tfb)), (tg, .inl (G.2.2.1, 17, .inl tfg)), (q, .inr (4, [.ref pp, .ref pl, .ref pe, .ref pr_, .int bg_, .int sz_, .int bt_, .int ln_, .int ds_])), (pp, .inr (0, [.ref pb, .int ps_])), (pb, .inl (G.2.1, 4502, .inl pf_)), (pl, .inl (G.2.2.1, 1024, .inl fl_)), (pe, .inl (G.2.2.1, 4000, .inl fe_))]) d_FileMaker_make_30 3 rfl (vp_in_iff.mpr (by constructor <;> omega)) rfl ?_
        refine pb_aload_n (pc := 31) d_FileMaker_make_31 1 rfl rfl ?_
        refine pb_aload_n (pc := 32) d_FileMaker_make_32 2 rfl rfl ?_
        refine pb_iload_n (pc := 33) d_FileMaker_make_33 0 rfl rfl ?_
        refine pb_aload_n (pc := 34) d_FileMaker_make_34 3 rfl rfl ?_
        refine pb_callV (pc := 35) (I := i_FileMaker_make) (qb := 0) (ci := 6) (nA := 3) (rest := []) (wr := [(mr, .inl (G.2.2.1, 16, .inl (upd fr_ ((i : Int32).toNatClampNeg) s_)))]) d_FileMaker_make_35 (g_Mk_putRecord hl G h mm mr mb f_ s_ sp tn tz tb tg c tfn tfz tfb tfg q pp pl pe pr_ pb bg_ sz_ bt_ ln_ ds_ ps_ pf_ fl_ fe_ i (by first | assumption | omega (splitDisjunctions := false) | omega | decide) (by first | assumption | omega (splitDisjunctions := false) | omega | decide) (by first | assumption | omega (splitDisjunctions := false) | omega | decide) (by first | assumption | omega (splitDisjunctions := false) | omega | decide) (by first | assumption | omega (splitDisjunctions := false) | omega | decide) F_f_ F_tfn F_tfb F_pf_) rfl rfl [0, 1, 2, 4, 5, 6, 7, 8, 9, 10, 11, 12, 13] [3] (by decide) rfl rfl rfl (by decide) (by decide) k_496 rfl k_123 k_493 k_495 k_1 ⟨rfl, hy_FileMaker_putRecord⟩ (by decide) rfl rfl (Nat.le_of_ble_eq_true rfl) (by decide) (fun v9 u20 ch19 => ?_)
        obtain ⟨s_21, f_22, pr_23, bg_24, sz_25, bt_26, ln_27, ds_28, ps_29, pf_30, fl_31, fe_32⟩ := u20
        obtain ⟨ech19, ch19⟩ := ch19
        have ech19 : v9 = none := ech19
        subst ech19
        obtain ⟨fh33, fh34, fh35, fh36⟩ : (s_.toInt ≤ s_21.toInt) ∧ (s_21.toInt ≤ s_.toInt + 54 + (gx tfg (i.toInt + 1) - gx tfg i.toInt)) ∧ (sb_Fit f_22) ∧ (sb_Fit pf_30) := ch19
        refine pb_eq (pc' := 38) (lo' := [(3, .int i), (0, .ref h), (1, .ref sp), (2, .ref q)]) (rest' := []) (ws' := [(mr, .inl (G.2.2.1, 16, .inl (upd fr_ ((i : Int32).toNatClampNeg) s_))), (h, .inr (6, [.ref mm, .ref mr])), (mm, .inr (0, [.ref mb, .int s_21])), (mb, .inl (G.2.1, 14006, .inl f_22)), (sp, .inr (3, [.ref tn, .ref tz, .ref tb, .ref tg, .int c])), (tn, .inl (G.2.1, 384, .inl tfn)), (tz, .inl (G.2.2.1, 16, .inl tfz)), (tb, .inl (G.2.1, 12000, .inl tfb)), (tg, .inl (G.2.2.1, 17, .inl tfg)), (q, .inr (4, [.ref pp, .ref pl, .ref pe, .ref pr_23, .int bg_24, .int sz_25, .int bt_26, .int ln_27, .int ds_28])), (pp, .inr (0, [.ref pb, .int ps_29])), (pb, .inl (G.2.1, 4502, .inl pf_30)), (pl, .inl (G.2.2.1, 1024, .inl fl_31)), (pe, .inl (G.2.2.1, 4000, .inl fe_32))]) ?_
        refine pb_iincN (pc := 38) (c := 1) d_FileMaker_make_38 0 rfl (by decide) (by decide) (fun i37 ei37 => ?_)
        have ti37 : i37.toInt = i.toInt + 1 := ti_add ei37 rfl (by decide) (by omega) (by omega)
        refine pb_eq (pc' := 41) (lo' := [(3, .int i37), (0, .ref h), (1, .ref sp), (2, .ref q)]) (rest' := []) (ws' := [(mr, .inl (G.2.2.1, 16, .inl (upd fr_ ((i : Int32).toNatClampNeg) s_))), (h, .inr (6, [.ref mm, .ref mr])), (mm, .inr (0, [.ref mb, .int s_21])), (mb, .inl (G.2.1, 14006, .inl f_22)), (sp, .inr (3, [.ref tn, .ref tz, .ref tb, .ref tg, .int c])), (tn, .inl (G.2.1, 384, .inl tfn)), (tz, .inl (G.2.2.1, 16, .inl tfz)), (tb, .inl (G.2.1, 12000, .inl tfb)), (tg, .inl (G.2.2.1, 17, .inl tfg)), (q, .inr (4, [.ref pp, .ref pl, .ref pe, .ref pr_23, .int bg_24, .int sz_25, .int bt_26, .int ln_27, .int ds_28])), (pp, .inr (0, [.ref pb, .int ps_29])), (pb, .inl (G.2.1, 4502, .inl pf_30)), (pl, .inl (G.2.2.1, 1024, .inl fl_31)), (pe, .inl (G.2.2.1, 4000, .inl fe_32))]) ?_
        refine pb_goto (pc := 41) (tgt := 10) d_FileMaker_make_41 (by decide) ?_
        refine pb_re (ws' := [(h, .inr (6, [.ref mm, .ref mr])), (mm, .inr (0, [.ref mb, .int s_21])), (mb, .inl (G.2.1, 14006, .inl f_22)), (mr, .inl (G.2.2.1, 16, .inl (upd fr_ ((i : Int32).toNatClampNeg) s_))), (sp, .inr (3, [.ref tn, .ref tz, .ref tb, .ref tg, .int c])), (tn, .inl (G.2.1, 384, .inl tfn)), (tz, .inl (G.2.2.1, 16, .inl tfz)), (tb, .inl (G.2.1, 12000, .inl tfb)), (tg, .inl (G.2.2.1, 17, .inl tfg)), (q, .inr (4, [.ref pp, .ref pl, .ref pe, .ref pr_23, .int bg_24, .int sz_25, .int bt_26, .int ln_27, .int ds_28])), (pp, .inr (0, [.ref pb, .int ps_29])), (pb, .inl (G.2.1, 4502, .inl pf_30)), (pl, .inl (G.2.2.1, 1024, .inl fl_31)), (pe, .inl (G.2.2.1, 4000, .inl fe_32))]) (lo' := [(3, .int i37), (0, .ref h), (1, .ref sp), (2, .ref q)]) [1, 2, 3, 0, 4, 5, 6, 7, 8, 9, 10, 11, 12, 13] [0, 1, 2, 3] (by decide) rfl rfl rfl ?_
        exact ih10 i37 s_21 f_22 (upd fr_ ((i : Int32).toNatClampNeg) s_) pr_23 bg_24 sz_25 bt_26 ln_27 ds_28 ps_29 pf_30 fl_31 fe_32 fh35 fh36 (by first | assumption | omega (splitDisjunctions := false) | omega | decide) (by first | assumption | omega (splitDisjunctions := false) | omega | decide) (by first | assumption | omega (splitDisjunctions := false) | omega | decide) (by rw [show i37.toInt = i.toInt + 1 by omega]; omega) (fun j h0 h1 => by rw [gx_upd rfl j (by omega) h0]; split <;> first | omega | exact hr j h0 (by omega)) (by omega)
  exact hL10_1 _ 0 0 f fr pr bg sz bt ln ds ps pf fl fe F_f F_pf (by first | assumption | omega (splitDisjunctions := false) | omega | decide) (by first | assumption | omega (splitDisjunctions := false) | omega | decide) (by first | assumption | omega (splitDisjunctions := false) | omega | decide) (by rw [show (0 : Int32).toInt = 0 by decide, p3]; omega) (fun j h0 h1 => absurd h1 (by omega)) (Nat.lt_succ_self _)
