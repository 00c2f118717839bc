theorem d_Row_putByte_0 : decode prog_9_method_2_code 0 = .ok (.aload_n 0, 1) := by decide +kernel
theorem d_Row_putByte_1 : decode prog_9_method_2_code 1 = .ok (.getfield 13, 3) := by decide +kernel
theorem k_162 : (Jvm.Cond.fieldLink "PackageBook$Row" (13 : Nat) "PackageBook$Row" "size" "I") ∈ uW := uW_of 162 (by decide +kernel) (by decide +kernel)
theorem d_Row_putByte_4 : decode prog_9_method_2_code 4 = .ok (.aload_n 0, 1) := by decide +kernel
theorem d_Row_putByte_5 : decode prog_9_method_2_code 5 = .ok (.getfield 7, 3) := by decide +kernel
theorem d_Row_putByte_8 : decode prog_9_method_2_code 8 = .ok (.arraylength, 1) := by decide +kernel
theorem d_Row_putByte_9 : decode prog_9_method_2_code 9 = .ok (.if_icmp .ge 24, 3) := by decide +kernel
theorem d_Row_putByte_12 : decode prog_9_method_2_code 12 = .ok (.aload_n 0, 1) := by decide +kernel
theorem d_Row_putByte_13 : decode prog_9_method_2_code 13 = .ok (.getfield 7, 3) := by decide +kernel
theorem d_Row_putByte_16 : decode prog_9_method_2_code 16 = .ok (.aload_n 0, 1) := by decide +kernel
theorem d_Row_putByte_17 : decode prog_9_method_2_code 17 = .ok (.getfield 13, 3) := by decide +kernel
theorem d_Row_putByte_20 : decode prog_9_method_2_code 20 = .ok (.iload_n 1, 1) := by decide +kernel
theorem d_Row_putByte_21 : decode prog_9_method_2_code 21 = .ok (.i2b, 1) := by decide +kernel
theorem d_Row_putByte_22 : decode prog_9_method_2_code 22 = .ok (.bastore, 1) := by decide +kernel
theorem d_Row_putByte_23 : decode prog_9_method_2_code 23 = .ok (.aload_n 0, 1) := by decide +kernel
theorem d_Row_putByte_24 : decode prog_9_method_2_code 24 = .ok (.dup, 1) := by decide +kernel
theorem d_Row_putByte_25 : decode prog_9_method_2_code 25 = .ok (.getfield 13, 3) := by decide +kernel
theorem d_Row_putByte_28 : decode prog_9_method_2_code 28 = .ok (.iconst 1, 1) := by decide +kernel
theorem d_Row_putByte_29 : decode prog_9_method_2_code 29 = .ok (.iadd, 1) := by decide +kernel
theorem d_Row_putByte_30 : decode prog_9_method_2_code 30 = .ok (.putfield 13, 3) := by decide +kernel
theorem d_Row_putByte_33 : decode prog_9_method_2_code 33 = .ok (.return_, 1) := by decide +kernel
abbrev y_Row_putByte : MethodName := ⟨"PackageBook$Row", "putByte", "(I)V"⟩
abbrev i_Row_putByte : pb_I := (y_Row_putByte, prog_9_method_2_code, 2, (Option.none : Option Jvm.ClassFile.FieldType), [], { frames := 0, cells := 0, slots := 0, locals := 0 })
set_option maxRecDepth 100000 in
set_option maxHeartbeats 4000000 in
theorem c_Row_putByte {l : Launch} (hl : l.stackTraces = false) (G : pb_G) (h : Nat) (b : Nat) (N : Nat) (f : Nat → Int32) (sz : Int32) (v : Int32) (h0 : 0 ≤ sz.toInt) (h1 : sz.toInt + 1 ≤ N) (hN : N ≤ 100000) : Cn l G i_Row_putByte [.ref h, .int v] [(h, .inr (0, [.ref b, .int sz])), (b, .inl (G.2.1, N, .inl f))] (S := Int32 × (Nat → Int32)) (fun v u => v = none ∧ (u.1.toInt = sz.toInt + 1)) (fun u => [(h, .inr (0, [.ref b, .int u.1])), (b, .inl (G.2.1, N, .inl u.2))]) := by
  refine Cn.of hl (by decide +kernel) rfl (Nat.le_of_ble_eq_true rfl) (fun M hQ => ?_)
  refine pb_eq (pc' := 0) (lo' := [(0, .ref h), (1, .int v)]) (rest' := []) (ws' := [(h, .inr (0, [.ref b, .int sz])), (b, .inl (G.2.1, N, .inl f))]) ?_
  refine pb_aload_n (pc := 0) d_Row_putByte_0 0 rfl rfl ?_
  refine pb_get (pc := 1) d_Row_putByte_1 0 1 rfl rfl (by decide) in_Row k_162 rfl ?_
  refine pb_aload_n (pc := 4) d_Row_putByte_4 0 rfl rfl ?_
  refine pb_get (pc := 5) d_Row_putByte_5 0 0 rfl rfl (by decide) in_Row k_156 rfl ?_
  refine pb_alen (pc := 8) d_Row_putByte_8 1 0 rfl rfl rfl ?_
  refine pb_topi (fun i1 ei1 => ?_)
  have ti1 : i1.toInt = (N : Int) := ti_ofNat ei1 (by omega)
  refine pb_icmp_ge (pc := 9) (tgt := 33) d_Row_putByte_9 (by decide) (fun h9 => False.elim (by have t9 : i1.toInt ≤ sz.toInt := (ti_le rfl rfl).mp h9; omega)) (fun w2 => ?_)
  have tw2 : ¬ i1.toInt ≤ sz.toInt := fun z9 => w2 ((ti_le rfl rfl).mpr z9)
  refine pb_aload_n (pc := 12) d_Row_putByte_12 0 rfl rfl ?_
  refine pb_get (pc := 13) d_Row_putByte_13 0 0 rfl rfl (by decide) in_Row k_156 rfl ?_
  refine pb_aload_n (pc := 16) d_Row_putByte_16 0 rfl rfl ?_
  refine pb_get (pc := 17) d_Row_putByte_17 0 1 rfl rfl (by decide) in_Row k_162 rfl ?_
  refine pb_iload_n (pc := 20) d_Row_putByte_20 1 rfl rfl ?_
  refine pb_i2b (pc := 21) d_Row_putByte_21 rfl ?_
  refine pb_topi (fun i3 ei3 => ?_)
  refine pb_bast (pc := 22) (ws' := [(h, .inr (0, [.ref b, .int sz])), (b, .inl (G.2.1, N, .inl (upd f ((sz : Int32).toNatClampNeg) (vp_nar .byte i3))))]) d_Row_putByte_22 1 rfl (vp_in_iff.mpr (by constructor <;> omega)) rfl ?_
  refine pb_aload_n (pc := 23) d_Row_putByte_23 0 rfl rfl ?_
  refine pb_dup (pc := 24) d_Row_putByte_24 rfl ?_
  refine pb_get (pc := 25) d_Row_putByte_25 0 1 rfl rfl (by decide) in_Row k_162 rfl ?_
  refine pb_iconst (pc := 28) (v := 1) d_Row_putByte_28 (by decide) ?_
  refine pb_iadd (pc := 29) d_Row_putByte_29 ?_
  refine pb_topi (fun i4 ei4 => ?_)
  have ti4 : i4.toInt = sz.toInt + 1 := ti_add ei4 rfl (by decide) (by omega) (by omega)
  refine pb_put (pc := 30) (ty := .int) (ws' := [(h, .inr (0, [.ref b, .int i4])), (b, .inl (G.2.1, N, .inl (upd f ((sz : Int32).toNatClampNeg) (vp_nar .byte i3))))]) d_Row_putByte_30 0 1 t_Row t_Row_ok n_Row rfl rfl (by decide) in_Row k_162 rfl (by decide +kernel) rfl rfl (Nat.le_of_ble_eq_true rfl) rfl ?_
  exact pb_vret (pc := 33) hQ d_Row_putByte_33 rfl (i4, (upd f ((sz : Int32).toNatClampNeg) (vp_nar .byte i3))) ⟨rfl, (by omega)⟩ [0, 1] (by decide) rfl rfl (by decide) (by decide)

theorem d_Row_putTwo_0 : decode prog_9_method_3_code 0 = .ok (.aload_n 0, 1) := by decide +kernel
theorem d_Row_putTwo_1 : decode prog_9_method_3_code 1 = .ok (.iload_n 1, 1) := by decide +kernel
theorem d_Row_putTwo_2 : decode prog_9_method_3_code 2 = .ok (.invokevirtual 17, 3) := by decide +kernel
theorem k_552 : (Jvm.Cond.methodLink "PackageBook$Row" (17 : Nat) ({ cls := "PackageBook$Row", name := "putByte", desc := "(I)V" } : Jvm.MethodName)) ∈ uW := uW_of 552 (by decide +kernel) (by decide +kernel)
theorem k_555 : (Jvm.Cond.code ({ cls := "PackageBook$Row", name := "putByte", desc := "(I)V" } : Jvm.MethodName) prog_9_method_2_code (2 : Nat) (Option.none : Option Jvm.ClassFile.FieldType)) ∈ uW := uW_of 555 (by decide +kernel) (by decide +kernel)
theorem k_553 : (Jvm.Cond.instanceMethod ({ cls := "PackageBook$Row", name := "putByte", desc := "(I)V" } : Jvm.MethodName)) ∈ uW := uW_of 553 (by decide +kernel) (by decide +kernel)
theorem k_554 : (Jvm.Cond.selects "PackageBook$Row" ({ cls := "PackageBook$Row", name := "putByte", desc := "(I)V" } : Jvm.MethodName) ({ cls := "PackageBook$Row", name := "putByte", desc := "(I)V" } : Jvm.MethodName)) ∈ uW := uW_of 554 (by decide +kernel) (by decide +kernel)
theorem d_Row_putTwo_5 : decode prog_9_method_3_code 5 = .ok (.aload_n 0, 1) := by decide +kernel
theorem d_Row_putTwo_6 : decode prog_9_method_3_code 6 = .ok (.iload_n 1, 1) := by decide +kernel
theorem d_Row_putTwo_7 : decode prog_9_method_3_code 7 = .ok (.bipush 8, 2) := by decide +kernel
theorem d_Row_putTwo_9 : decode prog_9_method_3_code 9 = .ok (.ishr, 1) := by decide +kernel
theorem d_Row_putTwo_10 : decode prog_9_method_3_code 10 = .ok (.invokevirtual 17, 3) := by decide +kernel
theorem d_Row_putTwo_13 : decode prog_9_method_3_code 13 = .ok (.return_, 1) := by decide +kernel
abbrev y_Row_putTwo : MethodName := ⟨"PackageBook$Row", "putTwo", "(I)V"⟩
abbrev i_Row_putTwo : pb_I := (y_Row_putTwo, prog_9_method_3_code, 2, (Option.none : Option Jvm.ClassFile.FieldType), [], { frames := 1, cells := 0, slots := 0, locals := 21 })
set_option maxRecDepth 100000 in
set_option maxHeartbeats 4000000 in
theorem c_Row_putTwo {l : Launch} (hl : l.stackTraces = false) (G : pb_G) (h : Nat) (b : Nat) (N : Nat) (f : Nat → Int32) (sz : Int32) (v : Int32) (h0 : 0 ≤ sz.toInt) (h1 : sz.toInt + 2 ≤ N) (hN : N ≤ 100000) : Cn l G i_Row_putTwo [.ref h, .int v] [(h, .inr (0, [.ref b, .int sz])), (b, .inl (G.2.1, N, .inl f))] (S := Int32 × (Nat → Int32)) (fun v u => v = none ∧ (u.1.toInt = sz.toInt + 2)) (fun u => [(h, .inr (0, [.ref b, .int u.1])), (b, .inl (G.2.1, N, .inl u.2))]) := by
  refine Cn.of hl (by decide +kernel) rfl (Nat.le_of_ble_eq_true rfl) (fun M hQ => ?_)
  refine pb_eq (pc' := 0) (lo' := [(0, .ref h), (1, .int v)]) (rest' := []) (ws' := [(h, .inr (0, [.ref b, .int sz])), (b, .inl (G.2.1, N, .inl f))]) ?_
  refine pb_aload_n (pc := 0) d_Row_putTwo_0 0 rfl rfl ?_
  refine pb_iload_n (pc := 1) d_Row_putTwo_1 1 rfl rfl ?_
  refine pb_callV (pc := 2) (qb := 0) (ci := 0) (nA := 1) (rest := []) (wr := []) d_Row_putTwo_2 (c_Row_putByte hl G h b N f sz v (by omega) (by omega) (by omega)) rfl rfl [0, 1] [] (by decide) rfl rfl rfl (by decide) (by decide) k_555 rfl k_119 k_552 k_553 k_554 (by decide +kernel) (by decide) rfl rfl (Nat.le_of_ble_eq_true rfl) (by decide) (fun v9 u2 h1 => ?_)
  obtain ⟨s_3, f_4⟩ := u2
  obtain ⟨eh1, h1⟩ := h1
  have eh1 : v9 = none := eh1
  subst eh1
  have h5 : s_3.toInt = sz.toInt + 1 := h1
  refine pb_eq (pc' := 5) (lo' := [(0, .ref h), (1, .int v)]) (rest' := []) (ws' := [(h, .inr (0, [.ref b, .int s_3])), (b, .inl (G.2.1, N, .inl f_4))]) ?_
  refine pb_aload_n (pc := 5) d_Row_putTwo_5 0 rfl rfl ?_
  refine pb_iload_n (pc := 6) d_Row_putTwo_6 1 rfl rfl ?_
  refine pb_bipush (pc := 7) (v := 8) d_Row_putTwo_7 (by decide) ?_
  refine pb_ishr (pc := 9) d_Row_putTwo_9 ?_
  refine pb_topi (fun i6 ei6 => ?_)
  refine pb_callV (pc := 10) (qb := 0) (ci := 0) (nA := 1) (rest := []) (wr := []) d_Row_putTwo_10 (c_Row_putByte hl G h b N f_4 s_3 i6 (by omega) (by omega) (by omega)) rfl rfl [0, 1] [] (by decide) rfl rfl rfl (by decide) (by decide) k_555 rfl k_119 k_552 k_553 k_554 (by decide +kernel) (by decide) rfl rfl (Nat.le_of_ble_eq_true rfl) (by decide) (fun v9 u8 h7 => ?_)
  obtain ⟨s_9, f_10⟩ := u8
  obtain ⟨eh7, h7⟩ := h7
  have eh7 : v9 = none := eh7
  subst eh7
  have h11 : s_9.toInt = s_3.toInt + 1 := h7
  refine pb_eq (pc' := 13) (lo' := [(0, .ref h), (1, .int v)]) (rest' := []) (ws' := [(h, .inr (0, [.ref b, .int s_9])), (b, .inl (G.2.1, N, .inl f_10))]) ?_
  exact pb_vret (pc := 13) hQ d_Row_putTwo_13 rfl (s_9, f_10) ⟨rfl, (by omega)⟩ [0, 1] (by decide) rfl rfl (by decide) (by decide)

theorem d_Row_putFour_0 : decode prog_9_method_4_code 0 = .ok (.aload_n 0, 1) := by decide +kernel
theorem d_Row_putFour_1 : decode prog_9_method_4_code 1 = .ok (.iload_n 1, 1) := by decide +kernel
theorem d_Row_putFour_2 : decode prog_9_method_4_code 2 = .ok (.invokevirtual 21, 3) := by decide +kernel
theorem k_548 : (Jvm.Cond.methodLink "PackageBook$Row" (21 : Nat) ({ cls := "PackageBook$Row", name := "putTwo", desc := "(I)V" } : Jvm.MethodName)) ∈ uW := uW_of 548 (by decide +kernel) (by decide +kernel)
theorem k_551 : (Jvm.Cond.code ({ cls := "PackageBook$Row", name := "putTwo", desc := "(I)V" } : Jvm.MethodName) prog_9_method_3_code (2 : Nat) (Option.none : Option Jvm.ClassFile.FieldType)) ∈ uW := uW_of 551 (by decide +kernel) (by decide +kernel)
theorem k_549 : (Jvm.Cond.instanceMethod ({ cls := "PackageBook$Row", name := "putTwo", desc := "(I)V" } : Jvm.MethodName)) ∈ uW := uW_of 549 (by decide +kernel) (by decide +kernel)
theorem k_550 : (Jvm.Cond.selects "PackageBook$Row" ({ cls := "PackageBook$Row", name := "putTwo", desc := "(I)V" } : Jvm.MethodName) ({ cls := "PackageBook$Row", name := "putTwo", desc := "(I)V" } : Jvm.MethodName)) ∈ uW := uW_of 550 (by decide +kernel) (by decide +kernel)
theorem d_Row_putFour_5 : decode prog_9_method_4_code 5 = .ok (.aload_n 0, 1) := by decide +kernel
theorem d_Row_putFour_6 : decode prog_9_method_4_code 6 = .ok (.iload_n 1, 1) := by decide +kernel
theorem d_Row_putFour_7 : decode prog_9_method_4_code 7 = .ok (.bipush 16, 2) := by decide +kernel
theorem d_Row_putFour_9 : decode prog_9_method_4_code 9 = .ok (.ishr, 1) := by decide +kernel
theorem d_Row_putFour_10 : decode prog_9_method_4_code 10 = .ok (.invokevirtual 21, 3) := by decide +kernel
theorem d_Row_putFour_13 : decode prog_9_method_4_code 13 = .ok (.return_, 1) := by decide +kernel
abbrev y_Row_putFour : MethodName := ⟨"PackageBook$Row", "putFour", "(I)V"⟩
abbrev i_Row_putFour : pb_I := (y_Row_putFour, prog_9_method_4_code, 2, (Option.none : Option Jvm.ClassFile.FieldType), [], { frames := 2, cells := 0, slots := 0, locals := 42 })
set_option maxRecDepth 100000 in
set_option maxHeartbeats 4000000 in
theorem c_Row_putFour {l : Launch} (hl : l.stackTraces = false) (G : pb_G) (h : Nat) (b : Nat) (N : Nat) (f : Nat → Int32) (sz : Int32) (v : Int32) (h0 : 0 ≤ sz.toInt) (h1 : sz.toInt + 4 ≤ N) (hN : N ≤ 100000) : Cn l G i_Row_putFour [.ref h, .int v] [(h, .inr (0, [.ref b, .int sz])), (b, .inl (G.2.1, N, .inl f))] (S := Int32 × (Nat → Int32)) (fun v u => v = none ∧ (u.1.toInt = sz.toInt + 4)) (fun u => [(h, .inr (0, [.ref b, .int u.1])), (b, .inl (G.2.1, N, .inl u.2))]) := by
  refine Cn.of hl (by decide +kernel) rfl (Nat.le_of_ble_eq_true rfl) (fun M hQ => ?_)
  refine pb_eq (pc' := 0) (lo' := [(0, .ref h), (1, .int v)]) (rest' := []) (ws' := [(h, .inr (0, [.ref b, .int sz])), (b, .inl (G.2.1, N, .inl f))]) ?_
  refine pb_aload_n (pc := 0) d_Row_putFour_0 0 rfl rfl ?_
  refine pb_iload_n (pc := 1) d_Row_putFour_1 1 rfl rfl ?_
  refine pb_callV (pc := 2) (qb := 0) (ci := 0) (nA := 1) (rest := []) (wr := []) d_Row_putFour_2 (c_Row_putTwo hl G h b N f sz v (by omega) (by omega) (by omega)) rfl rfl [0, 1] [] (by decide) rfl rfl rfl (by decide) (by decide) k_551 rfl k_119 k_548 k_549 k_550 (by decide +kernel) (by decide) rfl rfl (Nat.le_of_ble_eq_true rfl) (by decide) (fun v9 u2 h1 => ?_)
  obtain ⟨s_3, f_4⟩ := u2
  obtain ⟨eh1, h1⟩ := h1
  have eh1 : v9 = none := eh1
  subst eh1
  have h5 : s_3.toInt = sz.toInt + 2 := h1
  refine pb_eq (pc' := 5) (lo' := [(0, .ref h), (1, .int v)]) (rest' := []) (ws' := [(h, .inr (0, [.ref b, .int s_3])), (b, .inl (G.2.1, N, .inl f_4))]) ?_
  refine pb_aload_n (pc := 5) d_Row_putFour_5 0 rfl rfl ?_
  refine pb_iload_n (pc := 6) d_Row_putFour_6 1 rfl rfl ?_
  refine pb_bipush (pc := 7) (v := 16) d_Row_putFour_7 (by decide) ?_
  refine pb_ishr (pc := 9) d_Row_putFour_9 ?_
  refine pb_topi (fun i6 ei6 => ?_)
  refine pb_callV (pc := 10) (qb := 0) (ci := 0) (nA := 1) (rest := []) (wr := []) d_Row_putFour_10 (c_Row_putTwo hl G h b N f_4 s_3 i6 (by omega) (by omega) (by omega)) rfl rfl [0, 1] [] (by decide) rfl rfl rfl (by decide) (by decide) k_551 rfl k_119 k_548 k_549 k_550 (by decide +kernel) (by decide) rfl rfl (Nat.le_of_ble_eq_true rfl) (by decide) (fun v9 u8 h7 => ?_)
  obtain ⟨s_9, f_10⟩ := u8
  obtain ⟨eh7, h7⟩ := h7
  have eh7 : v9 = none := eh7
  subst eh7
  have h11 : s_9.toInt = s_3.toInt + 2 := h7
  refine pb_eq (pc' := 13) (lo' := [(0, .ref h), (1, .int v)]) (rest' := []) (ws' := [(h, .inr (0, [.ref b, .int s_9])), (b, .inl (G.2.1, N, .inl f_10))]) ?_
  exact pb_vret (pc := 13) hQ d_Row_putFour_13 rfl (s_9, f_10) ⟨rfl, (by omega)⟩ [0, 1] (by decide) rfl rfl (by decide) (by decide)
