theorem d_Expander_putByte_0 : decode prog_3_method_15_code 0 = .ok (.aload_n 0, 1) := by decide +kernel
theorem d_Expander_putByte_1 : decode prog_3_method_15_code 1 = .ok (.getfield 14, 3) := by decide +kernel
theorem k_248 : (Jvm.Cond.fieldLink "PackageBook$Expander" (14 : Nat) "PackageBook$Expander" "expanded" "LPackageBook$Row;") ∈ uW := uW_of 248 (by decide +kernel) (by decide +kernel)
theorem d_Expander_putByte_4 : decode prog_3_method_15_code 4 = .ok (.getfield 68, 3) := by decide +kernel
theorem k_166 : (Jvm.Cond.fieldLinkNest "PackageBook$Expander" (68 : Nat) "PackageBook$Row" "size" "I" "PackageBook") ∈ uN := uN_of 166 (by decide +kernel) (by decide +kernel)
theorem d_Expander_putByte_7 : decode prog_3_method_15_code 7 = .ok (.sipush 4000, 3) := by decide +kernel
theorem d_Expander_putByte_10 : decode prog_3_method_15_code 10 = .ok (.if_icmp .ne 9, 3) := by decide +kernel
theorem d_Expander_putByte_19 : decode prog_3_method_15_code 19 = .ok (.aload_n 0, 1) := by decide +kernel
theorem d_Expander_putByte_20 : decode prog_3_method_15_code 20 = .ok (.getfield 65, 3) := by decide +kernel
theorem d_Expander_putByte_23 : decode prog_3_method_15_code 23 = .ok (.ifCond .ne 11, 3) := by decide +kernel
theorem d_Expander_putByte_34 : decode prog_3_method_15_code 34 = .ok (.return_, 1) := by decide +kernel
theorem d_Expander_putByte_26 : decode prog_3_method_15_code 26 = .ok (.aload_n 0, 1) := by decide +kernel
theorem d_Expander_putByte_27 : decode prog_3_method_15_code 27 = .ok (.getfield 14, 3) := by decide +kernel
theorem d_Expander_putByte_30 : decode prog_3_method_15_code 30 = .ok (.iload_n 1, 1) := by decide +kernel
theorem d_Expander_putByte_31 : decode prog_3_method_15_code 31 = .ok (.invokevirtual 135, 3) := by decide +kernel
theorem k_648 : (Jvm.Cond.methodLink "PackageBook$Expander" (135 : Nat) ({ cls := "PackageBook$Row", name := "putByte", desc := "(I)V" } : Jvm.MethodName)) ∈ uW := uW_of 648 (by decide +kernel) (by decide +kernel)
theorem d_Expander_putByte_13 : decode prog_3_method_15_code 13 = .ok (.aload_n 0, 1) := by decide +kernel
theorem d_Expander_putByte_14 : decode prog_3_method_15_code 14 = .ok (.bipush 7, 2) := by decide +kernel
theorem d_Expander_putByte_16 : decode prog_3_method_15_code 16 = .ok (.invokevirtual 85, 3) := by decide +kernel
theorem k_640 : (Jvm.Cond.methodLink "PackageBook$Expander" (85 : Nat) ({ cls := "PackageBook$Expander", name := "fail", desc := "(I)V" } : Jvm.MethodName)) ∈ uW := uW_of 640 (by decide +kernel) (by decide +kernel)
theorem k_121 : (Jvm.Cond.initialized "PackageBook$Expander") ∈ uW := uW_of 121 (by decide +kernel) (by decide +kernel)
theorem k_643 : (Jvm.Cond.code ({ cls := "PackageBook$Expander", name := "fail", desc := "(I)V" } : Jvm.MethodName) prog_3_method_18_code (2 : Nat) (Option.none : Option Jvm.ClassFile.FieldType)) ∈ uW := uW_of 643 (by decide +kernel) (by decide +kernel)
theorem k_642 : (Jvm.Cond.instanceMethod ({ cls := "PackageBook$Expander", name := "fail", desc := "(I)V" } : Jvm.MethodName)) ∈ uW := uW_of 642 (by decide +kernel) (by decide +kernel)
theorem k_19 : Cond.selects "PackageBook$Expander" ⟨"PackageBook$Expander", "fail", "(I)V"⟩ ⟨"PackageBook$Expander", "fail", "(I)V"⟩ ∈ uW := uW_of 19 (by decide +kernel) (by decide +kernel)
theorem hy_Expander_fail : (y_Expander_fail).cls ≠ "java/lang/invoke/MethodHandle" ∧ (y_Expander_fail).cls ≠ "java/lang/invoke/VarHandle" ∧ (parseMethodDescriptor (y_Expander_fail).desc).map (fun d => d.parameters.length) = some 1 := by decide +kernel
abbrev y_Expander_putByte : MethodName := ⟨"PackageBook$Expander", "putByte", "(I)V"⟩
abbrev i_Expander_putByte : pb_I := (y_Expander_putByte, prog_3_method_15_code, 2, (Option.none : Option Jvm.ClassFile.FieldType), [], { frames := 1, cells := 0, slots := 0, locals := 21 })
set_option maxRecDepth 100000 in
set_option maxHeartbeats 4000000 in
theorem g_Exp_putByte {l : Launch} (hl : l.stackTraces = false) (G : pb_G) (h : Nat) (ex : Nat) (et : Nat) (ea : Nat) (eb : Nat) (ec : Nat) (ed : Nat) (ef : Nat) (er : Nat) (at_ : Int32) (en : Int32) (fl : Int32) (ey : Nat) (xf : Nat → Int32) (xs : Int32) (v : Int32) (a4 : 0 ≤ fl.toInt) (b0 : 0 ≤ xs.toInt) (b1 : xs.toInt ≤ 4000) (F_xf : sb_Fit xf) : Cn l G i_Expander_putByte [.ref h, .int v] [(h, .inr (5, [.ref ex, .ref et, .ref ea, .ref eb, .ref ec, .ref ed, .ref ef, .ref er, .int at_, .int en, .int fl])), (ex, .inr (0, [.ref ey, .int xs])), (ey, .inl (G.2.1, 4000, .inl xf))] (S := Int32 × Int32 × (Nat → Int32)) (fun rv_ u => rv_ = none ∧ (0 ≤ u.1.toInt) ∧ (fl.toInt ≠ 0 → u.1.toInt ≠ 0) ∧ (0 ≤ u.2.1.toInt) ∧ (u.2.1.toInt ≤ 4000) ∧ (sb_Fit u.2.2)) (fun u => [(h, .inr (5, [.ref ex, .ref et, .ref ea, .ref eb, .ref ec, .ref ed, .ref ef, .ref er, .int at_, .int en, .int u.1])), (ex, .inr (0, [.ref ey, .int u.2.1])), (ey, .inl (G.2.1, 4000, .inl u.2.2))]) := by
  refine Cn.of hl (by decide +kernel) rfl (Nat.le_of_ble_eq_true rfl) (fun M hQ => ?_)
  refine pb_eq (pc' := 0) (lo' := [(0, .ref h), (1, .int v)]) (rest' := []) (ws' := [(h, .inr (5, [.ref ex, .ref et, .ref ea, .ref eb, .ref ec, .ref ed, .ref ef, .ref er, .int at_, .int en, .int fl])), (ex, .inr (0, [.ref ey, .int xs])), (ey, .inl (G.2.1, 4000, .inl xf))]) ?_
  have zl0 : (0 : Int32).toInt = 0 := by decide
  have zl1 : (1 : Int32).toInt = 1 := by decide
  have zl7 : (7 : Int32).toInt = 7 := by decide
  refine pb_aload_n (pc := 0) d_Expander_putByte_0 0 rfl rfl ?_
  refine pb_get (pc := 1) d_Expander_putByte_1 0 0 rfl rfl (by decide) in_Expander k_248 rfl ?_
  refine pb_getN (pc := 4) d_Expander_putByte_4 1 1 rfl rfl (by decide) in_Row k_166 rfl ?_
  refine pb_sipush (pc := 7) (v := 4000) d_Expander_putByte_7 (by decide) ?_
  refine pb_icmp_ne (pc := 10) (tgt := 19) d_Expander_putByte_10 (by decide) (fun w1 => ?_) (fun w1 => ?_)
  · have tw1 : ¬ xs.toInt = 4000 := fun z9 => w1 ((ti_eq rfl (by decide)).mpr z9)
    refine pb_aload_n (pc := 19) d_Expander_putByte_19 0 rfl rfl ?_
    refine pb_get (pc := 20) d_Expander_putByte_20 0 10 rfl rfl (by decide) in_Expander k_260 rfl ?_
    refine pb_if_ne (pc := 23) (tgt := 34) d_Expander_putByte_23 (by decide) (fun w2 => ?_) (fun w2 => ?_)
    · have tw2 : ¬ fl.toInt = 0 := fun z9 => w2 ((ti_eq rfl (by decide)).mpr z9)
      exact pb_vret (pc := 34) hQ d_Expander_putByte_34 rfl (fl, xs, xf) ⟨rfl, (by (try dsimp only); first | done | assumption | omega (splitDisjunctions := false) | omega | decide), (by (try dsimp only); first | done | assumption | omega (splitDisjunctions := false) | omega | decide), (by (try dsimp only); first | done | assumption | omega (splitDisjunctions := false) | omega | decide), (by (try dsimp only); first | done | assumption | omega (splitDisjunctions := false) | omega | decide), F_xf⟩ [0, 1, 2] (by decide) rfl rfl (by decide) (by decide)
    · have tw2 : fl.toInt = 0 := (ti_eq rfl (by decide)).mp w2
      refine pb_aload_n (pc := 26) d_Expander_putByte_26 0 rfl rfl ?_
      refine pb_get (pc := 27) d_Expander_putByte_27 0 0 rfl rfl (by decide) in_Expander k_248 rfl ?_
      refine pb_iload_n (pc := 30) d_Expander_putByte_30 1 rfl rfl ?_
      refine pb_callV (pc := 31) (I := i_Expander_putByte) (qb := 1) (ci := 0) (nA := 1) (rest := []) (wr := [(h, .inr (5, [.ref ex, .ref et, .ref ea, .ref eb, .ref ec, .ref ed, .ref ef, .ref er, .int at_, .int en, .int fl]))]) d_Expander_putByte_31 (g_Row_putByte hl G ex ey 4000 xf xs v (by first | assumption | omega (splitDisjunctions := false) | omega | decide) (by first | assumption | omega (splitDisjunctions := false) | omega | decide) (by first | assumption | omega (splitDisjunctions := false) | omega | decide) F_xf) rfl rfl [1, 2] [0] (by decide) rfl rfl rfl (by decide) (by decide) k_555 rfl k_119 k_648 k_553 k_554 ⟨rfl, hy_Row_putByte⟩ (by decide) rfl rfl (Nat.le_of_ble_eq_true rfl) (by decide) (fun v9 u4 ch3 => ?_)
      obtain ⟨s_5, f_6⟩ := u4
      obtain ⟨ech3, ch3⟩ := ch3
      have ech3 : v9 = none := ech3
      subst ech3
      obtain ⟨fh7, fh8, fh9⟩ : (s_5.toInt = xs.toInt + 1) ∧ (∀ j : Int, 0 ≤ j → gr f_6 j = if j = xs.toInt then v.toInt8.toInt32 else gr xf j) ∧ (sb_Fit f_6) := ch3
      refine pb_eq (pc' := 34) (lo' := [(0, .ref h), (1, .int v)]) (rest' := []) (ws' := [(h, .inr (5, [.ref ex, .ref et, .ref ea, .ref eb, .ref ec, .ref ed, .ref ef, .ref er, .int at_, .int en, .int fl])), (ex, .inr (0, [.ref ey, .int s_5])), (ey, .inl (G.2.1, 4000, .inl f_6))]) ?_
      exact pb_vret (pc := 34) hQ d_Expander_putByte_34 rfl (fl, s_5, f_6) ⟨rfl, (by (try dsimp only); first | done | assumption | omega (splitDisjunctions := false) | omega | decide), (by (try dsimp only); first | done | assumption | omega (splitDisjunctions := false) | omega | decide), (by (try dsimp only); first | done | assumption | omega (splitDisjunctions := false) | omega | decide), (by (try dsimp only); first | done | assumption | omega (splitDisjunctions := false) | omega | decide), fh9⟩ [0, 1, 2] (by decide) rfl rfl (by decide) (by decide)
  · have tw1 : xs.toInt = 4000 := (ti_eq rfl (by decide)).mp w1
    refine pb_aload_n (pc := 13) d_Expander_putByte_13 0 rfl rfl ?_
    refine pb_bipush (pc := 14) (v := 7) d_Expander_putByte_14 (by decide) ?_
    refine pb_callV (pc := 16) (I := i_Expander_putByte) (qb := 0) (ci := 5) (nA := 1) (rest := []) (wr := [(ex, .inr (0, [.ref ey, .int xs])), (ey, .inl (G.2.1, 4000, .inl xf))]) d_Expander_putByte_16 (g_Exp_fail hl G h ex et ea eb ec ed ef er at_ en fl 7 (by first | assumption | omega (splitDisjunctions := false) | omega | decide) (by first | assumption | omega (splitDisjunctions := false) | omega | decide)) rfl rfl [0] [1, 2] (by decide) rfl rfl rfl (by decide) (by decide) k_643 rfl k_121 k_640 k_642 k_19 ⟨rfl, hy_Expander_fail⟩ (by decide) rfl rfl (Nat.le_of_ble_eq_true rfl) (by decide) (fun v9 u11 ch10 => ?_)
    obtain ⟨f2__12, rfl⟩ : ∃ z9, z9 = u11 := ⟨_, rfl⟩
    obtain ⟨ech10, ch10⟩ := ch10
    have ech10 : v9 = none := ech10
    subst ech10
    have fh13 : 0 < f2__12.toInt := ch10
    refine pb_eq (pc' := 19) (lo' := [(0, .ref h), (1, .int v)]) (rest' := []) (ws' := [(ex, .inr (0, [.ref ey, .int xs])), (ey, .inl (G.2.1, 4000, .inl xf)), (h, .inr (5, [.ref ex, .ref et, .ref ea, .ref eb, .ref ec, .ref ed, .ref ef, .ref er, .int at_, .int en, .int f2__12]))]) ?_
    refine pb_aload_n (pc := 19) d_Expander_putByte_19 0 rfl rfl ?_
    refine pb_get (pc := 20) d_Expander_putByte_20 2 10 rfl rfl (by decide) in_Expander k_260 rfl ?_
    refine pb_if_ne (pc := 23) (tgt := 34) d_Expander_putByte_23 (by decide) (fun w14 => ?_) (fun w14 => ?_)
    · have tw14 : ¬ f2__12.toInt = 0 := fun z9 => w14 ((ti_eq rfl (by decide)).mpr z9)
      exact pb_vret (pc := 34) hQ d_Expander_putByte_34 rfl (f2__12, xs, xf) ⟨rfl, (by (try dsimp only); first | done | assumption | omega (splitDisjunctions := false) | omega | decide), (by (try dsimp only); first | done | assumption | omega (splitDisjunctions := false) | omega | decide), (by (try dsimp only); first | done | assumption | omega (splitDisjunctions := false) | omega | decide), (by (try dsimp only); first | done | assumption | omega (splitDisjunctions := false) | omega | decide), F_xf⟩ [2, 0, 1] (by decide) rfl rfl (by decide) (by decide)
    · have tw14 : f2__12.toInt = 0 := (ti_eq rfl (by decide)).mp w14
      refine pb_aload_n (pc := 26) d_Expander_putByte_26 0 rfl rfl ?_
      refine pb_get (pc := 27) d_Expander_putByte_27 2 0 rfl rfl (by decide) in_Expander k_248 rfl ?_
      refine pb_iload_n (pc := 30) d_Expander_putByte_30 1 rfl rfl ?_
      refine pb_callV (pc := 31) (I := i_Expander_putByte) (qb := 0) (ci := 0) (nA := 1) (rest := []) (wr := [(h, .inr (5, [.ref ex, .ref et, .ref ea, .ref eb, .ref ec, .ref ed, .ref ef, .ref er, .int at_, .int en, .int f2__12]))]) d_Expander_putByte_31 (g_Row_putByte hl G ex ey 4000 xf xs v (by first | assumption | omega (splitDisjunctions := false) | omega | decide) (by first | assumption | omega (splitDisjunctions := false) | omega | decide) (by first | assumption | omega (splitDisjunctions := false) | omega | decide) F_xf) rfl rfl [0, 1] [2] (by decide) rfl rfl rfl (by decide) (by decide) k_555 rfl k_119 k_648 k_553 k_554 ⟨rfl, hy_Row_putByte⟩ (by decide) rfl rfl (Nat.le_of_ble_eq_true rfl) (by decide) (fun v9 u16 ch15 => ?_)
      obtain ⟨s_17, f_18⟩ := u16
      obtain ⟨ech15, ch15⟩ := ch15
      have ech15 : v9 = none := ech15
      subst ech15
      obtain ⟨fh19, fh20, fh21⟩ : (s_17.toInt = xs.toInt + 1) ∧ (∀ j : Int, 0 ≤ j → gr f_18 j = if j = xs.toInt then v.toInt8.toInt32 else gr xf j) ∧ (sb_Fit f_18) := ch15
      refine pb_eq (pc' := 34) (lo' := [(0, .ref h), (1, .int v)]) (rest' := []) (ws' := [(h, .inr (5, [.ref ex, .ref et, .ref ea, .ref eb, .ref ec, .ref ed, .ref ef, .ref er, .int at_, .int en, .int f2__12])), (ex, .inr (0, [.ref ey, .int s_17])), (ey, .inl (G.2.1, 4000, .inl f_18))]) ?_
      exact pb_vret (pc := 34) hQ d_Expander_putByte_34 rfl (f2__12, s_17, f_18) ⟨rfl, (by (try dsimp only); first | done | assumption | omega (splitDisjunctions := false) | omega | decide), (by (try dsimp only); first | done | assumption | omega (splitDisjunctions := false) | omega | decide), (by (try dsimp only); first | done | assumption | omega (splitDisjunctions := false) | omega | decide), (by (try dsimp only); first | done | assumption | omega (splitDisjunctions := false) | omega | decide), fh21⟩ [0, 1, 2] (by decide) rfl rfl (by decide) (by decide)

theorem d_Expander_repeat_11 : decode prog_3_method_10_code 11 = .ok (.iload_n 1, 1) := by decide +kernel
theorem d_Expander_repeat_12 : decode prog_3_method_10_code 12 = .ok (.invokestatic 120, 3) := by decide +kernel
theorem k_661 : (Jvm.Cond.methodLink "PackageBook$Expander" (120 : Nat) ({ cls := "PackageBook$Expander", name := "leastLength", desc := "(I)I" } : Jvm.MethodName)) ∈ uW := uW_of 661 (by decide +kernel) (by decide +kernel)
theorem k_663 : (Jvm.Cond.code ({ cls := "PackageBook$Expander", name := "leastLength", desc := "(I)I" } : Jvm.MethodName) prog_3_method_12_code (1 : Nat) (Option.some Jvm.ClassFile.FieldType.int)) ∈ uW := uW_of 663 (by decide +kernel) (by decide +kernel)
theorem k_662 : (Jvm.Cond.static ({ cls := "PackageBook$Expander", name := "leastLength", desc := "(I)I" } : Jvm.MethodName)) ∈ uW := uW_of 662 (by decide +kernel) (by decide +kernel)
theorem hy_Expander_leastLength : (y_Expander_leastLength).cls ≠ "java/lang/invoke/MethodHandle" ∧ (y_Expander_leastLength).cls ≠ "java/lang/invoke/VarHandle" ∧ (parseMethodDescriptor (y_Expander_leastLength).desc).map (fun d => d.parameters.length) = some 1 := by decide +kernel
theorem d_Expander_repeat_15 : decode prog_3_method_10_code 15 = .ok (.aload_n 0, 1) := by decide +kernel
theorem d_Expander_repeat_16 : decode prog_3_method_10_code 16 = .ok (.iload_n 1, 1) := by decide +kernel
theorem d_Expander_repeat_17 : decode prog_3_method_10_code 17 = .ok (.invokestatic 123, 3) := by decide +kernel
theorem k_664 : (Jvm.Cond.methodLink "PackageBook$Expander" (123 : Nat) ({ cls := "PackageBook$Expander", name := "bitsOfLength", desc := "(I)I" } : Jvm.MethodName)) ∈ uW := uW_of 664 (by decide +kernel) (by decide +kernel)
theorem k_666 : (Jvm.Cond.code ({ cls := "PackageBook$Expander", name := "bitsOfLength", desc := "(I)I" } : Jvm.MethodName) prog_3_method_11_code (1 : Nat) (Option.some Jvm.ClassFile.FieldType.int)) ∈ uW := uW_of 666 (by decide +kernel) (by decide +kernel)
theorem k_665 : (Jvm.Cond.static ({ cls := "PackageBook$Expander", name := "bitsOfLength", desc := "(I)I" } : Jvm.MethodName)) ∈ uW := uW_of 665 (by decide +kernel) (by decide +kernel)
theorem hy_Expander_bitsOfLength : (y_Expander_bitsOfLength).cls ≠ "java/lang/invoke/MethodHandle" ∧ (y_Expander_bitsOfLength).cls ≠ "java/lang/invoke/VarHandle" ∧ (parseMethodDescriptor (y_Expander_bitsOfLength).desc).map (fun d => d.parameters.length) = some 1 := by decide +kernel
theorem d_Expander_repeat_20 : decode prog_3_method_10_code 20 = .ok (.invokevirtual 71, 3) := by decide +kernel
theorem k_631 : (Jvm.Cond.methodLink "PackageBook$Expander" (71 : Nat) ({ cls := "PackageBook$Expander", name := "number", desc := "(I)I" } : Jvm.MethodName)) ∈ uW := uW_of 631 (by decide +kernel) (by decide +kernel)
theorem k_634 : (Jvm.Cond.code ({ cls := "PackageBook$Expander", name := "number", desc := "(I)I" } : Jvm.MethodName) prog_3_method_17_code (4 : Nat) (Option.some Jvm.ClassFile.FieldType.int)) ∈ uW := uW_of 634 (by decide +kernel) (by decide +kernel)
theorem k_633 : (Jvm.Cond.instanceMethod ({ cls := "PackageBook$Expander", name := "number", desc := "(I)I" } : Jvm.MethodName)) ∈ uW := uW_of 633 (by decide +kernel) (by decide +kernel)
theorem k_17 : Cond.selects "PackageBook$Expander" ⟨"PackageBook$Expander", "number", "(I)I"⟩ ⟨"PackageBook$Expander", "number", "(I)I"⟩ ∈ uW := uW_of 17 (by decide +kernel) (by decide +kernel)
theorem hy_Expander_number : (y_Expander_number).cls ≠ "java/lang/invoke/MethodHandle" ∧ (y_Expander_number).cls ≠ "java/lang/invoke/VarHandle" ∧ (parseMethodDescriptor (y_Expander_number).desc).map (fun d => d.parameters.length) = some 1 := by decide +kernel
theorem d_Expander_repeat_23 : decode prog_3_method_10_code 23 = .ok (.iadd, 1) := by decide +kernel
theorem d_Expander_repeat_24 : decode prog_3_method_10_code 24 = .ok (.istore_n 3, 1) := by decide +kernel
theorem d_Expander_repeat_25 : decode prog_3_method_10_code 25 = .ok (.aload_n 0, 1) := by decide +kernel
theorem d_Expander_repeat_26 : decode prog_3_method_10_code 26 = .ok (.aload_n 2, 1) := by decide +kernel
theorem d_Expander_repeat_27 : decode prog_3_method_10_code 27 = .ok (.invokevirtual 106, 3) := by decide +kernel
theorem k_653 : (Jvm.Cond.methodLink "PackageBook$Expander" (106 : Nat) ({ cls := "PackageBook$Expander", name := "symbol", desc := "(LPackageBook$Code;)I" } : Jvm.MethodName)) ∈ uW := uW_of 653 (by decide +kernel) (by decide +kernel)
theorem k_656 : (Jvm.Cond.code ({ cls := "PackageBook$Expander", name := "symbol", desc := "(LPackageBook$Code;)I" } : Jvm.MethodName) prog_3_method_16_code (7 : Nat) (Option.some Jvm.ClassFile.FieldType.int)) ∈ uW := uW_of 656 (by decide +kernel) (by decide +kernel)
theorem k_655 : (Jvm.Cond.instanceMethod ({ cls := "PackageBook$Expander", name := "symbol", desc := "(LPackageBook$Code;)I" } : Jvm.MethodName)) ∈ uW := uW_of 655 (by decide +kernel) (by decide +kernel)
theorem k_22 : Cond.selects "PackageBook$Expander" ⟨"PackageBook$Expander", "symbol", "(LPackageBook$Code;)I"⟩ ⟨"PackageBook$Expander", "symbol", "(LPackageBook$Code;)I"⟩ ∈ uW := uW_of 22 (by decide +kernel) (by decide +kernel)
theorem hy_Expander_symbol : (y_Expander_symbol).cls ≠ "java/lang/invoke/MethodHandle" ∧ (y_Expander_symbol).cls ≠ "java/lang/invoke/VarHandle" ∧ (parseMethodDescriptor (y_Expander_symbol).desc).map (fun d => d.parameters.length) = some 1 := by decide +kernel
theorem d_Expander_repeat_30 : decode prog_3_method_10_code 30 = .ok (.istore 4, 2) := by decide +kernel
theorem d_Expander_repeat_44 : decode prog_3_method_10_code 44 = .ok (.iload 4, 2) := by decide +kernel
theorem d_Expander_repeat_46 : decode prog_3_method_10_code 46 = .ok (.invokestatic 126, 3) := by decide +kernel
theorem k_667 : (Jvm.Cond.methodLink "PackageBook$Expander" (126 : Nat) ({ cls := "PackageBook$Expander", name := "leastDistance", desc := "(I)I" } : Jvm.MethodName)) ∈ uW := uW_of 667 (by decide +kernel) (by decide +kernel)
theorem k_669 : (Jvm.Cond.code ({ cls := "PackageBook$Expander", name := "leastDistance", desc := "(I)I" } : Jvm.MethodName) prog_3_method_14_code (1 : Nat) (Option.some Jvm.ClassFile.FieldType.int)) ∈ uW := uW_of 669 (by decide +kernel) (by decide +kernel)
theorem k_668 : (Jvm.Cond.static ({ cls := "PackageBook$Expander", name := "leastDistance", desc := "(I)I" } : Jvm.MethodName)) ∈ uW := uW_of 668 (by decide +kernel) (by decide +kernel)
theorem hy_Expander_leastDistance : (y_Expander_leastDistance).cls ≠ "java/lang/invoke/MethodHandle" ∧ (y_Expander_leastDistance).cls ≠ "java/lang/invoke/VarHandle" ∧ (parseMethodDescriptor (y_Expander_leastDistance).desc).map (fun d => d.parameters.length) = some 1 := by decide +kernel
theorem d_Expander_repeat_49 : decode prog_3_method_10_code 49 = .ok (.aload_n 0, 1) := by decide +kernel
theorem d_Expander_repeat_50 : decode prog_3_method_10_code 50 = .ok (.iload 4, 2) := by decide +kernel
theorem d_Expander_repeat_52 : decode prog_3_method_10_code 52 = .ok (.invokestatic 129, 3) := by decide +kernel
theorem k_670 : (Jvm.Cond.methodLink "PackageBook$Expander" (129 : Nat) ({ cls := "PackageBook$Expander", name := "bitsOfDistance", desc := "(I)I" } : Jvm.MethodName)) ∈ uW := uW_of 670 (by decide +kernel) (by decide +kernel)
theorem k_672 : (Jvm.Cond.code ({ cls := "PackageBook$Expander", name := "bitsOfDistance", desc := "(I)I" } : Jvm.MethodName) prog_3_method_13_code (1 : Nat) (Option.some Jvm.ClassFile.FieldType.int)) ∈ uW := uW_of 672 (by decide +kernel) (by decide +kernel)
theorem k_671 : (Jvm.Cond.static ({ cls := "PackageBook$Expander", name := "bitsOfDistance", desc := "(I)I" } : Jvm.MethodName)) ∈ uW := uW_of 671 (by decide +kernel) (by decide +kernel)
theorem hy_Expander_bitsOfDistance : (y_Expander_bitsOfDistance).cls ≠ "java/lang/invoke/MethodHandle" ∧ (y_Expander_bitsOfDistance).cls ≠ "java/lang/invoke/VarHandle" ∧ (parseMethodDescriptor (y_Expander_bitsOfDistance).desc).map (fun d => d.parameters.length) = some 1 := by decide +kernel
theorem d_Expander_repeat_55 : decode prog_3_method_10_code 55 = .ok (.invokevirtual 71, 3) := by decide +kernel
theorem d_Expander_repeat_58 : decode prog_3_method_10_code 58 = .ok (.iadd, 1) := by decide +kernel
theorem d_Expander_repeat_59 : decode prog_3_method_10_code 59 = .ok (.istore 5, 2) := by decide +kernel
theorem d_Expander_repeat_100 : decode prog_3_method_10_code 100 = .ok (.iconst 0, 1) := by decide +kernel
theorem d_Expander_repeat_101 : decode prog_3_method_10_code 101 = .ok (.istore 6, 2) := by decide +kernel
theorem d_Expander_repeat_103 : decode prog_3_method_10_code 103 = .ok (.iload 6, 2) := by decide +kernel
theorem d_Expander_repeat_105 : decode prog_3_method_10_code 105 = .ok (.iload_n 3, 1) := by decide +kernel
theorem d_Expander_repeat_106 : decode prog_3_method_10_code 106 = .ok (.if_icmp .ge 41, 3) := by decide +kernel
theorem d_Expander_repeat_147 : decode prog_3_method_10_code 147 = .ok (.return_, 1) := by decide +kernel
theorem d_Expander_repeat_109 : decode prog_3_method_10_code 109 = .ok (.aload_n 0, 1) := by decide +kernel
theorem d_Expander_repeat_110 : decode prog_3_method_10_code 110 = .ok (.getfield 65, 3) := by decide +kernel
theorem d_Expander_repeat_113 : decode prog_3_method_10_code 113 = .ok (.ifCond .ne 34, 3) := by decide +kernel
theorem d_Expander_repeat_116 : decode prog_3_method_10_code 116 = .ok (.aload_n 0, 1) := by decide +kernel
theorem d_Expander_repeat_117 : decode prog_3_method_10_code 117 = .ok (.getfield 14, 3) := by decide +kernel
theorem d_Expander_repeat_120 : decode prog_3_method_10_code 120 = .ok (.aload_n 0, 1) := by decide +kernel
theorem d_Expander_repeat_121 : decode prog_3_method_10_code 121 = .ok (.getfield 14, 3) := by decide +kernel
theorem d_Expander_repeat_124 : decode prog_3_method_10_code 124 = .ok (.getfield 132, 3) := by decide +kernel
theorem k_160 : (Jvm.Cond.fieldLinkNest "PackageBook$Expander" (132 : Nat) "PackageBook$Row" "bytes" "[B" "PackageBook") ∈ uN := uN_of 160 (by decide +kernel) (by decide +kernel)
theorem d_Expander_repeat_127 : decode prog_3_method_10_code 127 = .ok (.aload_n 0, 1) := by decide +kernel
theorem d_Expander_repeat_128 : decode prog_3_method_10_code 128 = .ok (.getfield 14, 3) := by decide +kernel
theorem d_Expander_repeat_131 : decode prog_3_method_10_code 131 = .ok (.getfield 68, 3) := by decide +kernel
theorem d_Expander_repeat_134 : decode prog_3_method_10_code 134 = .ok (.iload 5, 2) := by decide +kernel
theorem d_Expander_repeat_136 : decode prog_3_method_10_code 136 = .ok (.isub, 1) := by decide +kernel
theorem d_Expander_repeat_137 : decode prog_3_method_10_code 137 = .ok (.baload, 1) := by decide +kernel
theorem d_Expander_repeat_138 : decode prog_3_method_10_code 138 = .ok (.invokevirtual 135, 3) := by decide +kernel
theorem d_Expander_repeat_141 : decode prog_3_method_10_code 141 = .ok (.iinc 6 1, 3) := by decide +kernel
theorem d_Expander_repeat_144 : decode prog_3_method_10_code 144 = .ok (.goto (-41), 3) := by decide +kernel
theorem d_Expander_repeat_79 : decode prog_3_method_10_code 79 = .ok (.iload_n 3, 1) := by decide +kernel
theorem d_Expander_repeat_80 : decode prog_3_method_10_code 80 = .ok (.sipush 4000, 3) := by decide +kernel
theorem d_Expander_repeat_83 : decode prog_3_method_10_code 83 = .ok (.aload_n 0, 1) := by decide +kernel
theorem d_Expander_repeat_84 : decode prog_3_method_10_code 84 = .ok (.getfield 14, 3) := by decide +kernel
theorem d_Expander_repeat_87 : decode prog_3_method_10_code 87 = .ok (.getfield 68, 3) := by decide +kernel
theorem d_Expander_repeat_90 : decode prog_3_method_10_code 90 = .ok (.isub, 1) := by decide +kernel
theorem d_Expander_repeat_91 : decode prog_3_method_10_code 91 = .ok (.if_icmp .le 9, 3) := by decide +kernel
theorem d_Expander_repeat_94 : decode prog_3_method_10_code 94 = .ok (.aload_n 0, 1) := by decide +kernel
theorem d_Expander_repeat_95 : decode prog_3_method_10_code 95 = .ok (.bipush 7, 2) := by decide +kernel
theorem d_Expander_repeat_97 : decode prog_3_method_10_code 97 = .ok (.invokevirtual 85, 3) := by decide +kernel
theorem d_Expander_repeat_61 : decode prog_3_method_10_code 61 = .ok (.iload 5, 2) := by decide +kernel
theorem d_Expander_repeat_63 : decode prog_3_method_10_code 63 = .ok (.aload_n 0, 1) := by decide +kernel
theorem d_Expander_repeat_64 : decode prog_3_method_10_code 64 = .ok (.getfield 14, 3) := by decide +kernel
theorem d_Expander_repeat_67 : decode prog_3_method_10_code 67 = .ok (.getfield 68, 3) := by decide +kernel
theorem d_Expander_repeat_70 : decode prog_3_method_10_code 70 = .ok (.if_icmp .le 9, 3) := by decide +kernel
theorem d_Expander_repeat_73 : decode prog_3_method_10_code 73 = .ok (.aload_n 0, 1) := by decide +kernel
theorem d_Expander_repeat_74 : decode prog_3_method_10_code 74 = .ok (.bipush 6, 2) := by decide +kernel
theorem d_Expander_repeat_76 : decode prog_3_method_10_code 76 = .ok (.invokevirtual 85, 3) := by decide +kernel
theorem d_Expander_repeat_32 : decode prog_3_method_10_code 32 = .ok (.iload 4, 2) := by decide +kernel
theorem d_Expander_repeat_34 : decode prog_3_method_10_code 34 = .ok (.bipush 30, 2) := by decide +kernel
theorem d_Expander_repeat_36 : decode prog_3_method_10_code 36 = .ok (.if_icmp .lt 8, 3) := by decide +kernel
theorem d_Expander_repeat_39 : decode prog_3_method_10_code 39 = .ok (.aload_n 0, 1) := by decide +kernel
theorem d_Expander_repeat_40 : decode prog_3_method_10_code 40 = .ok (.iconst 5, 1) := by decide +kernel
theorem d_Expander_repeat_41 : decode prog_3_method_10_code 41 = .ok (.invokevirtual 85, 3) := by decide +kernel
theorem d_Expander_repeat_0 : decode prog_3_method_10_code 0 = .ok (.iload_n 1, 1) := by decide +kernel
theorem d_Expander_repeat_1 : decode prog_3_method_10_code 1 = .ok (.bipush 28, 2) := by decide +kernel
theorem d_Expander_repeat_3 : decode prog_3_method_10_code 3 = .ok (.if_icmp .le 8, 3) := by decide +kernel
theorem d_Expander_repeat_6 : decode prog_3_method_10_code 6 = .ok (.aload_n 0, 1) := by decide +kernel
theorem d_Expander_repeat_7 : decode prog_3_method_10_code 7 = .ok (.iconst 5, 1) := by decide +kernel
theorem d_Expander_repeat_8 : decode prog_3_method_10_code 8 = .ok (.invokevirtual 85, 3) := by decide +kernel
abbrev y_Expander_repeat : MethodName := ⟨"PackageBook$Expander", "repeat", "(ILPackageBook$Code;)V"⟩
abbrev i_Expander_repeat : pb_I := (y_Expander_repeat, prog_3_method_10_code, 7, (Option.none : Option Jvm.ClassFile.FieldType), [], { frames := 1, cells := 0, slots := 0, locals := 26 })
set_option maxRecDepth 100000 in
set_option maxHeartbeats 4000000 in
theorem g_Exp_repeat {l : Launch} (hl : l.stackTraces = false) (G : pb_G) (h : Nat) (ex : Nat) (et : Nat) (ea : Nat) (eb : Nat) (ec : Nat) (ed : Nat) (ef : Nat) (er : Nat) (at_ : Int32) (en : Int32) (fl : Int32) (N : Nat) (fr : Nat → Int32) (ey : Nat) (xf : Nat → Int32) (xs : Int32) (kh : Nat) (kc : Nat) (ky : Nat) (Ny : Nat) (ks : Int32) (kfc : Nat → Int32) (kfy : Nat → Int32) (B : Int) (k : Int32) (a0 : 0 ≤ at_.toInt) (a1 : at_.toInt ≤ en.toInt) (a2 : en.toInt ≤ 8 * N) (a3 : N ≤ 100000) (a4 : 0 ≤ fl.toInt) (b0 : 0 ≤ xs.toInt) (b1 : xs.toInt ≤ 4000) (hco : co_I ks.toInt kfc kfy B) (hB : 1 ≤ B) (hNy : ks.toInt ≤ Ny) (hNy2 : Ny ≤ 100000) (hB2 : B ≤ 32) (F_fr : sb_Fit fr) (F_xf : sb_Fit xf) : Cn l G i_Expander_repeat [.ref h, .int k, .ref kh] [(h, .inr (5, [.ref ex, .ref et, .ref ea, .ref eb, .ref ec, .ref ed, .ref ef, .ref er, .int at_, .int en, .int fl])), (er, .inl (G.2.1, N, .inl fr)), (ex, .inr (0, [.ref ey, .int xs])), (ey, .inl (G.2.1, 4000, .inl xf)), (kh, .inr (1, [.ref kc, .ref ky, .int ks])), (kc, .inl (G.2.2.1, 16, .inl kfc)), (ky, .inl (G.2.2.1, Ny, .inl kfy))] (S := Int32 × Int32 × Int32 × (Nat → Int32)) (fun rv_ u => rv_ = none ∧ (at_.toInt ≤ u.1.toInt) ∧ (u.1.toInt ≤ en.toInt) ∧ (0 ≤ u.2.1.toInt) ∧ (fl.toInt ≠ 0 → u.2.1.toInt ≠ 0) ∧ (0 ≤ u.2.2.1.toInt) ∧ (u.2.2.1.toInt ≤ 4000) ∧ (sb_Fit u.2.2.2)) (fun u => [(h, .inr (5, [.ref ex, .ref et, .ref ea, .ref eb, .ref ec, .ref ed, .ref ef, .ref er, .int u.1, .int en, .int u.2.1])), (er, .inl (G.2.1, N, .inl fr)), (ex, .inr (0, [.ref ey, .int u.2.2.1])), (ey, .inl (G.2.1, 4000, .inl u.2.2.2)), (kh, .inr (1, [.ref kc, .ref ky, .int ks])), (kc, .inl (G.2.2.1, 16, .inl kfc)), (ky, .inl (G.2.2.1, Ny, .inl kfy))]) := by
  refine Cn.of hl (by decide +kernel) rfl (Nat.le_of_ble_eq_true rfl) (fun M hQ => ?_)
  refine pb_eq (pc' := 0) (lo' := [(0, .ref h), (1, .int k), (2, .ref kh)]) (rest' := []) (ws' := [(h, .inr (5, [.ref ex, .ref et, .ref ea, .ref eb, .ref ec, .ref ed, .ref ef, .ref er, .int at_, .int en, .int fl])), (er, .inl (G.2.1, N, .inl fr)), (ex, .inr (0, [.ref ey, .int xs])), (ey, .inl (G.2.1, 4000, .inl xf)), (kh, .inr (1, [.ref kc, .ref ky, .int ks])), (kc, .inl (G.2.2.1, 16, .inl kfc)), (ky, .inl (G.2.2.1, Ny, .inl kfy))]) ?_
  have zl0 : (0 : Int32).toInt = 0 := by decide
  have zl1 : (1 : Int32).toInt = 1 := by decide
  have zl5 : (5 : Int32).toInt = 5 := by decide
  have zl6 : (6 : Int32).toInt = 6 := by decide
  have zl7 : (7 : Int32).toInt = 7 := by decide
  have zl4000 : (4000 : Int32).toInt = 4000 := by decide
  have hJ11_1 : ∀ (f3 : Int32), (0 ≤ f3.toInt) → (fl.toInt ≠ 0 → f3.toInt ≠ 0) → pb_P l G M i_Expander_repeat 11 [(0, .ref h), (1, .int k), (2, .ref kh)] [] [(h, .inr (5, [.ref ex, .ref et, .ref ea, .ref eb, .ref ec, .ref ed, .ref ef, .ref er, .int at_, .int en, .int f3])), (er, .inl (G.2.1, N, .inl fr)), (ex, .inr (0, [.ref ey, .int xs])), (ey, .inl (G.2.1, 4000, .inl xf)), (kh, .inr (1, [.ref kc, .ref ky, .int ks])), (kc, .inl (G.2.2.1, 16, .inl kfc)), (ky, .inl (G.2.2.1, Ny, .inl kfy))] 0 0 := by
    intro f3 j0 j1
    refine pb_iload_n (pc := 11) d_Expander_repeat_11 1 rfl rfl ?_
    refine pb_callS (pc := 12) (I := i_Expander_repeat) (nA := 1) (rest := []) (wr := [(h, .inr (5, [.ref ex, .ref et, .ref ea, .ref eb, .ref ec, .ref ed, .ref ef, .ref er, .int at_, .int en, .int f3])), (er, .inl (G.2.1, N, .inl fr)), (ex, .inr (0, [.ref ey, .int xs])), (ey, .inl (G.2.1, 4000, .inl xf)), (kh, .inr (1, [.ref kc, .ref ky, .int ks])), (kc, .inl (G.2.2.1, 16, .inl kfc)), (ky, .inl (G.2.2.1, Ny, .inl kfy))]) d_Expander_repeat_12 (g_Exp_leastLength hl G k) [] [0, 1, 2, 3, 4, 5, 6] (by decide) rfl rfl rfl (by decide) (by decide) k_663 rfl k_121 k_661 k_662 hy_Expander_leastLength (by decide) rfl rfl (Nat.le_of_ble_eq_true rfl) (by decide) (fun v9 u3 ch2 => ?_)
    obtain ⟨r_4, rfl⟩ : ∃ z9, z9 = u3 := ⟨_, rfl⟩
    have ech2 := ch2
    have ech2 : v9 = some (.int r_4) := ech2
    subst ech2
    refine pb_eq (pc' := 15) (lo' := [(0, .ref h), (1, .int k), (2, .ref kh)]) (rest' := [.int r_4]) (ws' := [(h, .inr (5, [.ref ex, .ref et, .ref ea, .ref eb, .ref ec, .ref ed, .ref ef, .ref er, .int at_, .int en, .int f3])), (er, .inl (G.2.1, N, .inl fr)), (ex, .inr (0, [.ref ey, .int xs])), (ey, .inl (G.2.1, 4000, .inl xf)), (kh, .inr (1, [.ref kc, .ref ky, .int ks])), (kc, .inl (G.2.2.1, 16, .inl kfc)), (ky, .inl (G.2.2.1, Ny, .inl kfy))]) ?_
    refine pb_aload_n (pc := 15) d_Expander_repeat_15 0 rfl rfl ?_
    refine pb_iload_n (pc := 16) d_Expander_repeat_16 1 rfl rfl ?_
    refine pb_callS (pc := 17) (I := i_Expander_repeat) (nA := 1) (rest := [.ref h, .int r_4]) (wr := [(h, .inr (5, [.ref ex, .ref et, .ref ea, .ref eb, .ref ec, .ref ed, .ref ef, .ref er, .int at_, .int en, .int f3])), (er, .inl (G.2.1, N, .inl fr)), (ex, .inr (0, [.ref ey, .int xs])), (ey, .inl (G.2.1, 4000, .inl xf)), (kh, .inr (1, [.ref kc, .ref ky, .int ks])), (kc, .inl (G.2.2.1, 16, .inl kfc)), (ky, .inl (G.2.2.1, Ny, .inl kfy))]) d_Expander_repeat_17 (g_Exp_bitsOfLength hl G k) [] [0, 1, 2, 3, 4, 5, 6] (by decide) rfl rfl rfl (by decide) (by decide) k_666 rfl k_121 k_664 k_665 hy_Expander_bitsOfLength (by decide) rfl rfl (Nat.le_of_ble_eq_true rfl) (by decide) (fun v9 u6 ch5 => ?_)
    obtain ⟨r_7, rfl⟩ : ∃ z9, z9 = u6 := ⟨_, rfl⟩
    obtain ⟨ech5, ch5⟩ := ch5
    have ech5 : v9 = some (.int r_7) := ech5
    subst ech5
    obtain ⟨fh8, fh9⟩ : (0 ≤ r_7.toInt) ∧ (r_7.toInt ≤ 6) := ch5
    refine pb_eq (pc' := 20) (lo' := [(0, .ref h), (1, .int k), (2, .ref kh)]) (rest' := [.int r_7, .ref h, .int r_4]) (ws' := [(h, .inr (5, [.ref ex, .ref et, .ref ea, .ref eb, .ref ec, .ref ed, .ref ef, .ref er, .int at_, .int en, .int f3])), (er, .inl (G.2.1, N, .inl fr)), (ex, .inr (0, [.ref ey, .int xs])), (ey, .inl (G.2.1, 4000, .inl xf)), (kh, .inr (1, [.ref kc, .ref ky, .int ks])), (kc, .inl (G.2.2.1, 16, .inl kfc)), (ky, .inl (G.2.2.1, Ny, .inl kfy))]) ?_
    refine pb_callV (pc := 20) (I := i_Expander_repeat) (qb := 0) (ci := 5) (nA := 1) (rest := [.int r_4]) (wr := [(ex, .inr (0, [.ref ey, .int xs])), (ey, .inl (G.2.1, 4000, .inl xf)), (kh, .inr (1, [.ref kc, .ref ky, .int ks])), (kc, .inl (G.2.2.1, 16, .inl kfc)), (ky, .inl (G.2.2.1, Ny, .inl kfy))]) d_Expander_repeat_20 (g_Exp_number hl G h ex et ea eb ec ed ef er at_ en f3 N fr r_7 (by first | assumption | omega (splitDisjunctions := false) | omega | decide) (by first | assumption | omega (splitDisjunctions := false) | omega | decide) (by first | assumption | omega (splitDisjunctions := false) | omega | decide) (by first | assumption | omega (splitDisjunctions := false) | omega | decide) (by first | assumption | omega (splitDisjunctions := false) | omega | decide) (by first | assumption | omega (splitDisjunctions := false) | omega | decide) (by first | assumption | omega (splitDisjunctions := false) | omega | decide) (by first | assumption | decide | omega)) rfl rfl [0, 1] [2, 3, 4, 5, 6] (by decide) rfl rfl rfl (by decide) (by decide) k_634 rfl k_121 k_631 k_633 k_17 ⟨rfl, hy_Expander_number⟩ (by decide) rfl rfl (Nat.le_of_ble_eq_true rfl) (by decide) (fun v9 u11 ch10 => ?_)
    obtain ⟨r_12, a2__13, f2__14⟩ := u11
    obtain ⟨ech10, ch10⟩ := ch10
    have ech10 : v9 = some (.int r_12) := ech10
    subst ech10
    obtain ⟨fh15, fh16, fh17, fh18, fh19, fh20, fh21⟩ : (0 ≤ r_12.toInt) ∧ (r_12.toInt < p2 r_7.toInt) ∧ (r_12.toInt ≤ 65535) ∧ (at_.toInt ≤ a2__13.toInt) ∧ (a2__13.toInt ≤ en.toInt) ∧ (0 ≤ f2__14.toInt) ∧ (f3.toInt ≠ 0 → f2__14.toInt ≠ 0) := ch10
    refine pb_eq (pc' := 23) (lo' := [(0, .ref h), (1, .int k), (2, .ref kh)]) (rest' := [.int r_12, .int r_4]) (ws' := [(ex, .inr (0, [.ref ey, .int xs])), (ey, .inl (G.2.1, 4000, .inl xf)), (kh, .inr (1, [.ref kc, .ref ky, .int ks])), (kc, .inl (G.2.2.1, 16, .inl kfc)), (ky, .inl (G.2.2.1, Ny, .inl kfy)), (h, .inr (5, [.ref ex, .ref et, .ref ea, .ref eb, .ref ec, .ref ed, .ref ef, .ref er, .int a2__13, .int en, .int f2__14])), (er, .inl (G.2.1, N, .inl fr))]) ?_
    refine pb_iadd (pc := 23) d_Expander_repeat_23 ?_
    refine pb_topi (fun i22 ei22 => ?_)
    try have ti22 : i22.toInt = r_4.toInt + r_12.toInt := t2_add ei22 rfl rfl (by omega)
    refine pb_istore_n (pc := 24) (lo' := [(3, .int i22), (0, .ref h), (1, .int k), (2, .ref kh)]) d_Expander_repeat_24 rfl (by decide) rfl ?_
    refine pb_aload_n (pc := 25) d_Expander_repeat_25 1 rfl rfl ?_
    refine pb_aload_n (pc := 26) d_Expander_repeat_26 3 rfl rfl ?_
    refine pb_callV (pc := 27) (I := i_Expander_repeat) (qb := 5) (ci := 5) (nA := 1) (rest := []) (wr := [(ex, .inr (0, [.ref ey, .int xs])), (ey, .inl (G.2.1, 4000, .inl xf))]) d_Expander_repeat_27 (g_Exp_symbol hl G h ex et ea eb ec ed ef er a2__13 en f2__14 N fr kh kc ky Ny ks kfc kfy B (by first | assumption | omega (splitDisjunctions := false) | omega | decide) (by first | assumption | omega (splitDisjunctions := false) | omega | decide) (by first | assumption | omega (splitDisjunctions := false) | omega | decide) (by first | assumption | omega (splitDisjunctions := false) | omega | decide) (by first | assumption | omega (splitDisjunctions := false) | omega | decide) (by first | assumption | decide | omega) (by first | assumption | omega (splitDisjunctions := false) | omega | decide) (by first | assumption | omega (splitDisjunctions := false) | omega | decide) (by first | assumption | omega (splitDisjunctions := false) | omega | decide) (by first | assumption | decide | omega)) rfl rfl [5, 6, 2, 3, 4] [0, 1] (by decide) rfl rfl rfl (by decide) (by decide) k_656 rfl k_121 k_653 k_655 k_22 ⟨rfl, hy_Expander_symbol⟩ (by decide) rfl rfl (Nat.le_of_ble_eq_true rfl) (by decide) (fun v9 u24 ch23 => ?_)
    obtain ⟨r_25, a2__26, f2__27⟩ := u24
    obtain ⟨ech23, ch23⟩ := ch23
    have ech23 : v9 = some (.int r_25) := ech23
    subst ech23
    obtain ⟨fh28, fh29, fh30, fh31, fh32, fh33⟩ : (0 ≤ r_25.toInt) ∧ (r_25.toInt < B) ∧ (a2__13.toInt ≤ a2__26.toInt) ∧ (a2__26.toInt ≤ en.toInt) ∧ (0 ≤ f2__27.toInt) ∧ (f2__14.toInt ≠ 0 → f2__27.toInt ≠ 0) := ch23
    refine pb_eq (pc' := 30) (lo' := [(3, .int i22), (0, .ref h), (1, .int k), (2, .ref kh)]) (rest' := [.int r_25]) (ws' := [(ex, .inr (0, [.ref ey, .int xs])), (ey, .inl (G.2.1, 4000, .inl xf)), (h, .inr (5, [.ref ex, .ref et, .ref ea, .ref eb, .ref ec, .ref ed, .ref ef, .ref er, .int a2__26, .int en, .int f2__27])), (er, .inl (G.2.1, N, .inl fr)), (kh, .inr (1, [.ref kc, .ref ky, .int ks])), (kc, .inl (G.2.2.1, 16, .inl kfc)), (ky, .inl (G.2.2.1, Ny, .inl kfy))]) ?_
    refine pb_istore (pc := 30) (lo' := [(4, .int r_25), (3, .int i22), (0, .ref h), (1, .int k), (2, .ref kh)]) d_Expander_repeat_30 (by decide) rfl ?_
    have hJ44_34 : ∀ (f5 : Int32) (a5 : Int32) (L : Int32) (d : Int32), (0 ≤ f5.toInt) → (fl.toInt ≠ 0 → f5.toInt ≠ 0) → (at_.toInt ≤ a5.toInt) → (a5.toInt ≤ en.toInt) → (0 ≤ d.toInt) → (d.toInt < B) → pb_P l G M i_Expander_repeat 44 [(3, .int L), (4, .int d), (0, .ref h), (1, .int k), (2, .ref kh)] [] [(h, .inr (5, [.ref ex, .ref et, .ref ea, .ref eb, .ref ec, .ref ed, .ref ef, .ref er, .int a5, .int en, .int f5])), (er, .inl (G.2.1, N, .inl fr)), (ex, .inr (0, [.ref ey, .int xs])), (ey, .inl (G.2.1, 4000, .inl xf)), (kh, .inr (1, [.ref kc, .ref ky, .int ks])), (kc, .inl (G.2.2.1, 16, .inl kfc)), (ky, .inl (G.2.2.1, Ny, .inl kfy))] 0 0 := by
      intro f5 a5 L d k0 k1 k2 k3 k4 k5
      refine pb_iload (pc := 44) d_Expander_repeat_44 1 rfl ?_
      refine pb_callS (pc := 46) (I := i_Expander_repeat) (nA := 1) (rest := []) (wr := [(h, .inr (5, [.ref ex, .ref et, .ref ea, .ref eb, .ref ec, .ref ed, .ref ef, .ref er, .int a5, .int en, .int f5])), (er, .inl (G.2.1, N, .inl fr)), (ex, .inr (0, [.ref ey, .int xs])), (ey, .inl (G.2.1, 4000, .inl xf)), (kh, .inr (1, [.ref kc, .ref ky, .int ks])), (kc, .inl (G.2.2.1, 16, .inl kfc)), (ky, .inl (G.2.2.1, Ny, .inl kfy))]) d_Expander_repeat_46 (g_Exp_leastDistance hl G d (by first | assumption | omega (splitDisjunctions := false) | omega | decide) (by first | assumption | omega (splitDisjunctions := false) | omega | decide)) [] [0, 1, 2, 3, 4, 5, 6] (by decide) rfl rfl rfl (by decide) (by decide) k_669 rfl k_121 k_667 k_668 hy_Expander_leastDistance (by decide) rfl rfl (Nat.le_of_ble_eq_true rfl) (by decide) (fun v9 u36 ch35 => ?_)
      obtain ⟨r_37, rfl⟩ : ∃ z9, z9 = u36 := ⟨_, rfl⟩
      obtain ⟨ech35, ch35⟩ := ch35
      have ech35 : v9 = some (.int r_37) := ech35
      subst ech35
      obtain ⟨fh38, fh39⟩ : (1 ≤ r_37.toInt) ∧ (r_37.toInt ≤ 65536) := ch35
      refine pb_eq (pc' := 49) (lo' := [(3, .int L), (4, .int d), (0, .ref h), (1, .int k), (2, .ref kh)]) (rest' := [.int r_37]) (ws' := [(h, .inr (5, [.ref ex, .ref et, .ref ea, .ref eb, .ref ec, .ref ed, .ref ef, .ref er, .int a5, .int en, .int f5])), (er, .inl (G.2.1, N, .inl fr)), (ex, .inr (0, [.ref ey, .int xs])), (ey, .inl (G.2.1, 4000, .inl xf)), (kh, .inr (1, [.ref kc, .ref ky, .int ks])), (kc, .inl (G.2.2.1, 16, .inl kfc)), (ky, .inl (G.2.2.1, Ny, .inl kfy))]) ?_
      refine pb_aload_n (pc := 49) d_Expander_repeat_49 2 rfl rfl ?_
      refine pb_iload (pc := 50) d_Expander_repeat_50 1 rfl ?_
      refine pb_callS (pc := 52) (I := i_Expander_repeat) (nA := 1) (rest := [.ref h, .int r_37]) (wr := [(h, .inr (5, [.ref ex, .ref et, .ref ea, .ref eb, .ref ec, .ref ed, .ref ef, .ref er, .int a5, .int en, .int f5])), (er, .inl (G.2.1, N, .inl fr)), (ex, .inr (0, [.ref ey, .int xs])), (ey, .inl (G.2.1, 4000, .inl xf)), (kh, .inr (1, [.ref kc, .ref ky, .int ks])), (kc, .inl (G.2.2.1, 16, .inl kfc)), (ky, .inl (G.2.2.1, Ny, .inl kfy))]) d_Expander_repeat_52 (g_Exp_bitsOfDistance hl G d (by first | assumption | omega (splitDisjunctions := false) | omega | decide) (by first | assumption | omega (splitDisjunctions := false) | omega | decide)) [] [0, 1, 2, 3, 4, 5, 6] (by decide) rfl rfl rfl (by decide) (by decide) k_672 rfl k_121 k_670 k_671 hy_Expander_bitsOfDistance (by decide) rfl rfl (Nat.le_of_ble_eq_true rfl) (by decide) (fun v9 u41 ch40 => ?_)
      obtain ⟨r_42, rfl⟩ : ∃ z9, z9 = u41 := ⟨_, rfl⟩
      obtain ⟨ech40, ch40⟩ := ch40
      have ech40 : v9 = some (.int r_42) := ech40
      subst ech40
      obtain ⟨fh43, fh44⟩ : (0 ≤ r_42.toInt) ∧ (r_42.toInt ≤ 14) := ch40
      refine pb_eq (pc' := 55) (lo' := [(3, .int L), (4, .int d), (0, .ref h), (1, .int k), (2, .ref kh)]) (rest' := [.int r_42, .ref h, .int r_37]) (ws' := [(h, .inr (5, [.ref ex, .ref et, .ref ea, .ref eb, .ref ec, .ref ed, .ref ef, .ref er, .int a5, .int en, .int f5])), (er, .inl (G.2.1, N, .inl fr)), (ex, .inr (0, [.ref ey, .int xs])), (ey, .inl (G.2.1, 4000, .inl xf)), (kh, .inr (1, [.ref kc, .ref ky, .int ks])), (kc, .inl (G.2.2.1, 16, .inl kfc)), (ky, .inl (G.2.2.1, Ny, .inl kfy))]) ?_
      refine pb_callV (pc := 55) (I := i_Expander_repeat) (qb := 0) (ci := 5) (nA := 1) (rest := [.int r_37]) (wr := [(ex, .inr (0, [.ref ey, .int xs])), (ey, .inl (G.2.1, 4000, .inl xf)), (kh, .inr (1, [.ref kc, .ref ky, .int ks])), (kc, .inl (G.2.2.1, 16, .inl kfc)), (ky, .inl (G.2.2.1, Ny, .inl kfy))]) d_Expander_repeat_55 (g_Exp_number hl G h ex et ea eb ec ed ef er a5 en f5 N fr r_42 (by first | assumption | omega (splitDisjunctions := false) | omega | decide) (by first | assumption | omega (splitDisjunctions := false) | omega | decide) (by first | assumption | omega (splitDisjunctions := false) | omega | decide) (by first | assumption | omega (splitDisjunctions := false) | omega | decide) (by first | assumption | omega (splitDisjunctions := false) | omega | decide) (by first | assumption | omega (splitDisjunctions := false) | omega | decide) (by first | assumption | omega (splitDisjunctions := false) | omega | decide) (by first | assumption | decide | omega)) rfl rfl [0, 1] [2, 3, 4, 5, 6] (by decide) rfl rfl rfl (by decide) (by decide) k_634 rfl k_121 k_631 k_633 k_17 ⟨rfl, hy_Expander_number⟩ (by decide) rfl rfl (Nat.le_of_ble_eq_true rfl) (by decide) (fun v9 u46 ch45 => ?_)
      obtain ⟨r_47, a2__48, f2__49⟩ := u46
      obtain ⟨ech45, ch45⟩ := ch45
      have ech45 : v9 = some (.int r_47) := ech45
      subst ech45
      obtain ⟨fh50, fh51, fh52, fh53, fh54, fh55, fh56⟩ : (0 ≤ r_47.toInt) ∧ (r_47.toInt < p2 r_42.toInt) ∧ (r_47.toInt ≤ 65535) ∧ (a5.toInt ≤ a2__48.toInt) ∧ (a2__48.toInt ≤ en.toInt) ∧ (0 ≤ f2__49.toInt) ∧ (f5.toInt ≠ 0 → f2__49.toInt ≠ 0) := ch45
      refine pb_eq (pc' := 58) (lo' := [(3, .int L), (4, .int d), (0, .ref h), (1, .int k), (2, .ref kh)]) (rest' := [.int r_47, .int r_37]) (ws' := [(ex, .inr (0, [.ref ey, .int xs])), (ey, .inl (G.2.1, 4000, .inl xf)), (kh, .inr (1, [.ref kc, .ref ky, .int ks])), (kc, .inl (G.2.2.1, 16, .inl kfc)), (ky, .inl (G.2.2.1, Ny, .inl kfy)), (h, .inr (5, [.ref ex, .ref et, .ref ea, .ref eb, .ref ec, .ref ed, .ref ef, .ref er, .int a2__48, .int en, .int f2__49])), (er, .inl (G.2.1, N, .inl fr))]) ?_
      refine pb_iadd (pc := 58) d_Expander_repeat_58 ?_
      refine pb_topi (fun i57 ei57 => ?_)
      try have ti57 : i57.toInt = r_37.toInt + r_47.toInt := t2_add ei57 rfl rfl (by omega)
      refine pb_istore (pc := 59) (lo' := [(5, .int i57), (3, .int L), (4, .int d), (0, .ref h), (1, .int k), (2, .ref kh)]) d_Expander_repeat_59 (by decide) rfl ?_
      have hJ79_58 : ∀ (f7 : Int32) (a7 : Int32) (D7 : Int32), (0 ≤ f7.toInt) → (fl.toInt ≠ 0 → f7.toInt ≠ 0) → (at_.toInt ≤ a7.toInt) → (a7.toInt ≤ en.toInt) → (1 ≤ D7.toInt) → (f7.toInt = 0 → D7.toInt ≤ xs.toInt) → pb_P l G M i_Expander_repeat 79 [(3, .int L), (5, .int D7), (0, .ref h), (1, .int k), (2, .ref kh)] [] [(h, .inr (5, [.ref ex, .ref et, .ref ea, .ref eb, .ref ec, .ref ed, .ref ef, .ref er, .int a7, .int en, .int f7])), (er, .inl (G.2.1, N, .inl fr)), (ex, .inr (0, [.ref ey, .int xs])), (ey, .inl (G.2.1, 4000, .inl xf)), (kh, .inr (1, [.ref kc, .ref ky, .int ks])), (kc, .inl (G.2.2.1, 16, .inl kfc)), (ky, .inl (G.2.2.1, Ny, .inl kfy))] 0 0 := by
        intro f7 a7 D7 l0 l1 l2 l3 l4 l5
        have hJ100_59 : ∀ (f8 : Int32), (0 ≤ f8.toInt) → (fl.toInt ≠ 0 → f8.toInt ≠ 0) → (f8.toInt = 0 → D7.toInt ≤ xs.toInt) → (f8.toInt = 0 → L.toInt ≤ 4000 - xs.toInt) → pb_P l G M i_Expander_repeat 100 [(3, .int L), (5, .int D7), (0, .ref h), (1, .int k), (2, .ref kh)] [] [(h, .inr (5, [.ref ex, .ref et, .ref ea, .ref eb, .ref ec, .ref ed, .ref ef, .ref er, .int a7, .int en, .int f8])), (er, .inl (G.2.1, N, .inl fr)), (ex, .inr (0, [.ref ey, .int xs])), (ey, .inl (G.2.1, 4000, .inl xf)), (kh, .inr (1, [.ref kc, .ref ky, .int ks])), (kc, .inl (G.2.2.1, 16, .inl kfc)), (ky, .inl (G.2.2.1, Ny, .inl kfy))] 0 0 := by
          intro f8 m0 m1 m2 m3
          refine pb_iconst (pc := 100) (v := 0) d_Expander_repeat_100 (by decide) ?_
          refine pb_istore (pc := 101) (lo' := [(6, .int 0), (3, .int L), (5, .int D7), (0, .ref h), (1, .int k), (2, .ref kh)]) d_Expander_repeat_101 (by decide) rfl ?_
          have hL103_60 : ∀ (N9 : Nat) (n : Int32) (s9 : Int32) (x9 : Nat → Int32), (sb_Fit x9) → (0 ≤ n.toInt) → (s9.toInt = xs.toInt + n.toInt) → (s9.toInt ≤ 4000) → ((L.toInt - n.toInt).toNat) < N9 → pb_P l G M i_Expander_repeat 103 [(6, .int n), (3, .int L), (5, .int D7), (0, .ref h), (1, .int k), (2, .ref kh)] [] [(h, .inr (5, [.ref ex, .ref et, .ref ea, .ref eb, .ref ec, .ref ed, .ref ef, .ref er, .int a7, .int en, .int f8])), (er, .inl (G.2.1, N, .inl fr)), (ex, .inr (0, [.ref ey, .int s9])), (ey, .inl (G.2.1, 4000, .inl x9)), (kh, .inr (1, [.ref kc, .ref ky, .int ks])), (kc, .inl (G.2.2.1, 16, .inl kfc)), (ky, .inl (G.2.2.1, Ny, .inl kfy))] 0 0 := by
            intro N9
            induction N9 with
            | zero => intro n s9 x9 F_x9 n0 n1 n2 hm9; exact absurd hm9 (Nat.not_lt_zero _)
            | succ N9 ih103 =>
              intro n s9 x9 F_x9 n0 n1 n2 hm9
              refine pb_iload (pc := 103) d_Expander_repeat_103 0 rfl ?_
              refine pb_iload_n (pc := 105) d_Expander_repeat_105 1 rfl rfl ?_
              refine pb_icmp_ge (pc := 106) (tgt := 147) d_Expander_repeat_106 (by decide) (fun w61 => ?_) (fun w61 => ?_)
              · have tw61 : L.toInt ≤ n.toInt := (ti_le rfl rfl).mp w61
                exact pb_vret (pc := 147) hQ d_Expander_repeat_147 rfl (a7, f8, s9, x9) ⟨rfl, (by (try dsimp only); first | done | assumption | omega (splitDisjunctions := false) | omega | decide), (by (try dsimp only); first | done | assumption | omega (splitDisjunctions := false) | omega | decide), (by (try dsimp only); first | done | assumption | omega (splitDisjunctions := false) | omega | decide), (by (try dsimp only); first | done | assumption | omega (splitDisjunctions := false) | omega | decide), (by (try dsimp only); first | done | assumption | omega (splitDisjunctions := false) | omega | decide), (by (try dsimp only); first | done | assumption | omega (splitDisjunctions := false) | omega | decide), F_x9⟩ [0, 1, 2, 3, 4, 5, 6] (by decide) rfl rfl (by decide) (by decide)
              · have tw61 : ¬ L.toInt ≤ n.toInt := fun z9 => w61 ((ti_le rfl rfl).mpr z9)
                refine pb_aload_n (pc := 109) d_Expander_repeat_109 3 rfl rfl ?_
                refine pb_get (pc := 110) d_Expander_repeat_110 0 10 rfl rfl (by decide) in_Expander k_260 rfl ?_
                refine pb_if_ne (pc := 113) (tgt := 147) d_Expander_repeat_113 (by decide) (fun w62 => ?_) (fun w62 => ?_)
                · have tw62 : ¬ f8.toInt = 0 := fun z9 => w62 ((ti_eq rfl (by decide)).mpr z9)
                  exact pb_vret (pc := 147) hQ d_Expander_repeat_147 rfl (a7, f8, s9, x9) ⟨rfl, (by (try dsimp only); first | done | assumption | omega (splitDisjunctions := false) | omega | decide), (by (try dsimp only); first | done | assumption | omega (splitDisjunctions := false) | omega | decide), (by (try dsimp only); first | done | assumption | omega (splitDisjunctions := false) | omega | decide), (by (try dsimp only); first | done | assumption | omega (splitDisjunctions := false) | omega | decide), (by (try dsimp only); first | done | assumption | omega (splitDisjunctions := false) | omega | decide), (by (try dsimp only); first | done | assumption | omega (splitDisjunctions := false) | omega | decide), F_x9⟩ [0, 1, 2, 3, 4, 5, 6] (by decide) rfl rfl (by decide) (by decide)
                · have tw62 : f8.toInt = 0 := (ti_eq rfl (by decide)).mp w62
                  refine pb_aload_n (pc := 116) d_Expander_repeat_116 3 rfl rfl ?_
                  refine pb_get (pc := 117) d_Expander_repeat_117 0 0 rfl rfl (by decide) in_Expander k_248 rfl ?_
                  refine pb_aload_n (pc := 120) d_Expander_repeat_120 3 rfl rfl ?_
                  refine pb_get (pc := 121) d_Expander_repeat_121 0 0 rfl rfl (by decide) in_Expander k_248 rfl ?_
                  refine pb_getN (pc := 124) d_Expander_repeat_124 2 0 rfl rfl (by decide) in_Row k_160 rfl ?_
                  refine pb_aload_n (pc := 127) d_Expander_repeat_127 3 rfl rfl ?_
                  refine pb_get (pc := 128) d_Expander_repeat_128 0 0 rfl rfl (by decide) in_Expander k_248 rfl ?_
                  refine pb_getN (pc := 131) d_Expander_repeat_131 2 1 rfl rfl (by decide) in_Row k_166 rfl ?_
                  refine pb_iload (pc := 134) d_Expander_repeat_134 2 rfl ?_
                  refine pb_isub (pc := 136) d_Expander_repeat_136 ?_
                  refine pb_topi (fun i63 ei63 => ?_)
                  try have ti63 : i63.toInt = s9.toInt - D7.toInt := t2_sub ei63 rfl rfl (by omega)
                  refine pb_bald (pc := 137) d_Expander_repeat_137 3 rfl (vp_in_iff.mpr (by omega)) ?_
                  refine pb_topi (fun i64 ei64 => ?_)
                  have ti64 : -128 ≤ i64.toInt ∧ i64.toInt ≤ 127 := ti_fit (F_x9 _) ei64
                  refine pb_callV (pc := 138) (I := i_Expander_repeat) (qb := 2) (ci := 0) (nA := 1) (rest := []) (wr := [(h, .inr (5, [.ref ex, .ref et, .ref ea, .ref eb, .ref ec, .ref ed, .ref ef, .ref er, .int a7, .int en, .int f8])), (er, .inl (G.2.1, N, .inl fr)), (kh, .inr (1, [.ref kc, .ref ky, .int ks])), (kc, .inl (G.2.2.1, 16, .inl kfc)), (ky, .inl (G.2.2.1, Ny, .inl kfy))]) d_Expander_repeat_138 (g_Row_putByte hl G ex ey 4000 x9 s9 i64 (by first | assumption | omega (splitDisjunctions := false) | omega | decide) (by first | assumption | omega (splitDisjunctions := false) | omega | decide) (by first | assumption | omega (splitDisjunctions := false) | omega | decide) F_x9) rfl rfl [2, 3] [0, 1, 4, 5, 6] (by decide) rfl rfl rfl (by decide) (by decide) k_555 rfl k_119 k_648 k_553 k_554 ⟨rfl, hy_Row_putByte⟩ (by decide) rfl rfl (Nat.le_of_ble_eq_true rfl) (by decide) (fun v9 u66 ch65 => ?_)
                  obtain ⟨s_67, f_68⟩ := u66
                  obtain ⟨ech65, ch65⟩ := ch65
                  have ech65 : v9 = none := ech65
                  subst ech65
                  obtain ⟨fh69, fh70, fh71⟩ : (s_67.toInt = s9.toInt + 1) ∧ (∀ j : Int, 0 ≤ j → gr f_68 j = if j = s9.toInt then i64.toInt8.toInt32 else gr x9 j) ∧ (sb_Fit f_68) := ch65
                  refine pb_eq (pc' := 141) (lo' := [(6, .int n), (3, .int L), (5, .int D7), (0, .ref h), (1, .int k), (2, .ref kh)]) (rest' := []) (ws' := [(h, .inr (5, [.ref ex, .ref et, .ref ea, .ref eb, .ref ec, .ref ed, .ref ef, .ref er, .int a7, .int en, .int f8])), (er, .inl (G.2.1, N, .inl fr)), (kh, .inr (1, [.ref kc, .ref ky, .int ks])), (kc, .inl (G.2.2.1, 16, .inl kfc)), (ky, .inl (G.2.2.1, Ny, .inl kfy)), (ex, .inr (0, [.ref ey, .int s_67])), (ey, .inl (G.2.1, 4000, .inl f_68))]) ?_
                  refine pb_iincN (pc := 141) (c := 1) d_Expander_repeat_141 0 rfl (by decide) (by decide) (fun i72 ei72 => ?_)
                  have ti72 : i72.toInt = n.toInt + 1 := t2_add ei72 rfl (by decide) (by omega)
                  refine pb_eq (pc' := 144) (lo' := [(6, .int i72), (3, .int L), (5, .int D7), (0, .ref h), (1, .int k), (2, .ref kh)]) (rest' := []) (ws' := [(h, .inr (5, [.ref ex, .ref et, .ref ea, .ref eb, .ref ec, .ref ed, .ref ef, .ref er, .int a7, .int en, .int f8])), (er, .inl (G.2.1, N, .inl fr)), (kh, .inr (1, [.ref kc, .ref ky, .int ks])), (kc, .inl (G.2.2.1, 16, .inl kfc)), (ky, .inl (G.2.2.1, Ny, .inl kfy)), (ex, .inr (0, [.ref ey, .int s_67])), (ey, .inl (G.2.1, 4000, .inl f_68))]) ?_
                  refine pb_goto (pc := 144) (tgt := 103) d_Expander_repeat_144 (by decide) ?_
                  refine pb_re (ws' := [(h, .inr (5, [.ref ex, .ref et, .ref ea, .ref eb, .ref ec, .ref ed, .ref ef, .ref er, .int a7, .int en, .int f8])), (er, .inl (G.2.1, N, .inl fr)), (ex, .inr (0, [.ref ey, .int s_67])), (ey, .inl (G.2.1, 4000, .inl f_68)), (kh, .inr (1, [.ref kc, .ref ky, .int ks])), (kc, .inl (G.2.2.1, 16, .inl kfc)), (ky, .inl (G.2.2.1, Ny, .inl kfy))]) (lo' := [(6, .int i72), (3, .int L), (5, .int D7), (0, .ref h), (1, .int k), (2, .ref kh)]) [0, 1, 5, 6, 2, 3, 4] [0, 1, 2, 3, 4, 5] (by decide) rfl rfl rfl ?_
                  exact ih103 i72 s_67 f_68 fh71 (by first | assumption | omega (splitDisjunctions := false) | omega | decide) (by first | assumption | omega (splitDisjunctions := false) | omega | decide) (by first | assumption | omega (splitDisjunctions := false) | omega | decide) (by omega)
          exact hL103_60 _ 0 xs xf (by first | assumption | decide | omega) (by first | assumption | omega (splitDisjunctions := false) | omega | decide) (by first | assumption | omega (splitDisjunctions := false) | omega | decide) (by first | assumption | omega (splitDisjunctions := false) | omega | decide) (Nat.lt_succ_self _)
        refine pb_iload_n (pc := 79) d_Expander_repeat_79 0 rfl rfl ?_
        refine pb_sipush (pc := 80) (v := 4000) d_Expander_repeat_80 (by decide) ?_
        refine pb_aload_n (pc := 83) d_Expander_repeat_83 2 rfl rfl ?_
        refine pb_get (pc := 84) d_Expander_repeat_84 0 0 rfl rfl (by decide) in_Expander k_248 rfl ?_
        refine pb_getN (pc := 87) d_Expander_repeat_87 2 1 rfl rfl (by decide) in_Row k_166 rfl ?_
        refine pb_isub (pc := 90) d_Expander_repeat_90 ?_
        refine pb_topi (fun i73 ei73 => ?_)
        try have ti73 : i73.toInt = 4000 - xs.toInt := t2_sub ei73 (by decide) rfl (by omega)
        refine pb_icmp_le (pc := 91) (tgt := 100) d_Expander_repeat_91 (by decide) (fun w74 => ?_) (fun w74 => ?_)
        · have tw74 : L.toInt ≤ i73.toInt := (ti_le rfl rfl).mp w74
          exact hJ100_59 f7 (by first | assumption | omega (splitDisjunctions := false) | omega | decide) (by first | assumption | omega (splitDisjunctions := false) | omega | decide) (by first | assumption | omega (splitDisjunctions := false) | omega | decide) (by first | assumption | omega (splitDisjunctions := false) | omega | decide)
        · have tw74 : ¬ L.toInt ≤ i73.toInt := fun z9 => w74 ((ti_le rfl rfl).mpr z9)
          refine pb_aload_n (pc := 94) d_Expander_repeat_94 2 rfl rfl ?_
          refine pb_bipush (pc := 95) (v := 7) d_Expander_repeat_95 (by decide) ?_
          refine pb_callV (pc := 97) (I := i_Expander_repeat) (qb := 0) (ci := 5) (nA := 1) (rest := []) (wr := [(er, .inl (G.2.1, N, .inl fr)), (ex, .inr (0, [.ref ey, .int xs])), (ey, .inl (G.2.1, 4000, .inl xf)), (kh, .inr (1, [.ref kc, .ref ky, .int ks])), (kc, .inl (G.2.2.1, 16, .inl kfc)), (ky, .inl (G.2.2.1, Ny, .inl kfy))]) d_Expander_repeat_97 (g_Exp_fail hl G h ex et ea eb ec ed ef er a7 en f7 7 (by first | assumption | omega (splitDisjunctions := false) | omega | decide) (by first | assumption | omega (splitDisjunctions := false) | omega | decide)) rfl rfl [0] [1, 2, 3, 4, 5, 6] (by decide) rfl rfl rfl (by decide) (by decide) k_643 rfl k_121 k_640 k_642 k_19 ⟨rfl, hy_Expander_fail⟩ (by decide) rfl rfl (Nat.le_of_ble_eq_true rfl) (by decide) (fun v9 u76 ch75 => ?_)
          obtain ⟨f2__77, rfl⟩ : ∃ z9, z9 = u76 := ⟨_, rfl⟩
          obtain ⟨ech75, ch75⟩ := ch75
          have ech75 : v9 = none := ech75
          subst ech75
          have fh78 : 0 < f2__77.toInt := ch75
          refine pb_eq (pc' := 100) (lo' := [(3, .int L), (5, .int D7), (0, .ref h), (1, .int k), (2, .ref kh)]) (rest' := []) (ws' := [(er, .inl (G.2.1, N, .inl fr)), (ex, .inr (0, [.ref ey, .int xs])), (ey, .inl (G.2.1, 4000, .inl xf)), (kh, .inr (1, [.ref kc, .ref ky, .int ks])), (kc, .inl (G.2.2.1, 16, .inl kfc)), (ky, .inl (G.2.2.1, Ny, .inl kfy)), (h, .inr (5, [.ref ex, .ref et, .ref ea, .ref eb, .ref ec, .ref ed, .ref ef, .ref er, .int a7, .int en, .int f2__77]))]) ?_
          refine pb_re (ws' := [(h, .inr (5, [.ref ex, .ref et, .ref ea, .ref eb, .ref ec, .ref ed, .ref ef, .ref er, .int a7, .int en, .int f2__77])), (er, .inl (G.2.1, N, .inl fr)), (ex, .inr (0, [.ref ey, .int xs])), (ey, .inl (G.2.1, 4000, .inl xf)), (kh, .inr (1, [.ref kc, .ref ky, .int ks])), (kc, .inl (G.2.2.1, 16, .inl kfc)), (ky, .inl (G.2.2.1, Ny, .inl kfy))]) (lo' := [(3, .int L), (5, .int D7), (0, .ref h), (1, .int k), (2, .ref kh)]) [6, 0, 1, 2, 3, 4, 5] [0, 1, 2, 3, 4] (by decide) rfl rfl rfl ?_
          exact hJ100_59 f2__77 (by first | assumption | omega (splitDisjunctions := false) | omega | decide) (by first | assumption | omega (splitDisjunctions := false) | omega | decide) (by first | assumption | omega (splitDisjunctions := false) | omega | decide) (by first | assumption | omega (splitDisjunctions := false) | omega | decide)
      refine pb_iload (pc := 61) d_Expander_repeat_61 0 rfl ?_
      refine pb_aload_n (pc := 63) d_Expander_repeat_63 3 rfl rfl ?_
      refine pb_get (pc := 64) d_Expander_repeat_64 5 0 rfl rfl (by decide) in_Expander k_248 rfl ?_
      refine pb_getN (pc := 67) d_Expander_repeat_67 0 1 rfl rfl (by decide) in_Row k_166 rfl ?_
      refine pb_icmp_le (pc := 70) (tgt := 79) d_Expander_repeat_70 (by decide) (fun w79 => ?_) (fun w79 => ?_)
      · have tw79 : i57.toInt ≤ xs.toInt := (ti_le rfl rfl).mp w79
        refine pb_re (ws' := [(h, .inr (5, [.ref ex, .ref et, .ref ea, .ref eb, .ref ec, .ref ed, .ref ef, .ref er, .int a2__48, .int en, .int f2__49])), (er, .inl (G.2.1, N, .inl fr)), (ex, .inr (0, [.ref ey, .int xs])), (ey, .inl (G.2.1, 4000, .inl xf)), (kh, .inr (1, [.ref kc, .ref ky, .int ks])), (kc, .inl (G.2.2.1, 16, .inl kfc)), (ky, .inl (G.2.2.1, Ny, .inl kfy))]) (lo' := [(3, .int L), (5, .int i57), (0, .ref h), (1, .int k), (2, .ref kh)]) [5, 6, 0, 1, 2, 3, 4] [1, 0, 3, 4, 5] (by decide) rfl rfl rfl ?_
        exact hJ79_58 f2__49 a2__48 i57 (by first | assumption | omega (splitDisjunctions := false) | omega | decide) (by first | assumption | omega (splitDisjunctions := false) | omega | decide) (by first | assumption | omega (splitDisjunctions := false) | omega | decide) (by first | assumption | omega (splitDisjunctions := false) | omega | decide) (by first | assumption | omega (splitDisjunctions := false) | omega | decide) (by first | assumption | omega (splitDisjunctions := false) | omega | decide)
      · have tw79 : ¬ i57.toInt ≤ xs.toInt := fun z9 => w79 ((ti_le rfl rfl).mpr z9)
        refine pb_aload_n (pc := 73) d_Expander_repeat_73 3 rfl rfl ?_
        refine pb_bipush (pc := 74) (v := 6) d_Expander_repeat_74 (by decide) ?_
        refine pb_callV (pc := 76) (I := i_Expander_repeat) (qb := 5) (ci := 5) (nA := 1) (rest := []) (wr := [(ex, .inr (0, [.ref ey, .int xs])), (ey, .inl (G.2.1, 4000, .inl xf)), (kh, .inr (1, [.ref kc, .ref ky, .int ks])), (kc, .inl (G.2.2.1, 16, .inl kfc)), (ky, .inl (G.2.2.1, Ny, .inl kfy)), (er, .inl (G.2.1, N, .inl fr))]) d_Expander_repeat_76 (g_Exp_fail hl G h ex et ea eb ec ed ef er a2__48 en f2__49 6 (by first | assumption | omega (splitDisjunctions := false) | omega | decide) (by first | assumption | omega (splitDisjunctions := false) | omega | decide)) rfl rfl [5] [0, 1, 2, 3, 4, 6] (by decide) rfl rfl rfl (by decide) (by decide) k_643 rfl k_121 k_640 k_642 k_19 ⟨rfl, hy_Expander_fail⟩ (by decide) rfl rfl (Nat.le_of_ble_eq_true rfl) (by decide) (fun v9 u81 ch80 => ?_)
        obtain ⟨f2__82, rfl⟩ : ∃ z9, z9 = u81 := ⟨_, rfl⟩
        obtain ⟨ech80, ch80⟩ := ch80
        have ech80 : v9 = none := ech80
        subst ech80
        have fh83 : 0 < f2__82.toInt := ch80
        refine pb_eq (pc' := 79) (lo' := [(5, .int i57), (3, .int L), (4, .int d), (0, .ref h), (1, .int k), (2, .ref kh)]) (rest' := []) (ws' := [(ex, .inr (0, [.ref ey, .int xs])), (ey, .inl (G.2.1, 4000, .inl xf)), (kh, .inr (1, [.ref kc, .ref ky, .int ks])), (kc, .inl (G.2.2.1, 16, .inl kfc)), (ky, .inl (G.2.2.1, Ny, .inl kfy)), (er, .inl (G.2.1, N, .inl fr)), (h, .inr (5, [.ref ex, .ref et, .ref ea, .ref eb, .ref ec, .ref ed, .ref ef, .ref er, .int a2__48, .int en, .int f2__82]))]) ?_
        refine pb_re (ws' := [(h, .inr (5, [.ref ex, .ref et, .ref ea, .ref eb, .ref ec, .ref ed, .ref ef, .ref er, .int a2__48, .int en, .int f2__82])), (er, .inl (G.2.1, N, .inl fr)), (ex, .inr (0, [.ref ey, .int xs])), (ey, .inl (G.2.1, 4000, .inl xf)), (kh, .inr (1, [.ref kc, .ref ky, .int ks])), (kc, .inl (G.2.2.1, 16, .inl kfc)), (ky, .inl (G.2.2.1, Ny, .inl kfy))]) (lo' := [(3, .int L), (5, .int i57), (0, .ref h), (1, .int k), (2, .ref kh)]) [6, 5, 0, 1, 2, 3, 4] [1, 0, 3, 4, 5] (by decide) rfl rfl rfl ?_
        exact hJ79_58 f2__82 a2__48 i57 (by first | assumption | omega (splitDisjunctions := false) | omega | decide) (by first | assumption | omega (splitDisjunctions := false) | omega | decide) (by first | assumption | omega (splitDisjunctions := false) | omega | decide) (by first | assumption | omega (splitDisjunctions := false) | omega | decide) (by first | assumption | omega (splitDisjunctions := false) | omega | decide) (by first | assumption | omega (splitDisjunctions := false) | omega | decide)
    refine pb_iload (pc := 32) d_Expander_repeat_32 0 rfl ?_
    refine pb_bipush (pc := 34) (v := 30) d_Expander_repeat_34 (by decide) ?_
    refine pb_icmp_lt (pc := 36) (tgt := 44) d_Expander_repeat_36 (by decide) (fun w84 => ?_) (fun w84 => ?_)
    · have tw84 : r_25.toInt < 30 := (ti_lt rfl (by decide)).mp w84
      refine pb_re (ws' := [(h, .inr (5, [.ref ex, .ref et, .ref ea, .ref eb, .ref ec, .ref ed, .ref ef, .ref er, .int a2__26, .int en, .int f2__27])), (er, .inl (G.2.1, N, .inl fr)), (ex, .inr (0, [.ref ey, .int xs])), (ey, .inl (G.2.1, 4000, .inl xf)), (kh, .inr (1, [.ref kc, .ref ky, .int ks])), (kc, .inl (G.2.2.1, 16, .inl kfc)), (ky, .inl (G.2.2.1, Ny, .inl kfy))]) (lo' := [(3, .int i22), (4, .int r_25), (0, .ref h), (1, .int k), (2, .ref kh)]) [2, 3, 0, 1, 4, 5, 6] [1, 0, 2, 3, 4] (by decide) rfl rfl rfl ?_
      exact hJ44_34 f2__27 a2__26 i22 r_25 (by first | assumption | omega (splitDisjunctions := false) | omega | decide) (by first | assumption | omega (splitDisjunctions := false) | omega | decide) (by first | assumption | omega (splitDisjunctions := false) | omega | decide) (by first | assumption | omega (splitDisjunctions := false) | omega | decide) (by first | assumption | omega (splitDisjunctions := false) | omega | decide) (by first | assumption | omega (splitDisjunctions := false) | omega | decide)
    · have tw84 : ¬ r_25.toInt < 30 := fun z9 => w84 ((ti_lt rfl (by decide)).mpr z9)
      refine pb_aload_n (pc := 39) d_Expander_repeat_39 2 rfl rfl ?_
      refine pb_iconst (pc := 40) (v := 5) d_Expander_repeat_40 (by decide) ?_
      refine pb_callV (pc := 41) (I := i_Expander_repeat) (qb := 2) (ci := 5) (nA := 1) (rest := []) (wr := [(ex, .inr (0, [.ref ey, .int xs])), (ey, .inl (G.2.1, 4000, .inl xf)), (er, .inl (G.2.1, N, .inl fr)), (kh, .inr (1, [.ref kc, .ref ky, .int ks])), (kc, .inl (G.2.2.1, 16, .inl kfc)), (ky, .inl (G.2.2.1, Ny, .inl kfy))]) d_Expander_repeat_41 (g_Exp_fail hl G h ex et ea eb ec ed ef er a2__26 en f2__27 5 (by first | assumption | omega (splitDisjunctions := false) | omega | decide) (by first | assumption | omega (splitDisjunctions := false) | omega | decide)) rfl rfl [2] [0, 1, 3, 4, 5, 6] (by decide) rfl rfl rfl (by decide) (by decide) k_643 rfl k_121 k_640 k_642 k_19 ⟨rfl, hy_Expander_fail⟩ (by decide) rfl rfl (Nat.le_of_ble_eq_true rfl) (by decide) (fun v9 u86 ch85 => ?_)
      obtain ⟨f2__87, rfl⟩ : ∃ z9, z9 = u86 := ⟨_, rfl⟩
      obtain ⟨ech85, ch85⟩ := ch85
      have ech85 : v9 = none := ech85
      subst ech85
      have fh88 : 0 < f2__87.toInt := ch85
      refine pb_eq (pc' := 44) (lo' := [(4, .int r_25), (3, .int i22), (0, .ref h), (1, .int k), (2, .ref kh)]) (rest' := []) (ws' := [(ex, .inr (0, [.ref ey, .int xs])), (ey, .inl (G.2.1, 4000, .inl xf)), (er, .inl (G.2.1, N, .inl fr)), (kh, .inr (1, [.ref kc, .ref ky, .int ks])), (kc, .inl (G.2.2.1, 16, .inl kfc)), (ky, .inl (G.2.2.1, Ny, .inl kfy)), (h, .inr (5, [.ref ex, .ref et, .ref ea, .ref eb, .ref ec, .ref ed, .ref ef, .ref er, .int a2__26, .int en, .int f2__87]))]) ?_
      refine pb_re (ws' := [(h, .inr (5, [.ref ex, .ref et, .ref ea, .ref eb, .ref ec, .ref ed, .ref ef, .ref er, .int a2__26, .int en, .int f2__87])), (er, .inl (G.2.1, N, .inl fr)), (ex, .inr (0, [.ref ey, .int xs])), (ey, .inl (G.2.1, 4000, .inl xf)), (kh, .inr (1, [.ref kc, .ref ky, .int ks])), (kc, .inl (G.2.2.1, 16, .inl kfc)), (ky, .inl (G.2.2.1, Ny, .inl kfy))]) (lo' := [(3, .int i22), (4, .int r_25), (0, .ref h), (1, .int k), (2, .ref kh)]) [6, 2, 0, 1, 3, 4, 5] [1, 0, 2, 3, 4] (by decide) rfl rfl rfl ?_
      exact hJ44_34 f2__87 a2__26 i22 r_25 (by first | assumption | omega (splitDisjunctions := false) | omega | decide) (by first | assumption | omega (splitDisjunctions := false) | omega | decide) (by first | assumption | omega (splitDisjunctions := false) | omega | decide) (by first | assumption | omega (splitDisjunctions := false) | omega | decide) (by first | assumption | omega (splitDisjunctions := false) | omega | decide) (by first | assumption | omega (splitDisjunctions := false) | omega | decide)
  refine pb_iload_n (pc := 0) d_Expander_repeat_0 1 rfl rfl ?_
  refine pb_bipush (pc := 1) (v := 28) d_Expander_repeat_1 (by decide) ?_
  refine pb_icmp_le (pc := 3) (tgt := 11) d_Expander_repeat_3 (by decide) (fun w89 => ?_) (fun w89 => ?_)
  · have tw89 : k.toInt ≤ 28 := (ti_le rfl (by decide)).mp w89
    exact hJ11_1 fl (by first | assumption | omega (splitDisjunctions := false) | omega | decide) (by first | assumption | omega (splitDisjunctions := false) | omega | decide)
  · have tw89 : ¬ k.toInt ≤ 28 := fun z9 => w89 ((ti_le rfl (by decide)).mpr z9)
    refine pb_aload_n (pc := 6) d_Expander_repeat_6 0 rfl rfl ?_
    refine pb_iconst (pc := 7) (v := 5) d_Expander_repeat_7 (by decide) ?_
    refine pb_callV (pc := 8) (I := i_Expander_repeat) (qb := 0) (ci := 5) (nA := 1) (rest := []) (wr := [(er, .inl (G.2.1, N, .inl fr)), (ex, .inr (0, [.ref ey, .int xs])), (ey, .inl (G.2.1, 4000, .inl xf)), (kh, .inr (1, [.ref kc, .ref ky, .int ks])), (kc, .inl (G.2.2.1, 16, .inl kfc)), (ky, .inl (G.2.2.1, Ny, .inl kfy))]) d_Expander_repeat_8 (g_Exp_fail hl G h ex et ea eb ec ed ef er at_ en fl 5 (by first | assumption | omega (splitDisjunctions := false) | omega | decide) (by first | assumption | omega (splitDisjunctions := false) | omega | decide)) rfl rfl [0] [1, 2, 3, 4, 5, 6] (by decide) rfl rfl rfl (by decide) (by decide) k_643 rfl k_121 k_640 k_642 k_19 ⟨rfl, hy_Expander_fail⟩ (by decide) rfl rfl (Nat.le_of_ble_eq_true rfl) (by decide) (fun v9 u91 ch90 => ?_)
    obtain ⟨f2__92, rfl⟩ : ∃ z9, z9 = u91 := ⟨_, rfl⟩
    obtain ⟨ech90, ch90⟩ := ch90
    have ech90 : v9 = none := ech90
    subst ech90
    have fh93 : 0 < f2__92.toInt := ch90
    refine pb_eq (pc' := 11) (lo' := [(0, .ref h), (1, .int k), (2, .ref kh)]) (rest' := []) (ws' := [(er, .inl (G.2.1, N, .inl fr)), (ex, .inr (0, [.ref ey, .int xs])), (ey, .inl (G.2.1, 4000, .inl xf)), (kh, .inr (1, [.ref kc, .ref ky, .int ks])), (kc, .inl (G.2.2.1, 16, .inl kfc)), (ky, .inl (G.2.2.1, Ny, .inl kfy)), (h, .inr (5, [.ref ex, .ref et, .ref ea, .ref eb, .ref ec, .ref ed, .ref ef, .ref er, .int at_, .int en, .int f2__92]))]) ?_
    refine pb_re (ws' := [(h, .inr (5, [.ref ex, .ref et, .ref ea, .ref eb, .ref ec, .ref ed, .ref ef, .ref er, .int at_, .int en, .int f2__92])), (er, .inl (G.2.1, N, .inl fr)), (ex, .inr (0, [.ref ey, .int xs])), (ey, .inl (G.2.1, 4000, .inl xf)), (kh, .inr (1, [.ref kc, .ref ky, .int ks])), (kc, .inl (G.2.2.1, 16, .inl kfc)), (ky, .inl (G.2.2.1, Ny, .inl kfy))]) (lo' := [(0, .ref h), (1, .int k), (2, .ref kh)]) [6, 0, 1, 2, 3, 4, 5] [0, 1, 2] (by decide) rfl rfl rfl ?_
    exact hJ11_1 f2__92 (by first | assumption | omega (splitDisjunctions := false) | omega | decide) (by first | assumption | omega (splitDisjunctions := false) | omega | decide)

theorem d_Expander_readStored_0 : decode prog_3_method_4_code 0 = .ok (.aload_n 0, 1) := by decide +kernel
theorem d_Expander_readStored_1 : decode prog_3_method_4_code 1 = .ok (.aload_n 0, 1) := by decide +kernel
theorem d_Expander_readStored_2 : decode prog_3_method_4_code 2 = .ok (.getfield 58, 3) := by decide +kernel
theorem d_Expander_readStored_5 : decode prog_3_method_4_code 5 = .ok (.bipush 7, 2) := by decide +kernel
theorem d_Expander_readStored_7 : decode prog_3_method_4_code 7 = .ok (.iadd, 1) := by decide +kernel
theorem d_Expander_readStored_8 : decode prog_3_method_4_code 8 = .ok (.bipush 8, 2) := by decide +kernel
theorem d_Expander_readStored_10 : decode prog_3_method_4_code 10 = .ok (.idiv, 1) := by decide +kernel
theorem d_Expander_readStored_11 : decode prog_3_method_4_code 11 = .ok (.bipush 8, 2) := by decide +kernel
theorem d_Expander_readStored_13 : decode prog_3_method_4_code 13 = .ok (.imul, 1) := by decide +kernel
theorem d_Expander_readStored_14 : decode prog_3_method_4_code 14 = .ok (.putfield 58, 3) := by decide +kernel
theorem d_Expander_readStored_17 : decode prog_3_method_4_code 17 = .ok (.aload_n 0, 1) := by decide +kernel
theorem d_Expander_readStored_18 : decode prog_3_method_4_code 18 = .ok (.bipush 16, 2) := by decide +kernel
theorem d_Expander_readStored_20 : decode prog_3_method_4_code 20 = .ok (.invokevirtual 71, 3) := by decide +kernel
theorem d_Expander_readStored_23 : decode prog_3_method_4_code 23 = .ok (.istore_n 1, 1) := by decide +kernel
theorem d_Expander_readStored_42 : decode prog_3_method_4_code 42 = .ok (.iconst 0, 1) := by decide +kernel
theorem d_Expander_readStored_43 : decode prog_3_method_4_code 43 = .ok (.istore_n 2, 1) := by decide +kernel
theorem d_Expander_readStored_44 : decode prog_3_method_4_code 44 = .ok (.iload_n 2, 1) := by decide +kernel
theorem d_Expander_readStored_45 : decode prog_3_method_4_code 45 = .ok (.iload_n 1, 1) := by decide +kernel
theorem d_Expander_readStored_46 : decode prog_3_method_4_code 46 = .ok (.if_icmp .ge 26, 3) := by decide +kernel
theorem d_Expander_readStored_72 : decode prog_3_method_4_code 72 = .ok (.return_, 1) := by decide +kernel
theorem d_Expander_readStored_49 : decode prog_3_method_4_code 49 = .ok (.aload_n 0, 1) := by decide +kernel
theorem d_Expander_readStored_50 : decode prog_3_method_4_code 50 = .ok (.getfield 65, 3) := by decide +kernel
theorem d_Expander_readStored_53 : decode prog_3_method_4_code 53 = .ok (.ifCond .ne 19, 3) := by decide +kernel
theorem d_Expander_readStored_56 : decode prog_3_method_4_code 56 = .ok (.aload_n 0, 1) := by decide +kernel
theorem d_Expander_readStored_57 : decode prog_3_method_4_code 57 = .ok (.aload_n 0, 1) := by decide +kernel
theorem d_Expander_readStored_58 : decode prog_3_method_4_code 58 = .ok (.bipush 8, 2) := by decide +kernel
theorem d_Expander_readStored_60 : decode prog_3_method_4_code 60 = .ok (.invokevirtual 71, 3) := by decide +kernel
theorem d_Expander_readStored_63 : decode prog_3_method_4_code 63 = .ok (.invokevirtual 89, 3) := by decide +kernel
theorem k_644 : (Jvm.Cond.methodLink "PackageBook$Expander" (89 : Nat) ({ cls := "PackageBook$Expander", name := "putByte", desc := "(I)V" } : Jvm.MethodName)) ∈ uW := uW_of 644 (by decide +kernel) (by decide +kernel)
theorem k_647 : (Jvm.Cond.code ({ cls := "PackageBook$Expander", name := "putByte", desc := "(I)V" } : Jvm.MethodName) prog_3_method_15_code (2 : Nat) (Option.none : Option Jvm.ClassFile.FieldType)) ∈ uW := uW_of 647 (by decide +kernel) (by decide +kernel)
theorem k_646 : (Jvm.Cond.instanceMethod ({ cls := "PackageBook$Expander", name := "putByte", desc := "(I)V" } : Jvm.MethodName)) ∈ uW := uW_of 646 (by decide +kernel) (by decide +kernel)
theorem k_20 : Cond.selects "PackageBook$Expander" ⟨"PackageBook$Expander", "putByte", "(I)V"⟩ ⟨"PackageBook$Expander", "putByte", "(I)V"⟩ ∈ uW := uW_of 20 (by decide +kernel) (by decide +kernel)
theorem hy_Expander_putByte : (y_Expander_putByte).cls ≠ "java/lang/invoke/MethodHandle" ∧ (y_Expander_putByte).cls ≠ "java/lang/invoke/VarHandle" ∧ (parseMethodDescriptor (y_Expander_putByte).desc).map (fun d => d.parameters.length) = some 1 := by decide +kernel
theorem d_Expander_readStored_66 : decode prog_3_method_4_code 66 = .ok (.iinc 2 1, 3) := by decide +kernel
theorem d_Expander_readStored_69 : decode prog_3_method_4_code 69 = .ok (.goto (-25), 3) := by decide +kernel
theorem d_Expander_readStored_24 : decode prog_3_method_4_code 24 = .ok (.aload_n 0, 1) := by decide +kernel
theorem d_Expander_readStored_25 : decode prog_3_method_4_code 25 = .ok (.bipush 16, 2) := by decide +kernel
theorem d_Expander_readStored_27 : decode prog_3_method_4_code 27 = .ok (.invokevirtual 71, 3) := by decide +kernel
theorem d_Expander_readStored_30 : decode prog_3_method_4_code 30 = .ok (.ldc 88, 2) := by decide +kernel
theorem k_639 : (Jvm.Cond.constant "PackageBook$Expander" (88 : Nat) (65535 : Int32)) ∈ uW := uW_of 639 (by decide +kernel) (by decide +kernel)
theorem d_Expander_readStored_32 : decode prog_3_method_4_code 32 = .ok (.iload_n 1, 1) := by decide +kernel
theorem d_Expander_readStored_33 : decode prog_3_method_4_code 33 = .ok (.isub, 1) := by decide +kernel
theorem d_Expander_readStored_34 : decode prog_3_method_4_code 34 = .ok (.if_icmp .eq 8, 3) := by decide +kernel
theorem d_Expander_readStored_37 : decode prog_3_method_4_code 37 = .ok (.aload_n 0, 1) := by decide +kernel
theorem d_Expander_readStored_38 : decode prog_3_method_4_code 38 = .ok (.iconst 3, 1) := by decide +kernel
theorem d_Expander_readStored_39 : decode prog_3_method_4_code 39 = .ok (.invokevirtual 85, 3) := by decide +kernel
abbrev y_Expander_readStored : MethodName := ⟨"PackageBook$Expander", "readStored", "()V"⟩
abbrev i_Expander_readStored : pb_I := (y_Expander_readStored, prog_3_method_4_code, 3, (Option.none : Option Jvm.ClassFile.FieldType), [], { frames := 2, cells := 0, slots := 0, locals := 42 })
set_option maxRecDepth 100000 in
set_option maxHeartbeats 4000000 in
theorem g_Exp_readStored {l : Launch} (hl : l.stackTraces = false) (G : pb_G) (h : Nat) (ex : Nat) (et : Nat) (ea : Nat) (eb : Nat) (ec : Nat) (ed : Nat) (ef : Nat) (er : Nat) (at_ : Int32) (en : Int32) (fl : Int32) (N : Nat) (fr : Nat → Int32) (ey : Nat) (xf : Nat → Int32) (xs : Int32) (a0 : 0 ≤ at_.toInt) (a1 : at_.toInt ≤ en.toInt) (a2 : en.toInt ≤ 8 * N) (a3 : N ≤ 100000) (a4 : 0 ≤ fl.toInt) (a5 : en.toInt % 8 = 0) (b0 : 0 ≤ xs.toInt) (b1 : xs.toInt ≤ 4000) (F_fr : sb_Fit fr) (F_xf : sb_Fit xf) : Cn l G i_Expander_readStored [.ref h] [(h, .inr (5, [.ref ex, .ref et, .ref ea, .ref eb, .ref ec, .ref ed, .ref ef, .ref er, .int at_, .int en, .int fl])), (er, .inl (G.2.1, N, .inl fr)), (ex, .inr (0, [.ref ey, .int xs])), (ey, .inl (G.2.1, 4000, .inl xf))] (S := Int32 × Int32 × Int32 × (Nat → Int32)) (fun rv_ u => rv_ = none ∧ (at_.toInt ≤ u.1.toInt) ∧ (u.1.toInt ≤ en.toInt) ∧ (0 ≤ u.2.1.toInt) ∧ (fl.toInt ≠ 0 → u.2.1.toInt ≠ 0) ∧ (0 ≤ u.2.2.1.toInt) ∧ (u.2.2.1.toInt ≤ 4000) ∧ (sb_Fit u.2.2.2)) (fun u => [(h, .inr (5, [.ref ex, .ref et, .ref ea, .ref eb, .ref ec, .ref ed, .ref ef, .ref er, .int u.1, .int en, .int u.2.1])), (er, .inl (G.2.1, N, .inl fr)), (ex, .inr (0, [.ref ey, .int u.2.2.1])), (ey, .inl (G.2.1, 4000, .inl u.2.2.2))]) := by
  refine Cn.of hl (by decide +kernel) rfl (Nat.le_of_ble_eq_true rfl) (fun M hQ => ?_)
  refine pb_eq (pc' := 0) (lo' := [(0, .ref h)]) (rest' := []) (ws' := [(h, .inr (5, [.ref ex, .ref et, .ref ea, .ref eb, .ref ec, .ref ed, .ref ef, .ref er, .int at_, .int en, .int fl])), (er, .inl (G.2.1, N, .inl fr)), (ex, .inr (0, [.ref ey, .int xs])), (ey, .inl (G.2.1, 4000, .inl xf))]) ?_
  have zl0 : (0 : Int32).toInt = 0 := by decide
  have zl1 : (1 : Int32).toInt = 1 := by decide
  have zl3 : (3 : Int32).toInt = 3 := by decide
  have zl8 : (8 : Int32).toInt = 8 := by decide
  have zl16 : (16 : Int32).toInt = 16 := by decide
  refine pb_aload_n (pc := 0) d_Expander_readStored_0 0 rfl rfl ?_
  refine pb_aload_n (pc := 1) d_Expander_readStored_1 0 rfl rfl ?_
  refine pb_get (pc := 2) d_Expander_readStored_2 0 8 rfl rfl (by decide) in_Expander k_258 rfl ?_
  refine pb_bipush (pc := 5) (v := 7) d_Expander_readStored_5 (by decide) ?_
  refine pb_iadd (pc := 7) d_Expander_readStored_7 ?_
  refine pb_topi (fun i1 ei1 => ?_)
  try have ti1 : i1.toInt = at_.toInt + 7 := t2_add ei1 rfl (by decide) (by omega)
  refine pb_bipush (pc := 8) (v := 8) d_Expander_readStored_8 (by decide) ?_
  refine pb_idiv (pc := 10) d_Expander_readStored_10 (by decide) ?_
  refine pb_topi (fun i2 ei2 => ?_)
  try have ti2 : i2.toInt = i1.toInt / 8 := ti_div 8 ei2 rfl (by decide) (by omega) (by decide)
  refine pb_bipush (pc := 11) (v := 8) d_Expander_readStored_11 (by decide) ?_
  refine pb_imul (pc := 13) d_Expander_readStored_13 ?_
  refine pb_topi (fun i3 ei3 => ?_)
  try have ti3 : i3.toInt = i2.toInt * 8 := ti_mul ei3 rfl (by decide) (by omega) (by omega)
  refine pb_put (pc := 14) (ty := .int) (ws' := [(h, .inr (5, [.ref ex, .ref et, .ref ea, .ref eb, .ref ec, .ref ed, .ref ef, .ref er, .int i3, .int en, .int fl])), (er, .inl (G.2.1, N, .inl fr)), (ex, .inr (0, [.ref ey, .int xs])), (ey, .inl (G.2.1, 4000, .inl xf))]) d_Expander_readStored_14 0 8 t_Expander t_Expander_ok n_Expander rfl rfl (by decide) in_Expander k_258 rfl (by decide +kernel) rfl rfl (Nat.le_of_ble_eq_true rfl) rfl ?_
  refine pb_aload_n (pc := 17) d_Expander_readStored_17 0 rfl rfl ?_
  refine pb_bipush (pc := 18) (v := 16) d_Expander_readStored_18 (by decide) ?_
  refine pb_callV (pc := 20) (I := i_Expander_readStored) (qb := 0) (ci := 5) (nA := 1) (rest := []) (wr := [(ex, .inr (0, [.ref ey, .int xs])), (ey, .inl (G.2.1, 4000, .inl xf))]) d_Expander_readStored_20 (g_Exp_number hl G h ex et ea eb ec ed ef er i3 en fl N fr 16 (by first | assumption | omega (splitDisjunctions := false) | omega | decide) (by first | assumption | omega (splitDisjunctions := false) | omega | decide) (by first | assumption | omega (splitDisjunctions := false) | omega | decide) (by first | assumption | omega (splitDisjunctions := false) | omega | decide) (by first | assumption | omega (splitDisjunctions := false) | omega | decide) (by first | assumption | omega (splitDisjunctions := false) | omega | decide) (by first | assumption | omega (splitDisjunctions := false) | omega | decide) F_fr) rfl rfl [0, 1] [2, 3] (by decide) rfl rfl rfl (by decide) (by decide) k_634 rfl k_121 k_631 k_633 k_17 ⟨rfl, hy_Expander_number⟩ (by decide) rfl rfl (Nat.le_of_ble_eq_true rfl) (by decide) (fun v9 u5 ch4 => ?_)
  obtain ⟨r_6, a2__7, f2__8⟩ := u5
  obtain ⟨ech4, ch4⟩ := ch4
  have ech4 : v9 = some (.int r_6) := ech4
  subst ech4
  obtain ⟨fh9, fh10, fh11, fh12, fh13, fh14, fh15⟩ : (0 ≤ r_6.toInt) ∧ (r_6.toInt < p2 (16 : Int32).toInt) ∧ (r_6.toInt ≤ 65535) ∧ (i3.toInt ≤ a2__7.toInt) ∧ (a2__7.toInt ≤ en.toInt) ∧ (0 ≤ f2__8.toInt) ∧ (fl.toInt ≠ 0 → f2__8.toInt ≠ 0) := ch4
  refine pb_eq (pc' := 23) (lo' := [(0, .ref h)]) (rest' := [.int r_6]) (ws' := [(ex, .inr (0, [.ref ey, .int xs])), (ey, .inl (G.2.1, 4000, .inl xf)), (h, .inr (5, [.ref ex, .ref et, .ref ea, .ref eb, .ref ec, .ref ed, .ref ef, .ref er, .int a2__7, .int en, .int f2__8])), (er, .inl (G.2.1, N, .inl fr))]) ?_
  refine pb_istore_n (pc := 23) (lo' := [(1, .int r_6), (0, .ref h)]) d_Expander_readStored_23 rfl (by decide) rfl ?_
  have hJ42_16 : ∀ (z : Int32) (f3 : Int32) (a3_ : Int32), (0 ≤ f3.toInt) → (fl.toInt ≠ 0 → f3.toInt ≠ 0) → (at_.toInt ≤ a3_.toInt) → (a3_.toInt ≤ en.toInt) → (z.toInt ≤ 65535) → pb_P l G M i_Expander_readStored 42 [(1, .int z), (0, .ref h)] [] [(h, .inr (5, [.ref ex, .ref et, .ref ea, .ref eb, .ref ec, .ref ed, .ref ef, .ref er, .int a3_, .int en, .int f3])), (er, .inl (G.2.1, N, .inl fr)), (ex, .inr (0, [.ref ey, .int xs])), (ey, .inl (G.2.1, 4000, .inl xf))] 0 0 := by
    intro z f3 a3_ j0 j1 j2 j3 j4
    refine pb_iconst (pc := 42) (v := 0) d_Expander_readStored_42 (by decide) ?_
    refine pb_istore_n (pc := 43) (lo' := [(2, .int 0), (1, .int z), (0, .ref h)]) d_Expander_readStored_43 rfl (by decide) rfl ?_
    have hL44_17 : ∀ (N9 : Nat) (k : Int32) (a4_ : Int32) (f4 : Int32) (s4 : Int32) (x4 : Nat → Int32), (sb_Fit x4) → (0 ≤ k.toInt) → (0 ≤ f4.toInt) → (fl.toInt ≠ 0 → f4.toInt ≠ 0) → (at_.toInt ≤ a4_.toInt) → (a4_.toInt ≤ en.toInt) → (0 ≤ s4.toInt) → (s4.toInt ≤ 4000) → ((z.toInt - k.toInt).toNat) < N9 → pb_P l G M i_Expander_readStored 44 [(2, .int k), (1, .int z), (0, .ref h)] [] [(h, .inr (5, [.ref ex, .ref et, .ref ea, .ref eb, .ref ec, .ref ed, .ref ef, .ref er, .int a4_, .int en, .int f4])), (er, .inl (G.2.1, N, .inl fr)), (ex, .inr (0, [.ref ey, .int s4])), (ey, .inl (G.2.1, 4000, .inl x4))] 0 0 := by
      intro N9
      induction N9 with
      | zero => intro k a4_ f4 s4 x4 F_x4 k0 k1 k2 k3 k4 k5 k6 hm9; exact absurd hm9 (Nat.not_lt_zero _)
      | succ N9 ih44 =>
        intro k a4_ f4 s4 x4 F_x4 k0 k1 k2 k3 k4 k5 k6 hm9
        refine pb_iload_n (pc := 44) d_Expander_readStored_44 0 rfl rfl ?_
        refine pb_iload_n (pc := 45) d_Expander_readStored_45 1 rfl rfl ?_
        refine pb_icmp_ge (pc := 46) (tgt := 72) d_Expander_readStored_46 (by decide) (fun w18 => ?_) (fun w18 => ?_)
        · have tw18 : z.toInt ≤ k.toInt := (ti_le rfl rfl).mp w18
          exact pb_vret (pc := 72) hQ d_Expander_readStored_72 rfl (a4_, f4, s4, x4) ⟨rfl, (by (try dsimp only); first | done | assumption | omega (splitDisjunctions := false) | omega | decide), (by (try dsimp only); first | done | assumption | omega (splitDisjunctions := false) | omega | decide), (by (try dsimp only); first | done | assumption | omega (splitDisjunctions := false) | omega | decide), (by (try dsimp only); first | done | assumption | omega (splitDisjunctions := false) | omega | decide), (by (try dsimp only); first | done | assumption | omega (splitDisjunctions := false) | omega | decide), (by (try dsimp only); first | done | assumption | omega (splitDisjunctions := false) | omega | decide), F_x4⟩ [0, 1, 2, 3] (by decide) rfl rfl (by decide) (by decide)
        · have tw18 : ¬ z.toInt ≤ k.toInt := fun z9 => w18 ((ti_le rfl rfl).mpr z9)
          refine pb_aload_n (pc := 49) d_Expander_readStored_49 2 rfl rfl ?_
          refine pb_get (pc := 50) d_Expander_readStored_50 0 10 rfl rfl (by decide) in_Expander k_260 rfl ?_
          refine pb_if_ne (pc := 53) (tgt := 72) d_Expander_readStored_53 (by decide) (fun w19 => ?_) (fun w19 => ?_)
          · have tw19 : ¬ f4.toInt = 0 := fun z9 => w19 ((ti_eq rfl (by decide)).mpr z9)
            exact pb_vret (pc := 72) hQ d_Expander_readStored_72 rfl (a4_, f4, s4, x4) ⟨rfl, (by (try dsimp only); first | done | assumption | omega (splitDisjunctions := false) | omega | decide), (by (try dsimp only); first | done | assumption | omega (splitDisjunctions := false) | omega | decide), (by (try dsimp only); first | done | assumption | omega (splitDisjunctions := false) | omega | decide), (by (try dsimp only); first | done | assumption | omega (splitDisjunctions := false) | omega | decide), (by (try dsimp only); first | done | assumption | omega (splitDisjunctions := false) | omega | decide), (by (try dsimp only); first | done | assumption | omega (splitDisjunctions := false) | omega | decide), F_x4⟩ [0, 1, 2, 3] (by decide) rfl rfl (by decide) (by decide)
          · have tw19 : f4.toInt = 0 := (ti_eq rfl (by decide)).mp w19
            refine pb_aload_n (pc := 56) d_Expander_readStored_56 2 rfl rfl ?_
            refine pb_aload_n (pc := 57) d_Expander_readStored_57 2 rfl rfl ?_
            refine pb_bipush (pc := 58) (v := 8) d_Expander_readStored_58 (by decide) ?_
            refine pb_callV (pc := 60) (I := i_Expander_readStored) (qb := 0) (ci := 5) (nA := 1) (rest := [.ref h]) (wr := [(ex, .inr (0, [.ref ey, .int s4])), (ey, .inl (G.2.1, 4000, .inl x4))]) d_Expander_readStored_60 (g_Exp_number hl G h ex et ea eb ec ed ef er a4_ en f4 N fr 8 (by first | assumption | omega (splitDisjunctions := false) | omega | decide) (by first | assumption | omega (splitDisjunctions := false) | omega | decide) (by first | assumption | omega (splitDisjunctions := false) | omega | decide) (by first | assumption | omega (splitDisjunctions := false) | omega | decide) (by first | assumption | omega (splitDisjunctions := false) | omega | decide) (by first | assumption | omega (splitDisjunctions := false) | omega | decide) (by first | assumption | omega (splitDisjunctions := false) | omega | decide) (by first | assumption | decide | omega)) rfl rfl [0, 1] [2, 3] (by decide) rfl rfl rfl (by decide) (by decide) k_634 rfl k_121 k_631 k_633 k_17 ⟨rfl, hy_Expander_number⟩ (by decide) rfl rfl (Nat.le_of_ble_eq_true rfl) (by decide) (fun v9 u21 ch20 => ?_)
            obtain ⟨r_22, a2__23, f2__24⟩ := u21
            obtain ⟨ech20, ch20⟩ := ch20
            have ech20 : v9 = some (.int r_22) := ech20
            subst ech20
            obtain ⟨fh25, fh26, fh27, fh28, fh29, fh30, fh31⟩ : (0 ≤ r_22.toInt) ∧ (r_22.toInt < p2 (8 : Int32).toInt) ∧ (r_22.toInt ≤ 65535) ∧ (a4_.toInt ≤ a2__23.toInt) ∧ (a2__23.toInt ≤ en.toInt) ∧ (0 ≤ f2__24.toInt) ∧ (f4.toInt ≠ 0 → f2__24.toInt ≠ 0) := ch20
            refine pb_eq (pc' := 63) (lo' := [(2, .int k), (1, .int z), (0, .ref h)]) (rest' := [.int r_22, .ref h]) (ws' := [(ex, .inr (0, [.ref ey, .int s4])), (ey, .inl (G.2.1, 4000, .inl x4)), (h, .inr (5, [.ref ex, .ref et, .ref ea, .ref eb, .ref ec, .ref ed, .ref ef, .ref er, .int a2__23, .int en, .int f2__24])), (er, .inl (G.2.1, N, .inl fr))]) ?_
            refine pb_callV (pc := 63) (I := i_Expander_readStored) (qb := 2) (ci := 5) (nA := 1) (rest := []) (wr := [(er, .inl (G.2.1, N, .inl fr))]) d_Expander_readStored_63 (g_Exp_putByte hl G h ex et ea eb ec ed ef er a2__23 en f2__24 ey x4 s4 r_22 (by first | assumption | omega (splitDisjunctions := false) | omega | decide) (by first | assumption | omega (splitDisjunctions := false) | omega | decide) (by first | assumption | omega (splitDisjunctions := false) | omega | decide) F_x4) rfl rfl [2, 0, 1] [3] (by decide) rfl rfl rfl (by decide) (by decide) k_647 rfl k_121 k_644 k_646 k_20 ⟨rfl, hy_Expander_putByte⟩ (by decide) rfl rfl (Nat.le_of_ble_eq_true rfl) (by decide) (fun v9 u33 ch32 => ?_)
            obtain ⟨f2__34, s2__35, xf_36⟩ := u33
            obtain ⟨ech32, ch32⟩ := ch32
            have ech32 : v9 = none := ech32
            subst ech32
            obtain ⟨fh37, fh38, fh39, fh40, fh41⟩ : (0 ≤ f2__34.toInt) ∧ (f2__24.toInt ≠ 0 → f2__34.toInt ≠ 0) ∧ (0 ≤ s2__35.toInt) ∧ (s2__35.toInt ≤ 4000) ∧ (sb_Fit xf_36) := ch32
            refine pb_eq (pc' := 66) (lo' := [(2, .int k), (1, .int z), (0, .ref h)]) (rest' := []) (ws' := [(er, .inl (G.2.1, N, .inl fr)), (h, .inr (5, [.ref ex, .ref et, .ref ea, .ref eb, .ref ec, .ref ed, .ref ef, .ref er, .int a2__23, .int en, .int f2__34])), (ex, .inr (0, [.ref ey, .int s2__35])), (ey, .inl (G.2.1, 4000, .inl xf_36))]) ?_
            refine pb_iincN (pc := 66) (c := 1) d_Expander_readStored_66 0 rfl (by decide) (by decide) (fun i42 ei42 => ?_)
            have ti42 : i42.toInt = k.toInt + 1 := t2_add ei42 rfl (by decide) (by omega)
            refine pb_eq (pc' := 69) (lo' := [(2, .int i42), (1, .int z), (0, .ref h)]) (rest' := []) (ws' := [(er, .inl (G.2.1, N, .inl fr)), (h, .inr (5, [.ref ex, .ref et, .ref ea, .ref eb, .ref ec, .ref ed, .ref ef, .ref er, .int a2__23, .int en, .int f2__34])), (ex, .inr (0, [.ref ey, .int s2__35])), (ey, .inl (G.2.1, 4000, .inl xf_36))]) ?_
            refine pb_goto (pc := 69) (tgt := 44) d_Expander_readStored_69 (by decide) ?_
            refine pb_re (ws' := [(h, .inr (5, [.ref ex, .ref et, .ref ea, .ref eb, .ref ec, .ref ed, .ref ef, .ref er, .int a2__23, .int en, .int f2__34])), (er, .inl (G.2.1, N, .inl fr)), (ex, .inr (0, [.ref ey, .int s2__35])), (ey, .inl (G.2.1, 4000, .inl xf_36))]) (lo' := [(2, .int i42), (1, .int z), (0, .ref h)]) [1, 0, 2, 3] [0, 1, 2] (by decide) rfl rfl rfl ?_
            exact ih44 i42 a2__23 f2__34 s2__35 xf_36 fh41 (by first | assumption | omega (splitDisjunctions := false) | omega | decide) (by first | assumption | omega (splitDisjunctions := false) | omega | decide) (by first | assumption | omega (splitDisjunctions := false) | omega | decide) (by first | assumption | omega (splitDisjunctions := false) | omega | decide) (by first | assumption | omega (splitDisjunctions := false) | omega | decide) (by first | assumption | omega (splitDisjunctions := false) | omega | decide) (by first | assumption | omega (splitDisjunctions := false) | omega | decide) (by omega)
    exact hL44_17 _ 0 a3_ f3 xs xf (by first | assumption | decide | omega) (by first | assumption | omega (splitDisjunctions := false) | omega | decide) (by first | assumption | omega (splitDisjunctions := false) | omega | decide) (by first | assumption | omega (splitDisjunctions := false) | omega | decide) (by first | assumption | omega (splitDisjunctions := false) | omega | decide) (by first | assumption | omega (splitDisjunctions := false) | omega | decide) (by first | assumption | omega (splitDisjunctions := false) | omega | decide) (by first | assumption | omega (splitDisjunctions := false) | omega | decide) (Nat.lt_succ_self _)
  refine pb_aload_n (pc := 24) d_Expander_readStored_24 1 rfl rfl ?_
  refine pb_bipush (pc := 25) (v := 16) d_Expander_readStored_25 (by decide) ?_
  refine pb_callV (pc := 27) (I := i_Expander_readStored) (qb := 2) (ci := 5) (nA := 1) (rest := []) (wr := [(ex, .inr (0, [.ref ey, .int xs])), (ey, .inl (G.2.1, 4000, .inl xf))]) d_Expander_readStored_27 (g_Exp_number hl G h ex et ea eb ec ed ef er a2__7 en f2__8 N fr 16 (by first | assumption | omega (splitDisjunctions := false) | omega | decide) (by first | assumption | omega (splitDisjunctions := false) | omega | decide) (by first | assumption | omega (splitDisjunctions := false) | omega | decide) (by first | assumption | omega (splitDisjunctions := false) | omega | decide) (by first | assumption | omega (splitDisjunctions := false) | omega | decide) (by first | assumption | omega (splitDisjunctions := false) | omega | decide) (by first | assumption | omega (splitDisjunctions := false) | omega | decide) F_fr) rfl rfl [2, 3] [0, 1] (by decide) rfl rfl rfl (by decide) (by decide) k_634 rfl k_121 k_631 k_633 k_17 ⟨rfl, hy_Expander_number⟩ (by decide) rfl rfl (Nat.le_of_ble_eq_true rfl) (by decide) (fun v9 u44 ch43 => ?_)
  obtain ⟨r_45, a2__46, f2__47⟩ := u44
  obtain ⟨ech43, ch43⟩ := ch43
  have ech43 : v9 = some (.int r_45) := ech43
  subst ech43
  obtain ⟨fh48, fh49, fh50, fh51, fh52, fh53, fh54⟩ : (0 ≤ r_45.toInt) ∧ (r_45.toInt < p2 (16 : Int32).toInt) ∧ (r_45.toInt ≤ 65535) ∧ (a2__7.toInt ≤ a2__46.toInt) ∧ (a2__46.toInt ≤ en.toInt) ∧ (0 ≤ f2__47.toInt) ∧ (f2__8.toInt ≠ 0 → f2__47.toInt ≠ 0) := ch43
  refine pb_eq (pc' := 30) (lo' := [(1, .int r_6), (0, .ref h)]) (rest' := [.int r_45]) (ws' := [(ex, .inr (0, [.ref ey, .int xs])), (ey, .inl (G.2.1, 4000, .inl xf)), (h, .inr (5, [.ref ex, .ref et, .ref ea, .ref eb, .ref ec, .ref ed, .ref ef, .ref er, .int a2__46, .int en, .int f2__47])), (er, .inl (G.2.1, N, .inl fr))]) ?_
  refine pb_ldc (pc := 30) (v := 65535) d_Expander_readStored_30 k_639 ?_
  refine pb_iload_n (pc := 32) d_Expander_readStored_32 0 rfl rfl ?_
  refine pb_isub (pc := 33) d_Expander_readStored_33 ?_
  refine pb_topi (fun i55 ei55 => ?_)
  try have ti55 : i55.toInt = 65535 - r_6.toInt := t2_sub ei55 (by decide) rfl (by omega)
  refine pb_icmp_eq (pc := 34) (tgt := 42) d_Expander_readStored_34 (by decide) (fun w56 => ?_) (fun w56 => ?_)
  · have tw56 : r_45.toInt = i55.toInt := (ti_eq rfl rfl).mp w56
    refine pb_re (ws' := [(h, .inr (5, [.ref ex, .ref et, .ref ea, .ref eb, .ref ec, .ref ed, .ref ef, .ref er, .int a2__46, .int en, .int f2__47])), (er, .inl (G.2.1, N, .inl fr)), (ex, .inr (0, [.ref ey, .int xs])), (ey, .inl (G.2.1, 4000, .inl xf))]) (lo' := [(1, .int r_6), (0, .ref h)]) [2, 3, 0, 1] [0, 1] (by decide) rfl rfl rfl ?_
    exact hJ42_16 r_6 f2__47 a2__46 (by first | assumption | omega (splitDisjunctions := false) | omega | decide) (by first | assumption | omega (splitDisjunctions := false) | omega | decide) (by first | assumption | omega (splitDisjunctions := false) | omega | decide) (by first | assumption | omega (splitDisjunctions := false) | omega | decide) (by first | assumption | omega (splitDisjunctions := false) | omega | decide)
  · have tw56 : ¬ r_45.toInt = i55.toInt := fun z9 => w56 ((ti_eq rfl rfl).mpr z9)
    refine pb_aload_n (pc := 37) d_Expander_readStored_37 1 rfl rfl ?_
    refine pb_iconst (pc := 38) (v := 3) d_Expander_readStored_38 (by decide) ?_
    refine pb_callV (pc := 39) (I := i_Expander_readStored) (qb := 2) (ci := 5) (nA := 1) (rest := []) (wr := [(ex, .inr (0, [.ref ey, .int xs])), (ey, .inl (G.2.1, 4000, .inl xf)), (er, .inl (G.2.1, N, .inl fr))]) d_Expander_readStored_39 (g_Exp_fail hl G h ex et ea eb ec ed ef er a2__46 en f2__47 3 (by first | assumption | omega (splitDisjunctions := false) | omega | decide) (by first | assumption | omega (splitDisjunctions := false) | omega | decide)) rfl rfl [2] [0, 1, 3] (by decide) rfl rfl rfl (by decide) (by decide) k_643 rfl k_121 k_640 k_642 k_19 ⟨rfl, hy_Expander_fail⟩ (by decide) rfl rfl (Nat.le_of_ble_eq_true rfl) (by decide) (fun v9 u58 ch57 => ?_)
    obtain ⟨f2__59, rfl⟩ : ∃ z9, z9 = u58 := ⟨_, rfl⟩
    obtain ⟨ech57, ch57⟩ := ch57
    have ech57 : v9 = none := ech57
    subst ech57
    have fh60 : 0 < f2__59.toInt := ch57
    refine pb_eq (pc' := 42) (lo' := [(1, .int r_6), (0, .ref h)]) (rest' := []) (ws' := [(ex, .inr (0, [.ref ey, .int xs])), (ey, .inl (G.2.1, 4000, .inl xf)), (er, .inl (G.2.1, N, .inl fr)), (h, .inr (5, [.ref ex, .ref et, .ref ea, .ref eb, .ref ec, .ref ed, .ref ef, .ref er, .int a2__46, .int en, .int f2__59]))]) ?_
    refine pb_re (ws' := [(h, .inr (5, [.ref ex, .ref et, .ref ea, .ref eb, .ref ec, .ref ed, .ref ef, .ref er, .int a2__46, .int en, .int f2__59])), (er, .inl (G.2.1, N, .inl fr)), (ex, .inr (0, [.ref ey, .int xs])), (ey, .inl (G.2.1, 4000, .inl xf))]) (lo' := [(1, .int r_6), (0, .ref h)]) [3, 2, 0, 1] [0, 1] (by decide) rfl rfl rfl ?_
    exact hJ42_16 r_6 f2__59 a2__46 (by first | assumption | omega (splitDisjunctions := false) | omega | decide) (by first | assumption | omega (splitDisjunctions := false) | omega | decide) (by first | assumption | omega (splitDisjunctions := false) | omega | decide) (by first | assumption | omega (splitDisjunctions := false) | omega | decide) (by first | assumption | omega (splitDisjunctions := false) | omega | decide)
