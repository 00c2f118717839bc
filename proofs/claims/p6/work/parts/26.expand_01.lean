theorem d_Expander_putByte_0 : decode prog_3_method_15_code 0 = .ok (.aload_n 0, 1) := by decide +kernel
theorem d_Expander_putByte_1 : decode prog_3_method_15_code 1 = .ok (.getfield 14, 3) := by decide +kernel
theorem k_248 : (Jvm.Cond.fieldLink "PackageBook$Expander" (14 : Nat) "PackageBook$Expander" "expanded" "LPackageBook$Row;") ∈ uW := uW_of 248 (by decide +kernel) (by decide +kernel)
theorem d_Expander_putByte_4 : decode prog_3_method_15_code 4 = .ok (.getfield 68, 3) := by decide +kernel
theorem k_166 : (Jvm.Cond.fieldLinkNest "PackageBook$Expander" (68 : Nat) "PackageBook$Row" "size" "I" "PackageBook") ∈ uN := uN_of 166 (by decide +kernel) (by decide +kernel)
theorem d_Expander_putByte_7 : decode prog_3_method_15_code 7 = .ok (.sipush 4000, 3) := by decide +kernel
theorem d_Expander_putByte_10 : decode prog_3_method_15_code 10 = .ok (.if_icmp .ne 9, 3) := by decide +kernel
theorem d_Expander_putByte_19 : decode prog_3_method_15_code 19 = .ok (.aload_n 0, 1) := by decide +kernel
theorem d_Expander_putByte_20 : decode prog_3_method_15_code 20 = .ok (.getfield 65, 3) := by decide +kernel
theorem d_Expander_putByte_23 : decode prog_3_method_15_code 23 = .ok (.ifCond .ne 11, 3) := by decide +kernel
theorem d_Expander_putByte_34 : decode prog_3_method_15_code 34 = .ok (.return_, 1) := by decide +kernel
theorem d_Expander_putByte_26 : decode prog_3_method_15_code 26 = .ok (.aload_n 0, 1) := by decide +kernel
theorem d_Expander_putByte_27 : decode prog_3_method_15_code 27 = .ok (.getfield 14, 3) := by decide +kernel
theorem d_Expander_putByte_30 : decode prog_3_method_15_code 30 = .ok (.iload_n 1, 1) := by decide +kernel
theorem d_Expander_putByte_31 : decode prog_3_method_15_code 31 = .ok (.invokevirtual 135, 3) := by decide +kernel
theorem k_648 : (Jvm.Cond.methodLink "PackageBook$Expander" (135 : Nat) ({ cls := "PackageBook$Row", name := "putByte", desc := "(I)V" } : Jvm.MethodName)) ∈ uW := uW_of 648 (by decide +kernel) (by decide +kernel)
theorem d_Expander_putByte_13 : decode prog_3_method_15_code 13 = .ok (.aload_n 0, 1) := by decide +kernel
theorem d_Expander_putByte_14 : decode prog_3_method_15_code 14 = .ok (.bipush 7, 2) := by decide +kernel
theorem d_Expander_putByte_16 : decode prog_3_method_15_code 16 = .ok (.invokevirtual 85, 3) := by decide +kernel
theorem k_640 : (Jvm.Cond.methodLink "PackageBook$Expander" (85 : Nat) ({ cls := "PackageBook$Expander", name := "fail", desc := "(I)V" } : Jvm.MethodName)) ∈ uW := uW_of 640 (by decide +kernel) (by decide +kernel)
theorem k_121 : (Jvm.Cond.initialized "PackageBook$Expander") ∈ uW := uW_of 121 (by decide +kernel) (by decide +kernel)
theorem k_643 : (Jvm.Cond.code ({ cls := "PackageBook$Expander", name := "fail", desc := "(I)V" } : Jvm.MethodName) prog_3_method_18_code (2 : Nat) (Option.none : Option Jvm.ClassFile.FieldType)) ∈ uW := uW_of 643 (by decide +kernel) (by decide +kernel)
theorem k_642 : (Jvm.Cond.instanceMethod ({ cls := "PackageBook$Expander", name := "fail", desc := "(I)V" } : Jvm.MethodName)) ∈ uW := uW_of 642 (by decide +kernel) (by decide +kernel)
theorem k_19 : Cond.selects "PackageBook$Expander" ⟨"PackageBook$Expander", "fail", "(I)V"⟩ ⟨"PackageBook$Expander", "fail", "(I)V"⟩ ∈ uW := uW_of 19 (by decide +kernel) (by decide +kernel)
theorem hy_Expander_fail : (y_Expander_fail).cls ≠ "java/lang/invoke/MethodHandle" ∧ (y_Expander_fail).cls ≠ "java/lang/invoke/VarHandle" ∧ (parseMethodDescriptor (y_Expander_fail).desc).map (fun d => d.parameters.length) = some 1 := by decide +kernel
abbrev y_Expander_putByte : MethodName := ⟨"PackageBook$Expander", "putByte", "(I)V"⟩
abbrev i_Expander_putByte : pb_I := (y_Expander_putByte, prog_3_method_15_code, 2, (Option.none : Option Jvm.ClassFile.FieldType), [], { frames := 1, cells := 0, slots := 0, locals := 21 })
set_option maxRecDepth 100000 in
set_option maxHeartbeats 4000000 in
theorem g_Exp_putByte {l : Launch} (hl : l.stackTraces = false) (G : pb_G) (h : Nat) (ex : Nat) (et : Nat) (ea : Nat) (eb : Nat) (ec : Nat) (ed : Nat) (ef : Nat) (er : Nat) (at_ : Int32) (en : Int32) (fl : Int32) (ey : Nat) (xf : Nat → Int32) (xs : Int32) (v : Int32) (a4 : 0 ≤ fl.toInt) (b0 : 0 ≤ xs.toInt) (b1 : xs.toInt ≤ 4000) (F_xf : sb_Fit xf) : Cn l G i_Expander_putByte [.ref h, .int v] [(h, .inr (5, [.ref ex, .ref et, .ref ea, .ref eb, .ref ec, .ref ed, .ref ef, .ref er, .int at_, .int en, .int fl])), (ex, .inr (0, [.ref ey, .int xs])), (ey, .inl (G.2.1, 4000, .inl xf))] (S := Int32 × Int32 × (Nat → Int32)) (fun rv_ u => rv_ = none ∧ (0 ≤ u.1.toInt) ∧ (fl.toInt ≠ 0 → u.1.toInt ≠ 0) ∧ (0 ≤ u.2.1.toInt) ∧ (u.2.1.toInt ≤ 4000) ∧ (¬ fl.toInt = 0 ∧ u.1.toInt = fl.toInt ∨ fl.toInt = 0 ∧ xs.toInt = 4000 ∧ u.1.toInt = 7 ∨ fl.toInt = 0 ∧ ¬ xs.toInt = 4000 ∧ u.1.toInt = 0 ∧ u.2.1.toInt = xs.toInt + 1) ∧ (u.1.toInt = 0 → (sq u.2.2 0 u.2.1.toInt) = pu_ (sq xf 0 xs.toInt) xs.toInt v.toInt8.toInt32) ∧ (sb_Fit u.2.2)) (fun u => [(h, .inr (5, [.ref ex, .ref et, .ref ea, .ref eb, .ref ec, .ref ed, .ref ef, .ref er, .int at_, .int en, .int u.1])), (ex, .inr (0, [.ref ey, .int u.2.1])), (ey, .inl (G.2.1, 4000, .inl u.2.2))]) := by
  refine Cn.of hl (by decide +kernel) rfl (Nat.le_of_ble_eq_true rfl) (fun M hQ => ?_)
  refine pb_eq (pc' := 0) (lo' := [(0, .ref h), (1, .int v)]) (rest' := []) (ws' := [(h, .inr (5, [.ref ex, .ref et, .ref ea, .ref eb, .ref ec, .ref ed, .ref ef, .ref er, .int at_, .int en, .int fl])), (ex, .inr (0, [.ref ey, .int xs])), (ey, .inl (G.2.1, 4000, .inl xf))]) ?_
  have zl0 : (0 : Int32).toInt = 0 := by decide
  have zl1 : (1 : Int32).toInt = 1 := by decide
  have zl7 : (7 : Int32).toInt = 7 := by decide
  refine pb_aload_n (pc := 0) d_Expander_putByte_0 0 rfl rfl ?_
  refine pb_get (pc := 1) d_Expander_putByte_1 0 0 rfl rfl (by decide) in_Expander k_248 rfl ?_
  refine pb_getN (pc := 4) d_Expander_putByte_4 1 1 rfl rfl (by decide) in_Row k_166 rfl ?_
  refine pb_sipush (pc := 7) (v := 4000) d_Expander_putByte_7 (by decide) ?_
  refine pb_icmp_ne (pc := 10) (tgt := 19) d_Expander_putByte_10 (by decide) (fun w1 => ?_) (fun w1 => ?_)
  · have tw1 : ¬ xs.toInt = 4000 := fun z9 => w1 ((ti_eq rfl (by decide)).mpr z9)
    refine pb_aload_n (pc := 19) d_Expander_putByte_19 0 rfl rfl ?_
    refine pb_get (pc := 20) d_Expander_putByte_20 0 10 rfl rfl (by decide) in_Expander k_260 rfl ?_
    refine pb_if_ne (pc := 23) (tgt := 34) d_Expander_putByte_23 (by decide) (fun w2 => ?_) (fun w2 => ?_)
    · have tw2 : ¬ fl.toInt = 0 := fun z9 => w2 ((ti_eq rfl (by decide)).mpr z9)
      exact pb_vret (pc := 34) hQ d_Expander_putByte_34 rfl (fl, xs, xf) ⟨rfl, (by (try dsimp only); first | done | assumption | omega (splitDisjunctions := false) | omega | decide), (by (try dsimp only); first | done | assumption | omega (splitDisjunctions := false) | omega | decide), (by (try dsimp only); first | done | assumption | omega (splitDisjunctions := false) | omega | decide), (by (try dsimp only); first | done | assumption | omega (splitDisjunctions := false) | omega | decide), (by (try dsimp only); first | done | assumption | omega (splitDisjunctions := false) | omega | decide), (show fl.toInt = 0 → (sq xf 0 xs.toInt) = pu_ (sq xf 0 xs.toInt) xs.toInt v.toInt8.toInt32 from (by first | exact fun q9 => absurd q9 (by omega) | exact fun _ => sq_pu2 pbF (by omega) (by omega))), F_xf⟩ [0, 1, 2] (by decide) rfl rfl (by decide) (by decide)
    · have tw2 : fl.toInt = 0 := (ti_eq rfl (by decide)).mp w2
      refine pb_aload_n (pc := 26) d_Expander_putByte_26 0 rfl rfl ?_
      refine pb_get (pc := 27) d_Expander_putByte_27 0 0 rfl rfl (by decide) in_Expander k_248 rfl ?_
      refine pb_iload_n (pc := 30) d_Expander_putByte_30 1 rfl rfl ?_
      refine pb_callV (pc := 31) (I := i_Expander_putByte) (qb := 1) (ci := 0) (nA := 1) (rest := []) (wr := [(h, .inr (5, [.ref ex, .ref et, .ref ea, .ref eb, .ref ec, .ref ed, .ref ef, .ref er, .int at_, .int en, .int fl]))]) d_Expander_putByte_31 (g_Row_putByte hl G ex ey 4000 xf xs v (by first | assumption | omega (splitDisjunctions := false) | omega | decide) (by first | assumption | omega (splitDisjunctions := false) | omega | decide) (by first | assumption | omega (splitDisjunctions := false) | omega | decide) F_xf) rfl rfl [1, 2] [0] (by decide) rfl rfl rfl (by decide) (by decide) k_555 rfl k_119 k_648 k_553 k_554 ⟨rfl, hy_Row_putByte⟩ (by decide) rfl rfl (Nat.le_of_ble_eq_true rfl) (by decide) (fun v9 u4 ch3 => ?_)
      obtain ⟨s_5, f_6⟩ := u4
      obtain ⟨ech3, ch3⟩ := ch3
      have ech3 : v9 = none := ech3
      subst ech3
      obtain ⟨fh7, fh8, fh9⟩ : (s_5.toInt = xs.toInt + 1) ∧ (∀ j : Int, 0 ≤ j → gr f_6 j = if j = xs.toInt then v.toInt8.toInt32 else gr xf j) ∧ (sb_Fit f_6) := ch3
      have pbF := fh8
      refine pb_eq (pc' := 34) (lo' := [(0, .ref h), (1, .int v)]) (rest' := []) (ws' := [(h, .inr (5, [.ref ex, .ref et, .ref ea, .ref eb, .ref ec, .ref ed, .ref ef, .ref er, .int at_, .int en, .int fl])), (ex, .inr (0, [.ref ey, .int s_5])), (ey, .inl (G.2.1, 4000, .inl f_6))]) ?_
      exact pb_vret (pc := 34) hQ d_Expander_putByte_34 rfl (fl, s_5, f_6) ⟨rfl, (by (try dsimp only); first | done | assumption | omega (splitDisjunctions := false) | omega | decide), (by (try dsimp only); first | done | assumption | omega (splitDisjunctions := false) | omega | decide), (by (try dsimp only); first | done | assumption | omega (splitDisjunctions := false) | omega | decide), (by (try dsimp only); first | done | assumption | omega (splitDisjunctions := false) | omega | decide), (by (try dsimp only); first | done | assumption | omega (splitDisjunctions := false) | omega | decide), (show fl.toInt = 0 → (sq f_6 0 s_5.toInt) = pu_ (sq xf 0 xs.toInt) xs.toInt v.toInt8.toInt32 from (by first | exact fun q9 => absurd q9 (by omega) | exact fun _ => sq_pu2 pbF (by omega) (by omega))), fh9⟩ [0, 1, 2] (by decide) rfl rfl (by decide) (by decide)
  · have tw1 : xs.toInt = 4000 := (ti_eq rfl (by decide)).mp w1
    refine pb_aload_n (pc := 13) d_Expander_putByte_13 0 rfl rfl ?_
    refine pb_bipush (pc := 14) (v := 7) d_Expander_putByte_14 (by decide) ?_
    refine pb_callV (pc := 16) (I := i_Expander_putByte) (qb := 0) (ci := 5) (nA := 1) (rest := []) (wr := [(ex, .inr (0, [.ref ey, .int xs])), (ey, .inl (G.2.1, 4000, .inl xf))]) d_Expander_putByte_16 (g_Exp_fail hl G h ex et ea eb ec ed ef er at_ en fl 7 (by first | assumption | omega (splitDisjunctions := false) | omega | decide) (by first | assumption | omega (splitDisjunctions := false) | omega | decide)) rfl rfl [0] [1, 2] (by decide) rfl rfl rfl (by decide) (by decide) k_643 rfl k_121 k_640 k_642 k_19 ⟨rfl, hy_Expander_fail⟩ (by decide) rfl rfl (Nat.le_of_ble_eq_true rfl) (by decide) (fun v9 u11 ch10 => ?_)
    obtain ⟨f2__12, rfl⟩ : ∃ z9, z9 = u11 := ⟨_, rfl⟩
    obtain ⟨ech10, ch10⟩ := ch10
    have ech10 : v9 = none := ech10
    subst ech10
    obtain ⟨fh13, fh14⟩ : (0 < f2__12.toInt) ∧ (fl.toInt = 0 ∧ f2__12.toInt = (7 : Int32).toInt ∨ fl.toInt ≠ 0 ∧ f2__12.toInt = fl.toInt) := ch10
    refine pb_eq (pc' := 19) (lo' := [(0, .ref h), (1, .int v)]) (rest' := []) (ws' := [(ex, .inr (0, [.ref ey, .int xs])), (ey, .inl (G.2.1, 4000, .inl xf)), (h, .inr (5, [.ref ex, .ref et, .ref ea, .ref eb, .ref ec, .ref ed, .ref ef, .ref er, .int at_, .int en, .int f2__12]))]) ?_
    refine pb_aload_n (pc := 19) d_Expander_putByte_19 0 rfl rfl ?_
    refine pb_get (pc := 20) d_Expander_putByte_20 2 10 rfl rfl (by decide) in_Expander k_260 rfl ?_
    refine pb_if_ne (pc := 23) (tgt := 34) d_Expander_putByte_23 (by decide) (fun w15 => ?_) (fun w15 => ?_)
    · have tw15 : ¬ f2__12.toInt = 0 := fun z9 => w15 ((ti_eq rfl (by decide)).mpr z9)
      exact pb_vret (pc := 34) hQ d_Expander_putByte_34 rfl (f2__12, xs, xf) ⟨rfl, (by (try dsimp only); first | done | assumption | omega (splitDisjunctions := false) | omega | decide), (by (try dsimp only); first | done | assumption | omega (splitDisjunctions := false) | omega | decide), (by (try dsimp only); first | done | assumption | omega (splitDisjunctions := false) | omega | decide), (by (try dsimp only); first | done | assumption | omega (splitDisjunctions := false) | omega | decide), (by (try dsimp only); first | done | assumption | omega (splitDisjunctions := false) | omega | decide), (show f2__12.toInt = 0 → (sq xf 0 xs.toInt) = pu_ (sq xf 0 xs.toInt) xs.toInt v.toInt8.toInt32 from (by first | exact fun q9 => absurd q9 (by omega) | exact fun _ => sq_pu2 pbF (by omega) (by omega))), F_xf⟩ [2, 0, 1] (by decide) rfl rfl (by decide) (by decide)
    · have tw15 : f2__12.toInt = 0 := (ti_eq rfl (by decide)).mp w15
      refine pb_aload_n (pc := 26) d_Expander_putByte_26 0 rfl rfl ?_
      refine pb_get (pc := 27) d_Expander_putByte_27 2 0 rfl rfl (by decide) in_Expander k_248 rfl ?_
      refine pb_iload_n (pc := 30) d_Expander_putByte_30 1 rfl rfl ?_
      refine pb_callV (pc := 31) (I := i_Expander_putByte) (qb := 0) (ci := 0) (nA := 1) (rest := []) (wr := [(h, .inr (5, [.ref ex, .ref et, .ref ea, .ref eb, .ref ec, .ref ed, .ref ef, .ref er, .int at_, .int en, .int f2__12]))]) d_Expander_putByte_31 (g_Row_putByte hl G ex ey 4000 xf xs v (by first | assumption | omega (splitDisjunctions := false) | omega | decide) (by first | assumption | omega (splitDisjunctions := false) | omega | decide) (by first | assumption | omega (splitDisjunctions := false) | omega | decide) F_xf) rfl rfl [0, 1] [2] (by decide) rfl rfl rfl (by decide) (by decide) k_555 rfl k_119 k_648 k_553 k_554 ⟨rfl, hy_Row_putByte⟩ (by decide) rfl rfl (Nat.le_of_ble_eq_true rfl) (by decide) (fun v9 u17 ch16 => ?_)
      obtain ⟨s_18, f_19⟩ := u17
      obtain ⟨ech16, ch16⟩ := ch16
      have ech16 : v9 = none := ech16
      subst ech16
      obtain ⟨fh20, fh21, fh22⟩ : (s_18.toInt = xs.toInt + 1) ∧ (∀ j : Int, 0 ≤ j → gr f_19 j = if j = xs.toInt then v.toInt8.toInt32 else gr xf j) ∧ (sb_Fit f_19) := ch16
      have pbF := fh21
      refine pb_eq (pc' := 34) (lo' := [(0, .ref h), (1, .int v)]) (rest' := []) (ws' := [(h, .inr (5, [.ref ex, .ref et, .ref ea, .ref eb, .ref ec, .ref ed, .ref ef, .ref er, .int at_, .int en, .int f2__12])), (ex, .inr (0, [.ref ey, .int s_18])), (ey, .inl (G.2.1, 4000, .inl f_19))]) ?_
      exact pb_vret (pc := 34) hQ d_Expander_putByte_34 rfl (f2__12, s_18, f_19) ⟨rfl, (by (try dsimp only); first | done | assumption | omega (splitDisjunctions := false) | omega | decide), (by (try dsimp only); first | done | assumption | omega (splitDisjunctions := false) | omega | decide), (by (try dsimp only); first | done | assumption | omega (splitDisjunctions := false) | omega | decide), (by (try dsimp only); first | done | assumption | omega (splitDisjunctions := false) | omega | decide), (by (try dsimp only); first | done | assumption | omega (splitDisjunctions := false) | omega | decide), (show f2__12.toInt = 0 → (sq f_19 0 s_18.toInt) = pu_ (sq xf 0 xs.toInt) xs.toInt v.toInt8.toInt32 from (by first | exact fun q9 => absurd q9 (by omega) | exact fun _ => sq_pu2 pbF (by omega) (by omega))), fh22⟩ [0, 1, 2] (by decide) rfl rfl (by decide) (by decide)

theorem d_Expander_repeat_11 : decode prog_3_method_10_code 11 = .ok (.iload_n 1, 1) := by decide +kernel
theorem d_Expander_repeat_12 : decode prog_3_method_10_code 12 = .ok (.invokestatic 120, 3) := by decide +kernel
theorem k_661 : (Jvm.Cond.methodLink "PackageBook$Expander" (120 : Nat) ({ cls := "PackageBook$Expander", name := "leastLength", desc := "(I)I" } : Jvm.MethodName)) ∈ uW := uW_of 661 (by decide +kernel) (by decide +kernel)
theorem k_663 : (Jvm.Cond.code ({ cls := "PackageBook$Expander", name := "leastLength", desc := "(I)I" } : Jvm.MethodName) prog_3_method_12_code (1 : Nat) (Option.some Jvm.ClassFile.FieldType.int)) ∈ uW := uW_of 663 (by decide +kernel) (by decide +kernel)
theorem k_662 : (Jvm.Cond.static ({ cls := "PackageBook$Expander", name := "leastLength", desc := "(I)I" } : Jvm.MethodName)) ∈ uW := uW_of 662 (by decide +kernel) (by decide +kernel)
theorem hy_Expander_leastLength : (y_Expander_leastLength).cls ≠ "java/lang/invoke/MethodHandle" ∧ (y_Expander_leastLength).cls ≠ "java/lang/invoke/VarHandle" ∧ (parseMethodDescriptor (y_Expander_leastLength).desc).map (fun d => d.parameters.length) = some 1 := by decide +kernel
theorem d_Expander_repeat_15 : decode prog_3_method_10_code 15 = .ok (.aload_n 0, 1) := by decide +kernel
theorem d_Expander_repeat_16 : decode prog_3_method_10_code 16 = .ok (.iload_n 1, 1) := by decide +kernel
theorem d_Expander_repeat_17 : decode prog_3_method_10_code 17 = .ok (.invokestatic 123, 3) := by decide +kernel
theorem k_664 : (Jvm.Cond.methodLink "PackageBook$Expander" (123 : Nat) ({ cls := "PackageBook$Expander", name := "bitsOfLength", desc := "(I)I" } : Jvm.MethodName)) ∈ uW := uW_of 664 (by decide +kernel) (by decide +kernel)
theorem k_666 : (Jvm.Cond.code ({ cls := "PackageBook$Expander", name := "bitsOfLength", desc := "(I)I" } : Jvm.MethodName) prog_3_method_11_code (1 : Nat) (Option.some Jvm.ClassFile.FieldType.int)) ∈ uW := uW_of 666 (by decide +kernel) (by decide +kernel)
theorem k_665 : (Jvm.Cond.static ({ cls := "PackageBook$Expander", name := "bitsOfLength", desc := "(I)I" } : Jvm.MethodName)) ∈ uW := uW_of 665 (by decide +kernel) (by decide +kernel)
theorem hy_Expander_bitsOfLength : (y_Expander_bitsOfLength).cls ≠ "java/lang/invoke/MethodHandle" ∧ (y_Expander_bitsOfLength).cls ≠ "java/lang/invoke/VarHandle" ∧ (parseMethodDescriptor (y_Expander_bitsOfLength).desc).map (fun d => d.parameters.length) = some 1 := by decide +kernel
theorem d_Expander_repeat_20 : decode prog_3_method_10_code 20 = .ok (.invokevirtual 71, 3) := by decide +kernel
theorem k_631 : (Jvm.Cond.methodLink "PackageBook$Expander" (71 : Nat) ({ cls := "PackageBook$Expander", name := "number", desc := "(I)I" } : Jvm.MethodName)) ∈ uW := uW_of 631 (by decide +kernel) (by decide +kernel)
theorem k_634 : (Jvm.Cond.code ({ cls := "PackageBook$Expander", name := "number", desc := "(I)I" } : Jvm.MethodName) prog_3_method_17_code (4 : Nat) (Option.some Jvm.ClassFile.FieldType.int)) ∈ uW := uW_of 634 (by decide +kernel) (by decide +kernel)
theorem k_633 : (Jvm.Cond.instanceMethod ({ cls := "PackageBook$Expander", name := "number", desc := "(I)I" } : Jvm.MethodName)) ∈ uW := uW_of 633 (by decide +kernel) (by decide +kernel)
theorem k_17 : Cond.selects "PackageBook$Expander" ⟨"PackageBook$Expander", "number", "(I)I"⟩ ⟨"PackageBook$Expander", "number", "(I)I"⟩ ∈ uW := uW_of 17 (by decide +kernel) (by decide +kernel)
theorem hy_Expander_number : (y_Expander_number).cls ≠ "java/lang/invoke/MethodHandle" ∧ (y_Expander_number).cls ≠ "java/lang/invoke/VarHandle" ∧ (parseMethodDescriptor (y_Expander_number).desc).map (fun d => d.parameters.length) = some 1 := by decide +kernel
theorem d_Expander_repeat_23 : decode prog_3_method_10_code 23 = .ok (.iadd, 1) := by decide +kernel
theorem d_Expander_repeat_24 : decode prog_3_method_10_code 24 = .ok (.istore_n 3, 1) := by decide +kernel
theorem d_Expander_repeat_25 : decode prog_3_method_10_code 25 = .ok (.aload_n 0, 1) := by decide +kernel
theorem d_Expander_repeat_26 : decode prog_3_method_10_code 26 = .ok (.aload_n 2, 1) := by decide +kernel
theorem d_Expander_repeat_27 : decode prog_3_method_10_code 27 = .ok (.invokevirtual 106, 3) := by decide +kernel
theorem k_653 : (Jvm.Cond.methodLink "PackageBook$Expander" (106 : Nat) ({ cls := "PackageBook$Expander", name := "symbol", desc := "(LPackageBook$Code;)I" } : Jvm.MethodName)) ∈ uW := uW_of 653 (by decide +kernel) (by decide +kernel)
theorem k_656 : (Jvm.Cond.code ({ cls := "PackageBook$Expander", name := "symbol", desc := "(LPackageBook$Code;)I" } : Jvm.MethodName) prog_3_method_16_code (7 : Nat) (Option.some Jvm.ClassFile.FieldType.int)) ∈ uW := uW_of 656 (by decide +kernel) (by decide +kernel)
theorem k_655 : (Jvm.Cond.instanceMethod ({ cls := "PackageBook$Expander", name := "symbol", desc := "(LPackageBook$Code;)I" } : Jvm.MethodName)) ∈ uW := uW_of 655 (by decide +kernel) (by decide +kernel)
theorem k_22 : Cond.selects "PackageBook$Expander" ⟨"PackageBook$Expander", "symbol", "(LPackageBook$Code;)I"⟩ ⟨"PackageBook$Expander", "symbol", "(LPackageBook$Code;)I"⟩ ∈ uW := uW_of 22 (by decide +kernel) (by decide +kernel)
theorem hy_Expander_symbol : (y_Expander_symbol).cls ≠ "java/lang/invoke/MethodHandle" ∧ (y_Expander_symbol).cls ≠ "java/lang/invoke/VarHandle" ∧ (parseMethodDescriptor (y_Expander_symbol).desc).map (fun d => d.parameters.length) = some 1 := by decide +kernel
theorem d_Expander_repeat_30 : decode prog_3_method_10_code 30 = .ok (.istore 4, 2) := by decide +kernel
theorem d_Expander_repeat_44 : decode prog_3_method_10_code 44 = .ok (.iload 4, 2) := by decide +kernel
theorem d_Expander_repeat_46 : decode prog_3_method_10_code 46 = .ok (.invokestatic 126, 3) := by decide +kernel
theorem k_667 : (Jvm.Cond.methodLink "PackageBook$Expander" (126 : Nat) ({ cls := "PackageBook$Expander", name := "leastDistance", desc := "(I)I" } : Jvm.MethodName)) ∈ uW := uW_of 667 (by decide +kernel) (by decide +kernel)
theorem k_669 : (Jvm.Cond.code ({ cls := "PackageBook$Expander", name := "leastDistance", desc := "(I)I" } : Jvm.MethodName) prog_3_method_14_code (1 : Nat) (Option.some Jvm.ClassFile.FieldType.int)) ∈ uW := uW_of 669 (by decide +kernel) (by decide +kernel)
theorem k_668 : (Jvm.Cond.static ({ cls := "PackageBook$Expander", name := "leastDistance", desc := "(I)I" } : Jvm.MethodName)) ∈ uW := uW_of 668 (by decide +kernel) (by decide +kernel)
theorem hy_Expander_leastDistance : (y_Expander_leastDistance).cls ≠ "java/lang/invoke/MethodHandle" ∧ (y_Expander_leastDistance).cls ≠ "java/lang/invoke/VarHandle" ∧ (parseMethodDescriptor (y_Expander_leastDistance).desc).map (fun d => d.parameters.length) = some 1 := by decide +kernel
theorem d_Expander_repeat_49 : decode prog_3_method_10_code 49 = .ok (.aload_n 0, 1) := by decide +kernel
theorem d_Expander_repeat_50 : decode prog_3_method_10_code 50 = .ok (.iload 4, 2) := by decide +kernel
theorem d_Expander_repeat_52 : decode prog_3_method_10_code 52 = .ok (.invokestatic 129, 3) := by decide +kernel
theorem k_670 : (Jvm.Cond.methodLink "PackageBook$Expander" (129 : Nat) ({ cls := "PackageBook$Expander", name := "bitsOfDistance", desc := "(I)I" } : Jvm.MethodName)) ∈ uW := uW_of 670 (by decide +kernel) (by decide +kernel)
theorem k_672 : (Jvm.Cond.code ({ cls := "PackageBook$Expander", name := "bitsOfDistance", desc := "(I)I" } : Jvm.MethodName) prog_3_method_13_code (1 : Nat) (Option.some Jvm.ClassFile.FieldType.int)) ∈ uW := uW_of 672 (by decide +kernel) (by decide +kernel)
theorem k_671 : (Jvm.Cond.static ({ cls := "PackageBook$Expander", name := "bitsOfDistance", desc := "(I)I" } : Jvm.MethodName)) ∈ uW := uW_of 671 (by decide +kernel) (by decide +kernel)
theorem hy_Expander_bitsOfDistance : (y_Expander_bitsOfDistance).cls ≠ "java/lang/invoke/MethodHandle" ∧ (y_Expander_bitsOfDistance).cls ≠ "java/lang/invoke/VarHandle" ∧ (parseMethodDescriptor (y_Expander_bitsOfDistance).desc).map (fun d => d.parameters.length) = some 1 := by decide +kernel
theorem d_Expander_repeat_55 : decode prog_3_method_10_code 55 = .ok (.invokevirtual 71, 3) := by decide +kernel
theorem d_Expander_repeat_58 : decode prog_3_method_10_code 58 = .ok (.iadd, 1) := by decide +kernel
theorem d_Expander_repeat_59 : decode prog_3_method_10_code 59 = .ok (.istore 5, 2) := by decide +kernel
theorem d_Expander_repeat_100 : decode prog_3_method_10_code 100 = .ok (.iconst 0, 1) := by decide +kernel
theorem d_Expander_repeat_101 : decode prog_3_method_10_code 101 = .ok (.istore 6, 2) := by decide +kernel
theorem d_Expander_repeat_103 : decode prog_3_method_10_code 103 = .ok (.iload 6, 2) := by decide +kernel
theorem d_Expander_repeat_105 : decode prog_3_method_10_code 105 = .ok (.iload_n 3, 1) := by decide +kernel
theorem d_Expander_repeat_106 : decode prog_3_method_10_code 106 = .ok (.if_icmp .ge 41, 3) := by decide +kernel
theorem d_Expander_repeat_147 : decode prog_3_method_10_code 147 = .ok (.return_, 1) := by decide +kernel
theorem d_Expander_repeat_109 : decode prog_3_method_10_code 109 = .ok (.aload_n 0, 1) := by decide +kernel
theorem d_Expander_repeat_110 : decode prog_3_method_10_code 110 = .ok (.getfield 65, 3) := by decide +kernel
theorem d_Expander_repeat_113 : decode prog_3_method_10_code 113 = .ok (.ifCond .ne 34, 3) := by decide +kernel
theorem d_Expander_repeat_116 : decode prog_3_method_10_code 116 = .ok (.aload_n 0, 1) := by decide +kernel
theorem d_Expander_repeat_117 : decode prog_3_method_10_code 117 = .ok (.getfield 14, 3) := by decide +kernel
theorem d_Expander_repeat_120 : decode prog_3_method_10_code 120 = .ok (.aload_n 0, 1) := by decide +kernel
theorem d_Expander_repeat_121 : decode prog_3_method_10_code 121 = .ok (.getfield 14, 3) := by decide +kernel
theorem d_Expander_repeat_124 : decode prog_3_method_10_code 124 = .ok (.getfield 132, 3) := by decide +kernel
theorem k_160 : (Jvm.Cond.fieldLinkNest "PackageBook$Expander" (132 : Nat) "PackageBook$Row" "bytes" "[B" "PackageBook") ∈ uN := uN_of 160 (by decide +kernel) (by decide +kernel)
theorem d_Expander_repeat_127 : decode prog_3_method_10_code 127 = .ok (.aload_n 0, 1) := by decide +kernel
theorem d_Expander_repeat_128 : decode prog_3_method_10_code 128 = .ok (.getfield 14, 3) := by decide +kernel
theorem d_Expander_repeat_131 : decode prog_3_method_10_code 131 = .ok (.getfield 68, 3) := by decide +kernel
theorem d_Expander_repeat_134 : decode prog_3_method_10_code 134 = .ok (.iload 5, 2) := by decide +kernel
theorem d_Expander_repeat_136 : decode prog_3_method_10_code 136 = .ok (.isub, 1) := by decide +kernel
theorem d_Expander_repeat_137 : decode prog_3_method_10_code 137 = .ok (.baload, 1) := by decide +kernel
theorem d_Expander_repeat_138 : decode prog_3_method_10_code 138 = .ok (.invokevirtual 135, 3) := by decide +kernel
theorem d_Expander_repeat_141 : decode prog_3_method_10_code 141 = .ok (.iinc 6 1, 3) := by decide +kernel
theorem d_Expander_repeat_144 : decode prog_3_method_10_code 144 = .ok (.goto (-41), 3) := by decide +kernel
theorem d_Expander_repeat_79 : decode prog_3_method_10_code 79 = .ok (.iload_n 3, 1) := by decide +kernel
theorem d_Expander_repeat_80 : decode prog_3_method_10_code 80 = .ok (.sipush 4000, 3) := by decide +kernel
theorem d_Expander_repeat_83 : decode prog_3_method_10_code 83 = .ok (.aload_n 0, 1) := by decide +kernel
theorem d_Expander_repeat_84 : decode prog_3_method_10_code 84 = .ok (.getfield 14, 3) := by decide +kernel
theorem d_Expander_repeat_87 : decode prog_3_method_10_code 87 = .ok (.getfield 68, 3) := by decide +kernel
theorem d_Expander_repeat_90 : decode prog_3_method_10_code 90 = .ok (.isub, 1) := by decide +kernel
theorem d_Expander_repeat_91 : decode prog_3_method_10_code 91 = .ok (.if_icmp .le 9, 3) := by decide +kernel
theorem d_Expander_repeat_94 : decode prog_3_method_10_code 94 = .ok (.aload_n 0, 1) := by decide +kernel
theorem d_Expander_repeat_95 : decode prog_3_method_10_code 95 = .ok (.bipush 7, 2) := by decide +kernel
theorem d_Expander_repeat_97 : decode prog_3_method_10_code 97 = .ok (.invokevirtual 85, 3) := by decide +kernel
theorem d_Expander_repeat_61 : decode prog_3_method_10_code 61 = .ok (.iload 5, 2) := by decide +kernel
theorem d_Expander_repeat_63 : decode prog_3_method_10_code 63 = .ok (.aload_n 0, 1) := by decide +kernel
theorem d_Expander_repeat_64 : decode prog_3_method_10_code 64 = .ok (.getfield 14, 3) := by decide +kernel
theorem d_Expander_repeat_67 : decode prog_3_method_10_code 67 = .ok (.getfield 68, 3) := by decide +kernel
theorem d_Expander_repeat_70 : decode prog_3_method_10_code 70 = .ok (.if_icmp .le 9, 3) := by decide +kernel
theorem d_Expander_repeat_73 : decode prog_3_method_10_code 73 = .ok (.aload_n 0, 1) := by decide +kernel
theorem d_Expander_repeat_74 : decode prog_3_method_10_code 74 = .ok (.bipush 6, 2) := by decide +kernel
theorem d_Expander_repeat_76 : decode prog_3_method_10_code 76 = .ok (.invokevirtual 85, 3) := by decide +kernel
theorem d_Expander_repeat_32 : decode prog_3_method_10_code 32 = .ok (.iload 4, 2) := by decide +kernel
theorem d_Expander_repeat_34 : decode prog_3_method_10_code 34 = .ok (.bipush 30, 2) := by decide +kernel
theorem d_Expander_repeat_36 : decode prog_3_method_10_code 36 = .ok (.if_icmp .lt 8, 3) := by decide +kernel
theorem d_Expander_repeat_39 : decode prog_3_method_10_code 39 = .ok (.aload_n 0, 1) := by decide +kernel
theorem d_Expander_repeat_40 : decode prog_3_method_10_code 40 = .ok (.iconst 5, 1) := by decide +kernel
theorem d_Expander_repeat_41 : decode prog_3_method_10_code 41 = .ok (.invokevirtual 85, 3) := by decide +kernel
theorem d_Expander_repeat_0 : decode prog_3_method_10_code 0 = .ok (.iload_n 1, 1) := by decide +kernel
theorem d_Expander_repeat_1 : decode prog_3_method_10_code 1 = .ok (.bipush 28, 2) := by decide +kernel
theorem d_Expander_repeat_3 : decode prog_3_method_10_code 3 = .ok (.if_icmp .le 8, 3) := by decide +kernel
theorem d_Expander_repeat_6 : decode prog_3_method_10_code 6 = .ok (.aload_n 0, 1) := by decide +kernel
theorem d_Expander_repeat_7 : decode prog_3_method_10_code 7 = .ok (.iconst 5, 1) := by decide +kernel
theorem d_Expander_repeat_8 : decode prog_3_method_10_code 8 = .ok (.invokevirtual 85, 3) := by decide +kernel
abbrev y_Expander_repeat : MethodName := ⟨"PackageBook$Expander", "repeat", "(ILPackageBook$Code;)V"⟩
abbrev i_Expander_repeat : pb_I := (y_Expander_repeat, prog_3_method_10_code, 7, (Option.none : Option Jvm.ClassFile.FieldType), [], { frames := 1, cells := 0, slots := 0, locals := 26 })
set_option maxRecDepth 100000 in
set_option maxHeartbeats 4000000 in
theorem g_Exp_repeat {l : Launch} (hl : l.stackTraces = false) (G : pb_G) (h : Nat) (ex : Nat) (et : Nat) (ea : Nat) (eb : Nat) (ec : Nat) (ed : Nat) (ef : Nat) (er : Nat) (at_ : Int32) (en : Int32) (fl : Int32) (N : Nat) (fr : Nat → Int32) (ey : Nat) (xf : Nat → Int32) (xs : Int32) (kh : Nat) (kc : Nat) (ky : Nat) (Ny : Nat) (ks : Int32) (kfc : Nat → Int32) (kfy : Nat → Int32) (B : Int) (L : Int → Int) (nL : Int) (k : Int32) (A : Int → Int32) (a0 : 0 ≤ at_.toInt) (a1 : at_.toInt ≤ en.toInt) (a2 : en.toInt ≤ 8 * N) (a3 : N ≤ 100000) (a4 : 0 ≤ fl.toInt) (b0 : 0 ≤ xs.toInt) (b1 : xs.toInt ≤ 4000) (hco : co_I ks.toInt kfc kfy B) (hB : 1 ≤ B) (hNy : ks.toInt ≤ Ny) (hNy2 : Ny ≤ 100000) (hcs : fl.toInt = 0 → cs_R ks.toInt kfc kfy L nL) (hnL : 0 ≤ nL) (hB2 : B ≤ 32) (hk0 : 0 ≤ k.toInt) (hA : ∀ j : Int, 0 ≤ j → 8 * j < en.toInt → A j = gr fr j) (F_fr : sb_Fit fr) (F_xf : sb_Fit xf) : Cn l G i_Expander_repeat [.ref h, .int k, .ref kh] [(h, .inr (5, [.ref ex, .ref et, .ref ea, .ref eb, .ref ec, .ref ed, .ref ef, .ref er, .int at_, .int en, .int fl])), (er, .inl (G.2.1, N, .inl fr)), (ex, .inr (0, [.ref ey, .int xs])), (ey, .inl (G.2.1, 4000, .inl xf)), (kh, .inr (1, [.ref kc, .ref ky, .int ks])), (kc, .inl (G.2.2.1, 16, .inl kfc)), (ky, .inl (G.2.2.1, Ny, .inl kfy))] (S := Int32 × Int32 × Int32 × (Nat → Int32)) (fun rv_ u => rv_ = none ∧ (at_.toInt ≤ u.1.toInt) ∧ (u.1.toInt ≤ en.toInt) ∧ (0 ≤ u.2.1.toInt) ∧ (fl.toInt ≠ 0 → u.2.1.toInt ≠ 0) ∧ (0 ≤ u.2.2.1.toInt) ∧ (u.2.2.1.toInt ≤ 4000) ∧ (rp_f A en.toInt L nL xs.toInt (sq xf 0 xs.toInt) k.toInt fl.toInt at_.toInt = oz_ u.2.1.toInt u.1.toInt u.2.2.1.toInt (sq u.2.2.2 0 u.2.2.1.toInt)) ∧ (sb_Fit u.2.2.2)) (fun u => [(h, .inr (5, [.ref ex, .ref et, .ref ea, .ref eb, .ref ec, .ref ed, .ref ef, .ref er, .int u.1, .int en, .int u.2.1])), (er, .inl (G.2.1, N, .inl fr)), (ex, .inr (0, [.ref ey, .int u.2.2.1])), (ey, .inl (G.2.1, 4000, .inl u.2.2.2)), (kh, .inr (1, [.ref kc, .ref ky, .int ks])), (kc, .inl (G.2.2.1, 16, .inl kfc)), (ky, .inl (G.2.2.1, Ny, .inl kfy))]) := by
  refine Cn.of hl (by decide +kernel) rfl (Nat.le_of_ble_eq_true rfl) (fun M hQ => ?_)
  refine pb_eq (pc' := 0) (lo' := [(0, .ref h), (1, .int k), (2, .ref kh)]) (rest' := []) (ws' := [(h, .inr (5, [.ref ex, .ref et, .ref ea, .ref eb, .ref ec, .ref ed, .ref ef, .ref er, .int at_, .int en, .int fl])), (er, .inl (G.2.1, N, .inl fr)), (ex, .inr (0, [.ref ey, .int xs])), (ey, .inl (G.2.1, 4000, .inl xf)), (kh, .inr (1, [.ref kc, .ref ky, .int ks])), (kc, .inl (G.2.2.1, 16, .inl kfc)), (ky, .inl (G.2.2.1, Ny, .inl kfy))]) ?_
  have zl0 : (0 : Int32).toInt = 0 := by decide
  have zl1 : (1 : Int32).toInt = 1 := by decide
  have zl5 : (5 : Int32).toInt = 5 := by decide
  have zl6 : (6 : Int32).toInt = 6 := by decide
  have zl7 : (7 : Int32).toInt = 7 := by decide
  have zl4000 : (4000 : Int32).toInt = 4000 := by decide
  have hJ11_1 : ∀ (f3 : Int32), (0 ≤ f3.toInt) → (fl.toInt ≠ 0 → f3.toInt ≠ 0) → (f3.toInt = 0 → fl.toInt = 0) → (rp_f A en.toInt L nL xs.toInt (sq xf 0 xs.toInt) k.toInt fl.toInt at_.toInt = rp_1 A en.toInt L nL xs.toInt (sq xf 0 xs.toInt) k.toInt f3.toInt at_.toInt) → pb_P l G M i_Expander_repeat 11 [(0, .ref h), (1, .int k), (2, .ref kh)] [] [(h, .inr (5, [.ref ex, .ref et, .ref ea, .ref eb, .ref ec, .ref ed, .ref ef, .ref er, .int at_, .int en, .int f3])), (er, .inl (G.2.1, N, .inl fr)), (ex, .inr (0, [.ref ey, .int xs])), (ey, .inl (G.2.1, 4000, .inl xf)), (kh, .inr (1, [.ref kc, .ref ky, .int ks])), (kc, .inl (G.2.2.1, 16, .inl kfc)), (ky, .inl (G.2.2.1, Ny, .inl kfy))] 0 0 := by
    intro f3 j0 j1 j3 j2
    refine pb_iload_n (pc := 11) d_Expander_repeat_11 1 rfl rfl ?_
    refine pb_callS (pc := 12) (I := i_Expander_repeat) (nA := 1) (rest := []) (wr := [(h, .inr (5, [.ref ex, .ref et, .ref ea, .ref eb, .ref ec, .ref ed, .ref ef, .ref er, .int at_, .int en, .int f3])), (er, .inl (G.2.1, N, .inl fr)), (ex, .inr (0, [.ref ey, .int xs])), (ey, .inl (G.2.1, 4000, .inl xf)), (kh, .inr (1, [.ref kc, .ref ky, .int ks])), (kc, .inl (G.2.2.1, 16, .inl kfc)), (ky, .inl (G.2.2.1, Ny, .inl kfy))]) d_Expander_repeat_12 (g_Exp_leastLength hl G k (by first | assumption | omega (splitDisjunctions := false) | omega | decide)) [] [0, 1, 2, 3, 4, 5, 6] (by decide) rfl rfl rfl (by decide) (by decide) k_663 rfl k_121 k_661 k_662 hy_Expander_leastLength (by decide) rfl rfl (Nat.le_of_ble_eq_true rfl) (by decide) (fun v9 u3 ch2 => ?_)
    obtain ⟨r_4, rfl⟩ : ∃ z9, z9 = u3 := ⟨_, rfl⟩
    obtain ⟨ech2, ch2⟩ := ch2
    have ech2 : v9 = some (.int r_4) := ech2
    subst ech2
    have fh5 : 0 ≤ k.toInt → r_4.toInt = ll_f k.toInt := ch2
    have lnF := fh5 hk0
    have lnR := ll_rng hk0
    refine pb_eq (pc' := 15) (lo' := [(0, .ref h), (1, .int k), (2, .ref kh)]) (rest' := [.int r_4]) (ws' := [(h, .inr (5, [.ref ex, .ref et, .ref ea, .ref eb, .ref ec, .ref ed, .ref ef, .ref er, .int at_, .int en, .int f3])), (er, .inl (G.2.1, N, .inl fr)), (ex, .inr (0, [.ref ey, .int xs])), (ey, .inl (G.2.1, 4000, .inl xf)), (kh, .inr (1, [.ref kc, .ref ky, .int ks])), (kc, .inl (G.2.2.1, 16, .inl kfc)), (ky, .inl (G.2.2.1, Ny, .inl kfy))]) ?_
    refine pb_aload_n (pc := 15) d_Expander_repeat_15 0 rfl rfl ?_
    refine pb_iload_n (pc := 16) d_Expander_repeat_16 1 rfl rfl ?_
    refine pb_callS (pc := 17) (I := i_Expander_repeat) (nA := 1) (rest := [.ref h, .int r_4]) (wr := [(h, .inr (5, [.ref ex, .ref et, .ref ea, .ref eb, .ref ec, .ref ed, .ref ef, .ref er, .int at_, .int en, .int f3])), (er, .inl (G.2.1, N, .inl fr)), (ex, .inr (0, [.ref ey, .int xs])), (ey, .inl (G.2.1, 4000, .inl xf)), (kh, .inr (1, [.ref kc, .ref ky, .int ks])), (kc, .inl (G.2.2.1, 16, .inl kfc)), (ky, .inl (G.2.2.1, Ny, .inl kfy))]) d_Expander_repeat_17 (g_Exp_bitsOfLength hl G k) [] [0, 1, 2, 3, 4, 5, 6] (by decide) rfl rfl rfl (by decide) (by decide) k_666 rfl k_121 k_664 k_665 hy_Expander_bitsOfLength (by decide) rfl rfl (Nat.le_of_ble_eq_true rfl) (by decide) (fun v9 u7 ch6 => ?_)
    obtain ⟨r_8, rfl⟩ : ∃ z9, z9 = u7 := ⟨_, rfl⟩
    obtain ⟨ech6, ch6⟩ := ch6
    have ech6 : v9 = some (.int r_8) := ech6
    subst ech6
    obtain ⟨fh9, fh10, fh11⟩ : (0 ≤ r_8.toInt) ∧ (r_8.toInt ≤ 6) ∧ (r_8.toInt = lb_f k.toInt) := ch6
    have lbF := fh11
    refine pb_eq (pc' := 20) (lo' := [(0, .ref h), (1, .int k), (2, .ref kh)]) (rest' := [.int r_8, .ref h, .int r_4]) (ws' := [(h, .inr (5, [.ref ex, .ref et, .ref ea, .ref eb, .ref ec, .ref ed, .ref ef, .ref er, .int at_, .int en, .int f3])), (er, .inl (G.2.1, N, .inl fr)), (ex, .inr (0, [.ref ey, .int xs])), (ey, .inl (G.2.1, 4000, .inl xf)), (kh, .inr (1, [.ref kc, .ref ky, .int ks])), (kc, .inl (G.2.2.1, 16, .inl kfc)), (ky, .inl (G.2.2.1, Ny, .inl kfy))]) ?_
    refine pb_callV (pc := 20) (I := i_Expander_repeat) (qb := 0) (ci := 5) (nA := 1) (rest := [.int r_4]) (wr := [(ex, .inr (0, [.ref ey, .int xs])), (ey, .inl (G.2.1, 4000, .inl xf)), (kh, .inr (1, [.ref kc, .ref ky, .int ks])), (kc, .inl (G.2.2.1, 16, .inl kfc)), (ky, .inl (G.2.2.1, Ny, .inl kfy))]) d_Expander_repeat_20 (g_Exp_number hl G h ex et ea eb ec ed ef er at_ en f3 N fr r_8 A (by first | assumption | omega (splitDisjunctions := false) | omega | decide) (by first | assumption | omega (splitDisjunctions := false) | omega | decide) (by first | assumption | omega (splitDisjunctions := false) | omega | decide) (by first | assumption | omega (splitDisjunctions := false) | omega | decide) (by first | assumption | omega (splitDisjunctions := false) | omega | decide) (by first | assumption | omega (splitDisjunctions := false) | omega | decide) (by first | assumption | omega (splitDisjunctions := false) | omega | decide) (by first | assumption | decide | omega) (by first | assumption | decide | omega)) rfl rfl [0, 1] [2, 3, 4, 5, 6] (by decide) rfl rfl rfl (by decide) (by decide) k_634 rfl k_121 k_631 k_633 k_17 ⟨rfl, hy_Expander_number⟩ (by decide) rfl rfl (Nat.le_of_ble_eq_true rfl) (by decide) (fun v9 u13 ch12 => ?_)
    obtain ⟨r_14, a2__15, f2__16⟩ := u13
    obtain ⟨ech12, ch12⟩ := ch12
    have ech12 : v9 = some (.int r_14) := ech12
    subst ech12
    obtain ⟨fh17, fh18, fh19, fh20, fh21, fh22, fh23, fh24, fh25⟩ : (0 ≤ r_14.toInt) ∧ (r_14.toInt < p2 r_8.toInt) ∧ (r_14.toInt ≤ 65535) ∧ (at_.toInt ≤ a2__15.toInt) ∧ (a2__15.toInt ≤ en.toInt) ∧ (0 ≤ f2__16.toInt) ∧ (f3.toInt ≠ 0 → f2__16.toInt ≠ 0) ∧ (nu_w A en.toInt f3.toInt at_.toInt r_8.toInt = oc_ f2__16.toInt r_14.toInt a2__15.toInt) ∧ (f2__16.toInt = 0 → a2__15.toInt = at_.toInt + r_8.toInt) := ch12
    have nwF := fh24
    rw [lbF] at nwF
    refine pb_eq (pc' := 23) (lo' := [(0, .ref h), (1, .int k), (2, .ref kh)]) (rest' := [.int r_14, .int r_4]) (ws' := [(ex, .inr (0, [.ref ey, .int xs])), (ey, .inl (G.2.1, 4000, .inl xf)), (kh, .inr (1, [.ref kc, .ref ky, .int ks])), (kc, .inl (G.2.2.1, 16, .inl kfc)), (ky, .inl (G.2.2.1, Ny, .inl kfy)), (h, .inr (5, [.ref ex, .ref et, .ref ea, .ref eb, .ref ec, .ref ed, .ref ef, .ref er, .int a2__15, .int en, .int f2__16])), (er, .inl (G.2.1, N, .inl fr))]) ?_
    refine pb_iadd (pc := 23) d_Expander_repeat_23 ?_
    refine pb_topi (fun i26 ei26 => ?_)
    try have ti26 : i26.toInt = r_4.toInt + r_14.toInt := t2_add ei26 rfl rfl (by omega)
    refine pb_istore_n (pc := 24) (lo' := [(3, .int i26), (0, .ref h), (1, .int k), (2, .ref kh)]) d_Expander_repeat_24 rfl (by decide) rfl ?_
    refine pb_aload_n (pc := 25) d_Expander_repeat_25 1 rfl rfl ?_
    refine pb_aload_n (pc := 26) d_Expander_repeat_26 3 rfl rfl ?_
    refine pb_callV (pc := 27) (I := i_Expander_repeat) (qb := 5) (ci := 5) (nA := 1) (rest := []) (wr := [(ex, .inr (0, [.ref ey, .int xs])), (ey, .inl (G.2.1, 4000, .inl xf))]) d_Expander_repeat_27 (g_Exp_symbol hl G h ex et ea eb ec ed ef er a2__15 en f2__16 N fr kh kc ky Ny ks kfc kfy B L nL A (by first | assumption | omega (splitDisjunctions := false) | omega | decide) (by first | assumption | omega (splitDisjunctions := false) | omega | decide) (by first | assumption | omega (splitDisjunctions := false) | omega | decide) (by first | assumption | omega (splitDisjunctions := false) | omega | decide) (by first | assumption | omega (splitDisjunctions := false) | omega | decide) (by first | assumption | decide | omega) (by first | assumption | omega (splitDisjunctions := false) | omega | decide) (by first | assumption | omega (splitDisjunctions := false) | omega | decide) (by first | assumption | omega (splitDisjunctions := false) | omega | decide) (fun q9 => hcs (by omega)) (by first | assumption | omega (splitDisjunctions := false) | omega | decide) (by first | assumption | decide | omega) (by first | assumption | decide | omega)) rfl rfl [5, 6, 2, 3, 4] [0, 1] (by decide) rfl rfl rfl (by decide) (by decide) k_656 rfl k_121 k_653 k_655 k_22 ⟨rfl, hy_Expander_symbol⟩ (by decide) rfl rfl (Nat.le_of_ble_eq_true rfl) (by decide) (fun v9 u28 ch27 => ?_)
    obtain ⟨r_29, a2__30, f2__31⟩ := u28
    obtain ⟨ech27, ch27⟩ := ch27
    have ech27 : v9 = some (.int r_29) := ech27
    subst ech27
    obtain ⟨fh32, fh33, fh34, fh35, fh36, fh37, fh38, fh39⟩ : (0 ≤ r_29.toInt) ∧ (r_29.toInt < B) ∧ (a2__15.toInt ≤ a2__30.toInt) ∧ (a2__30.toInt ≤ en.toInt) ∧ (0 ≤ f2__31.toInt) ∧ (f2__16.toInt ≠ 0 → f2__31.toInt ≠ 0) ∧ (sy_w A en.toInt L nL f2__16.toInt a2__15.toInt = oc_ f2__31.toInt r_29.toInt a2__30.toInt) ∧ (f2__31.toInt = 0 → a2__15.toInt < a2__30.toInt) := ch27
    have swF := fh38
    refine pb_eq (pc' := 30) (lo' := [(3, .int i26), (0, .ref h), (1, .int k), (2, .ref kh)]) (rest' := [.int r_29]) (ws' := [(ex, .inr (0, [.ref ey, .int xs])), (ey, .inl (G.2.1, 4000, .inl xf)), (h, .inr (5, [.ref ex, .ref et, .ref ea, .ref eb, .ref ec, .ref ed, .ref ef, .ref er, .int a2__30, .int en, .int f2__31])), (er, .inl (G.2.1, N, .inl fr)), (kh, .inr (1, [.ref kc, .ref ky, .int ks])), (kc, .inl (G.2.2.1, 16, .inl kfc)), (ky, .inl (G.2.2.1, Ny, .inl kfy))]) ?_
    refine pb_istore (pc := 30) (lo' := [(4, .int r_29), (3, .int i26), (0, .ref h), (1, .int k), (2, .ref kh)]) d_Expander_repeat_30 (by decide) rfl ?_
    have hJ44_40 : ∀ (f5 : Int32) (a5 : Int32) (qL : Int32) (d : Int32), (0 ≤ f5.toInt) → (fl.toInt ≠ 0 → f5.toInt ≠ 0) → (at_.toInt ≤ a5.toInt) → (a5.toInt ≤ en.toInt) → (0 ≤ d.toInt) → (d.toInt < B) → (f5.toInt = 0 → d.toInt < 30) → (3 ≤ qL.toInt) → (rp_f A en.toInt L nL xs.toInt (sq xf 0 xs.toInt) k.toInt fl.toInt at_.toInt = rp_3 A en.toInt xs.toInt (sq xf 0 xs.toInt) qL.toInt f5.toInt a5.toInt d.toInt) → pb_P l G M i_Expander_repeat 44 [(3, .int qL), (4, .int d), (0, .ref h), (1, .int k), (2, .ref kh)] [] [(h, .inr (5, [.ref ex, .ref et, .ref ea, .ref eb, .ref ec, .ref ed, .ref ef, .ref er, .int a5, .int en, .int f5])), (er, .inl (G.2.1, N, .inl fr)), (ex, .inr (0, [.ref ey, .int xs])), (ey, .inl (G.2.1, 4000, .inl xf)), (kh, .inr (1, [.ref kc, .ref ky, .int ks])), (kc, .inl (G.2.2.1, 16, .inl kfc)), (ky, .inl (G.2.2.1, Ny, .inl kfy))] 0 0 := by
      intro f5 a5 qL d k0 k1 k2 k3 k4 k5 k7 k8 k6
      refine pb_iload (pc := 44) d_Expander_repeat_44 1 rfl ?_
      refine pb_callS (pc := 46) (I := i_Expander_repeat) (nA := 1) (rest := []) (wr := [(h, .inr (5, [.ref ex, .ref et, .ref ea, .ref eb, .ref ec, .ref ed, .ref ef, .ref er, .int a5, .int en, .int f5])), (er, .inl (G.2.1, N, .inl fr)), (ex, .inr (0, [.ref ey, .int xs])), (ey, .inl (G.2.1, 4000, .inl xf)), (kh, .inr (1, [.ref kc, .ref ky, .int ks])), (kc, .inl (G.2.2.1, 16, .inl kfc)), (ky, .inl (G.2.2.1, Ny, .inl kfy))]) d_Expander_repeat_46 (g_Exp_leastDistance hl G d (by first | assumption | omega (splitDisjunctions := false) | omega | decide) (by first | assumption | omega (splitDisjunctions := false) | omega | decide)) [] [0, 1, 2, 3, 4, 5, 6] (by decide) rfl rfl rfl (by decide) (by decide) k_669 rfl k_121 k_667 k_668 hy_Expander_leastDistance (by decide) rfl rfl (Nat.le_of_ble_eq_true rfl) (by decide) (fun v9 u42 ch41 => ?_)
      obtain ⟨r_43, rfl⟩ : ∃ z9, z9 = u42 := ⟨_, rfl⟩
      obtain ⟨ech41, ch41⟩ := ch41
      have ech41 : v9 = some (.int r_43) := ech41
      subst ech41
      obtain ⟨fh44, fh45, fh46⟩ : (1 ≤ r_43.toInt) ∧ (r_43.toInt ≤ 65536) ∧ (d.toInt ≤ 29 → r_43.toInt = ld_f d.toInt) := ch41
      have ldF := fh46
      refine pb_eq (pc' := 49) (lo' := [(3, .int qL), (4, .int d), (0, .ref h), (1, .int k), (2, .ref kh)]) (rest' := [.int r_43]) (ws' := [(h, .inr (5, [.ref ex, .ref et, .ref ea, .ref eb, .ref ec, .ref ed, .ref ef, .ref er, .int a5, .int en, .int f5])), (er, .inl (G.2.1, N, .inl fr)), (ex, .inr (0, [.ref ey, .int xs])), (ey, .inl (G.2.1, 4000, .inl xf)), (kh, .inr (1, [.ref kc, .ref ky, .int ks])), (kc, .inl (G.2.2.1, 16, .inl kfc)), (ky, .inl (G.2.2.1, Ny, .inl kfy))]) ?_
      refine pb_aload_n (pc := 49) d_Expander_repeat_49 2 rfl rfl ?_
      refine pb_iload (pc := 50) d_Expander_repeat_50 1 rfl ?_
      refine pb_callS (pc := 52) (I := i_Expander_repeat) (nA := 1) (rest := [.ref h, .int r_43]) (wr := [(h, .inr (5, [.ref ex, .ref et, .ref ea, .ref eb, .ref ec, .ref ed, .ref ef, .ref er, .int a5, .int en, .int f5])), (er, .inl (G.2.1, N, .inl fr)), (ex, .inr (0, [.ref ey, .int xs])), (ey, .inl (G.2.1, 4000, .inl xf)), (kh, .inr (1, [.ref kc, .ref ky, .int ks])), (kc, .inl (G.2.2.1, 16, .inl kfc)), (ky, .inl (G.2.2.1, Ny, .inl kfy))]) d_Expander_repeat_52 (g_Exp_bitsOfDistance hl G d (by first | assumption | omega (splitDisjunctions := false) | omega | decide) (by first | assumption | omega (splitDisjunctions := false) | omega | decide)) [] [0, 1, 2, 3, 4, 5, 6] (by decide) rfl rfl rfl (by decide) (by decide) k_672 rfl k_121 k_670 k_671 hy_Expander_bitsOfDistance (by decide) rfl rfl (Nat.le_of_ble_eq_true rfl) (by decide) (fun v9 u48 ch47 => ?_)
      obtain ⟨r_49, rfl⟩ : ∃ z9, z9 = u48 := ⟨_, rfl⟩
      obtain ⟨ech47, ch47⟩ := ch47
      have ech47 : v9 = some (.int r_49) := ech47
      subst ech47
      obtain ⟨fh50, fh51, fh52⟩ : (0 ≤ r_49.toInt) ∧ (r_49.toInt ≤ 14) ∧ (r_49.toInt = db_f d.toInt) := ch47
      have dbF := fh52
      refine pb_eq (pc' := 55) (lo' := [(3, .int qL), (4, .int d), (0, .ref h), (1, .int k), (2, .ref kh)]) (rest' := [.int r_49, .ref h, .int r_43]) (ws' := [(h, .inr (5, [.ref ex, .ref et, .ref ea, .ref eb, .ref ec, .ref ed, .ref ef, .ref er, .int a5, .int en, .int f5])), (er, .inl (G.2.1, N, .inl fr)), (ex, .inr (0, [.ref ey, .int xs])), (ey, .inl (G.2.1, 4000, .inl xf)), (kh, .inr (1, [.ref kc, .ref ky, .int ks])), (kc, .inl (G.2.2.1, 16, .inl kfc)), (ky, .inl (G.2.2.1, Ny, .inl kfy))]) ?_
      refine pb_callV (pc := 55) (I := i_Expander_repeat) (qb := 0) (ci := 5) (nA := 1) (rest := [.int r_43]) (wr := [(ex, .inr (0, [.ref ey, .int xs])), (ey, .inl (G.2.1, 4000, .inl xf)), (kh, .inr (1, [.ref kc, .ref ky, .int ks])), (kc, .inl (G.2.2.1, 16, .inl kfc)), (ky, .inl (G.2.2.1, Ny, .inl kfy))]) d_Expander_repeat_55 (g_Exp_number hl G h ex et ea eb ec ed ef er a5 en f5 N fr r_49 A (by first | assumption | omega (splitDisjunctions := false) | omega | decide) (by first | assumption | omega (splitDisjunctions := false) | omega | decide) (by first | assumption | omega (splitDisjunctions := false) | omega | decide) (by first | assumption | omega (splitDisjunctions := false) | omega | decide) (by first | assumption | omega (splitDisjunctions := false) | omega | decide) (by first | assumption | omega (splitDisjunctions := false) | omega | decide) (by first | assumption | omega (splitDisjunctions := false) | omega | decide) (by first | assumption | decide | omega) (by first | assumption | decide | omega)) rfl rfl [0, 1] [2, 3, 4, 5, 6] (by decide) rfl rfl rfl (by decide) (by decide) k_634 rfl k_121 k_631 k_633 k_17 ⟨rfl, hy_Expander_number⟩ (by decide) rfl rfl (Nat.le_of_ble_eq_true rfl) (by decide) (fun v9 u54 ch53 => ?_)
      obtain ⟨r_55, a2__56, f2__57⟩ := u54
      obtain ⟨ech53, ch53⟩ := ch53
      have ech53 : v9 = some (.int r_55) := ech53
      subst ech53
      obtain ⟨fh58, fh59, fh60, fh61, fh62, fh63, fh64, fh65, fh66⟩ : (0 ≤ r_55.toInt) ∧ (r_55.toInt < p2 r_49.toInt) ∧ (r_55.toInt ≤ 65535) ∧ (a5.toInt ≤ a2__56.toInt) ∧ (a2__56.toInt ≤ en.toInt) ∧ (0 ≤ f2__57.toInt) ∧ (f5.toInt ≠ 0 → f2__57.toInt ≠ 0) ∧ (nu_w A en.toInt f5.toInt a5.toInt r_49.toInt = oc_ f2__57.toInt r_55.toInt a2__56.toInt) ∧ (f2__57.toInt = 0 → a2__56.toInt = a5.toInt + r_49.toInt) := ch53
      have n2F := fh65
      rw [dbF] at n2F
      refine pb_eq (pc' := 58) (lo' := [(3, .int qL), (4, .int d), (0, .ref h), (1, .int k), (2, .ref kh)]) (rest' := [.int r_55, .int r_43]) (ws' := [(ex, .inr (0, [.ref ey, .int xs])), (ey, .inl (G.2.1, 4000, .inl xf)), (kh, .inr (1, [.ref kc, .ref ky, .int ks])), (kc, .inl (G.2.2.1, 16, .inl kfc)), (ky, .inl (G.2.2.1, Ny, .inl kfy)), (h, .inr (5, [.ref ex, .ref et, .ref ea, .ref eb, .ref ec, .ref ed, .ref ef, .ref er, .int a2__56, .int en, .int f2__57])), (er, .inl (G.2.1, N, .inl fr))]) ?_
      refine pb_iadd (pc := 58) d_Expander_repeat_58 ?_
      refine pb_topi (fun i67 ei67 => ?_)
      try have ti67 : i67.toInt = r_43.toInt + r_55.toInt := t2_add ei67 rfl rfl (by omega)
      refine pb_istore (pc := 59) (lo' := [(5, .int i67), (3, .int qL), (4, .int d), (0, .ref h), (1, .int k), (2, .ref kh)]) d_Expander_repeat_59 (by decide) rfl ?_
      have hJ79_68 : ∀ (f7 : Int32) (a7 : Int32) (D7 : Int32), (0 ≤ f7.toInt) → (fl.toInt ≠ 0 → f7.toInt ≠ 0) → (at_.toInt ≤ a7.toInt) → (a7.toInt ≤ en.toInt) → (1 ≤ D7.toInt) → (f7.toInt = 0 → D7.toInt ≤ xs.toInt) → (rp_f A en.toInt L nL xs.toInt (sq xf 0 xs.toInt) k.toInt fl.toInt at_.toInt = rp_5 xs.toInt (sq xf 0 xs.toInt) f7.toInt a7.toInt qL.toInt D7.toInt) → pb_P l G M i_Expander_repeat 79 [(3, .int qL), (5, .int D7), (0, .ref h), (1, .int k), (2, .ref kh)] [] [(h, .inr (5, [.ref ex, .ref et, .ref ea, .ref eb, .ref ec, .ref ed, .ref ef, .ref er, .int a7, .int en, .int f7])), (er, .inl (G.2.1, N, .inl fr)), (ex, .inr (0, [.ref ey, .int xs])), (ey, .inl (G.2.1, 4000, .inl xf)), (kh, .inr (1, [.ref kc, .ref ky, .int ks])), (kc, .inl (G.2.2.1, 16, .inl kfc)), (ky, .inl (G.2.2.1, Ny, .inl kfy))] 0 0 := by
        intro f7 a7 D7 l0 l1 l2 l3 l4 l5 l6
        have hJ100_69 : ∀ (f8 : Int32), (0 ≤ f8.toInt) → (fl.toInt ≠ 0 → f8.toInt ≠ 0) → (f8.toInt = 0 → D7.toInt ≤ xs.toInt) → (f8.toInt = 0 → qL.toInt ≤ 4000 - xs.toInt) → (rp_f A en.toInt L nL xs.toInt (sq xf 0 xs.toInt) k.toInt fl.toInt at_.toInt = rp_6 xs.toInt (sq xf 0 xs.toInt) f8.toInt a7.toInt qL.toInt D7.toInt) → pb_P l G M i_Expander_repeat 100 [(3, .int qL), (5, .int D7), (0, .ref h), (1, .int k), (2, .ref kh)] [] [(h, .inr (5, [.ref ex, .ref et, .ref ea, .ref eb, .ref ec, .ref ed, .ref ef, .ref er, .int a7, .int en, .int f8])), (er, .inl (G.2.1, N, .inl fr)), (ex, .inr (0, [.ref ey, .int xs])), (ey, .inl (G.2.1, 4000, .inl xf)), (kh, .inr (1, [.ref kc, .ref ky, .int ks])), (kc, .inl (G.2.2.1, 16, .inl kfc)), (ky, .inl (G.2.2.1, Ny, .inl kfy))] 0 0 := by
          intro f8 m0 m1 m2 m3 m4
          refine pb_iconst (pc := 100) (v := 0) d_Expander_repeat_100 (by decide) ?_
          refine pb_istore (pc := 101) (lo' := [(6, .int 0), (3, .int qL), (5, .int D7), (0, .ref h), (1, .int k), (2, .ref kh)]) d_Expander_repeat_101 (by decide) rfl ?_
          have hL103_70 : ∀ (N9 : Nat) (n : Int32) (s9 : Int32) (x9 : Nat → Int32), (sb_Fit x9) → (0 ≤ n.toInt) → (s9.toInt = xs.toInt + n.toInt) → (s9.toInt ≤ 4000) → (n.toInt ≤ qL.toInt ∨ n.toInt = 0) → (f8.toInt = 0 → cp_ D7.toInt (qL.toInt - n.toInt).toNat s9.toInt (sq x9 0 s9.toInt) = cp_ D7.toInt qL.toInt.toNat xs.toInt (sq xf 0 xs.toInt)) → ((qL.toInt - n.toInt).toNat) < N9 → pb_P l G M i_Expander_repeat 103 [(6, .int n), (3, .int qL), (5, .int D7), (0, .ref h), (1, .int k), (2, .ref kh)] [] [(h, .inr (5, [.ref ex, .ref et, .ref ea, .ref eb, .ref ec, .ref ed, .ref ef, .ref er, .int a7, .int en, .int f8])), (er, .inl (G.2.1, N, .inl fr)), (ex, .inr (0, [.ref ey, .int s9])), (ey, .inl (G.2.1, 4000, .inl x9)), (kh, .inr (1, [.ref kc, .ref ky, .int ks])), (kc, .inl (G.2.2.1, 16, .inl kfc)), (ky, .inl (G.2.2.1, Ny, .inl kfy))] 0 0 := by
            intro N9
            induction N9 with
            | zero => intro n s9 x9 F_x9 n0 n1 n2 n4 n3 hm9; exact absurd hm9 (Nat.not_lt_zero _)
            | succ N9 ih103 =>
              intro n s9 x9 F_x9 n0 n1 n2 n4 n3 hm9
              refine pb_iload (pc := 103) d_Expander_repeat_103 0 rfl ?_
              refine pb_iload_n (pc := 105) d_Expander_repeat_105 1 rfl rfl ?_
              refine pb_icmp_ge (pc := 106) (tgt := 147) d_Expander_repeat_106 (by decide) (fun w71 => ?_) (fun w71 => ?_)
              · have tw71 : qL.toInt ≤ n.toInt := (ti_le rfl rfl).mp w71
                exact pb_vret (pc := 147) hQ d_Expander_repeat_147 rfl (a7, f8, s9, x9) ⟨rfl, (by (try dsimp only); first | done | assumption | omega (splitDisjunctions := false) | omega | decide), (by (try dsimp only); first | done | assumption | omega (splitDisjunctions := false) | omega | decide), (by (try dsimp only); first | done | assumption | omega (splitDisjunctions := false) | omega | decide), (by (try dsimp only); first | done | assumption | omega (splitDisjunctions := false) | omega | decide), (by (try dsimp only); first | done | assumption | omega (splitDisjunctions := false) | omega | decide), (by (try dsimp only); first | done | assumption | omega (splitDisjunctions := false) | omega | decide), (show rp_f A en.toInt L nL xs.toInt (sq xf 0 xs.toInt) k.toInt fl.toInt at_.toInt = oz_ f8.toInt a7.toInt s9.toInt (sq x9 0 s9.toInt) from (m4.trans (rp_6g (fun q9 => by omega) (fun q9 => by have q8 := n3 q9; rw [show (qL.toInt - n.toInt).toNat = 0 by omega] at q8; exact q8)))), F_x9⟩ [0, 1, 2, 3, 4, 5, 6] (by decide) rfl rfl (by decide) (by decide)
              · have tw71 : ¬ qL.toInt ≤ n.toInt := fun z9 => w71 ((ti_le rfl rfl).mpr z9)
                refine pb_aload_n (pc := 109) d_Expander_repeat_109 3 rfl rfl ?_
                refine pb_get (pc := 110) d_Expander_repeat_110 0 10 rfl rfl (by decide) in_Expander k_260 rfl ?_
                refine pb_if_ne (pc := 113) (tgt := 147) d_Expander_repeat_113 (by decide) (fun w72 => ?_) (fun w72 => ?_)
                · have tw72 : ¬ f8.toInt = 0 := fun z9 => w72 ((ti_eq rfl (by decide)).mpr z9)
                  exact pb_vret (pc := 147) hQ d_Expander_repeat_147 rfl (a7, f8, s9, x9) ⟨rfl, (by (try dsimp only); first | done | assumption | omega (splitDisjunctions := false) | omega | decide), (by (try dsimp only); first | done | assumption | omega (splitDisjunctions := false) | omega | decide), (by (try dsimp only); first | done | assumption | omega (splitDisjunctions := false) | omega | decide), (by (try dsimp only); first | done | assumption | omega (splitDisjunctions := false) | omega | decide), (by (try dsimp only); first | done | assumption | omega (splitDisjunctions := false) | omega | decide), (by (try dsimp only); first | done | assumption | omega (splitDisjunctions := false) | omega | decide), (show rp_f A en.toInt L nL xs.toInt (sq xf 0 xs.toInt) k.toInt fl.toInt at_.toInt = oz_ f8.toInt a7.toInt s9.toInt (sq x9 0 s9.toInt) from (m4.trans (rp_6g (fun q9 => by omega) (fun q9 => by have q8 := n3 q9; rw [show (qL.toInt - n.toInt).toNat = 0 by omega] at q8; exact q8)))), F_x9⟩ [0, 1, 2, 3, 4, 5, 6] (by decide) rfl rfl (by decide) (by decide)
                · have tw72 : f8.toInt = 0 := (ti_eq rfl (by decide)).mp w72
                  refine pb_aload_n (pc := 116) d_Expander_repeat_116 3 rfl rfl ?_
                  refine pb_get (pc := 117) d_Expander_repeat_117 0 0 rfl rfl (by decide) in_Expander k_248 rfl ?_
                  refine pb_aload_n (pc := 120) d_Expander_repeat_120 3 rfl rfl ?_
                  refine pb_get (pc := 121) d_Expander_repeat_121 0 0 rfl rfl (by decide) in_Expander k_248 rfl ?_
                  refine pb_getN (pc := 124) d_Expander_repeat_124 2 0 rfl rfl (by decide) in_Row k_160 rfl ?_
                  refine pb_aload_n (pc := 127) d_Expander_repeat_127 3 rfl rfl ?_
                  refine pb_get (pc := 128) d_Expander_repeat_128 0 0 rfl rfl (by decide) in_Expander k_248 rfl ?_
                  refine pb_getN (pc := 131) d_Expander_repeat_131 2 1 rfl rfl (by decide) in_Row k_166 rfl ?_
                  refine pb_iload (pc := 134) d_Expander_repeat_134 2 rfl ?_
                  refine pb_isub (pc := 136) d_Expander_repeat_136 ?_
                  refine pb_topi (fun i73 ei73 => ?_)
                  try have ti73 : i73.toInt = s9.toInt - D7.toInt := t2_sub ei73 rfl rfl (by omega)
                  refine pb_bald (pc := 137) d_Expander_repeat_137 3 rfl (vp_in_iff.mpr (by omega)) ?_
                  refine pb_topi (fun i74 ei74 => ?_)
                  have xi74 : i74 = gr x9 (s9.toInt - D7.toInt) := gr_ld ei74 (by omega)
                  have yi74 : i74.toInt = gx x9 (s9.toInt - D7.toInt) := congrArg Int32.toInt xi74
                  have ti74 : -128 ≤ i74.toInt ∧ i74.toInt ≤ 127 := ti_fit (F_x9 _) ei74
                  refine pb_callV (pc := 138) (I := i_Expander_repeat) (qb := 2) (ci := 0) (nA := 1) (rest := []) (wr := [(h, .inr (5, [.ref ex, .ref et, .ref ea, .ref eb, .ref ec, .ref ed, .ref ef, .ref er, .int a7, .int en, .int f8])), (er, .inl (G.2.1, N, .inl fr)), (kh, .inr (1, [.ref kc, .ref ky, .int ks])), (kc, .inl (G.2.2.1, 16, .inl kfc)), (ky, .inl (G.2.2.1, Ny, .inl kfy))]) d_Expander_repeat_138 (g_Row_putByte hl G ex ey 4000 x9 s9 i74 (by first | assumption | omega (splitDisjunctions := false) | omega | decide) (by first | assumption | omega (splitDisjunctions := false) | omega | decide) (by first | assumption | omega (splitDisjunctions := false) | omega | decide) F_x9) rfl rfl [2, 3] [0, 1, 4, 5, 6] (by decide) rfl rfl rfl (by decide) (by decide) k_555 rfl k_119 k_648 k_553 k_554 ⟨rfl, hy_Row_putByte⟩ (by decide) rfl rfl (Nat.le_of_ble_eq_true rfl) (by decide) (fun v9 u76 ch75 => ?_)
                  obtain ⟨s_77, f_78⟩ := u76
                  obtain ⟨ech75, ch75⟩ := ch75
                  have ech75 : v9 = none := ech75
                  subst ech75
                  obtain ⟨fh79, fh80, fh81⟩ : (s_77.toInt = s9.toInt + 1) ∧ (∀ j : Int, 0 ≤ j → gr f_78 j = if j = s9.toInt then i74.toInt8.toInt32 else gr x9 j) ∧ (sb_Fit f_78) := ch75
                  have pbF := fh80
                  refine pb_eq (pc' := 141) (lo' := [(6, .int n), (3, .int qL), (5, .int D7), (0, .ref h), (1, .int k), (2, .ref kh)]) (rest' := []) (ws' := [(h, .inr (5, [.ref ex, .ref et, .ref ea, .ref eb, .ref ec, .ref ed, .ref ef, .ref er, .int a7, .int en, .int f8])), (er, .inl (G.2.1, N, .inl fr)), (kh, .inr (1, [.ref kc, .ref ky, .int ks])), (kc, .inl (G.2.2.1, 16, .inl kfc)), (ky, .inl (G.2.2.1, Ny, .inl kfy)), (ex, .inr (0, [.ref ey, .int s_77])), (ey, .inl (G.2.1, 4000, .inl f_78))]) ?_
                  refine pb_iincN (pc := 141) (c := 1) d_Expander_repeat_141 0 rfl (by decide) (by decide) (fun i82 ei82 => ?_)
                  have ti82 : i82.toInt = n.toInt + 1 := t2_add ei82 rfl (by decide) (by omega)
                  refine pb_eq (pc' := 144) (lo' := [(6, .int i82), (3, .int qL), (5, .int D7), (0, .ref h), (1, .int k), (2, .ref kh)]) (rest' := []) (ws' := [(h, .inr (5, [.ref ex, .ref et, .ref ea, .ref eb, .ref ec, .ref ed, .ref ef, .ref er, .int a7, .int en, .int f8])), (er, .inl (G.2.1, N, .inl fr)), (kh, .inr (1, [.ref kc, .ref ky, .int ks])), (kc, .inl (G.2.2.1, 16, .inl kfc)), (ky, .inl (G.2.2.1, Ny, .inl kfy)), (ex, .inr (0, [.ref ey, .int s_77])), (ey, .inl (G.2.1, 4000, .inl f_78))]) ?_
                  refine pb_goto (pc := 144) (tgt := 103) d_Expander_repeat_144 (by decide) ?_
                  refine pb_re (ws' := [(h, .inr (5, [.ref ex, .ref et, .ref ea, .ref eb, .ref ec, .ref ed, .ref ef, .ref er, .int a7, .int en, .int f8])), (er, .inl (G.2.1, N, .inl fr)), (ex, .inr (0, [.ref ey, .int s_77])), (ey, .inl (G.2.1, 4000, .inl f_78)), (kh, .inr (1, [.ref kc, .ref ky, .int ks])), (kc, .inl (G.2.2.1, 16, .inl kfc)), (ky, .inl (G.2.2.1, Ny, .inl kfy))]) (lo' := [(6, .int i82), (3, .int qL), (5, .int D7), (0, .ref h), (1, .int k), (2, .ref kh)]) [0, 1, 5, 6, 2, 3, 4] [0, 1, 2, 3, 4, 5] (by decide) rfl rfl rfl ?_
                  exact ih103 i82 s_77 f_78 fh81 (by first | assumption | omega (splitDisjunctions := false) | omega | decide) (by first | assumption | omega (splitDisjunctions := false) | omega | decide) (by first | assumption | omega (splitDisjunctions := false) | omega | decide) (by first | assumption | omega (splitDisjunctions := false) | omega | decide) (fun q9 => cp_st (n3 q9) (by omega) (by omega) (by omega) (sq_pu2 pbF (by omega) (by omega)) (by rw [bz_fit (by omega), sq_ld (by omega) (by omega)]; assumption)) (by omega)
          exact hL103_70 _ 0 xs xf (by first | assumption | decide | omega) (by first | assumption | omega (splitDisjunctions := false) | omega | decide) (by first | assumption | omega (splitDisjunctions := false) | omega | decide) (by first | assumption | omega (splitDisjunctions := false) | omega | decide) (by first | assumption | omega (splitDisjunctions := false) | omega | decide) (fun _ => by rw [show qL.toInt - (0 : Int32).toInt = qL.toInt by omega]) (Nat.lt_succ_self _)
        refine pb_iload_n (pc := 79) d_Expander_repeat_79 0 rfl rfl ?_
        refine pb_sipush (pc := 80) (v := 4000) d_Expander_repeat_80 (by decide) ?_
        refine pb_aload_n (pc := 83) d_Expander_repeat_83 2 rfl rfl ?_
        refine pb_get (pc := 84) d_Expander_repeat_84 0 0 rfl rfl (by decide) in_Expander k_248 rfl ?_
        refine pb_getN (pc := 87) d_Expander_repeat_87 2 1 rfl rfl (by decide) in_Row k_166 rfl ?_
        refine pb_isub (pc := 90) d_Expander_repeat_90 ?_
        refine pb_topi (fun i83 ei83 => ?_)
        try have ti83 : i83.toInt = 4000 - xs.toInt := t2_sub ei83 (by decide) rfl (by omega)
        refine pb_icmp_le (pc := 91) (tgt := 100) d_Expander_repeat_91 (by decide) (fun w84 => ?_) (fun w84 => ?_)
        · have tw84 : qL.toInt ≤ i83.toInt := (ti_le rfl rfl).mp w84
          exact hJ100_69 f7 (by first | assumption | omega (splitDisjunctions := false) | omega | decide) (by first | assumption | omega (splitDisjunctions := false) | omega | decide) (by first | assumption | omega (splitDisjunctions := false) | omega | decide) (by first | assumption | omega (splitDisjunctions := false) | omega | decide) (l6.trans (rp_5g (by omega)))
        · have tw84 : ¬ qL.toInt ≤ i83.toInt := fun z9 => w84 ((ti_le rfl rfl).mpr z9)
          refine pb_aload_n (pc := 94) d_Expander_repeat_94 2 rfl rfl ?_
          refine pb_bipush (pc := 95) (v := 7) d_Expander_repeat_95 (by decide) ?_
          refine pb_callV (pc := 97) (I := i_Expander_repeat) (qb := 0) (ci := 5) (nA := 1) (rest := []) (wr := [(er, .inl (G.2.1, N, .inl fr)), (ex, .inr (0, [.ref ey, .int xs])), (ey, .inl (G.2.1, 4000, .inl xf)), (kh, .inr (1, [.ref kc, .ref ky, .int ks])), (kc, .inl (G.2.2.1, 16, .inl kfc)), (ky, .inl (G.2.2.1, Ny, .inl kfy))]) d_Expander_repeat_97 (g_Exp_fail hl G h ex et ea eb ec ed ef er a7 en f7 7 (by first | assumption | omega (splitDisjunctions := false) | omega | decide) (by first | assumption | omega (splitDisjunctions := false) | omega | decide)) rfl rfl [0] [1, 2, 3, 4, 5, 6] (by decide) rfl rfl rfl (by decide) (by decide) k_643 rfl k_121 k_640 k_642 k_19 ⟨rfl, hy_Expander_fail⟩ (by decide) rfl rfl (Nat.le_of_ble_eq_true rfl) (by decide) (fun v9 u86 ch85 => ?_)
          obtain ⟨f2__87, rfl⟩ : ∃ z9, z9 = u86 := ⟨_, rfl⟩
          obtain ⟨ech85, ch85⟩ := ch85
          have ech85 : v9 = none := ech85
          subst ech85
          obtain ⟨fh88, fh89⟩ : (0 < f2__87.toInt) ∧ (f7.toInt = 0 ∧ f2__87.toInt = (7 : Int32).toInt ∨ f7.toInt ≠ 0 ∧ f2__87.toInt = f7.toInt) := ch85
          refine pb_eq (pc' := 100) (lo' := [(3, .int qL), (5, .int D7), (0, .ref h), (1, .int k), (2, .ref kh)]) (rest' := []) (ws' := [(er, .inl (G.2.1, N, .inl fr)), (ex, .inr (0, [.ref ey, .int xs])), (ey, .inl (G.2.1, 4000, .inl xf)), (kh, .inr (1, [.ref kc, .ref ky, .int ks])), (kc, .inl (G.2.2.1, 16, .inl kfc)), (ky, .inl (G.2.2.1, Ny, .inl kfy)), (h, .inr (5, [.ref ex, .ref et, .ref ea, .ref eb, .ref ec, .ref ed, .ref ef, .ref er, .int a7, .int en, .int f2__87]))]) ?_
          refine pb_re (ws' := [(h, .inr (5, [.ref ex, .ref et, .ref ea, .ref eb, .ref ec, .ref ed, .ref ef, .ref er, .int a7, .int en, .int f2__87])), (er, .inl (G.2.1, N, .inl fr)), (ex, .inr (0, [.ref ey, .int xs])), (ey, .inl (G.2.1, 4000, .inl xf)), (kh, .inr (1, [.ref kc, .ref ky, .int ks])), (kc, .inl (G.2.2.1, 16, .inl kfc)), (ky, .inl (G.2.2.1, Ny, .inl kfy))]) (lo' := [(3, .int qL), (5, .int D7), (0, .ref h), (1, .int k), (2, .ref kh)]) [6, 0, 1, 2, 3, 4, 5] [0, 1, 2, 3, 4] (by decide) rfl rfl rfl ?_
          exact hJ100_69 f2__87 (by first | assumption | omega (splitDisjunctions := false) | omega | decide) (by first | assumption | omega (splitDisjunctions := false) | omega | decide) (by first | assumption | omega (splitDisjunctions := false) | omega | decide) (by first | assumption | omega (splitDisjunctions := false) | omega | decide) (l6.trans (rp_5g (by omega)))
      refine pb_iload (pc := 61) d_Expander_repeat_61 0 rfl ?_
      refine pb_aload_n (pc := 63) d_Expander_repeat_63 3 rfl rfl ?_
      refine pb_get (pc := 64) d_Expander_repeat_64 5 0 rfl rfl (by decide) in_Expander k_248 rfl ?_
      refine pb_getN (pc := 67) d_Expander_repeat_67 0 1 rfl rfl (by decide) in_Row k_166 rfl ?_
      refine pb_icmp_le (pc := 70) (tgt := 79) d_Expander_repeat_70 (by decide) (fun w90 => ?_) (fun w90 => ?_)
      · have tw90 : i67.toInt ≤ xs.toInt := (ti_le rfl rfl).mp w90
        refine pb_re (ws' := [(h, .inr (5, [.ref ex, .ref et, .ref ea, .ref eb, .ref ec, .ref ed, .ref ef, .ref er, .int a2__56, .int en, .int f2__57])), (er, .inl (G.2.1, N, .inl fr)), (ex, .inr (0, [.ref ey, .int xs])), (ey, .inl (G.2.1, 4000, .inl xf)), (kh, .inr (1, [.ref kc, .ref ky, .int ks])), (kc, .inl (G.2.2.1, 16, .inl kfc)), (ky, .inl (G.2.2.1, Ny, .inl kfy))]) (lo' := [(3, .int qL), (5, .int i67), (0, .ref h), (1, .int k), (2, .ref kh)]) [5, 6, 0, 1, 2, 3, 4] [1, 0, 3, 4, 5] (by decide) rfl rfl rfl ?_
        exact hJ79_68 f2__57 a2__56 i67 (by first | assumption | omega (splitDisjunctions := false) | omega | decide) (by first | assumption | omega (splitDisjunctions := false) | omega | decide) (by first | assumption | omega (splitDisjunctions := false) | omega | decide) (by first | assumption | omega (splitDisjunctions := false) | omega | decide) (by first | assumption | omega (splitDisjunctions := false) | omega | decide) (by first | assumption | omega (splitDisjunctions := false) | omega | decide) ((k6.trans (rp_3g n2F (fun q9 => by have q8 := ldF (by omega); omega))).trans (rp_4g (by omega)))
      · have tw90 : ¬ i67.toInt ≤ xs.toInt := fun z9 => w90 ((ti_le rfl rfl).mpr z9)
        refine pb_aload_n (pc := 73) d_Expander_repeat_73 3 rfl rfl ?_
        refine pb_bipush (pc := 74) (v := 6) d_Expander_repeat_74 (by decide) ?_
        refine pb_callV (pc := 76) (I := i_Expander_repeat) (qb := 5) (ci := 5) (nA := 1) (rest := []) (wr := [(ex, .inr (0, [.ref ey, .int xs])), (ey, .inl (G.2.1, 4000, .inl xf)), (kh, .inr (1, [.ref kc, .ref ky, .int ks])), (kc, .inl (G.2.2.1, 16, .inl kfc)), (ky, .inl (G.2.2.1, Ny, .inl kfy)), (er, .inl (G.2.1, N, .inl fr))]) d_Expander_repeat_76 (g_Exp_fail hl G h ex et ea eb ec ed ef er a2__56 en f2__57 6 (by first | assumption | omega (splitDisjunctions := false) | omega | decide) (by first | assumption | omega (splitDisjunctions := false) | omega | decide)) rfl rfl [5] [0, 1, 2, 3, 4, 6] (by decide) rfl rfl rfl (by decide) (by decide) k_643 rfl k_121 k_640 k_642 k_19 ⟨rfl, hy_Expander_fail⟩ (by decide) rfl rfl (Nat.le_of_ble_eq_true rfl) (by decide) (fun v9 u92 ch91 => ?_)
        obtain ⟨f2__93, rfl⟩ : ∃ z9, z9 = u92 := ⟨_, rfl⟩
        obtain ⟨ech91, ch91⟩ := ch91
        have ech91 : v9 = none := ech91
        subst ech91
        obtain ⟨fh94, fh95⟩ : (0 < f2__93.toInt) ∧ (f2__57.toInt = 0 ∧ f2__93.toInt = (6 : Int32).toInt ∨ f2__57.toInt ≠ 0 ∧ f2__93.toInt = f2__57.toInt) := ch91
        refine pb_eq (pc' := 79) (lo' := [(5, .int i67), (3, .int qL), (4, .int d), (0, .ref h), (1, .int k), (2, .ref kh)]) (rest' := []) (ws' := [(ex, .inr (0, [.ref ey, .int xs])), (ey, .inl (G.2.1, 4000, .inl xf)), (kh, .inr (1, [.ref kc, .ref ky, .int ks])), (kc, .inl (G.2.2.1, 16, .inl kfc)), (ky, .inl (G.2.2.1, Ny, .inl kfy)), (er, .inl (G.2.1, N, .inl fr)), (h, .inr (5, [.ref ex, .ref et, .ref ea, .ref eb, .ref ec, .ref ed, .ref ef, .ref er, .int a2__56, .int en, .int f2__93]))]) ?_
        refine pb_re (ws' := [(h, .inr (5, [.ref ex, .ref et, .ref ea, .ref eb, .ref ec, .ref ed, .ref ef, .ref er, .int a2__56, .int en, .int f2__93])), (er, .inl (G.2.1, N, .inl fr)), (ex, .inr (0, [.ref ey, .int xs])), (ey, .inl (G.2.1, 4000, .inl xf)), (kh, .inr (1, [.ref kc, .ref ky, .int ks])), (kc, .inl (G.2.2.1, 16, .inl kfc)), (ky, .inl (G.2.2.1, Ny, .inl kfy))]) (lo' := [(3, .int qL), (5, .int i67), (0, .ref h), (1, .int k), (2, .ref kh)]) [6, 5, 0, 1, 2, 3, 4] [1, 0, 3, 4, 5] (by decide) rfl rfl rfl ?_
        exact hJ79_68 f2__93 a2__56 i67 (by first | assumption | omega (splitDisjunctions := false) | omega | decide) (by first | assumption | omega (splitDisjunctions := false) | omega | decide) (by first | assumption | omega (splitDisjunctions := false) | omega | decide) (by first | assumption | omega (splitDisjunctions := false) | omega | decide) (by first | assumption | omega (splitDisjunctions := false) | omega | decide) (by first | assumption | omega (splitDisjunctions := false) | omega | decide) ((k6.trans (rp_3g n2F (fun q9 => by have q8 := ldF (by omega); omega))).trans (rp_4g (by omega)))
    refine pb_iload (pc := 32) d_Expander_repeat_32 0 rfl ?_
    refine pb_bipush (pc := 34) (v := 30) d_Expander_repeat_34 (by decide) ?_
    refine pb_icmp_lt (pc := 36) (tgt := 44) d_Expander_repeat_36 (by decide) (fun w96 => ?_) (fun w96 => ?_)
    · have tw96 : r_29.toInt < 30 := (ti_lt rfl (by decide)).mp w96
      refine pb_re (ws' := [(h, .inr (5, [.ref ex, .ref et, .ref ea, .ref eb, .ref ec, .ref ed, .ref ef, .ref er, .int a2__30, .int en, .int f2__31])), (er, .inl (G.2.1, N, .inl fr)), (ex, .inr (0, [.ref ey, .int xs])), (ey, .inl (G.2.1, 4000, .inl xf)), (kh, .inr (1, [.ref kc, .ref ky, .int ks])), (kc, .inl (G.2.2.1, 16, .inl kfc)), (ky, .inl (G.2.2.1, Ny, .inl kfy))]) (lo' := [(3, .int i26), (4, .int r_29), (0, .ref h), (1, .int k), (2, .ref kh)]) [2, 3, 0, 1, 4, 5, 6] [1, 0, 2, 3, 4] (by decide) rfl rfl rfl ?_
      exact hJ44_40 f2__31 a2__30 i26 r_29 (by first | assumption | omega (splitDisjunctions := false) | omega | decide) (by first | assumption | omega (splitDisjunctions := false) | omega | decide) (by first | assumption | omega (splitDisjunctions := false) | omega | decide) (by first | assumption | omega (splitDisjunctions := false) | omega | decide) (by first | assumption | omega (splitDisjunctions := false) | omega | decide) (by first | assumption | omega (splitDisjunctions := false) | omega | decide) (by first | assumption | omega (splitDisjunctions := false) | omega | decide) (by first | assumption | omega (splitDisjunctions := false) | omega | decide) ((j2.trans (rp_1g nwF (fun _ => by omega))).trans (rp_2g swF (by omega)))
    · have tw96 : ¬ r_29.toInt < 30 := fun z9 => w96 ((ti_lt rfl (by decide)).mpr z9)
      refine pb_aload_n (pc := 39) d_Expander_repeat_39 2 rfl rfl ?_
      refine pb_iconst (pc := 40) (v := 5) d_Expander_repeat_40 (by decide) ?_
      refine pb_callV (pc := 41) (I := i_Expander_repeat) (qb := 2) (ci := 5) (nA := 1) (rest := []) (wr := [(ex, .inr (0, [.ref ey, .int xs])), (ey, .inl (G.2.1, 4000, .inl xf)), (er, .inl (G.2.1, N, .inl fr)), (kh, .inr (1, [.ref kc, .ref ky, .int ks])), (kc, .inl (G.2.2.1, 16, .inl kfc)), (ky, .inl (G.2.2.1, Ny, .inl kfy))]) d_Expander_repeat_41 (g_Exp_fail hl G h ex et ea eb ec ed ef er a2__30 en f2__31 5 (by first | assumption | omega (splitDisjunctions := false) | omega | decide) (by first | assumption | omega (splitDisjunctions := false) | omega | decide)) rfl rfl [2] [0, 1, 3, 4, 5, 6] (by decide) rfl rfl rfl (by decide) (by decide) k_643 rfl k_121 k_640 k_642 k_19 ⟨rfl, hy_Expander_fail⟩ (by decide) rfl rfl (Nat.le_of_ble_eq_true rfl) (by decide) (fun v9 u98 ch97 => ?_)
      obtain ⟨f2__99, rfl⟩ : ∃ z9, z9 = u98 := ⟨_, rfl⟩
      obtain ⟨ech97, ch97⟩ := ch97
      have ech97 : v9 = none := ech97
      subst ech97
      obtain ⟨fh100, fh101⟩ : (0 < f2__99.toInt) ∧ (f2__31.toInt = 0 ∧ f2__99.toInt = (5 : Int32).toInt ∨ f2__31.toInt ≠ 0 ∧ f2__99.toInt = f2__31.toInt) := ch97
      refine pb_eq (pc' := 44) (lo' := [(4, .int r_29), (3, .int i26), (0, .ref h), (1, .int k), (2, .ref kh)]) (rest' := []) (ws' := [(ex, .inr (0, [.ref ey, .int xs])), (ey, .inl (G.2.1, 4000, .inl xf)), (er, .inl (G.2.1, N, .inl fr)), (kh, .inr (1, [.ref kc, .ref ky, .int ks])), (kc, .inl (G.2.2.1, 16, .inl kfc)), (ky, .inl (G.2.2.1, Ny, .inl kfy)), (h, .inr (5, [.ref ex, .ref et, .ref ea, .ref eb, .ref ec, .ref ed, .ref ef, .ref er, .int a2__30, .int en, .int f2__99]))]) ?_
      refine pb_re (ws' := [(h, .inr (5, [.ref ex, .ref et, .ref ea, .ref eb, .ref ec, .ref ed, .ref ef, .ref er, .int a2__30, .int en, .int f2__99])), (er, .inl (G.2.1, N, .inl fr)), (ex, .inr (0, [.ref ey, .int xs])), (ey, .inl (G.2.1, 4000, .inl xf)), (kh, .inr (1, [.ref kc, .ref ky, .int ks])), (kc, .inl (G.2.2.1, 16, .inl kfc)), (ky, .inl (G.2.2.1, Ny, .inl kfy))]) (lo' := [(3, .int i26), (4, .int r_29), (0, .ref h), (1, .int k), (2, .ref kh)]) [6, 2, 0, 1, 3, 4, 5] [1, 0, 2, 3, 4] (by decide) rfl rfl rfl ?_
      exact hJ44_40 f2__99 a2__30 i26 r_29 (by first | assumption | omega (splitDisjunctions := false) | omega | decide) (by first | assumption | omega (splitDisjunctions := false) | omega | decide) (by first | assumption | omega (splitDisjunctions := false) | omega | decide) (by first | assumption | omega (splitDisjunctions := false) | omega | decide) (by first | assumption | omega (splitDisjunctions := false) | omega | decide) (by first | assumption | omega (splitDisjunctions := false) | omega | decide) (by first | assumption | omega (splitDisjunctions := false) | omega | decide) (by first | assumption | omega (splitDisjunctions := false) | omega | decide) ((j2.trans (rp_1g nwF (fun _ => by omega))).trans (rp_2g swF (by omega)))
  refine pb_iload_n (pc := 0) d_Expander_repeat_0 1 rfl rfl ?_
  refine pb_bipush (pc := 1) (v := 28) d_Expander_repeat_1 (by decide) ?_
  refine pb_icmp_le (pc := 3) (tgt := 11) d_Expander_repeat_3 (by decide) (fun w102 => ?_) (fun w102 => ?_)
  · have tw102 : k.toInt ≤ 28 := (ti_le rfl (by decide)).mp w102
    exact hJ11_1 fl (by first | assumption | omega (splitDisjunctions := false) | omega | decide) (by first | assumption | omega (splitDisjunctions := false) | omega | decide) (by first | assumption | omega (splitDisjunctions := false) | omega | decide) (rp_fg (by omega))
  · have tw102 : ¬ k.toInt ≤ 28 := fun z9 => w102 ((ti_le rfl (by decide)).mpr z9)
    refine pb_aload_n (pc := 6) d_Expander_repeat_6 0 rfl rfl ?_
    refine pb_iconst (pc := 7) (v := 5) d_Expander_repeat_7 (by decide) ?_
    refine pb_callV (pc := 8) (I := i_Expander_repeat) (qb := 0) (ci := 5) (nA := 1) (rest := []) (wr := [(er, .inl (G.2.1, N, .inl fr)), (ex, .inr (0, [.ref ey, .int xs])), (ey, .inl (G.2.1, 4000, .inl xf)), (kh, .inr (1, [.ref kc, .ref ky, .int ks])), (kc, .inl (G.2.2.1, 16, .inl kfc)), (ky, .inl (G.2.2.1, Ny, .inl kfy))]) d_Expander_repeat_8 (g_Exp_fail hl G h ex et ea eb ec ed ef er at_ en fl 5 (by first | assumption | omega (splitDisjunctions := false) | omega | decide) (by first | assumption | omega (splitDisjunctions := false) | omega | decide)) rfl rfl [0] [1, 2, 3, 4, 5, 6] (by decide) rfl rfl rfl (by decide) (by decide) k_643 rfl k_121 k_640 k_642 k_19 ⟨rfl, hy_Expander_fail⟩ (by decide) rfl rfl (Nat.le_of_ble_eq_true rfl) (by decide) (fun v9 u104 ch103 => ?_)
    obtain ⟨f2__105, rfl⟩ : ∃ z9, z9 = u104 := ⟨_, rfl⟩
    obtain ⟨ech103, ch103⟩ := ch103
    have ech103 : v9 = none := ech103
    subst ech103
    obtain ⟨fh106, fh107⟩ : (0 < f2__105.toInt) ∧ (fl.toInt = 0 ∧ f2__105.toInt = (5 : Int32).toInt ∨ fl.toInt ≠ 0 ∧ f2__105.toInt = fl.toInt) := ch103
    refine pb_eq (pc' := 11) (lo' := [(0, .ref h), (1, .int k), (2, .ref kh)]) (rest' := []) (ws' := [(er, .inl (G.2.1, N, .inl fr)), (ex, .inr (0, [.ref ey, .int xs])), (ey, .inl (G.2.1, 4000, .inl xf)), (kh, .inr (1, [.ref kc, .ref ky, .int ks])), (kc, .inl (G.2.2.1, 16, .inl kfc)), (ky, .inl (G.2.2.1, Ny, .inl kfy)), (h, .inr (5, [.ref ex, .ref et, .ref ea, .ref eb, .ref ec, .ref ed, .ref ef, .ref er, .int at_, .int en, .int f2__105]))]) ?_
    refine pb_re (ws' := [(h, .inr (5, [.ref ex, .ref et, .ref ea, .ref eb, .ref ec, .ref ed, .ref ef, .ref er, .int at_, .int en, .int f2__105])), (er, .inl (G.2.1, N, .inl fr)), (ex, .inr (0, [.ref ey, .int xs])), (ey, .inl (G.2.1, 4000, .inl xf)), (kh, .inr (1, [.ref kc, .ref ky, .int ks])), (kc, .inl (G.2.2.1, 16, .inl kfc)), (ky, .inl (G.2.2.1, Ny, .inl kfy))]) (lo' := [(0, .ref h), (1, .int k), (2, .ref kh)]) [6, 0, 1, 2, 3, 4, 5] [0, 1, 2] (by decide) rfl rfl rfl ?_
    exact hJ11_1 f2__105 (by first | assumption | omega (splitDisjunctions := false) | omega | decide) (by first | assumption | omega (splitDisjunctions := false) | omega | decide) (by first | assumption | omega (splitDisjunctions := false) | omega | decide) (rp_fg (by omega))

theorem d_Expander_readStored_0 : decode prog_3_method_4_code 0 = .ok (.aload_n 0, 1) := by decide +kernel
theorem d_Expander_readStored_1 : decode prog_3_method_4_code 1 = .ok (.aload_n 0, 1) := by decide +kernel
theorem d_Expander_readStored_2 : decode prog_3_method_4_code 2 = .ok (.getfield 58, 3) := by decide +kernel
theorem d_Expander_readStored_5 : decode prog_3_method_4_code 5 = .ok (.bipush 7, 2) := by decide +kernel
theorem d_Expander_readStored_7 : decode prog_3_method_4_code 7 = .ok (.iadd, 1) := by decide +kernel
theorem d_Expander_readStored_8 : decode prog_3_method_4_code 8 = .ok (.bipush 8, 2) := by decide +kernel
theorem d_Expander_readStored_10 : decode prog_3_method_4_code 10 = .ok (.idiv, 1) := by decide +kernel
theorem d_Expander_readStored_11 : decode prog_3_method_4_code 11 = .ok (.bipush 8, 2) := by decide +kernel
theorem d_Expander_readStored_13 : decode prog_3_method_4_code 13 = .ok (.imul, 1) := by decide +kernel
theorem d_Expander_readStored_14 : decode prog_3_method_4_code 14 = .ok (.putfield 58, 3) := by decide +kernel
theorem d_Expander_readStored_17 : decode prog_3_method_4_code 17 = .ok (.aload_n 0, 1) := by decide +kernel
theorem d_Expander_readStored_18 : decode prog_3_method_4_code 18 = .ok (.bipush 16, 2) := by decide +kernel
theorem d_Expander_readStored_20 : decode prog_3_method_4_code 20 = .ok (.invokevirtual 71, 3) := by decide +kernel
theorem d_Expander_readStored_23 : decode prog_3_method_4_code 23 = .ok (.istore_n 1, 1) := by decide +kernel
theorem d_Expander_readStored_42 : decode prog_3_method_4_code 42 = .ok (.iconst 0, 1) := by decide +kernel
theorem d_Expander_readStored_43 : decode prog_3_method_4_code 43 = .ok (.istore_n 2, 1) := by decide +kernel
theorem d_Expander_readStored_44 : decode prog_3_method_4_code 44 = .ok (.iload_n 2, 1) := by decide +kernel
theorem d_Expander_readStored_45 : decode prog_3_method_4_code 45 = .ok (.iload_n 1, 1) := by decide +kernel
theorem d_Expander_readStored_46 : decode prog_3_method_4_code 46 = .ok (.if_icmp .ge 26, 3) := by decide +kernel
theorem d_Expander_readStored_72 : decode prog_3_method_4_code 72 = .ok (.return_, 1) := by decide +kernel
theorem d_Expander_readStored_49 : decode prog_3_method_4_code 49 = .ok (.aload_n 0, 1) := by decide +kernel
theorem d_Expander_readStored_50 : decode prog_3_method_4_code 50 = .ok (.getfield 65, 3) := by decide +kernel
theorem d_Expander_readStored_53 : decode prog_3_method_4_code 53 = .ok (.ifCond .ne 19, 3) := by decide +kernel
theorem d_Expander_readStored_56 : decode prog_3_method_4_code 56 = .ok (.aload_n 0, 1) := by decide +kernel
theorem d_Expander_readStored_57 : decode prog_3_method_4_code 57 = .ok (.aload_n 0, 1) := by decide +kernel
theorem d_Expander_readStored_58 : decode prog_3_method_4_code 58 = .ok (.bipush 8, 2) := by decide +kernel
theorem d_Expander_readStored_60 : decode prog_3_method_4_code 60 = .ok (.invokevirtual 71, 3) := by decide +kernel
theorem d_Expander_readStored_63 : decode prog_3_method_4_code 63 = .ok (.invokevirtual 89, 3) := by decide +kernel
theorem k_644 : (Jvm.Cond.methodLink "PackageBook$Expander" (89 : Nat) ({ cls := "PackageBook$Expander", name := "putByte", desc := "(I)V" } : Jvm.MethodName)) ∈ uW := uW_of 644 (by decide +kernel) (by decide +kernel)
theorem k_647 : (Jvm.Cond.code ({ cls := "PackageBook$Expander", name := "putByte", desc := "(I)V" } : Jvm.MethodName) prog_3_method_15_code (2 : Nat) (Option.none : Option Jvm.ClassFile.FieldType)) ∈ uW := uW_of 647 (by decide +kernel) (by decide +kernel)
theorem k_646 : (Jvm.Cond.instanceMethod ({ cls := "PackageBook$Expander", name := "putByte", desc := "(I)V" } : Jvm.MethodName)) ∈ uW := uW_of 646 (by decide +kernel) (by decide +kernel)
theorem k_20 : Cond.selects "PackageBook$Expander" ⟨"PackageBook$Expander", "putByte", "(I)V"⟩ ⟨"PackageBook$Expander", "putByte", "(I)V"⟩ ∈ uW := uW_of 20 (by decide +kernel) (by decide +kernel)
theorem hy_Expander_putByte : (y_Expander_putByte).cls ≠ "java/lang/invoke/MethodHandle" ∧ (y_Expander_putByte).cls ≠ "java/lang/invoke/VarHandle" ∧ (parseMethodDescriptor (y_Expander_putByte).desc).map (fun d => d.parameters.length) = some 1 := by decide +kernel
theorem d_Expander_readStored_66 : decode prog_3_method_4_code 66 = .ok (.iinc 2 1, 3) := by decide +kernel
theorem d_Expander_readStored_69 : decode prog_3_method_4_code 69 = .ok (.goto (-25), 3) := by decide +kernel
theorem d_Expander_readStored_24 : decode prog_3_method_4_code 24 = .ok (.aload_n 0, 1) := by decide +kernel
theorem d_Expander_readStored_25 : decode prog_3_method_4_code 25 = .ok (.bipush 16, 2) := by decide +kernel
theorem d_Expander_readStored_27 : decode prog_3_method_4_code 27 = .ok (.invokevirtual 71, 3) := by decide +kernel
theorem d_Expander_readStored_30 : decode prog_3_method_4_code 30 = .ok (.ldc 88, 2) := by decide +kernel
theorem k_639 : (Jvm.Cond.constant "PackageBook$Expander" (88 : Nat) (65535 : Int32)) ∈ uW := uW_of 639 (by decide +kernel) (by decide +kernel)
theorem d_Expander_readStored_32 : decode prog_3_method_4_code 32 = .ok (.iload_n 1, 1) := by decide +kernel
theorem d_Expander_readStored_33 : decode prog_3_method_4_code 33 = .ok (.isub, 1) := by decide +kernel
theorem d_Expander_readStored_34 : decode prog_3_method_4_code 34 = .ok (.if_icmp .eq 8, 3) := by decide +kernel
theorem d_Expander_readStored_37 : decode prog_3_method_4_code 37 = .ok (.aload_n 0, 1) := by decide +kernel
theorem d_Expander_readStored_38 : decode prog_3_method_4_code 38 = .ok (.iconst 3, 1) := by decide +kernel
theorem d_Expander_readStored_39 : decode prog_3_method_4_code 39 = .ok (.invokevirtual 85, 3) := by decide +kernel
abbrev y_Expander_readStored : MethodName := ⟨"PackageBook$Expander", "readStored", "()V"⟩
abbrev i_Expander_readStored : pb_I := (y_Expander_readStored, prog_3_method_4_code, 3, (Option.none : Option Jvm.ClassFile.FieldType), [], { frames := 2, cells := 0, slots := 0, locals := 42 })
set_option maxRecDepth 100000 in
set_option maxHeartbeats 4000000 in
theorem g_Exp_readStored {l : Launch} (hl : l.stackTraces = false) (G : pb_G) (h : Nat) (ex : Nat) (et : Nat) (ea : Nat) (eb : Nat) (ec : Nat) (ed : Nat) (ef : Nat) (er : Nat) (at_ : Int32) (en : Int32) (fl : Int32) (N : Nat) (fr : Nat → Int32) (ey : Nat) (xf : Nat → Int32) (xs : Int32) (A : Int → Int32) (a0 : 0 ≤ at_.toInt) (a1 : at_.toInt ≤ en.toInt) (a2 : en.toInt ≤ 8 * N) (a3 : N ≤ 100000) (a4 : 0 ≤ fl.toInt) (a5 : en.toInt % 8 = 0) (b0 : 0 ≤ xs.toInt) (b1 : xs.toInt ≤ 4000) (hA : ∀ j : Int, 0 ≤ j → 8 * j < en.toInt → A j = gr fr j) (F_fr : sb_Fit fr) (F_xf : sb_Fit xf) : Cn l G i_Expander_readStored [.ref h] [(h, .inr (5, [.ref ex, .ref et, .ref ea, .ref eb, .ref ec, .ref ed, .ref ef, .ref er, .int at_, .int en, .int fl])), (er, .inl (G.2.1, N, .inl fr)), (ex, .inr (0, [.ref ey, .int xs])), (ey, .inl (G.2.1, 4000, .inl xf))] (S := Int32 × Int32 × Int32 × (Nat → Int32)) (fun rv_ u => rv_ = none ∧ (at_.toInt ≤ u.1.toInt) ∧ (u.1.toInt ≤ en.toInt) ∧ (0 ≤ u.2.1.toInt) ∧ (fl.toInt ≠ 0 → u.2.1.toInt ≠ 0) ∧ (0 ≤ u.2.2.1.toInt) ∧ (u.2.2.1.toInt ≤ 4000) ∧ (st_f A en.toInt fl.toInt at_.toInt xs.toInt (sq xf 0 xs.toInt) = oz_ u.2.1.toInt u.1.toInt u.2.2.1.toInt (sq u.2.2.2 0 u.2.2.1.toInt)) ∧ (sb_Fit u.2.2.2)) (fun u => [(h, .inr (5, [.ref ex, .ref et, .ref ea, .ref eb, .ref ec, .ref ed, .ref ef, .ref er, .int u.1, .int en, .int u.2.1])), (er, .inl (G.2.1, N, .inl fr)), (ex, .inr (0, [.ref ey, .int u.2.2.1])), (ey, .inl (G.2.1, 4000, .inl u.2.2.2))]) := by
  refine Cn.of hl (by decide +kernel) rfl (Nat.le_of_ble_eq_true rfl) (fun M hQ => ?_)
  refine pb_eq (pc' := 0) (lo' := [(0, .ref h)]) (rest' := []) (ws' := [(h, .inr (5, [.ref ex, .ref et, .ref ea, .ref eb, .ref ec, .ref ed, .ref ef, .ref er, .int at_, .int en, .int fl])), (er, .inl (G.2.1, N, .inl fr)), (ex, .inr (0, [.ref ey, .int xs])), (ey, .inl (G.2.1, 4000, .inl xf))]) ?_
  have zl0 : (0 : Int32).toInt = 0 := by decide
  have zl1 : (1 : Int32).toInt = 1 := by decide
  have zl3 : (3 : Int32).toInt = 3 := by decide
  have zl8 : (8 : Int32).toInt = 8 := by decide
  have zl16 : (16 : Int32).toInt = 16 := by decide
  refine pb_aload_n (pc := 0) d_Expander_readStored_0 0 rfl rfl ?_
  refine pb_aload_n (pc := 1) d_Expander_readStored_1 0 rfl rfl ?_
  refine pb_get (pc := 2) d_Expander_readStored_2 0 8 rfl rfl (by decide) in_Expander k_258 rfl ?_
  refine pb_bipush (pc := 5) (v := 7) d_Expander_readStored_5 (by decide) ?_
  refine pb_iadd (pc := 7) d_Expander_readStored_7 ?_
  refine pb_topi (fun i1 ei1 => ?_)
  try have ti1 : i1.toInt = at_.toInt + 7 := t2_add ei1 rfl (by decide) (by omega)
  refine pb_bipush (pc := 8) (v := 8) d_Expander_readStored_8 (by decide) ?_
  refine pb_idiv (pc := 10) d_Expander_readStored_10 (by decide) ?_
  refine pb_topi (fun i2 ei2 => ?_)
  try have ti2 : i2.toInt = i1.toInt / 8 := ti_div 8 ei2 rfl (by decide) (by omega) (by decide)
  refine pb_bipush (pc := 11) (v := 8) d_Expander_readStored_11 (by decide) ?_
  refine pb_imul (pc := 13) d_Expander_readStored_13 ?_
  refine pb_topi (fun i3 ei3 => ?_)
  try have ti3 : i3.toInt = i2.toInt * 8 := ti_mul ei3 rfl (by decide) (by omega) (by omega)
  refine pb_put (pc := 14) (ty := .int) (ws' := [(h, .inr (5, [.ref ex, .ref et, .ref ea, .ref eb, .ref ec, .ref ed, .ref ef, .ref er, .int i3, .int en, .int fl])), (er, .inl (G.2.1, N, .inl fr)), (ex, .inr (0, [.ref ey, .int xs])), (ey, .inl (G.2.1, 4000, .inl xf))]) d_Expander_readStored_14 0 8 t_Expander t_Expander_ok n_Expander rfl rfl (by decide) in_Expander k_258 rfl (by decide +kernel) rfl rfl (Nat.le_of_ble_eq_true rfl) rfl ?_
  refine pb_aload_n (pc := 17) d_Expander_readStored_17 0 rfl rfl ?_
  refine pb_bipush (pc := 18) (v := 16) d_Expander_readStored_18 (by decide) ?_
  refine pb_callV (pc := 20) (I := i_Expander_readStored) (qb := 0) (ci := 5) (nA := 1) (rest := []) (wr := [(ex, .inr (0, [.ref ey, .int xs])), (ey, .inl (G.2.1, 4000, .inl xf))]) d_Expander_readStored_20 (g_Exp_number hl G h ex et ea eb ec ed ef er i3 en fl N fr 16 A (by first | assumption | omega (splitDisjunctions := false) | omega | decide) (by first | assumption | omega (splitDisjunctions := false) | omega | decide) (by first | assumption | omega (splitDisjunctions := false) | omega | decide) (by first | assumption | omega (splitDisjunctions := false) | omega | decide) (by first | assumption | omega (splitDisjunctions := false) | omega | decide) (by first | assumption | omega (splitDisjunctions := false) | omega | decide) (by first | assumption | omega (splitDisjunctions := false) | omega | decide) (by first | assumption | decide | omega) F_fr) rfl rfl [0, 1] [2, 3] (by decide) rfl rfl rfl (by decide) (by decide) k_634 rfl k_121 k_631 k_633 k_17 ⟨rfl, hy_Expander_number⟩ (by decide) rfl rfl (Nat.le_of_ble_eq_true rfl) (by decide) (fun v9 u5 ch4 => ?_)
  obtain ⟨r_6, a2__7, f2__8⟩ := u5
  obtain ⟨ech4, ch4⟩ := ch4
  have ech4 : v9 = some (.int r_6) := ech4
  subst ech4
  obtain ⟨fh9, fh10, fh11, fh12, fh13, fh14, fh15, fh16, fh17⟩ : (0 ≤ r_6.toInt) ∧ (r_6.toInt < p2 (16 : Int32).toInt) ∧ (r_6.toInt ≤ 65535) ∧ (i3.toInt ≤ a2__7.toInt) ∧ (a2__7.toInt ≤ en.toInt) ∧ (0 ≤ f2__8.toInt) ∧ (fl.toInt ≠ 0 → f2__8.toInt ≠ 0) ∧ (nu_w A en.toInt fl.toInt i3.toInt (16 : Int32).toInt = oc_ f2__8.toInt r_6.toInt a2__7.toInt) ∧ (f2__8.toInt = 0 → a2__7.toInt = i3.toInt + (16 : Int32).toInt) := ch4
  have n1F := fh16
  rw [show (16 : Int32).toInt = 16 by decide] at n1F
  refine pb_eq (pc' := 23) (lo' := [(0, .ref h)]) (rest' := [.int r_6]) (ws' := [(ex, .inr (0, [.ref ey, .int xs])), (ey, .inl (G.2.1, 4000, .inl xf)), (h, .inr (5, [.ref ex, .ref et, .ref ea, .ref eb, .ref ec, .ref ed, .ref ef, .ref er, .int a2__7, .int en, .int f2__8])), (er, .inl (G.2.1, N, .inl fr))]) ?_
  refine pb_istore_n (pc := 23) (lo' := [(1, .int r_6), (0, .ref h)]) d_Expander_readStored_23 rfl (by decide) rfl ?_
  have hJ42_18 : ∀ (z : Int32) (f3 : Int32) (a3_ : Int32), (0 ≤ f3.toInt) → (fl.toInt ≠ 0 → f3.toInt ≠ 0) → (at_.toInt ≤ a3_.toInt) → (a3_.toInt ≤ en.toInt) → (z.toInt ≤ 65535) → (0 ≤ z.toInt) → (st_f A en.toInt fl.toInt at_.toInt xs.toInt (sq xf 0 xs.toInt) = st_l A en.toInt z.toInt z.toInt.toNat f3.toInt 0 a3_.toInt xs.toInt (sq xf 0 xs.toInt)) → pb_P l G M i_Expander_readStored 42 [(1, .int z), (0, .ref h)] [] [(h, .inr (5, [.ref ex, .ref et, .ref ea, .ref eb, .ref ec, .ref ed, .ref ef, .ref er, .int a3_, .int en, .int f3])), (er, .inl (G.2.1, N, .inl fr)), (ex, .inr (0, [.ref ey, .int xs])), (ey, .inl (G.2.1, 4000, .inl xf))] 0 0 := by
    intro z f3 a3_ j0 j1 j2 j3 j4 j5 jz
    refine pb_iconst (pc := 42) (v := 0) d_Expander_readStored_42 (by decide) ?_
    refine pb_istore_n (pc := 43) (lo' := [(2, .int 0), (1, .int z), (0, .ref h)]) d_Expander_readStored_43 rfl (by decide) rfl ?_
    have hL44_19 : ∀ (N9 : Nat) (k : Int32) (a4_ : Int32) (f4 : Int32) (s4 : Int32) (x4 : Nat → Int32), (sb_Fit x4) → (0 ≤ k.toInt) → (0 ≤ f4.toInt) → (fl.toInt ≠ 0 → f4.toInt ≠ 0) → (at_.toInt ≤ a4_.toInt) → (a4_.toInt ≤ en.toInt) → (0 ≤ s4.toInt) → (s4.toInt ≤ 4000) → (st_l A en.toInt z.toInt (z.toInt - k.toInt).toNat f4.toInt k.toInt a4_.toInt s4.toInt (sq x4 0 s4.toInt) = st_l A en.toInt z.toInt z.toInt.toNat f3.toInt 0 a3_.toInt xs.toInt (sq xf 0 xs.toInt)) → ((z.toInt - k.toInt).toNat) < N9 → pb_P l G M i_Expander_readStored 44 [(2, .int k), (1, .int z), (0, .ref h)] [] [(h, .inr (5, [.ref ex, .ref et, .ref ea, .ref eb, .ref ec, .ref ed, .ref ef, .ref er, .int a4_, .int en, .int f4])), (er, .inl (G.2.1, N, .inl fr)), (ex, .inr (0, [.ref ey, .int s4])), (ey, .inl (G.2.1, 4000, .inl x4))] 0 0 := by
      intro N9
      induction N9 with
      | zero => intro k a4_ f4 s4 x4 F_x4 k0 k1 k2 k3 k4 k5 k6 kz hm9; exact absurd hm9 (Nat.not_lt_zero _)
      | succ N9 ih44 =>
        intro k a4_ f4 s4 x4 F_x4 k0 k1 k2 k3 k4 k5 k6 kz hm9
        refine pb_iload_n (pc := 44) d_Expander_readStored_44 0 rfl rfl ?_
        refine pb_iload_n (pc := 45) d_Expander_readStored_45 1 rfl rfl ?_
        refine pb_icmp_ge (pc := 46) (tgt := 72) d_Expander_readStored_46 (by decide) (fun w20 => ?_) (fun w20 => ?_)
        · have tw20 : z.toInt ≤ k.toInt := (ti_le rfl rfl).mp w20
          exact pb_vret (pc := 72) hQ d_Expander_readStored_72 rfl (a4_, f4, s4, x4) ⟨rfl, (by (try dsimp only); first | done | assumption | omega (splitDisjunctions := false) | omega | decide), (by (try dsimp only); first | done | assumption | omega (splitDisjunctions := false) | omega | decide), (by (try dsimp only); first | done | assumption | omega (splitDisjunctions := false) | omega | decide), (by (try dsimp only); first | done | assumption | omega (splitDisjunctions := false) | omega | decide), (by (try dsimp only); first | done | assumption | omega (splitDisjunctions := false) | omega | decide), (by (try dsimp only); first | done | assumption | omega (splitDisjunctions := false) | omega | decide), (show st_f A en.toInt fl.toInt at_.toInt xs.toInt (sq xf 0 xs.toInt) = oz_ f4.toInt a4_.toInt s4.toInt (sq x4 0 s4.toInt) from (by first | exact jz.trans (kz.symm.trans (st_le (by omega))) | exact jz.trans (kz.symm.trans ((st_lw (by omega)).trans (oz_w (by omega)).symm)))), F_x4⟩ [0, 1, 2, 3] (by decide) rfl rfl (by decide) (by decide)
        · have tw20 : ¬ z.toInt ≤ k.toInt := fun z9 => w20 ((ti_le rfl rfl).mpr z9)
          refine pb_aload_n (pc := 49) d_Expander_readStored_49 2 rfl rfl ?_
          refine pb_get (pc := 50) d_Expander_readStored_50 0 10 rfl rfl (by decide) in_Expander k_260 rfl ?_
          refine pb_if_ne (pc := 53) (tgt := 72) d_Expander_readStored_53 (by decide) (fun w21 => ?_) (fun w21 => ?_)
          · have tw21 : ¬ f4.toInt = 0 := fun z9 => w21 ((ti_eq rfl (by decide)).mpr z9)
            exact pb_vret (pc := 72) hQ d_Expander_readStored_72 rfl (a4_, f4, s4, x4) ⟨rfl, (by (try dsimp only); first | done | assumption | omega (splitDisjunctions := false) | omega | decide), (by (try dsimp only); first | done | assumption | omega (splitDisjunctions := false) | omega | decide), (by (try dsimp only); first | done | assumption | omega (splitDisjunctions := false) | omega | decide), (by (try dsimp only); first | done | assumption | omega (splitDisjunctions := false) | omega | decide), (by (try dsimp only); first | done | assumption | omega (splitDisjunctions := false) | omega | decide), (by (try dsimp only); first | done | assumption | omega (splitDisjunctions := false) | omega | decide), (show st_f A en.toInt fl.toInt at_.toInt xs.toInt (sq xf 0 xs.toInt) = oz_ f4.toInt a4_.toInt s4.toInt (sq x4 0 s4.toInt) from (by first | exact jz.trans (kz.symm.trans (st_le (by omega))) | exact jz.trans (kz.symm.trans ((st_lw (by omega)).trans (oz_w (by omega)).symm)))), F_x4⟩ [0, 1, 2, 3] (by decide) rfl rfl (by decide) (by decide)
          · have tw21 : f4.toInt = 0 := (ti_eq rfl (by decide)).mp w21
            have f40 : f4.toInt = 0 := by omega
            have kz0 := kz
            rw [f40] at kz0
            refine pb_aload_n (pc := 56) d_Expander_readStored_56 2 rfl rfl ?_
            refine pb_aload_n (pc := 57) d_Expander_readStored_57 2 rfl rfl ?_
            refine pb_bipush (pc := 58) (v := 8) d_Expander_readStored_58 (by decide) ?_
            refine pb_callV (pc := 60) (I := i_Expander_readStored) (qb := 0) (ci := 5) (nA := 1) (rest := [.ref h]) (wr := [(ex, .inr (0, [.ref ey, .int s4])), (ey, .inl (G.2.1, 4000, .inl x4))]) d_Expander_readStored_60 (g_Exp_number hl G h ex et ea eb ec ed ef er a4_ en f4 N fr 8 A (by first | assumption | omega (splitDisjunctions := false) | omega | decide) (by first | assumption | omega (splitDisjunctions := false) | omega | decide) (by first | assumption | omega (splitDisjunctions := false) | omega | decide) (by first | assumption | omega (splitDisjunctions := false) | omega | decide) (by first | assumption | omega (splitDisjunctions := false) | omega | decide) (by first | assumption | omega (splitDisjunctions := false) | omega | decide) (by first | assumption | omega (splitDisjunctions := false) | omega | decide) (by first | assumption | decide | omega) (by first | assumption | decide | omega)) rfl rfl [0, 1] [2, 3] (by decide) rfl rfl rfl (by decide) (by decide) k_634 rfl k_121 k_631 k_633 k_17 ⟨rfl, hy_Expander_number⟩ (by decide) rfl rfl (Nat.le_of_ble_eq_true rfl) (by decide) (fun v9 u23 ch22 => ?_)
            obtain ⟨r_24, a2__25, f2__26⟩ := u23
            obtain ⟨ech22, ch22⟩ := ch22
            have ech22 : v9 = some (.int r_24) := ech22
            subst ech22
            obtain ⟨fh27, fh28, fh29, fh30, fh31, fh32, fh33, fh34, fh35⟩ : (0 ≤ r_24.toInt) ∧ (r_24.toInt < p2 (8 : Int32).toInt) ∧ (r_24.toInt ≤ 65535) ∧ (a4_.toInt ≤ a2__25.toInt) ∧ (a2__25.toInt ≤ en.toInt) ∧ (0 ≤ f2__26.toInt) ∧ (f4.toInt ≠ 0 → f2__26.toInt ≠ 0) ∧ (nu_w A en.toInt f4.toInt a4_.toInt (8 : Int32).toInt = oc_ f2__26.toInt r_24.toInt a2__25.toInt) ∧ (f2__26.toInt = 0 → a2__25.toInt = a4_.toInt + (8 : Int32).toInt) := ch22
            have n3F := fh34
            rw [show (8 : Int32).toInt = 8 by decide, f40] at n3F
            refine pb_eq (pc' := 63) (lo' := [(2, .int k), (1, .int z), (0, .ref h)]) (rest' := [.int r_24, .ref h]) (ws' := [(ex, .inr (0, [.ref ey, .int s4])), (ey, .inl (G.2.1, 4000, .inl x4)), (h, .inr (5, [.ref ex, .ref et, .ref ea, .ref eb, .ref ec, .ref ed, .ref ef, .ref er, .int a2__25, .int en, .int f2__26])), (er, .inl (G.2.1, N, .inl fr))]) ?_
            refine pb_callV (pc := 63) (I := i_Expander_readStored) (qb := 2) (ci := 5) (nA := 1) (rest := []) (wr := [(er, .inl (G.2.1, N, .inl fr))]) d_Expander_readStored_63 (g_Exp_putByte hl G h ex et ea eb ec ed ef er a2__25 en f2__26 ey x4 s4 r_24 (by first | assumption | omega (splitDisjunctions := false) | omega | decide) (by first | assumption | omega (splitDisjunctions := false) | omega | decide) (by first | assumption | omega (splitDisjunctions := false) | omega | decide) F_x4) rfl rfl [2, 0, 1] [3] (by decide) rfl rfl rfl (by decide) (by decide) k_647 rfl k_121 k_644 k_646 k_20 ⟨rfl, hy_Expander_putByte⟩ (by decide) rfl rfl (Nat.le_of_ble_eq_true rfl) (by decide) (fun v9 u37 ch36 => ?_)
            obtain ⟨f2__38, s2__39, xf_40⟩ := u37
            obtain ⟨ech36, ch36⟩ := ch36
            have ech36 : v9 = none := ech36
            subst ech36
            obtain ⟨fh41, fh42, fh43, fh44, fh45, fh46, fh47⟩ : (0 ≤ f2__38.toInt) ∧ (f2__26.toInt ≠ 0 → f2__38.toInt ≠ 0) ∧ (0 ≤ s2__39.toInt) ∧ (s2__39.toInt ≤ 4000) ∧ (¬ f2__26.toInt = 0 ∧ f2__38.toInt = f2__26.toInt ∨ f2__26.toInt = 0 ∧ s4.toInt = 4000 ∧ f2__38.toInt = 7 ∨ f2__26.toInt = 0 ∧ ¬ s4.toInt = 4000 ∧ f2__38.toInt = 0 ∧ s2__39.toInt = s4.toInt + 1) ∧ (f2__38.toInt = 0 → (sq xf_40 0 s2__39.toInt) = pu_ (sq x4 0 s4.toInt) s4.toInt r_24.toInt8.toInt32) ∧ (sb_Fit xf_40) := ch36
            have p0F := fh45
            have pXF := fh46
            refine pb_eq (pc' := 66) (lo' := [(2, .int k), (1, .int z), (0, .ref h)]) (rest' := []) (ws' := [(er, .inl (G.2.1, N, .inl fr)), (h, .inr (5, [.ref ex, .ref et, .ref ea, .ref eb, .ref ec, .ref ed, .ref ef, .ref er, .int a2__25, .int en, .int f2__38])), (ex, .inr (0, [.ref ey, .int s2__39])), (ey, .inl (G.2.1, 4000, .inl xf_40))]) ?_
            refine pb_iincN (pc := 66) (c := 1) d_Expander_readStored_66 0 rfl (by decide) (by decide) (fun i48 ei48 => ?_)
            have ti48 : i48.toInt = k.toInt + 1 := t2_add ei48 rfl (by decide) (by omega)
            refine pb_eq (pc' := 69) (lo' := [(2, .int i48), (1, .int z), (0, .ref h)]) (rest' := []) (ws' := [(er, .inl (G.2.1, N, .inl fr)), (h, .inr (5, [.ref ex, .ref et, .ref ea, .ref eb, .ref ec, .ref ed, .ref ef, .ref er, .int a2__25, .int en, .int f2__38])), (ex, .inr (0, [.ref ey, .int s2__39])), (ey, .inl (G.2.1, 4000, .inl xf_40))]) ?_
            refine pb_goto (pc := 69) (tgt := 44) d_Expander_readStored_69 (by decide) ?_
            refine pb_re (ws' := [(h, .inr (5, [.ref ex, .ref et, .ref ea, .ref eb, .ref ec, .ref ed, .ref ef, .ref er, .int a2__25, .int en, .int f2__38])), (er, .inl (G.2.1, N, .inl fr)), (ex, .inr (0, [.ref ey, .int s2__39])), (ey, .inl (G.2.1, 4000, .inl xf_40))]) (lo' := [(2, .int i48), (1, .int z), (0, .ref h)]) [1, 0, 2, 3] [0, 1, 2] (by decide) rfl rfl rfl ?_
            exact ih44 i48 a2__25 f2__38 s2__39 xf_40 fh47 (by first | assumption | omega (splitDisjunctions := false) | omega | decide) (by first | assumption | omega (splitDisjunctions := false) | omega | decide) (by first | assumption | omega (splitDisjunctions := false) | omega | decide) (by first | assumption | omega (splitDisjunctions := false) | omega | decide) (by first | assumption | omega (splitDisjunctions := false) | omega | decide) (by first | assumption | omega (splitDisjunctions := false) | omega | decide) (by first | assumption | omega (splitDisjunctions := false) | omega | decide) ((st_lg (by omega) (by omega) n3F p0F pXF (fun _ => by_E rfl) (by omega)).symm.trans kz0) (by omega)
    exact hL44_19 _ 0 a3_ f3 xs xf (by first | assumption | decide | omega) (by first | assumption | omega (splitDisjunctions := false) | omega | decide) (by first | assumption | omega (splitDisjunctions := false) | omega | decide) (by first | assumption | omega (splitDisjunctions := false) | omega | decide) (by first | assumption | omega (splitDisjunctions := false) | omega | decide) (by first | assumption | omega (splitDisjunctions := false) | omega | decide) (by first | assumption | omega (splitDisjunctions := false) | omega | decide) (by first | assumption | omega (splitDisjunctions := false) | omega | decide) (by rw [zl0, show z.toInt - 0 = z.toInt by omega]) (Nat.lt_succ_self _)
  refine pb_aload_n (pc := 24) d_Expander_readStored_24 1 rfl rfl ?_
  refine pb_bipush (pc := 25) (v := 16) d_Expander_readStored_25 (by decide) ?_
  refine pb_callV (pc := 27) (I := i_Expander_readStored) (qb := 2) (ci := 5) (nA := 1) (rest := []) (wr := [(ex, .inr (0, [.ref ey, .int xs])), (ey, .inl (G.2.1, 4000, .inl xf))]) d_Expander_readStored_27 (g_Exp_number hl G h ex et ea eb ec ed ef er a2__7 en f2__8 N fr 16 A (by first | assumption | omega (splitDisjunctions := false) | omega | decide) (by first | assumption | omega (splitDisjunctions := false) | omega | decide) (by first | assumption | omega (splitDisjunctions := false) | omega | decide) (by first | assumption | omega (splitDisjunctions := false) | omega | decide) (by first | assumption | omega (splitDisjunctions := false) | omega | decide) (by first | assumption | omega (splitDisjunctions := false) | omega | decide) (by first | assumption | omega (splitDisjunctions := false) | omega | decide) (by first | assumption | decide | omega) F_fr) rfl rfl [2, 3] [0, 1] (by decide) rfl rfl rfl (by decide) (by decide) k_634 rfl k_121 k_631 k_633 k_17 ⟨rfl, hy_Expander_number⟩ (by decide) rfl rfl (Nat.le_of_ble_eq_true rfl) (by decide) (fun v9 u50 ch49 => ?_)
  obtain ⟨r_51, a2__52, f2__53⟩ := u50
  obtain ⟨ech49, ch49⟩ := ch49
  have ech49 : v9 = some (.int r_51) := ech49
  subst ech49
  obtain ⟨fh54, fh55, fh56, fh57, fh58, fh59, fh60, fh61, fh62⟩ : (0 ≤ r_51.toInt) ∧ (r_51.toInt < p2 (16 : Int32).toInt) ∧ (r_51.toInt ≤ 65535) ∧ (a2__7.toInt ≤ a2__52.toInt) ∧ (a2__52.toInt ≤ en.toInt) ∧ (0 ≤ f2__53.toInt) ∧ (f2__8.toInt ≠ 0 → f2__53.toInt ≠ 0) ∧ (nu_w A en.toInt f2__8.toInt a2__7.toInt (16 : Int32).toInt = oc_ f2__53.toInt r_51.toInt a2__52.toInt) ∧ (f2__53.toInt = 0 → a2__52.toInt = a2__7.toInt + (16 : Int32).toInt) := ch49
  have n2F := fh61
  rw [show (16 : Int32).toInt = 16 by decide] at n2F
  refine pb_eq (pc' := 30) (lo' := [(1, .int r_6), (0, .ref h)]) (rest' := [.int r_51]) (ws' := [(ex, .inr (0, [.ref ey, .int xs])), (ey, .inl (G.2.1, 4000, .inl xf)), (h, .inr (5, [.ref ex, .ref et, .ref ea, .ref eb, .ref ec, .ref ed, .ref ef, .ref er, .int a2__52, .int en, .int f2__53])), (er, .inl (G.2.1, N, .inl fr))]) ?_
  refine pb_ldc (pc := 30) (v := 65535) d_Expander_readStored_30 k_639 ?_
  refine pb_iload_n (pc := 32) d_Expander_readStored_32 0 rfl rfl ?_
  refine pb_isub (pc := 33) d_Expander_readStored_33 ?_
  refine pb_topi (fun i63 ei63 => ?_)
  try have ti63 : i63.toInt = 65535 - r_6.toInt := t2_sub ei63 (by decide) rfl (by omega)
  refine pb_icmp_eq (pc := 34) (tgt := 42) d_Expander_readStored_34 (by decide) (fun w64 => ?_) (fun w64 => ?_)
  · have tw64 : r_51.toInt = i63.toInt := (ti_eq rfl rfl).mp w64
    refine pb_re (ws' := [(h, .inr (5, [.ref ex, .ref et, .ref ea, .ref eb, .ref ec, .ref ed, .ref ef, .ref er, .int a2__52, .int en, .int f2__53])), (er, .inl (G.2.1, N, .inl fr)), (ex, .inr (0, [.ref ey, .int xs])), (ey, .inl (G.2.1, 4000, .inl xf))]) (lo' := [(1, .int r_6), (0, .ref h)]) [2, 3, 0, 1] [0, 1] (by decide) rfl rfl rfl ?_
    exact hJ42_18 r_6 f2__53 a2__52 (by first | assumption | omega (splitDisjunctions := false) | omega | decide) (by first | assumption | omega (splitDisjunctions := false) | omega | decide) (by first | assumption | omega (splitDisjunctions := false) | omega | decide) (by first | assumption | omega (splitDisjunctions := false) | omega | decide) (by first | assumption | omega (splitDisjunctions := false) | omega | decide) (by first | assumption | omega (splitDisjunctions := false) | omega | decide) (st_fg (by omega) n1F n2F (by omega))
  · have tw64 : ¬ r_51.toInt = i63.toInt := fun z9 => w64 ((ti_eq rfl rfl).mpr z9)
    refine pb_aload_n (pc := 37) d_Expander_readStored_37 1 rfl rfl ?_
    refine pb_iconst (pc := 38) (v := 3) d_Expander_readStored_38 (by decide) ?_
    refine pb_callV (pc := 39) (I := i_Expander_readStored) (qb := 2) (ci := 5) (nA := 1) (rest := []) (wr := [(ex, .inr (0, [.ref ey, .int xs])), (ey, .inl (G.2.1, 4000, .inl xf)), (er, .inl (G.2.1, N, .inl fr))]) d_Expander_readStored_39 (g_Exp_fail hl G h ex et ea eb ec ed ef er a2__52 en f2__53 3 (by first | assumption | omega (splitDisjunctions := false) | omega | decide) (by first | assumption | omega (splitDisjunctions := false) | omega | decide)) rfl rfl [2] [0, 1, 3] (by decide) rfl rfl rfl (by decide) (by decide) k_643 rfl k_121 k_640 k_642 k_19 ⟨rfl, hy_Expander_fail⟩ (by decide) rfl rfl (Nat.le_of_ble_eq_true rfl) (by decide) (fun v9 u66 ch65 => ?_)
    obtain ⟨f2__67, rfl⟩ : ∃ z9, z9 = u66 := ⟨_, rfl⟩
    obtain ⟨ech65, ch65⟩ := ch65
    have ech65 : v9 = none := ech65
    subst ech65
    obtain ⟨fh68, fh69⟩ : (0 < f2__67.toInt) ∧ (f2__53.toInt = 0 ∧ f2__67.toInt = (3 : Int32).toInt ∨ f2__53.toInt ≠ 0 ∧ f2__67.toInt = f2__53.toInt) := ch65
    refine pb_eq (pc' := 42) (lo' := [(1, .int r_6), (0, .ref h)]) (rest' := []) (ws' := [(ex, .inr (0, [.ref ey, .int xs])), (ey, .inl (G.2.1, 4000, .inl xf)), (er, .inl (G.2.1, N, .inl fr)), (h, .inr (5, [.ref ex, .ref et, .ref ea, .ref eb, .ref ec, .ref ed, .ref ef, .ref er, .int a2__52, .int en, .int f2__67]))]) ?_
    refine pb_re (ws' := [(h, .inr (5, [.ref ex, .ref et, .ref ea, .ref eb, .ref ec, .ref ed, .ref ef, .ref er, .int a2__52, .int en, .int f2__67])), (er, .inl (G.2.1, N, .inl fr)), (ex, .inr (0, [.ref ey, .int xs])), (ey, .inl (G.2.1, 4000, .inl xf))]) (lo' := [(1, .int r_6), (0, .ref h)]) [3, 2, 0, 1] [0, 1] (by decide) rfl rfl rfl ?_
    exact hJ42_18 r_6 f2__67 a2__52 (by first | assumption | omega (splitDisjunctions := false) | omega | decide) (by first | assumption | omega (splitDisjunctions := false) | omega | decide) (by first | assumption | omega (splitDisjunctions := false) | omega | decide) (by first | assumption | omega (splitDisjunctions := false) | omega | decide) (by first | assumption | omega (splitDisjunctions := false) | omega | decide) (by first | assumption | omega (splitDisjunctions := false) | omega | decide) (st_fg (by omega) n1F n2F (by omega))
