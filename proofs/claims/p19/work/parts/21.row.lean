theorem d_Row_putByte_0 : decode prog_9_method_2_code 0 = .ok (.aload_n 0, 1) := by decide +kernel
theorem d_Row_putByte_1 : decode prog_9_method_2_code 1 = .ok (.getfield 13, 3) := by decide +kernel
theorem k_162 : (Jvm.Cond.fieldLink "PackageBook$Row" (13 : Nat) "PackageBook$Row" "size" "I") ∈ uW := uW_of 162 (by decide +kernel) (by decide +kernel)
theorem d_Row_putByte_4 : decode prog_9_method_2_code 4 = .ok (.aload_n 0, 1) := by decide +kernel
theorem d_Row_putByte_5 : decode prog_9_method_2_code 5 = .ok (.getfield 7, 3) := by decide +kernel
theorem d_Row_putByte_8 : decode prog_9_method_2_code 8 = .ok (.arraylength, 1) := by decide +kernel
theorem d_Row_putByte_9 : decode prog_9_method_2_code 9 = .ok (.if_icmp .ge 24, 3) := by decide +kernel
theorem d_Row_putByte_12 : decode prog_9_method_2_code 12 = .ok (.aload_n 0, 1) := by decide +kernel
theorem d_Row_putByte_13 : decode prog_9_method_2_code 13 = .ok (.getfield 7, 3) := by decide +kernel
theorem d_Row_putByte_16 : decode prog_9_method_2_code 16 = .ok (.aload_n 0, 1) := by decide +kernel
theorem d_Row_putByte_17 : decode prog_9_method_2_code 17 = .ok (.getfield 13, 3) := by decide +kernel
theorem d_Row_putByte_20 : decode prog_9_method_2_code 20 = .ok (.iload_n 1, 1) := by decide +kernel
theorem d_Row_putByte_21 : decode prog_9_method_2_code 21 = .ok (.i2b, 1) := by decide +kernel
theorem d_Row_putByte_22 : decode prog_9_method_2_code 22 = .ok (.bastore, 1) := by decide +kernel
theorem d_Row_putByte_23 : decode prog_9_method_2_code 23 = .ok (.aload_n 0, 1) := by decide +kernel
theorem d_Row_putByte_24 : decode prog_9_method_2_code 24 = .ok (.dup, 1) := by decide +kernel
theorem d_Row_putByte_25 : decode prog_9_method_2_code 25 = .ok (.getfield 13, 3) := by decide +kernel
theorem d_Row_putByte_28 : decode prog_9_method_2_code 28 = .ok (.iconst 1, 1) := by decide +kernel
theorem d_Row_putByte_29 : decode prog_9_method_2_code 29 = .ok (.iadd, 1) := by decide +kernel
theorem d_Row_putByte_30 : decode prog_9_method_2_code 30 = .ok (.putfield 13, 3) := by decide +kernel
theorem d_Row_putByte_33 : decode prog_9_method_2_code 33 = .ok (.return_, 1) := by decide +kernel
abbrev y_Row_putByte : MethodName := ⟨"PackageBook$Row", "putByte", "(I)V"⟩
abbrev i_Row_putByte : pb_I := (y_Row_putByte, prog_9_method_2_code, 2, (Option.none : Option Jvm.ClassFile.FieldType), [], { frames := 0, cells := 0, slots := 0, locals := 0 })
set_option maxRecDepth 100000 in
set_option maxHeartbeats 4000000 in
theorem g_Row_putByte {l : Launch} (hl : l.stackTraces = false) (G : pb_G) (h : Nat) (b : Nat) (N : Nat) (f : Nat → Int32) (sz : Int32) (v : Int32) (h0 : 0 ≤ sz.toInt) (h1 : sz.toInt + 1 ≤ N) (hN : N ≤ 100000) (F_f : sb_Fit f) : Cn l G i_Row_putByte [.ref h, .int v] [(h, .inr (0, [.ref b, .int sz])), (b, .inl (G.2.1, N, .inl f))] (S := Int32 × (Nat → Int32)) (fun rv_ u => rv_ = none ∧ (u.1.toInt = sz.toInt + 1) ∧ (∀ j : Int, 0 ≤ j → gr u.2 j = if j = sz.toInt then v.toInt8.toInt32 else gr f j) ∧ (sb_Fit u.2)) (fun u => [(h, .inr (0, [.ref b, .int u.1])), (b, .inl (G.2.1, N, .inl u.2))]) := by
  refine Cn.of hl (by decide +kernel) rfl (Nat.le_of_ble_eq_true rfl) (fun M hQ => ?_)
  refine pb_eq (pc' := 0) (lo' := [(0, .ref h), (1, .int v)]) (rest' := []) (ws' := [(h, .inr (0, [.ref b, .int sz])), (b, .inl (G.2.1, N, .inl f))]) ?_
  have zl0 : (0 : Int32).toInt = 0 := by decide
  have zl1 : (1 : Int32).toInt = 1 := by decide
  refine pb_aload_n (pc := 0) d_Row_putByte_0 0 rfl rfl ?_
  refine pb_get (pc := 1) d_Row_putByte_1 0 1 rfl rfl (by decide) in_Row k_162 rfl ?_
  refine pb_aload_n (pc := 4) d_Row_putByte_4 0 rfl rfl ?_
  refine pb_get (pc := 5) d_Row_putByte_5 0 0 rfl rfl (by decide) in_Row k_156 rfl ?_
  refine pb_alen (pc := 8) d_Row_putByte_8 1 0 rfl rfl rfl ?_
  refine pb_topi (fun i1 ei1 => ?_)
  have ti1 : i1.toInt = (N : Int) := ti_ofNat ei1 (by omega)
  refine pb_icmp_ge (pc := 9) (tgt := 33) d_Row_putByte_9 (by decide) (fun h9 => False.elim (by have t9 : i1.toInt ≤ sz.toInt := (ti_le rfl rfl).mp h9; omega)) (fun w2 => ?_)
  have tw2 : ¬ i1.toInt ≤ sz.toInt := fun z9 => w2 ((ti_le rfl rfl).mpr z9)
  refine pb_aload_n (pc := 12) d_Row_putByte_12 0 rfl rfl ?_
  refine pb_get (pc := 13) d_Row_putByte_13 0 0 rfl rfl (by decide) in_Row k_156 rfl ?_
  refine pb_aload_n (pc := 16) d_Row_putByte_16 0 rfl rfl ?_
  refine pb_get (pc := 17) d_Row_putByte_17 0 1 rfl rfl (by decide) in_Row k_162 rfl ?_
  refine pb_iload_n (pc := 20) d_Row_putByte_20 1 rfl rfl ?_
  refine pb_i2b (pc := 21) d_Row_putByte_21 rfl ?_
  refine pb_topi (fun i3 ei3 => ?_)
  have ti3 : -128 ≤ i3.toInt ∧ i3.toInt ≤ 127 := ti_i2b ei3
  refine pb_bast (pc := 22) (ws' := [(h, .inr (0, [.ref b, .int sz])), (b, .inl (G.2.1, N, .inl (upd f ((sz : Int32).toNatClampNeg) (vp_nar .byte i3))))]) d_Row_putByte_22 1 rfl (vp_in_iff.mpr (by constructor <;> omega)) rfl ?_
  refine pb_aload_n (pc := 23) d_Row_putByte_23 0 rfl rfl ?_
  refine pb_dup (pc := 24) d_Row_putByte_24 rfl ?_
  refine pb_get (pc := 25) d_Row_putByte_25 0 1 rfl rfl (by decide) in_Row k_162 rfl ?_
  refine pb_iconst (pc := 28) (v := 1) d_Row_putByte_28 (by decide) ?_
  refine pb_iadd (pc := 29) d_Row_putByte_29 ?_
  refine pb_topi (fun i4 ei4 => ?_)
  try have ti4 : i4.toInt = sz.toInt + 1 := ti_add ei4 rfl (by decide) (by omega) (by omega)
  refine pb_put (pc := 30) (ty := .int) (ws' := [(h, .inr (0, [.ref b, .int i4])), (b, .inl (G.2.1, N, .inl (upd f ((sz : Int32).toNatClampNeg) (vp_nar .byte i3))))]) d_Row_putByte_30 0 1 t_Row t_Row_ok n_Row rfl rfl (by decide) in_Row k_162 rfl (by decide +kernel) rfl rfl (Nat.le_of_ble_eq_true rfl) rfl ?_
  exact pb_vret (pc := 33) hQ d_Row_putByte_33 rfl (i4, (upd f ((sz : Int32).toNatClampNeg) (vp_nar .byte i3))) ⟨rfl, (by (try dsimp only); first | done | (with_reducible assumption) | omega (splitDisjunctions := false) | assumption | omega | decide), (show ∀ j : Int, 0 ≤ j → gr (upd f ((sz : Int32).toNatClampNeg) (vp_nar .byte i3)) j = if j = sz.toInt then v.toInt8.toInt32 else gr f j from (fun j hj => by rw [gr_updb rfl j h0 hj]; simp only [ei3, ei4, bz_nn])), (sb_fitU F_f (fit_nar _))⟩ [0, 1] (by decide) rfl rfl (by decide) (by decide)

theorem d_Row_putTwo_0 : decode prog_9_method_3_code 0 = .ok (.aload_n 0, 1) := by decide +kernel
theorem d_Row_putTwo_1 : decode prog_9_method_3_code 1 = .ok (.iload_n 1, 1) := by decide +kernel
theorem d_Row_putTwo_2 : decode prog_9_method_3_code 2 = .ok (.invokevirtual 17, 3) := by decide +kernel
theorem k_552 : (Jvm.Cond.methodLink "PackageBook$Row" (17 : Nat) ({ cls := "PackageBook$Row", name := "putByte", desc := "(I)V" } : Jvm.MethodName)) ∈ uW := uW_of 552 (by decide +kernel) (by decide +kernel)
theorem k_555 : (Jvm.Cond.code ({ cls := "PackageBook$Row", name := "putByte", desc := "(I)V" } : Jvm.MethodName) prog_9_method_2_code (2 : Nat) (Option.none : Option Jvm.ClassFile.FieldType)) ∈ uW := uW_of 555 (by decide +kernel) (by decide +kernel)
theorem k_553 : (Jvm.Cond.instanceMethod ({ cls := "PackageBook$Row", name := "putByte", desc := "(I)V" } : Jvm.MethodName)) ∈ uW := uW_of 553 (by decide +kernel) (by decide +kernel)
theorem k_554 : (Jvm.Cond.selects "PackageBook$Row" ({ cls := "PackageBook$Row", name := "putByte", desc := "(I)V" } : Jvm.MethodName) ({ cls := "PackageBook$Row", name := "putByte", desc := "(I)V" } : Jvm.MethodName)) ∈ uW := uW_of 554 (by decide +kernel) (by decide +kernel)
theorem hy_Row_putByte : (y_Row_putByte).cls ≠ "java/lang/invoke/MethodHandle" ∧ (y_Row_putByte).cls ≠ "java/lang/invoke/VarHandle" ∧ (parseMethodDescriptor (y_Row_putByte).desc).map (fun d => d.parameters.length) = some 1 := by decide +kernel
theorem d_Row_putTwo_5 : decode prog_9_method_3_code 5 = .ok (.aload_n 0, 1) := by decide +kernel
theorem d_Row_putTwo_6 : decode prog_9_method_3_code 6 = .ok (.iload_n 1, 1) := by decide +kernel
theorem d_Row_putTwo_7 : decode prog_9_method_3_code 7 = .ok (.bipush 8, 2) := by decide +kernel
theorem d_Row_putTwo_9 : decode prog_9_method_3_code 9 = .ok (.ishr, 1) := by decide +kernel
theorem d_Row_putTwo_10 : decode prog_9_method_3_code 10 = .ok (.invokevirtual 17, 3) := by decide +kernel
theorem d_Row_putTwo_13 : decode prog_9_method_3_code 13 = .ok (.return_, 1) := by decide +kernel
abbrev y_Row_putTwo : MethodName := ⟨"PackageBook$Row", "putTwo", "(I)V"⟩
abbrev i_Row_putTwo : pb_I := (y_Row_putTwo, prog_9_method_3_code, 2, (Option.none : Option Jvm.ClassFile.FieldType), [], { frames := 1, cells := 0, slots := 0, locals := 21 })
set_option maxRecDepth 100000 in
set_option maxHeartbeats 4000000 in
theorem g_Row_putTwo {l : Launch} (hl : l.stackTraces = false) (G : pb_G) (h : Nat) (b : Nat) (N : Nat) (f : Nat → Int32) (sz : Int32) (v : Int32) (h0 : 0 ≤ sz.toInt) (h1 : sz.toInt + 2 ≤ N) (hN : N ≤ 100000) (F_f : sb_Fit f) : Cn l G i_Row_putTwo [.ref h, .int v] [(h, .inr (0, [.ref b, .int sz])), (b, .inl (G.2.1, N, .inl f))] (S := Int32 × (Nat → Int32)) (fun rv_ u => rv_ = none ∧ (u.1.toInt = sz.toInt + 2) ∧ (ap_ f sz.toInt u.2 u.1.toInt (nk_ v.toInt 2)) ∧ (sb_Fit u.2)) (fun u => [(h, .inr (0, [.ref b, .int u.1])), (b, .inl (G.2.1, N, .inl u.2))]) := by
  refine Cn.of hl (by decide +kernel) rfl (Nat.le_of_ble_eq_true rfl) (fun M hQ => ?_)
  refine pb_eq (pc' := 0) (lo' := [(0, .ref h), (1, .int v)]) (rest' := []) (ws' := [(h, .inr (0, [.ref b, .int sz])), (b, .inl (G.2.1, N, .inl f))]) ?_
  have zl0 : (0 : Int32).toInt = 0 := by decide
  have zl1 : (1 : Int32).toInt = 1 := by decide
  have zl8 : (8 : Int32).toInt = 8 := by decide
  refine pb_aload_n (pc := 0) d_Row_putTwo_0 0 rfl rfl ?_
  refine pb_iload_n (pc := 1) d_Row_putTwo_1 1 rfl rfl ?_
  refine pb_callV (pc := 2) (I := i_Row_putTwo) (qb := 0) (ci := 0) (nA := 1) (rest := []) (wr := []) d_Row_putTwo_2 (g_Row_putByte hl G h b N f sz v (by first | (with_reducible assumption) | omega (splitDisjunctions := false) | assumption | omega | decide) (by first | (with_reducible assumption) | omega (splitDisjunctions := false) | assumption | omega | decide) (by first | (with_reducible assumption) | omega (splitDisjunctions := false) | assumption | omega | decide) F_f) rfl rfl [0, 1] [] (by decide) rfl rfl rfl (by decide) (by decide) k_555 rfl k_119 k_552 k_553 k_554 ⟨rfl, hy_Row_putByte⟩ (by decide) rfl rfl (Nat.le_of_ble_eq_true rfl) (by decide) (fun v9 u2 ch1 => ?_)
  obtain ⟨s_3, f_4⟩ := u2
  obtain ⟨ech1, ch1⟩ := ch1
  have ech1 : v9 = none := ech1
  subst ech1
  obtain ⟨fh5, fh6, fh7⟩ : (s_3.toInt = sz.toInt + 1) ∧ (∀ j : Int, 0 ≤ j → gr f_4 j = if j = sz.toInt then v.toInt8.toInt32 else gr f j) ∧ (sb_Fit f_4) := ch1
  have a1 := fh6
  refine pb_eq (pc' := 5) (lo' := [(0, .ref h), (1, .int v)]) (rest' := []) (ws' := [(h, .inr (0, [.ref b, .int s_3])), (b, .inl (G.2.1, N, .inl f_4))]) ?_
  refine pb_aload_n (pc := 5) d_Row_putTwo_5 0 rfl rfl ?_
  refine pb_iload_n (pc := 6) d_Row_putTwo_6 1 rfl rfl ?_
  refine pb_bipush (pc := 7) (v := 8) d_Row_putTwo_7 (by decide) ?_
  refine pb_ishr (pc := 9) d_Row_putTwo_9 ?_
  refine pb_topi (fun i8 ei8 => ?_)
  have ti8 : i8.toInt = v.toInt / 256 := ti_shr ei8 rfl 8 (by decide) (by decide)
  refine pb_callV (pc := 10) (I := i_Row_putTwo) (qb := 0) (ci := 0) (nA := 1) (rest := []) (wr := []) d_Row_putTwo_10 (g_Row_putByte hl G h b N f_4 s_3 i8 (by first | (with_reducible assumption) | omega (splitDisjunctions := false) | assumption | omega | decide) (by first | (with_reducible assumption) | omega (splitDisjunctions := false) | assumption | omega | decide) (by first | (with_reducible assumption) | omega (splitDisjunctions := false) | assumption | omega | decide) fh7) rfl rfl [0, 1] [] (by decide) rfl rfl rfl (by decide) (by decide) k_555 rfl k_119 k_552 k_553 k_554 ⟨rfl, hy_Row_putByte⟩ (by decide) rfl rfl (Nat.le_of_ble_eq_true rfl) (by decide) (fun v9 u10 ch9 => ?_)
  obtain ⟨s_11, f_12⟩ := u10
  obtain ⟨ech9, ch9⟩ := ch9
  have ech9 : v9 = none := ech9
  subst ech9
  obtain ⟨fh13, fh14, fh15⟩ : (s_11.toInt = s_3.toInt + 1) ∧ (∀ j : Int, 0 ≤ j → gr f_12 j = if j = s_3.toInt then i8.toInt8.toInt32 else gr f_4 j) ∧ (sb_Fit f_12) := ch9
  have a2 := fh14
  refine pb_eq (pc' := 13) (lo' := [(0, .ref h), (1, .int v)]) (rest' := []) (ws' := [(h, .inr (0, [.ref b, .int s_11])), (b, .inl (G.2.1, N, .inl f_12))]) ?_
  exact pb_vret (pc := 13) hQ d_Row_putTwo_13 rfl (s_11, f_12) ⟨rfl, (by (try dsimp only); first | done | (with_reducible assumption) | omega (splitDisjunctions := false) | assumption | omega | decide), (show ap_ f sz.toInt f_12 s_11.toInt (nk_ v.toInt 2) from (ap_e (ap_app h0 (ap_1 (by omega) h0 a1 (by_E rfl)) (ap_1 (by omega) (by omega) a2 (by_E (by omega)))) (nk_2 _).symm)), fh15⟩ [0, 1] (by decide) rfl rfl (by decide) (by decide)

theorem d_Row_putFour_0 : decode prog_9_method_4_code 0 = .ok (.aload_n 0, 1) := by decide +kernel
theorem d_Row_putFour_1 : decode prog_9_method_4_code 1 = .ok (.iload_n 1, 1) := by decide +kernel
theorem d_Row_putFour_2 : decode prog_9_method_4_code 2 = .ok (.invokevirtual 21, 3) := by decide +kernel
theorem k_548 : (Jvm.Cond.methodLink "PackageBook$Row" (21 : Nat) ({ cls := "PackageBook$Row", name := "putTwo", desc := "(I)V" } : Jvm.MethodName)) ∈ uW := uW_of 548 (by decide +kernel) (by decide +kernel)
theorem k_551 : (Jvm.Cond.code ({ cls := "PackageBook$Row", name := "putTwo", desc := "(I)V" } : Jvm.MethodName) prog_9_method_3_code (2 : Nat) (Option.none : Option Jvm.ClassFile.FieldType)) ∈ uW := uW_of 551 (by decide +kernel) (by decide +kernel)
theorem k_549 : (Jvm.Cond.instanceMethod ({ cls := "PackageBook$Row", name := "putTwo", desc := "(I)V" } : Jvm.MethodName)) ∈ uW := uW_of 549 (by decide +kernel) (by decide +kernel)
theorem k_550 : (Jvm.Cond.selects "PackageBook$Row" ({ cls := "PackageBook$Row", name := "putTwo", desc := "(I)V" } : Jvm.MethodName) ({ cls := "PackageBook$Row", name := "putTwo", desc := "(I)V" } : Jvm.MethodName)) ∈ uW := uW_of 550 (by decide +kernel) (by decide +kernel)
theorem hy_Row_putTwo : (y_Row_putTwo).cls ≠ "java/lang/invoke/MethodHandle" ∧ (y_Row_putTwo).cls ≠ "java/lang/invoke/VarHandle" ∧ (parseMethodDescriptor (y_Row_putTwo).desc).map (fun d => d.parameters.length) = some 1 := by decide +kernel
theorem d_Row_putFour_5 : decode prog_9_method_4_code 5 = .ok (.aload_n 0, 1) := by decide +kernel
theorem d_Row_putFour_6 : decode prog_9_method_4_code 6 = .ok (.iload_n 1, 1) := by decide +kernel
theorem d_Row_putFour_7 : decode prog_9_method_4_code 7 = .ok (.bipush 16, 2) := by decide +kernel
theorem d_Row_putFour_9 : decode prog_9_method_4_code 9 = .ok (.ishr, 1) := by decide +kernel
theorem d_Row_putFour_10 : decode prog_9_method_4_code 10 = .ok (.invokevirtual 21, 3) := by decide +kernel
theorem d_Row_putFour_13 : decode prog_9_method_4_code 13 = .ok (.return_, 1) := by decide +kernel
abbrev y_Row_putFour : MethodName := ⟨"PackageBook$Row", "putFour", "(I)V"⟩
abbrev i_Row_putFour : pb_I := (y_Row_putFour, prog_9_method_4_code, 2, (Option.none : Option Jvm.ClassFile.FieldType), [], { frames := 2, cells := 0, slots := 0, locals := 42 })
set_option maxRecDepth 100000 in
set_option maxHeartbeats 4000000 in
theorem g_Row_putFour {l : Launch} (hl : l.stackTraces = false) (G : pb_G) (h : Nat) (b : Nat) (N : Nat) (f : Nat → Int32) (sz : Int32) (v : Int32) (h0 : 0 ≤ sz.toInt) (h1 : sz.toInt + 4 ≤ N) (hN : N ≤ 100000) (F_f : sb_Fit f) : Cn l G i_Row_putFour [.ref h, .int v] [(h, .inr (0, [.ref b, .int sz])), (b, .inl (G.2.1, N, .inl f))] (S := Int32 × (Nat → Int32)) (fun rv_ u => rv_ = none ∧ (u.1.toInt = sz.toInt + 4) ∧ (ap_ f sz.toInt u.2 u.1.toInt (nk_ v.toInt 4)) ∧ (sb_Fit u.2)) (fun u => [(h, .inr (0, [.ref b, .int u.1])), (b, .inl (G.2.1, N, .inl u.2))]) := by
  refine Cn.of hl (by decide +kernel) rfl (Nat.le_of_ble_eq_true rfl) (fun M hQ => ?_)
  refine pb_eq (pc' := 0) (lo' := [(0, .ref h), (1, .int v)]) (rest' := []) (ws' := [(h, .inr (0, [.ref b, .int sz])), (b, .inl (G.2.1, N, .inl f))]) ?_
  have zl0 : (0 : Int32).toInt = 0 := by decide
  have zl1 : (1 : Int32).toInt = 1 := by decide
  have zl16 : (16 : Int32).toInt = 16 := by decide
  refine pb_aload_n (pc := 0) d_Row_putFour_0 0 rfl rfl ?_
  refine pb_iload_n (pc := 1) d_Row_putFour_1 1 rfl rfl ?_
  refine pb_callV (pc := 2) (I := i_Row_putFour) (qb := 0) (ci := 0) (nA := 1) (rest := []) (wr := []) d_Row_putFour_2 (g_Row_putTwo hl G h b N f sz v (by first | (with_reducible assumption) | omega (splitDisjunctions := false) | assumption | omega | decide) (by first | (with_reducible assumption) | omega (splitDisjunctions := false) | assumption | omega | decide) (by first | (with_reducible assumption) | omega (splitDisjunctions := false) | assumption | omega | decide) F_f) rfl rfl [0, 1] [] (by decide) rfl rfl rfl (by decide) (by decide) k_551 rfl k_119 k_548 k_549 k_550 ⟨rfl, hy_Row_putTwo⟩ (by decide) rfl rfl (Nat.le_of_ble_eq_true rfl) (by decide) (fun v9 u2 ch1 => ?_)
  obtain ⟨s_3, f_4⟩ := u2
  obtain ⟨ech1, ch1⟩ := ch1
  have ech1 : v9 = none := ech1
  subst ech1
  obtain ⟨fh5, fh6, fh7⟩ : (s_3.toInt = sz.toInt + 2) ∧ (ap_ f sz.toInt f_4 s_3.toInt (nk_ v.toInt 2)) ∧ (sb_Fit f_4) := ch1
  have a1 := fh6
  refine pb_eq (pc' := 5) (lo' := [(0, .ref h), (1, .int v)]) (rest' := []) (ws' := [(h, .inr (0, [.ref b, .int s_3])), (b, .inl (G.2.1, N, .inl f_4))]) ?_
  refine pb_aload_n (pc := 5) d_Row_putFour_5 0 rfl rfl ?_
  refine pb_iload_n (pc := 6) d_Row_putFour_6 1 rfl rfl ?_
  refine pb_bipush (pc := 7) (v := 16) d_Row_putFour_7 (by decide) ?_
  refine pb_ishr (pc := 9) d_Row_putFour_9 ?_
  refine pb_topi (fun i8 ei8 => ?_)
  have ti8 : i8.toInt = v.toInt / 65536 := ti_shr ei8 rfl 16 (by decide) (by decide)
  refine pb_callV (pc := 10) (I := i_Row_putFour) (qb := 0) (ci := 0) (nA := 1) (rest := []) (wr := []) d_Row_putFour_10 (g_Row_putTwo hl G h b N f_4 s_3 i8 (by first | (with_reducible assumption) | omega (splitDisjunctions := false) | assumption | omega | decide) (by first | (with_reducible assumption) | omega (splitDisjunctions := false) | assumption | omega | decide) (by first | (with_reducible assumption) | omega (splitDisjunctions := false) | assumption | omega | decide) fh7) rfl rfl [0, 1] [] (by decide) rfl rfl rfl (by decide) (by decide) k_551 rfl k_119 k_548 k_549 k_550 ⟨rfl, hy_Row_putTwo⟩ (by decide) rfl rfl (Nat.le_of_ble_eq_true rfl) (by decide) (fun v9 u10 ch9 => ?_)
  obtain ⟨s_11, f_12⟩ := u10
  obtain ⟨ech9, ch9⟩ := ch9
  have ech9 : v9 = none := ech9
  subst ech9
  obtain ⟨fh13, fh14, fh15⟩ : (s_11.toInt = s_3.toInt + 2) ∧ (ap_ f_4 s_3.toInt f_12 s_11.toInt (nk_ i8.toInt 2)) ∧ (sb_Fit f_12) := ch9
  have a2 := fh14
  rw [show i8.toInt = v.toInt / 65536 by omega] at a2
  refine pb_eq (pc' := 13) (lo' := [(0, .ref h), (1, .int v)]) (rest' := []) (ws' := [(h, .inr (0, [.ref b, .int s_11])), (b, .inl (G.2.1, N, .inl f_12))]) ?_
  exact pb_vret (pc := 13) hQ d_Row_putFour_13 rfl (s_11, f_12) ⟨rfl, (by (try dsimp only); first | done | (with_reducible assumption) | omega (splitDisjunctions := false) | assumption | omega | decide), (show ap_ f sz.toInt f_12 s_11.toInt (nk_ v.toInt 4) from (ap_e (ap_app h0 a1 a2) (nk_4 _).symm)), fh15⟩ [0, 1] (by decide) rfl rfl (by decide) (by decide)

theorem d_Row_putBytes_0 : decode prog_9_method_5_code 0 = .ok (.iload_n 3, 1) := by decide +kernel
theorem d_Row_putBytes_1 : decode prog_9_method_5_code 1 = .ok (.aload_n 0, 1) := by decide +kernel
theorem d_Row_putBytes_2 : decode prog_9_method_5_code 2 = .ok (.getfield 7, 3) := by decide +kernel
theorem d_Row_putBytes_5 : decode prog_9_method_5_code 5 = .ok (.arraylength, 1) := by decide +kernel
theorem d_Row_putBytes_6 : decode prog_9_method_5_code 6 = .ok (.aload_n 0, 1) := by decide +kernel
theorem d_Row_putBytes_7 : decode prog_9_method_5_code 7 = .ok (.getfield 13, 3) := by decide +kernel
theorem d_Row_putBytes_10 : decode prog_9_method_5_code 10 = .ok (.isub, 1) := by decide +kernel
theorem d_Row_putBytes_11 : decode prog_9_method_5_code 11 = .ok (.if_icmp .gt 27, 3) := by decide +kernel
theorem d_Row_putBytes_14 : decode prog_9_method_5_code 14 = .ok (.aload_n 1, 1) := by decide +kernel
theorem d_Row_putBytes_15 : decode prog_9_method_5_code 15 = .ok (.iload_n 2, 1) := by decide +kernel
theorem d_Row_putBytes_16 : decode prog_9_method_5_code 16 = .ok (.aload_n 0, 1) := by decide +kernel
theorem d_Row_putBytes_17 : decode prog_9_method_5_code 17 = .ok (.getfield 7, 3) := by decide +kernel
theorem d_Row_putBytes_20 : decode prog_9_method_5_code 20 = .ok (.aload_n 0, 1) := by decide +kernel
theorem d_Row_putBytes_21 : decode prog_9_method_5_code 21 = .ok (.getfield 13, 3) := by decide +kernel
theorem d_Row_putBytes_24 : decode prog_9_method_5_code 24 = .ok (.iload_n 3, 1) := by decide +kernel
theorem d_Row_putBytes_25 : decode prog_9_method_5_code 25 = .ok (.invokestatic 24, 3) := by decide +kernel
theorem k_565 : (Jvm.Cond.methodLink "PackageBook$Row" (24 : Nat) ({ cls := "java/lang/System", name := "arraycopy", desc := "(Ljava/lang/Object;ILjava/lang/Object;II)V" } : Jvm.MethodName)) ∈ uW := uW_of 565 (by decide +kernel) (by decide +kernel)
theorem k_484 : (Jvm.Cond.native ({ cls := "java/lang/System", name := "arraycopy", desc := "(Ljava/lang/Object;ILjava/lang/Object;II)V" } : Jvm.MethodName)) ∈ uW := uW_of 484 (by decide +kernel) (by decide +kernel)
theorem k_483 : (Jvm.Cond.static ({ cls := "java/lang/System", name := "arraycopy", desc := "(Ljava/lang/Object;ILjava/lang/Object;II)V" } : Jvm.MethodName)) ∈ uW := uW_of 483 (by decide +kernel) (by decide +kernel)
theorem k_134 : (Jvm.Cond.initialized "java/lang/System") ∈ uW := uW_of 134 (by decide +kernel) (by decide +kernel)
theorem d_Row_putBytes_28 : decode prog_9_method_5_code 28 = .ok (.aload_n 0, 1) := by decide +kernel
theorem d_Row_putBytes_29 : decode prog_9_method_5_code 29 = .ok (.dup, 1) := by decide +kernel
theorem d_Row_putBytes_30 : decode prog_9_method_5_code 30 = .ok (.getfield 13, 3) := by decide +kernel
theorem d_Row_putBytes_33 : decode prog_9_method_5_code 33 = .ok (.iload_n 3, 1) := by decide +kernel
theorem d_Row_putBytes_34 : decode prog_9_method_5_code 34 = .ok (.iadd, 1) := by decide +kernel
theorem d_Row_putBytes_35 : decode prog_9_method_5_code 35 = .ok (.putfield 13, 3) := by decide +kernel
theorem d_Row_putBytes_38 : decode prog_9_method_5_code 38 = .ok (.return_, 1) := by decide +kernel
abbrev y_Row_putBytes : MethodName := ⟨"PackageBook$Row", "putBytes", "([BII)V"⟩
abbrev i_Row_putBytes : pb_I := (y_Row_putBytes, prog_9_method_5_code, 4, (Option.none : Option Jvm.ClassFile.FieldType), [], { frames := 1, cells := 0, slots := 0, locals := 60 })
set_option maxRecDepth 100000 in
set_option maxHeartbeats 4000000 in
theorem g_Row_putBytes {l : Launch} (hl : l.stackTraces = false) (G : pb_G) (h : Nat) (b : Nat) (N : Nat) (f : Nat → Int32) (sz : Int32) (c : Nat) (Mc : Nat) (g : Nat → Int32) (x : Int32) (n : Int32) (h0 : 0 ≤ sz.toInt) (h1 : 0 ≤ n.toInt) (h2 : sz.toInt + n.toInt ≤ N) (h3 : 0 ≤ x.toInt) (hN : N ≤ 100000) (h4 : x.toInt + n.toInt ≤ Mc) (hM : Mc ≤ 100000) (F_f : sb_Fit f) (F_g : sb_Fit g) : Cn l G i_Row_putBytes [.ref h, .ref c, .int x, .int n] [(h, .inr (0, [.ref b, .int sz])), (b, .inl (G.2.1, N, .inl f)), (c, .inl (G.2.1, Mc, .inl g))] (S := Int32 × (Nat → Int32)) (fun rv_ u => rv_ = none ∧ (u.1.toInt = sz.toInt + n.toInt) ∧ (∀ j : Int, 0 ≤ j → gr u.2 j = if sz.toInt ≤ j ∧ j < sz.toInt + n.toInt then gr g (x.toInt + (j - sz.toInt)) else gr f j) ∧ (ap_ f sz.toInt u.2 u.1.toInt (bl_ g x.toInt n.toInt)) ∧ (sb_Fit u.2)) (fun u => [(h, .inr (0, [.ref b, .int u.1])), (b, .inl (G.2.1, N, .inl u.2)), (c, .inl (G.2.1, Mc, .inl g))]) := by
  refine Cn.of hl (by decide +kernel) rfl (Nat.le_of_ble_eq_true rfl) (fun M hQ => ?_)
  refine pb_eq (pc' := 0) (lo' := [(0, .ref h), (1, .ref c), (2, .int x), (3, .int n)]) (rest' := []) (ws' := [(h, .inr (0, [.ref b, .int sz])), (b, .inl (G.2.1, N, .inl f)), (c, .inl (G.2.1, Mc, .inl g))]) ?_
  have zl0 : (0 : Int32).toInt = 0 := by decide
  have zl1 : (1 : Int32).toInt = 1 := by decide
  refine pb_iload_n (pc := 0) d_Row_putBytes_0 3 rfl rfl ?_
  refine pb_aload_n (pc := 1) d_Row_putBytes_1 0 rfl rfl ?_
  refine pb_get (pc := 2) d_Row_putBytes_2 0 0 rfl rfl (by decide) in_Row k_156 rfl ?_
  refine pb_alen (pc := 5) d_Row_putBytes_5 1 0 rfl rfl rfl ?_
  refine pb_topi (fun i1 ei1 => ?_)
  have ti1 : i1.toInt = (N : Int) := ti_ofNat ei1 (by omega)
  refine pb_aload_n (pc := 6) d_Row_putBytes_6 0 rfl rfl ?_
  refine pb_get (pc := 7) d_Row_putBytes_7 0 1 rfl rfl (by decide) in_Row k_162 rfl ?_
  refine pb_isub (pc := 10) d_Row_putBytes_10 ?_
  refine pb_topi (fun i2 ei2 => ?_)
  try have ti2 : i2.toInt = i1.toInt - sz.toInt := ti_sub ei2 rfl rfl (by omega) (by omega)
  refine pb_icmp_gt (pc := 11) (tgt := 38) d_Row_putBytes_11 (by decide) (fun h9 => False.elim (by have t9 : i2.toInt < n.toInt := (ti_lt rfl rfl).mp h9; omega)) (fun w3 => ?_)
  have tw3 : ¬ i2.toInt < n.toInt := fun z9 => w3 ((ti_lt rfl rfl).mpr z9)
  refine pb_aload_n (pc := 14) d_Row_putBytes_14 1 rfl rfl ?_
  refine pb_iload_n (pc := 15) d_Row_putBytes_15 2 rfl rfl ?_
  refine pb_aload_n (pc := 16) d_Row_putBytes_16 0 rfl rfl ?_
  refine pb_get (pc := 17) d_Row_putBytes_17 0 0 rfl rfl (by decide) in_Row k_156 rfl ?_
  refine pb_aload_n (pc := 20) d_Row_putBytes_20 0 rfl rfl ?_
  refine pb_get (pc := 21) d_Row_putBytes_21 0 1 rfl rfl (by decide) in_Row k_162 rfl ?_
  refine pb_iload_n (pc := 24) d_Row_putBytes_24 3 rfl rfl ?_
  refine pb_copy (pc := 25) (ws' := [(h, .inr (0, [.ref b, .int sz])), (b, .inl (G.2.1, N, .inl (va_cpy g f (x : Int32).toNatClampNeg (sz : Int32).toNatClampNeg (n : Int32).toNatClampNeg))), (c, .inl (G.2.1, Mc, .inl g))]) d_Row_putBytes_25 0 2 1 rfl rfl rfl rfl k_565 k_484 k_483 k_134 (fun z9 => by have t9 : x.toInt < 0 := (ti_lt rfl (by decide)).mp z9; omega) (fun z9 => by have t9 : sz.toInt < 0 := (ti_lt rfl (by decide)).mp z9; omega) (fun z9 => by have t9 : n.toInt < 0 := (ti_lt rfl (by decide)).mp z9; omega) (by have := ti_clamp (x := x) (by omega); have := ti_clamp (x := n) (by omega); omega) (by have := ti_clamp (x := sz) (by omega); have := ti_clamp (x := n) (by omega); omega) (fun i _ => F_g _) (by decide) (Nat.le_of_ble_eq_true rfl) rfl ?_
  refine pb_aload_n (pc := 28) d_Row_putBytes_28 0 rfl rfl ?_
  refine pb_dup (pc := 29) d_Row_putBytes_29 rfl ?_
  refine pb_get (pc := 30) d_Row_putBytes_30 0 1 rfl rfl (by decide) in_Row k_162 rfl ?_
  refine pb_iload_n (pc := 33) d_Row_putBytes_33 3 rfl rfl ?_
  refine pb_iadd (pc := 34) d_Row_putBytes_34 ?_
  refine pb_topi (fun i4 ei4 => ?_)
  try have ti4 : i4.toInt = sz.toInt + n.toInt := ti_add ei4 rfl rfl (by omega) (by omega)
  refine pb_put (pc := 35) (ty := .int) (ws' := [(h, .inr (0, [.ref b, .int i4])), (b, .inl (G.2.1, N, .inl (va_cpy g f (x : Int32).toNatClampNeg (sz : Int32).toNatClampNeg (n : Int32).toNatClampNeg))), (c, .inl (G.2.1, Mc, .inl g))]) d_Row_putBytes_35 0 1 t_Row t_Row_ok n_Row rfl rfl (by decide) in_Row k_162 rfl (by decide +kernel) rfl rfl (Nat.le_of_ble_eq_true rfl) rfl ?_
  exact pb_vret (pc := 38) hQ d_Row_putBytes_38 rfl (i4, (va_cpy g f (x : Int32).toNatClampNeg (sz : Int32).toNatClampNeg (n : Int32).toNatClampNeg)) ⟨rfl, (by (try dsimp only); first | done | (with_reducible assumption) | omega (splitDisjunctions := false) | assumption | omega | decide), (show ∀ j : Int, 0 ≤ j → gr (va_cpy g f (x : Int32).toNatClampNeg (sz : Int32).toNatClampNeg (n : Int32).toNatClampNeg) j = if sz.toInt ≤ j ∧ j < sz.toInt + n.toInt then gr g (x.toInt + (j - sz.toInt)) else gr f j from (fun j hj => gr_cpy rfl rfl rfl j h3 h0 h1 hj)), (show ap_ f sz.toInt (va_cpy g f (x : Int32).toNatClampNeg (sz : Int32).toNatClampNeg (n : Int32).toNatClampNeg) i4.toInt (bl_ g x.toInt n.toInt) from (ap_bl (by omega) h1 h0 (fun j hj => gr_cpy rfl rfl rfl j h3 h0 h1 hj))), (sb_fitC F_g F_f)⟩ [0, 1, 2] (by decide) rfl rfl (by decide) (by decide)

set_option maxRecDepth 100000 in
set_option maxHeartbeats 4000000 in
theorem g_Row_putBytes1 {l : Launch} (hl : l.stackTraces = false) (G : pb_G) (h : Nat) (b : Nat) (N : Nat) (f : Nat → Int32) (sz : Int32) (x : Int32) (n : Int32) (h0 : 0 ≤ sz.toInt) (h1 : 0 ≤ n.toInt) (h2 : sz.toInt + n.toInt ≤ N) (h3 : 0 ≤ x.toInt) (hN : N ≤ 100000) (h4 : x.toInt + n.toInt ≤ N) (F_f : sb_Fit f) : Cn l G i_Row_putBytes [.ref h, .ref b, .int x, .int n] [(h, .inr (0, [.ref b, .int sz])), (b, .inl (G.2.1, N, .inl f))] (S := Int32 × (Nat → Int32)) (fun rv_ u => rv_ = none ∧ (u.1.toInt = sz.toInt + n.toInt) ∧ (∀ j : Int, 0 ≤ j → gr u.2 j = if sz.toInt ≤ j ∧ j < sz.toInt + n.toInt then gr f (x.toInt + (j - sz.toInt)) else gr f j) ∧ (ap_ f sz.toInt u.2 u.1.toInt (bl_ f x.toInt n.toInt)) ∧ (sb_Fit u.2)) (fun u => [(h, .inr (0, [.ref b, .int u.1])), (b, .inl (G.2.1, N, .inl u.2))]) := by
  refine Cn.of hl (by decide +kernel) rfl (Nat.le_of_ble_eq_true rfl) (fun M hQ => ?_)
  refine pb_eq (pc' := 0) (lo' := [(0, .ref h), (1, .ref b), (2, .int x), (3, .int n)]) (rest' := []) (ws' := [(h, .inr (0, [.ref b, .int sz])), (b, .inl (G.2.1, N, .inl f))]) ?_
  have zl0 : (0 : Int32).toInt = 0 := by decide
  have zl1 : (1 : Int32).toInt = 1 := by decide
  refine pb_iload_n (pc := 0) d_Row_putBytes_0 3 rfl rfl ?_
  refine pb_aload_n (pc := 1) d_Row_putBytes_1 0 rfl rfl ?_
  refine pb_get (pc := 2) d_Row_putBytes_2 0 0 rfl rfl (by decide) in_Row k_156 rfl ?_
  refine pb_alen (pc := 5) d_Row_putBytes_5 1 0 rfl rfl rfl ?_
  refine pb_topi (fun i1 ei1 => ?_)
  have ti1 : i1.toInt = (N : Int) := ti_ofNat ei1 (by omega)
  refine pb_aload_n (pc := 6) d_Row_putBytes_6 0 rfl rfl ?_
  refine pb_get (pc := 7) d_Row_putBytes_7 0 1 rfl rfl (by decide) in_Row k_162 rfl ?_
  refine pb_isub (pc := 10) d_Row_putBytes_10 ?_
  refine pb_topi (fun i2 ei2 => ?_)
  try have ti2 : i2.toInt = i1.toInt - sz.toInt := ti_sub ei2 rfl rfl (by omega) (by omega)
  refine pb_icmp_gt (pc := 11) (tgt := 38) d_Row_putBytes_11 (by decide) (fun h9 => False.elim (by have t9 : i2.toInt < n.toInt := (ti_lt rfl rfl).mp h9; omega)) (fun w3 => ?_)
  have tw3 : ¬ i2.toInt < n.toInt := fun z9 => w3 ((ti_lt rfl rfl).mpr z9)
  refine pb_aload_n (pc := 14) d_Row_putBytes_14 1 rfl rfl ?_
  refine pb_iload_n (pc := 15) d_Row_putBytes_15 2 rfl rfl ?_
  refine pb_aload_n (pc := 16) d_Row_putBytes_16 0 rfl rfl ?_
  refine pb_get (pc := 17) d_Row_putBytes_17 0 0 rfl rfl (by decide) in_Row k_156 rfl ?_
  refine pb_aload_n (pc := 20) d_Row_putBytes_20 0 rfl rfl ?_
  refine pb_get (pc := 21) d_Row_putBytes_21 0 1 rfl rfl (by decide) in_Row k_162 rfl ?_
  refine pb_iload_n (pc := 24) d_Row_putBytes_24 3 rfl rfl ?_
  refine pb_copy (pc := 25) (ws' := [(h, .inr (0, [.ref b, .int sz])), (b, .inl (G.2.1, N, .inl (va_cpy f f (x : Int32).toNatClampNeg (sz : Int32).toNatClampNeg (n : Int32).toNatClampNeg)))]) d_Row_putBytes_25 0 1 1 rfl rfl rfl rfl k_565 k_484 k_483 k_134 (fun z9 => by have t9 : x.toInt < 0 := (ti_lt rfl (by decide)).mp z9; omega) (fun z9 => by have t9 : sz.toInt < 0 := (ti_lt rfl (by decide)).mp z9; omega) (fun z9 => by have t9 : n.toInt < 0 := (ti_lt rfl (by decide)).mp z9; omega) (by have := ti_clamp (x := x) (by omega); have := ti_clamp (x := n) (by omega); omega) (by have := ti_clamp (x := sz) (by omega); have := ti_clamp (x := n) (by omega); omega) (fun i _ => F_f _) (by decide) (Nat.le_of_ble_eq_true rfl) rfl ?_
  refine pb_aload_n (pc := 28) d_Row_putBytes_28 0 rfl rfl ?_
  refine pb_dup (pc := 29) d_Row_putBytes_29 rfl ?_
  refine pb_get (pc := 30) d_Row_putBytes_30 0 1 rfl rfl (by decide) in_Row k_162 rfl ?_
  refine pb_iload_n (pc := 33) d_Row_putBytes_33 3 rfl rfl ?_
  refine pb_iadd (pc := 34) d_Row_putBytes_34 ?_
  refine pb_topi (fun i4 ei4 => ?_)
  try have ti4 : i4.toInt = sz.toInt + n.toInt := ti_add ei4 rfl rfl (by omega) (by omega)
  refine pb_put (pc := 35) (ty := .int) (ws' := [(h, .inr (0, [.ref b, .int i4])), (b, .inl (G.2.1, N, .inl (va_cpy f f (x : Int32).toNatClampNeg (sz : Int32).toNatClampNeg (n : Int32).toNatClampNeg)))]) d_Row_putBytes_35 0 1 t_Row t_Row_ok n_Row rfl rfl (by decide) in_Row k_162 rfl (by decide +kernel) rfl rfl (Nat.le_of_ble_eq_true rfl) rfl ?_
  exact pb_vret (pc := 38) hQ d_Row_putBytes_38 rfl (i4, (va_cpy f f (x : Int32).toNatClampNeg (sz : Int32).toNatClampNeg (n : Int32).toNatClampNeg)) ⟨rfl, (by (try dsimp only); first | done | (with_reducible assumption) | omega (splitDisjunctions := false) | assumption | omega | decide), (show ∀ j : Int, 0 ≤ j → gr (va_cpy f f (x : Int32).toNatClampNeg (sz : Int32).toNatClampNeg (n : Int32).toNatClampNeg) j = if sz.toInt ≤ j ∧ j < sz.toInt + n.toInt then gr f (x.toInt + (j - sz.toInt)) else gr f j from (fun j hj => gr_cpy rfl rfl rfl j h3 h0 h1 hj)), (show ap_ f sz.toInt (va_cpy f f (x : Int32).toNatClampNeg (sz : Int32).toNatClampNeg (n : Int32).toNatClampNeg) i4.toInt (bl_ f x.toInt n.toInt) from (ap_bl (by omega) h1 h0 (fun j hj => gr_cpy rfl rfl rfl j h3 h0 h1 hj))), (sb_fitC F_f F_f)⟩ [0, 1] (by decide) rfl rfl (by decide) (by decide)

theorem d_Row_become_0 : decode prog_9_method_6_code 0 = .ok (.aload_n 0, 1) := by decide +kernel
theorem d_Row_become_1 : decode prog_9_method_6_code 1 = .ok (.iconst 0, 1) := by decide +kernel
theorem d_Row_become_2 : decode prog_9_method_6_code 2 = .ok (.putfield 13, 3) := by decide +kernel
theorem d_Row_become_5 : decode prog_9_method_6_code 5 = .ok (.aload_n 0, 1) := by decide +kernel
theorem d_Row_become_6 : decode prog_9_method_6_code 6 = .ok (.aload_n 1, 1) := by decide +kernel
theorem d_Row_become_7 : decode prog_9_method_6_code 7 = .ok (.getfield 7, 3) := by decide +kernel
theorem d_Row_become_10 : decode prog_9_method_6_code 10 = .ok (.iconst 0, 1) := by decide +kernel
theorem d_Row_become_11 : decode prog_9_method_6_code 11 = .ok (.aload_n 1, 1) := by decide +kernel
theorem d_Row_become_12 : decode prog_9_method_6_code 12 = .ok (.getfield 13, 3) := by decide +kernel
theorem d_Row_become_15 : decode prog_9_method_6_code 15 = .ok (.invokevirtual 30, 3) := by decide +kernel
theorem k_722 : (Jvm.Cond.methodLink "PackageBook$Row" (30 : Nat) ({ cls := "PackageBook$Row", name := "putBytes", desc := "([BII)V" } : Jvm.MethodName)) ∈ uW := uW_of 722 (by decide +kernel) (by decide +kernel)
theorem k_564 : (Jvm.Cond.code ({ cls := "PackageBook$Row", name := "putBytes", desc := "([BII)V" } : Jvm.MethodName) prog_9_method_5_code (4 : Nat) (Option.none : Option Jvm.ClassFile.FieldType)) ∈ uW := uW_of 564 (by decide +kernel) (by decide +kernel)
theorem k_562 : (Jvm.Cond.instanceMethod ({ cls := "PackageBook$Row", name := "putBytes", desc := "([BII)V" } : Jvm.MethodName)) ∈ uW := uW_of 562 (by decide +kernel) (by decide +kernel)
theorem k_563 : (Jvm.Cond.selects "PackageBook$Row" ({ cls := "PackageBook$Row", name := "putBytes", desc := "([BII)V" } : Jvm.MethodName) ({ cls := "PackageBook$Row", name := "putBytes", desc := "([BII)V" } : Jvm.MethodName)) ∈ uW := uW_of 563 (by decide +kernel) (by decide +kernel)
theorem hy_Row_putBytes : (y_Row_putBytes).cls ≠ "java/lang/invoke/MethodHandle" ∧ (y_Row_putBytes).cls ≠ "java/lang/invoke/VarHandle" ∧ (parseMethodDescriptor (y_Row_putBytes).desc).map (fun d => d.parameters.length) = some 3 := by decide +kernel
theorem d_Row_become_18 : decode prog_9_method_6_code 18 = .ok (.return_, 1) := by decide +kernel
abbrev y_Row_become : MethodName := ⟨"PackageBook$Row", "become", "(LPackageBook$Row;)V"⟩
abbrev i_Row_become : pb_I := (y_Row_become, prog_9_method_6_code, 2, (Option.none : Option Jvm.ClassFile.FieldType), [], { frames := 2, cells := 0, slots := 0, locals := 83 })
set_option maxRecDepth 100000 in
set_option maxHeartbeats 4000000 in
theorem g_Row_become {l : Launch} (hl : l.stackTraces = false) (G : pb_G) (h : Nat) (b : Nat) (N : Nat) (f : Nat → Int32) (sz : Int32) (h2 : Nat) (c : Nat) (Mc : Nat) (g : Nat → Int32) (sy : Int32) (h0 : 0 ≤ sy.toInt) (h1 : sy.toInt ≤ N) (h2_ : sy.toInt ≤ Mc) (hN : N ≤ 100000) (hM : Mc ≤ 100000) (F_f : sb_Fit f) (F_g : sb_Fit g) : Cn l G i_Row_become [.ref h, .ref h2] [(h, .inr (0, [.ref b, .int sz])), (b, .inl (G.2.1, N, .inl f)), (h2, .inr (0, [.ref c, .int sy])), (c, .inl (G.2.1, Mc, .inl g))] (S := Int32 × (Nat → Int32)) (fun rv_ u => rv_ = none ∧ (u.1.toInt = sy.toInt) ∧ (rl_B g u.2 sy.toInt) ∧ (sb_Fit u.2)) (fun u => [(h, .inr (0, [.ref b, .int u.1])), (b, .inl (G.2.1, N, .inl u.2)), (h2, .inr (0, [.ref c, .int sy])), (c, .inl (G.2.1, Mc, .inl g))]) := by
  refine Cn.of hl (by decide +kernel) rfl (Nat.le_of_ble_eq_true rfl) (fun M hQ => ?_)
  refine pb_eq (pc' := 0) (lo' := [(0, .ref h), (1, .ref h2)]) (rest' := []) (ws' := [(h, .inr (0, [.ref b, .int sz])), (b, .inl (G.2.1, N, .inl f)), (h2, .inr (0, [.ref c, .int sy])), (c, .inl (G.2.1, Mc, .inl g))]) ?_
  have zl0 : (0 : Int32).toInt = 0 := by decide
  have zl1 : (1 : Int32).toInt = 1 := by decide
  refine pb_aload_n (pc := 0) d_Row_become_0 0 rfl rfl ?_
  refine pb_iconst (pc := 1) (v := 0) d_Row_become_1 (by decide) ?_
  refine pb_put (pc := 2) (ty := .int) (ws' := [(h, .inr (0, [.ref b, .int 0])), (b, .inl (G.2.1, N, .inl f)), (h2, .inr (0, [.ref c, .int sy])), (c, .inl (G.2.1, Mc, .inl g))]) d_Row_become_2 0 1 t_Row t_Row_ok n_Row rfl rfl (by decide) in_Row k_162 rfl (by decide +kernel) rfl rfl (Nat.le_of_ble_eq_true rfl) rfl ?_
  refine pb_aload_n (pc := 5) d_Row_become_5 0 rfl rfl ?_
  refine pb_aload_n (pc := 6) d_Row_become_6 1 rfl rfl ?_
  refine pb_get (pc := 7) d_Row_become_7 2 0 rfl rfl (by decide) in_Row k_156 rfl ?_
  refine pb_iconst (pc := 10) (v := 0) d_Row_become_10 (by decide) ?_
  refine pb_aload_n (pc := 11) d_Row_become_11 1 rfl rfl ?_
  refine pb_get (pc := 12) d_Row_become_12 2 1 rfl rfl (by decide) in_Row k_162 rfl ?_
  refine pb_callV (pc := 15) (I := i_Row_become) (qb := 0) (ci := 0) (nA := 3) (rest := []) (wr := [(h2, .inr (0, [.ref c, .int sy]))]) d_Row_become_15 (g_Row_putBytes hl G h b N f 0 c Mc g 0 sy (by first | (with_reducible assumption) | omega (splitDisjunctions := false) | assumption | omega | decide) (by first | (with_reducible assumption) | omega (splitDisjunctions := false) | assumption | omega | decide) (by first | (with_reducible assumption) | omega (splitDisjunctions := false) | assumption | omega | decide) (by first | (with_reducible assumption) | omega (splitDisjunctions := false) | assumption | omega | decide) (by first | (with_reducible assumption) | omega (splitDisjunctions := false) | assumption | omega | decide) (by first | (with_reducible assumption) | omega (splitDisjunctions := false) | assumption | omega | decide) (by first | (with_reducible assumption) | omega (splitDisjunctions := false) | assumption | omega | decide) F_f F_g) rfl rfl [0, 1, 3] [2] (by decide) rfl rfl rfl (by decide) (by decide) k_564 rfl k_119 k_722 k_562 k_563 ⟨rfl, hy_Row_putBytes⟩ (by decide) rfl rfl (Nat.le_of_ble_eq_true rfl) (by decide) (fun v9 u2 ch1 => ?_)
  obtain ⟨s_3, f_4⟩ := u2
  obtain ⟨ech1, ch1⟩ := ch1
  have ech1 : v9 = none := ech1
  subst ech1
  obtain ⟨fh5, fh6, fh7, fh8⟩ : (s_3.toInt = (0 : Int32).toInt + sy.toInt) ∧ (∀ j : Int, 0 ≤ j → gr f_4 j = if (0 : Int32).toInt ≤ j ∧ j < (0 : Int32).toInt + sy.toInt then gr g ((0 : Int32).toInt + (j - (0 : Int32).toInt)) else gr f j) ∧ (ap_ f (0 : Int32).toInt f_4 s_3.toInt (bl_ g (0 : Int32).toInt sy.toInt)) ∧ (sb_Fit f_4) := ch1
  have pbF := fh6
  refine pb_eq (pc' := 18) (lo' := [(0, .ref h), (1, .ref h2)]) (rest' := []) (ws' := [(h2, .inr (0, [.ref c, .int sy])), (h, .inr (0, [.ref b, .int s_3])), (b, .inl (G.2.1, N, .inl f_4)), (c, .inl (G.2.1, Mc, .inl g))]) ?_
  exact pb_vret (pc := 18) hQ d_Row_become_18 rfl (s_3, f_4) ⟨rfl, (by (try dsimp only); first | done | (with_reducible assumption) | omega (splitDisjunctions := false) | assumption | omega | decide), (show rl_B g f_4 sy.toInt from (fun j h0 h1 => by rw [pbF j h0, if_pos (by omega)]; exact congrArg (gr g) (by omega))), fh8⟩ [1, 2, 0, 3] (by decide) rfl rfl (by decide) (by decide)
