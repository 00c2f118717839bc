theorem d_Presser_mixAt_0 : decode prog_8_method_6_code 0 = .ok (.aload_n 0, 1) := by decide +kernel
theorem d_Presser_mixAt_1 : decode prog_8_method_6_code 1 = .ok (.getfield 31, 3) := by decide +kernel
theorem k_187 : (Jvm.Cond.fieldLink "PackageBook$Presser" (31 : Nat) "PackageBook$Presser" "begin" "I") ∈ uW := uW_of 187 (by decide +kernel) (by decide +kernel)
theorem d_Presser_mixAt_4 : decode prog_8_method_6_code 4 = .ok (.iload_n 1, 1) := by decide +kernel
theorem d_Presser_mixAt_5 : decode prog_8_method_6_code 5 = .ok (.iadd, 1) := by decide +kernel
theorem d_Presser_mixAt_6 : decode prog_8_method_6_code 6 = .ok (.istore_n 2, 1) := by decide +kernel
theorem d_Presser_mixAt_7 : decode prog_8_method_6_code 7 = .ok (.aload_n 0, 1) := by decide +kernel
theorem d_Presser_mixAt_8 : decode prog_8_method_6_code 8 = .ok (.getfield 27, 3) := by decide +kernel
theorem d_Presser_mixAt_11 : decode prog_8_method_6_code 11 = .ok (.iload_n 2, 1) := by decide +kernel
theorem d_Presser_mixAt_12 : decode prog_8_method_6_code 12 = .ok (.baload, 1) := by decide +kernel
theorem d_Presser_mixAt_13 : decode prog_8_method_6_code 13 = .ok (.bipush 6, 2) := by decide +kernel
theorem d_Presser_mixAt_15 : decode prog_8_method_6_code 15 = .ok (.ishl, 1) := by decide +kernel
theorem d_Presser_mixAt_16 : decode prog_8_method_6_code 16 = .ok (.aload_n 0, 1) := by decide +kernel
theorem d_Presser_mixAt_17 : decode prog_8_method_6_code 17 = .ok (.getfield 27, 3) := by decide +kernel
theorem d_Presser_mixAt_20 : decode prog_8_method_6_code 20 = .ok (.iload_n 2, 1) := by decide +kernel
theorem d_Presser_mixAt_21 : decode prog_8_method_6_code 21 = .ok (.iconst 1, 1) := by decide +kernel
theorem d_Presser_mixAt_22 : decode prog_8_method_6_code 22 = .ok (.iadd, 1) := by decide +kernel
theorem d_Presser_mixAt_23 : decode prog_8_method_6_code 23 = .ok (.baload, 1) := by decide +kernel
theorem d_Presser_mixAt_24 : decode prog_8_method_6_code 24 = .ok (.iconst 3, 1) := by decide +kernel
theorem d_Presser_mixAt_25 : decode prog_8_method_6_code 25 = .ok (.ishl, 1) := by decide +kernel
theorem d_Presser_mixAt_26 : decode prog_8_method_6_code 26 = .ok (.ixor, 1) := by decide +kernel
theorem d_Presser_mixAt_27 : decode prog_8_method_6_code 27 = .ok (.aload_n 0, 1) := by decide +kernel
theorem d_Presser_mixAt_28 : decode prog_8_method_6_code 28 = .ok (.getfield 27, 3) := by decide +kernel
theorem d_Presser_mixAt_31 : decode prog_8_method_6_code 31 = .ok (.iload_n 2, 1) := by decide +kernel
theorem d_Presser_mixAt_32 : decode prog_8_method_6_code 32 = .ok (.iconst 2, 1) := by decide +kernel
theorem d_Presser_mixAt_33 : decode prog_8_method_6_code 33 = .ok (.iadd, 1) := by decide +kernel
theorem d_Presser_mixAt_34 : decode prog_8_method_6_code 34 = .ok (.baload, 1) := by decide +kernel
theorem d_Presser_mixAt_35 : decode prog_8_method_6_code 35 = .ok (.ixor, 1) := by decide +kernel
theorem d_Presser_mixAt_36 : decode prog_8_method_6_code 36 = .ok (.sipush 1023, 3) := by decide +kernel
theorem d_Presser_mixAt_39 : decode prog_8_method_6_code 39 = .ok (.iand, 1) := by decide +kernel
theorem d_Presser_mixAt_40 : decode prog_8_method_6_code 40 = .ok (.ireturn, 1) := by decide +kernel
abbrev y_Presser_mixAt : MethodName := ⟨"PackageBook$Presser", "mixAt", "(I)I"⟩
abbrev i_Presser_mixAt : pb_I := (y_Presser_mixAt, prog_8_method_6_code, 3, (some Jvm.ClassFile.FieldType.int), [], { frames := 0, cells := 0, slots := 0, locals := 0 })
set_option maxRecDepth 100000 in
set_option maxHeartbeats 4000000 in
theorem g_Pr_mixAt {l : Launch} (hl : l.stackTraces = false) (G : pb_G) (h : Nat) (pp : Nat) (pl : Nat) (pe : Nat) (pr : Nat) (pb : Nat) (bg : Int32) (sz : Int32) (bt : Int32) (ln : Int32) (ds : Int32) (N : Nat) (fr : Nat → Int32) (x : Int32) (r0 : 0 ≤ bg.toInt) (r1 : bg.toInt + sz.toInt ≤ N) (r2 : N ≤ 100000) (r3 : sz.toInt ≤ 4000) (r4 : 0 ≤ sz.toInt) (x0 : 0 ≤ x.toInt) (x1 : x.toInt + 3 ≤ sz.toInt) (F_fr : sb_Fit fr) : Cn l G i_Presser_mixAt [.ref h, .int x] [(h, .inr (4, [.ref pp, .ref pl, .ref pe, .ref pr, .int bg, .int sz, .int bt, .int ln, .int ds])), (pr, .inl (G.2.1, N, .inl fr))] (S := Int32) (fun rv_ u => rv_ = some (.int u) ∧ (0 ≤ u.toInt) ∧ (u.toInt ≤ 1023) ∧ (u.toInt = mx_ (sq fr bg.toInt sz.toInt) x.toInt)) (fun u => [(h, .inr (4, [.ref pp, .ref pl, .ref pe, .ref pr, .int bg, .int sz, .int bt, .int ln, .int ds])), (pr, .inl (G.2.1, N, .inl fr))]) := by
  refine Cn.of hl (by decide +kernel) rfl (Nat.le_of_ble_eq_true rfl) (fun M hQ => ?_)
  refine pb_eq (pc' := 0) (lo' := [(0, .ref h), (1, .int x)]) (rest' := []) (ws' := [(h, .inr (4, [.ref pp, .ref pl, .ref pe, .ref pr, .int bg, .int sz, .int bt, .int ln, .int ds])), (pr, .inl (G.2.1, N, .inl fr))]) ?_
  have zl0 : (0 : Int32).toInt = 0 := by decide
  have zl1 : (1 : Int32).toInt = 1 := by decide
  have zl2 : (2 : Int32).toInt = 2 := by decide
  have zl3 : (3 : Int32).toInt = 3 := by decide
  have zl6 : (6 : Int32).toInt = 6 := by decide
  have zl1023 : (1023 : Int32).toInt = 1023 := by decide
  refine pb_aload_n (pc := 0) d_Presser_mixAt_0 0 rfl rfl ?_
  refine pb_get (pc := 1) d_Presser_mixAt_1 0 4 rfl rfl (by decide) in_Presser k_187 rfl ?_
  refine pb_iload_n (pc := 4) d_Presser_mixAt_4 1 rfl rfl ?_
  refine pb_iadd (pc := 5) d_Presser_mixAt_5 ?_
  refine pb_topi (fun i1 ei1 => ?_)
  try have ti1 : i1.toInt = bg.toInt + x.toInt := ti_add ei1 rfl rfl (by omega) (by omega)
  refine pb_istore_n (pc := 6) (lo' := [(2, .int i1), (0, .ref h), (1, .int x)]) d_Presser_mixAt_6 rfl (by decide) rfl ?_
  refine pb_aload_n (pc := 7) d_Presser_mixAt_7 1 rfl rfl ?_
  refine pb_get (pc := 8) d_Presser_mixAt_8 0 3 rfl rfl (by decide) in_Presser k_186 rfl ?_
  refine pb_iload_n (pc := 11) d_Presser_mixAt_11 0 rfl rfl ?_
  refine pb_bald (pc := 12) d_Presser_mixAt_12 1 rfl (vp_in_iff.mpr (by constructor <;> omega)) ?_
  refine pb_topi (fun i2 ei2 => ?_)
  have xi2 : i2 = gr fr (bg.toInt + x.toInt) := gr_ld ei2 (by omega)
  have yi2 : i2.toInt = gx fr (bg.toInt + x.toInt) := congrArg Int32.toInt xi2
  have ti2 : -128 ≤ i2.toInt ∧ i2.toInt ≤ 127 := ti_fit (F_fr _) ei2
  refine pb_bipush (pc := 13) (v := 6) d_Presser_mixAt_13 (by decide) ?_
  refine pb_ishl (pc := 15) d_Presser_mixAt_15 ?_
  refine pb_topi (fun i3 ei3 => ?_)
  try have ti3 : i3.toInt = i2.toInt * 64 := ti_shl ei3 rfl 6 (by decide) (by decide) (by omega) (by omega)
  refine pb_aload_n (pc := 16) d_Presser_mixAt_16 1 rfl rfl ?_
  refine pb_get (pc := 17) d_Presser_mixAt_17 0 3 rfl rfl (by decide) in_Presser k_186 rfl ?_
  refine pb_iload_n (pc := 20) d_Presser_mixAt_20 0 rfl rfl ?_
  refine pb_iconst (pc := 21) (v := 1) d_Presser_mixAt_21 (by decide) ?_
  refine pb_iadd (pc := 22) d_Presser_mixAt_22 ?_
  refine pb_topi (fun i4 ei4 => ?_)
  try have ti4 : i4.toInt = i1.toInt + 1 := ti_add ei4 rfl (by decide) (by omega) (by omega)
  refine pb_bald (pc := 23) d_Presser_mixAt_23 1 rfl (vp_in_iff.mpr (by constructor <;> omega)) ?_
  refine pb_topi (fun i5 ei5 => ?_)
  have xi5 : i5 = gr fr (bg.toInt + (x.toInt + 1)) := gr_ld ei5 (by omega)
  have yi5 : i5.toInt = gx fr (bg.toInt + (x.toInt + 1)) := congrArg Int32.toInt xi5
  have ti5 : -128 ≤ i5.toInt ∧ i5.toInt ≤ 127 := ti_fit (F_fr _) ei5
  refine pb_iconst (pc := 24) (v := 3) d_Presser_mixAt_24 (by decide) ?_
  refine pb_ishl (pc := 25) d_Presser_mixAt_25 ?_
  refine pb_topi (fun i6 ei6 => ?_)
  try have ti6 : i6.toInt = i5.toInt * 8 := ti_shl ei6 rfl 3 (by decide) (by decide) (by omega) (by omega)
  refine pb_ixor (pc := 26) d_Presser_mixAt_26 ?_
  refine pb_topi (fun i7 ei7 => ?_)
  refine pb_aload_n (pc := 27) d_Presser_mixAt_27 1 rfl rfl ?_
  refine pb_get (pc := 28) d_Presser_mixAt_28 0 3 rfl rfl (by decide) in_Presser k_186 rfl ?_
  refine pb_iload_n (pc := 31) d_Presser_mixAt_31 0 rfl rfl ?_
  refine pb_iconst (pc := 32) (v := 2) d_Presser_mixAt_32 (by decide) ?_
  refine pb_iadd (pc := 33) d_Presser_mixAt_33 ?_
  refine pb_topi (fun i8 ei8 => ?_)
  try have ti8 : i8.toInt = i1.toInt + 2 := ti_add ei8 rfl (by decide) (by omega) (by omega)
  refine pb_bald (pc := 34) d_Presser_mixAt_34 1 rfl (vp_in_iff.mpr (by constructor <;> omega)) ?_
  refine pb_topi (fun i9 ei9 => ?_)
  have xi9 : i9 = gr fr (bg.toInt + (x.toInt + 2)) := gr_ld ei9 (by omega)
  have yi9 : i9.toInt = gx fr (bg.toInt + (x.toInt + 2)) := congrArg Int32.toInt xi9
  have ti9 : -128 ≤ i9.toInt ∧ i9.toInt ≤ 127 := ti_fit (F_fr _) ei9
  refine pb_ixor (pc := 35) d_Presser_mixAt_35 ?_
  refine pb_topi (fun i10 ei10 => ?_)
  refine pb_sipush (pc := 36) (v := 1023) d_Presser_mixAt_36 (by decide) ?_
  refine pb_iand (pc := 39) d_Presser_mixAt_39 ?_
  refine pb_topi (fun i11 ei11 => ?_)
  have ti11 : 0 ≤ i11.toInt ∧ i11.toInt ≤ 1023 := ti_and 10 ei11 (by decide) (by decide)
  exact pb_iret (pc := 40) hQ d_Presser_mixAt_40 rfl rfl (i11) ⟨rfl, (by (try dsimp only); first | done | (with_reducible assumption) | omega (splitDisjunctions := false) | assumption | omega | decide), (by (try dsimp only); first | done | (with_reducible assumption) | omega (splitDisjunctions := false) | assumption | omega | decide), (show i11.toInt = mx_ (sq fr bg.toInt sz.toInt) x.toInt from (by unfold mx_; rw [sq_at (by omega) (by omega), sq_at (by omega) (by omega), sq_at (by omega) (by omega)]; exact congrArg Int32.toInt (by simp only [ei1, xi2, ei3, ei4, xi5, ei6, ei7, ei8, xi9, ei10, ei11])))⟩ [0, 1] (by decide) rfl rfl (by decide) (by decide)

theorem d_Presser_remember_0 : decode prog_8_method_5_code 0 = .ok (.aload_n 0, 1) := by decide +kernel
theorem d_Presser_remember_1 : decode prog_8_method_5_code 1 = .ok (.getfield 35, 3) := by decide +kernel
theorem k_188 : (Jvm.Cond.fieldLink "PackageBook$Presser" (35 : Nat) "PackageBook$Presser" "size" "I") ∈ uW := uW_of 188 (by decide +kernel) (by decide +kernel)
theorem d_Presser_remember_4 : decode prog_8_method_5_code 4 = .ok (.iload_n 1, 1) := by decide +kernel
theorem d_Presser_remember_5 : decode prog_8_method_5_code 5 = .ok (.isub, 1) := by decide +kernel
theorem d_Presser_remember_6 : decode prog_8_method_5_code 6 = .ok (.iconst 3, 1) := by decide +kernel
theorem d_Presser_remember_7 : decode prog_8_method_5_code 7 = .ok (.if_icmp .lt 28, 3) := by decide +kernel
theorem d_Presser_remember_35 : decode prog_8_method_5_code 35 = .ok (.return_, 1) := by decide +kernel
theorem d_Presser_remember_10 : decode prog_8_method_5_code 10 = .ok (.aload_n 0, 1) := by decide +kernel
theorem d_Presser_remember_11 : decode prog_8_method_5_code 11 = .ok (.iload_n 1, 1) := by decide +kernel
theorem d_Presser_remember_12 : decode prog_8_method_5_code 12 = .ok (.invokevirtual 76, 3) := by decide +kernel
theorem k_516 : (Jvm.Cond.methodLink "PackageBook$Presser" (76 : Nat) ({ cls := "PackageBook$Presser", name := "mixAt", desc := "(I)I" } : Jvm.MethodName)) ∈ uW := uW_of 516 (by decide +kernel) (by decide +kernel)
theorem k_519 : (Jvm.Cond.code ({ cls := "PackageBook$Presser", name := "mixAt", desc := "(I)I" } : Jvm.MethodName) prog_8_method_6_code (3 : Nat) (Option.some Jvm.ClassFile.FieldType.int)) ∈ uW := uW_of 519 (by decide +kernel) (by decide +kernel)
theorem k_518 : (Jvm.Cond.instanceMethod ({ cls := "PackageBook$Presser", name := "mixAt", desc := "(I)I" } : Jvm.MethodName)) ∈ uW := uW_of 518 (by decide +kernel) (by decide +kernel)
theorem k_4 : Cond.selects "PackageBook$Presser" ⟨"PackageBook$Presser", "mixAt", "(I)I"⟩ ⟨"PackageBook$Presser", "mixAt", "(I)I"⟩ ∈ uW := uW_of 4 (by decide +kernel) (by decide +kernel)
theorem hy_Presser_mixAt : (y_Presser_mixAt).cls ≠ "java/lang/invoke/MethodHandle" ∧ (y_Presser_mixAt).cls ≠ "java/lang/invoke/VarHandle" ∧ (parseMethodDescriptor (y_Presser_mixAt).desc).map (fun d => d.parameters.length) = some 1 := by decide +kernel
theorem d_Presser_remember_15 : decode prog_8_method_5_code 15 = .ok (.istore_n 2, 1) := by decide +kernel
theorem d_Presser_remember_16 : decode prog_8_method_5_code 16 = .ok (.aload_n 0, 1) := by decide +kernel
theorem d_Presser_remember_17 : decode prog_8_method_5_code 17 = .ok (.getfield 24, 3) := by decide +kernel
theorem d_Presser_remember_20 : decode prog_8_method_5_code 20 = .ok (.iload_n 1, 1) := by decide +kernel
theorem d_Presser_remember_21 : decode prog_8_method_5_code 21 = .ok (.aload_n 0, 1) := by decide +kernel
theorem d_Presser_remember_22 : decode prog_8_method_5_code 22 = .ok (.getfield 20, 3) := by decide +kernel
theorem d_Presser_remember_25 : decode prog_8_method_5_code 25 = .ok (.iload_n 2, 1) := by decide +kernel
theorem d_Presser_remember_26 : decode prog_8_method_5_code 26 = .ok (.iaload, 1) := by decide +kernel
theorem d_Presser_remember_27 : decode prog_8_method_5_code 27 = .ok (.iastore, 1) := by decide +kernel
theorem d_Presser_remember_28 : decode prog_8_method_5_code 28 = .ok (.aload_n 0, 1) := by decide +kernel
theorem d_Presser_remember_29 : decode prog_8_method_5_code 29 = .ok (.getfield 20, 3) := by decide +kernel
theorem d_Presser_remember_32 : decode prog_8_method_5_code 32 = .ok (.iload_n 2, 1) := by decide +kernel
theorem d_Presser_remember_33 : decode prog_8_method_5_code 33 = .ok (.iload_n 1, 1) := by decide +kernel
theorem d_Presser_remember_34 : decode prog_8_method_5_code 34 = .ok (.iastore, 1) := by decide +kernel
abbrev y_Presser_remember : MethodName := ⟨"PackageBook$Presser", "remember", "(I)V"⟩
abbrev i_Presser_remember : pb_I := (y_Presser_remember, prog_8_method_5_code, 3, (Option.none : Option Jvm.ClassFile.FieldType), [], { frames := 1, cells := 0, slots := 0, locals := 22 })
set_option maxRecDepth 100000 in
set_option maxHeartbeats 4000000 in
theorem g_Pr_remember {l : Launch} (hl : l.stackTraces = false) (G : pb_G) (h : Nat) (pp : Nat) (pl : Nat) (pe : Nat) (pr : Nat) (pb : Nat) (bg : Int32) (sz : Int32) (bt : Int32) (ln : Int32) (ds : Int32) (N : Nat) (fr : Nat → Int32) (fl : Nat → Int32) (fe : Nat → Int32) (x : Int32) (r0 : 0 ≤ bg.toInt) (r1 : bg.toInt + sz.toInt ≤ N) (r2 : N ≤ 100000) (r3 : sz.toInt ≤ 4000) (r4 : 0 ≤ sz.toInt) (x0 : 0 ≤ x.toInt) (x1 : x.toInt < sz.toInt) (I : ch_I (sq fr bg.toInt sz.toInt) sz.toInt x.toInt fl fe) (F_fr : sb_Fit fr) : Cn l G i_Presser_remember [.ref h, .int x] [(h, .inr (4, [.ref pp, .ref pl, .ref pe, .ref pr, .int bg, .int sz, .int bt, .int ln, .int ds])), (pr, .inl (G.2.1, N, .inl fr)), (pl, .inl (G.2.2.1, 1024, .inl fl)), (pe, .inl (G.2.2.1, 4000, .inl fe))] (S := (Nat → Int32) × (Nat → Int32)) (fun rv_ u => rv_ = none ∧ (ch_I (sq fr bg.toInt sz.toInt) sz.toInt (x.toInt + 1) u.1 u.2)) (fun u => [(h, .inr (4, [.ref pp, .ref pl, .ref pe, .ref pr, .int bg, .int sz, .int bt, .int ln, .int ds])), (pr, .inl (G.2.1, N, .inl fr)), (pl, .inl (G.2.2.1, 1024, .inl u.1)), (pe, .inl (G.2.2.1, 4000, .inl u.2))]) := by
  refine Cn.of hl (by decide +kernel) rfl (Nat.le_of_ble_eq_true rfl) (fun M hQ => ?_)
  refine pb_eq (pc' := 0) (lo' := [(0, .ref h), (1, .int x)]) (rest' := []) (ws' := [(h, .inr (4, [.ref pp, .ref pl, .ref pe, .ref pr, .int bg, .int sz, .int bt, .int ln, .int ds])), (pr, .inl (G.2.1, N, .inl fr)), (pl, .inl (G.2.2.1, 1024, .inl fl)), (pe, .inl (G.2.2.1, 4000, .inl fe))]) ?_
  have zl0 : (0 : Int32).toInt = 0 := by decide
  have zl1 : (1 : Int32).toInt = 1 := by decide
  have zl3 : (3 : Int32).toInt = 3 := by decide
  refine pb_aload_n (pc := 0) d_Presser_remember_0 0 rfl rfl ?_
  refine pb_get (pc := 1) d_Presser_remember_1 0 5 rfl rfl (by decide) in_Presser k_188 rfl ?_
  refine pb_iload_n (pc := 4) d_Presser_remember_4 1 rfl rfl ?_
  refine pb_isub (pc := 5) d_Presser_remember_5 ?_
  refine pb_topi (fun i1 ei1 => ?_)
  try have ti1 : i1.toInt = sz.toInt - x.toInt := ti_sub ei1 rfl rfl (by omega) (by omega)
  refine pb_iconst (pc := 6) (v := 3) d_Presser_remember_6 (by decide) ?_
  refine pb_icmp_lt (pc := 7) (tgt := 35) d_Presser_remember_7 (by decide) (fun w2 => ?_) (fun w2 => ?_)
  · have tw2 : i1.toInt < 3 := (ti_lt rfl (by decide)).mp w2
    exact pb_vret (pc := 35) hQ d_Presser_remember_35 rfl (fl, fe) ⟨rfl, (show ch_I (sq fr bg.toInt sz.toInt) sz.toInt (x.toInt + 1) fl fe from (by first | exact ch_skip I (by omega) rfl | exact ch_step I (by omega) (by omega) (by assumption) rfl rfl (by omega) (by omega) (by omega) rfl rfl))⟩ [0, 1, 2, 3] (by decide) rfl rfl (by decide) (by decide)
  · have tw2 : ¬ i1.toInt < 3 := fun z9 => w2 ((ti_lt rfl (by decide)).mpr z9)
    refine pb_aload_n (pc := 10) d_Presser_remember_10 0 rfl rfl ?_
    refine pb_iload_n (pc := 11) d_Presser_remember_11 1 rfl rfl ?_
    refine pb_callV (pc := 12) (I := i_Presser_remember) (qb := 0) (ci := 4) (nA := 1) (rest := []) (wr := [(pl, .inl (G.2.2.1, 1024, .inl fl)), (pe, .inl (G.2.2.1, 4000, .inl fe))]) d_Presser_remember_12 (g_Pr_mixAt hl G h pp pl pe pr pb bg sz bt ln ds N fr x (by first | (with_reducible assumption) | omega (splitDisjunctions := false) | assumption | omega | decide) (by first | (with_reducible assumption) | omega (splitDisjunctions := false) | assumption | omega | decide) (by first | (with_reducible assumption) | omega (splitDisjunctions := false) | assumption | omega | decide) (by first | (with_reducible assumption) | omega (splitDisjunctions := false) | assumption | omega | decide) (by first | (with_reducible assumption) | omega (splitDisjunctions := false) | assumption | omega | decide) (by first | (with_reducible assumption) | omega (splitDisjunctions := false) | assumption | omega | decide) (by first | (with_reducible assumption) | omega (splitDisjunctions := false) | assumption | omega | decide) F_fr) rfl rfl [0, 1] [2, 3] (by decide) rfl rfl rfl (by decide) (by decide) k_519 rfl k_120 k_516 k_518 k_4 ⟨rfl, hy_Presser_mixAt⟩ (by decide) rfl rfl (Nat.le_of_ble_eq_true rfl) (by decide) (fun v9 u4 ch3 => ?_)
    obtain ⟨r_5, rfl⟩ : ∃ z9, z9 = u4 := ⟨_, rfl⟩
    obtain ⟨ech3, ch3⟩ := ch3
    have ech3 : v9 = some (.int r_5) := ech3
    subst ech3
    obtain ⟨fh6, fh7, fh8⟩ : (0 ≤ r_5.toInt) ∧ (r_5.toInt ≤ 1023) ∧ (r_5.toInt = mx_ (sq fr bg.toInt sz.toInt) x.toInt) := ch3
    refine pb_eq (pc' := 15) (lo' := [(0, .ref h), (1, .int x)]) (rest' := [.int r_5]) (ws' := [(pl, .inl (G.2.2.1, 1024, .inl fl)), (pe, .inl (G.2.2.1, 4000, .inl fe)), (h, .inr (4, [.ref pp, .ref pl, .ref pe, .ref pr, .int bg, .int sz, .int bt, .int ln, .int ds])), (pr, .inl (G.2.1, N, .inl fr))]) ?_
    refine pb_istore_n (pc := 15) (lo' := [(2, .int r_5), (0, .ref h), (1, .int x)]) d_Presser_remember_15 rfl (by decide) rfl ?_
    refine pb_aload_n (pc := 16) d_Presser_remember_16 1 rfl rfl ?_
    refine pb_get (pc := 17) d_Presser_remember_17 2 2 rfl rfl (by decide) in_Presser k_185 rfl ?_
    refine pb_iload_n (pc := 20) d_Presser_remember_20 2 rfl rfl ?_
    refine pb_aload_n (pc := 21) d_Presser_remember_21 1 rfl rfl ?_
    refine pb_get (pc := 22) d_Presser_remember_22 2 1 rfl rfl (by decide) in_Presser k_184 rfl ?_
    refine pb_iload_n (pc := 25) d_Presser_remember_25 0 rfl rfl ?_
    refine pb_iald (pc := 26) d_Presser_remember_26 0 rfl (vp_in_iff.mpr (by constructor <;> omega)) ?_
    refine pb_topi (fun i9 ei9 => ?_)
    have ti9 : i9.toInt = gx fl (r_5.toInt) := gx_ld ei9 rfl
    refine pb_iast (pc := 27) (ws' := [(pl, .inl (G.2.2.1, 1024, .inl fl)), (pe, .inl (G.2.2.1, 4000, .inl (upd fe ((x : Int32).toNatClampNeg) i9))), (h, .inr (4, [.ref pp, .ref pl, .ref pe, .ref pr, .int bg, .int sz, .int bt, .int ln, .int ds])), (pr, .inl (G.2.1, N, .inl fr))]) d_Presser_remember_27 1 rfl (vp_in_iff.mpr (by constructor <;> omega)) rfl ?_
    refine pb_aload_n (pc := 28) d_Presser_remember_28 1 rfl rfl ?_
    refine pb_get (pc := 29) d_Presser_remember_29 2 1 rfl rfl (by decide) in_Presser k_184 rfl ?_
    refine pb_iload_n (pc := 32) d_Presser_remember_32 0 rfl rfl ?_
    refine pb_iload_n (pc := 33) d_Presser_remember_33 2 rfl rfl ?_
    refine pb_iast (pc := 34) (ws' := [(pl, .inl (G.2.2.1, 1024, .inl (upd fl ((r_5 : Int32).toNatClampNeg) x))), (pe, .inl (G.2.2.1, 4000, .inl (upd fe ((x : Int32).toNatClampNeg) i9))), (h, .inr (4, [.ref pp, .ref pl, .ref pe, .ref pr, .int bg, .int sz, .int bt, .int ln, .int ds])), (pr, .inl (G.2.1, N, .inl fr))]) d_Presser_remember_34 0 rfl (vp_in_iff.mpr (by constructor <;> omega)) rfl ?_
    exact pb_vret (pc := 35) hQ d_Presser_remember_35 rfl ((upd fl ((r_5 : Int32).toNatClampNeg) x), (upd fe ((x : Int32).toNatClampNeg) i9)) ⟨rfl, (show ch_I (sq fr bg.toInt sz.toInt) sz.toInt (x.toInt + 1) (upd fl ((r_5 : Int32).toNatClampNeg) x) (upd fe ((x : Int32).toNatClampNeg) i9) from (by first | exact ch_skip I (by omega) rfl | exact ch_step I (by omega) (by omega) (by assumption) rfl rfl (by omega) (by omega) (by omega) rfl rfl))⟩ [2, 3, 0, 1] (by decide) rfl rfl (by decide) (by decide)

theorem d_Presser_sameFrom_0 : decode prog_8_method_4_code 0 = .ok (.iconst 0, 1) := by decide +kernel
theorem d_Presser_sameFrom_1 : decode prog_8_method_4_code 1 = .ok (.istore 4, 2) := by decide +kernel
theorem d_Presser_sameFrom_3 : decode prog_8_method_4_code 3 = .ok (.iload 4, 2) := by decide +kernel
theorem d_Presser_sameFrom_5 : decode prog_8_method_4_code 5 = .ok (.iload_n 3, 1) := by decide +kernel
theorem d_Presser_sameFrom_6 : decode prog_8_method_4_code 6 = .ok (.if_icmp .ge 40, 3) := by decide +kernel
theorem d_Presser_sameFrom_46 : decode prog_8_method_4_code 46 = .ok (.iload 4, 2) := by decide +kernel
theorem d_Presser_sameFrom_48 : decode prog_8_method_4_code 48 = .ok (.ireturn, 1) := by decide +kernel
theorem d_Presser_sameFrom_9 : decode prog_8_method_4_code 9 = .ok (.aload_n 0, 1) := by decide +kernel
theorem d_Presser_sameFrom_10 : decode prog_8_method_4_code 10 = .ok (.getfield 27, 3) := by decide +kernel
theorem d_Presser_sameFrom_13 : decode prog_8_method_4_code 13 = .ok (.aload_n 0, 1) := by decide +kernel
theorem d_Presser_sameFrom_14 : decode prog_8_method_4_code 14 = .ok (.getfield 31, 3) := by decide +kernel
theorem d_Presser_sameFrom_17 : decode prog_8_method_4_code 17 = .ok (.iload_n 1, 1) := by decide +kernel
theorem d_Presser_sameFrom_18 : decode prog_8_method_4_code 18 = .ok (.iadd, 1) := by decide +kernel
theorem d_Presser_sameFrom_19 : decode prog_8_method_4_code 19 = .ok (.iload 4, 2) := by decide +kernel
theorem d_Presser_sameFrom_21 : decode prog_8_method_4_code 21 = .ok (.iadd, 1) := by decide +kernel
theorem d_Presser_sameFrom_22 : decode prog_8_method_4_code 22 = .ok (.baload, 1) := by decide +kernel
theorem d_Presser_sameFrom_23 : decode prog_8_method_4_code 23 = .ok (.aload_n 0, 1) := by decide +kernel
theorem d_Presser_sameFrom_24 : decode prog_8_method_4_code 24 = .ok (.getfield 27, 3) := by decide +kernel
theorem d_Presser_sameFrom_27 : decode prog_8_method_4_code 27 = .ok (.aload_n 0, 1) := by decide +kernel
theorem d_Presser_sameFrom_28 : decode prog_8_method_4_code 28 = .ok (.getfield 31, 3) := by decide +kernel
theorem d_Presser_sameFrom_31 : decode prog_8_method_4_code 31 = .ok (.iload_n 2, 1) := by decide +kernel
theorem d_Presser_sameFrom_32 : decode prog_8_method_4_code 32 = .ok (.iadd, 1) := by decide +kernel
theorem d_Presser_sameFrom_33 : decode prog_8_method_4_code 33 = .ok (.iload 4, 2) := by decide +kernel
theorem d_Presser_sameFrom_35 : decode prog_8_method_4_code 35 = .ok (.iadd, 1) := by decide +kernel
theorem d_Presser_sameFrom_36 : decode prog_8_method_4_code 36 = .ok (.baload, 1) := by decide +kernel
theorem d_Presser_sameFrom_37 : decode prog_8_method_4_code 37 = .ok (.if_icmp .ne 9, 3) := by decide +kernel
theorem d_Presser_sameFrom_40 : decode prog_8_method_4_code 40 = .ok (.iinc 4 1, 3) := by decide +kernel
theorem d_Presser_sameFrom_43 : decode prog_8_method_4_code 43 = .ok (.goto (-40), 3) := by decide +kernel
abbrev y_Presser_sameFrom : MethodName := ⟨"PackageBook$Presser", "sameFrom", "(III)I"⟩
abbrev i_Presser_sameFrom : pb_I := (y_Presser_sameFrom, prog_8_method_4_code, 5, (some Jvm.ClassFile.FieldType.int), [], { frames := 0, cells := 0, slots := 0, locals := 0 })
set_option maxRecDepth 100000 in
set_option maxHeartbeats 4000000 in
theorem g_Pr_sameFrom {l : Launch} (hl : l.stackTraces = false) (G : pb_G) (h : Nat) (pp : Nat) (pl : Nat) (pe : Nat) (pr : Nat) (pb : Nat) (bg : Int32) (sz : Int32) (bt : Int32) (ln : Int32) (ds : Int32) (N : Nat) (fr : Nat → Int32) (x : Int32) (y : Int32) (n : Int32) (r0 : 0 ≤ bg.toInt) (r1 : bg.toInt + sz.toInt ≤ N) (r2 : N ≤ 100000) (r3 : sz.toInt ≤ 4000) (r4 : 0 ≤ sz.toInt) (x0 : 0 ≤ x.toInt) (x1 : x.toInt ≤ y.toInt) (x2 : y.toInt + n.toInt ≤ sz.toInt) (x3 : 0 ≤ n.toInt) (F_fr : sb_Fit fr) : Cn l G i_Presser_sameFrom [.ref h, .int x, .int y, .int n] [(h, .inr (4, [.ref pp, .ref pl, .ref pe, .ref pr, .int bg, .int sz, .int bt, .int ln, .int ds])), (pr, .inl (G.2.1, N, .inl fr))] (S := Int32) (fun rv_ u => rv_ = some (.int u) ∧ (sm_R (sq fr bg.toInt sz.toInt) x.toInt y.toInt n.toInt u.toInt)) (fun u => [(h, .inr (4, [.ref pp, .ref pl, .ref pe, .ref pr, .int bg, .int sz, .int bt, .int ln, .int ds])), (pr, .inl (G.2.1, N, .inl fr))]) := by
  refine Cn.of hl (by decide +kernel) rfl (Nat.le_of_ble_eq_true rfl) (fun M hQ => ?_)
  refine pb_eq (pc' := 0) (lo' := [(0, .ref h), (1, .int x), (2, .int y), (3, .int n)]) (rest' := []) (ws' := [(h, .inr (4, [.ref pp, .ref pl, .ref pe, .ref pr, .int bg, .int sz, .int bt, .int ln, .int ds])), (pr, .inl (G.2.1, N, .inl fr))]) ?_
  have zl0 : (0 : Int32).toInt = 0 := by decide
  have zl1 : (1 : Int32).toInt = 1 := by decide
  refine pb_iconst (pc := 0) (v := 0) d_Presser_sameFrom_0 (by decide) ?_
  refine pb_istore (pc := 1) (lo' := [(4, .int 0), (0, .ref h), (1, .int x), (2, .int y), (3, .int n)]) d_Presser_sameFrom_1 (by decide) rfl ?_
  have hL3_1 : ∀ (N9 : Nat) (k : Int32), (0 ≤ k.toInt) → (k.toInt ≤ n.toInt) → (∀ j : Int, 0 ≤ j → j < k.toInt → gr fr (bg.toInt + x.toInt + j) = gr fr (bg.toInt + y.toInt + j)) → ((n.toInt - k.toInt).toNat) < N9 → pb_P l G M i_Presser_sameFrom 3 [(4, .int k), (0, .ref h), (1, .int x), (2, .int y), (3, .int n)] [] [(h, .inr (4, [.ref pp, .ref pl, .ref pe, .ref pr, .int bg, .int sz, .int bt, .int ln, .int ds])), (pr, .inl (G.2.1, N, .inl fr))] 0 0 := by
    intro N9
    induction N9 with
    | zero => intro k hk hk2 hg hm9; exact absurd hm9 (Nat.not_lt_zero _)
    | succ N9 ih3 =>
      intro k hk hk2 hg hm9
      refine pb_iload (pc := 3) d_Presser_sameFrom_3 0 rfl ?_
      refine pb_iload_n (pc := 5) d_Presser_sameFrom_5 4 rfl rfl ?_
      refine pb_icmp_ge (pc := 6) (tgt := 46) d_Presser_sameFrom_6 (by decide) (fun w2 => ?_) (fun w2 => ?_)
      · have tw2 : n.toInt ≤ k.toInt := (ti_le rfl rfl).mp w2
        refine pb_iload (pc := 46) d_Presser_sameFrom_46 0 rfl ?_
        exact pb_iret (pc := 48) hQ d_Presser_sameFrom_48 rfl rfl (k) ⟨rfl, (show sm_R (sq fr bg.toInt sz.toInt) x.toInt y.toInt n.toInt k.toInt from (sm_of hk hk2 x0 x1 x2 rfl rfl hg (by first | exact fun q9 => absurd q9 (by omega) | exact fun _ => nb_ne (by assumption) (by assumption) (by assumption))))⟩ [0, 1] (by decide) rfl rfl (by decide) (by decide)
      · have tw2 : ¬ n.toInt ≤ k.toInt := fun z9 => w2 ((ti_le rfl rfl).mpr z9)
        refine pb_aload_n (pc := 9) d_Presser_sameFrom_9 1 rfl rfl ?_
        refine pb_get (pc := 10) d_Presser_sameFrom_10 0 3 rfl rfl (by decide) in_Presser k_186 rfl ?_
        refine pb_aload_n (pc := 13) d_Presser_sameFrom_13 1 rfl rfl ?_
        refine pb_get (pc := 14) d_Presser_sameFrom_14 0 4 rfl rfl (by decide) in_Presser k_187 rfl ?_
        refine pb_iload_n (pc := 17) d_Presser_sameFrom_17 2 rfl rfl ?_
        refine pb_iadd (pc := 18) d_Presser_sameFrom_18 ?_
        refine pb_topi (fun i3 ei3 => ?_)
        try have ti3 : i3.toInt = bg.toInt + x.toInt := ti_add ei3 rfl rfl (by omega) (by omega)
        refine pb_iload (pc := 19) d_Presser_sameFrom_19 0 rfl ?_
        refine pb_iadd (pc := 21) d_Presser_sameFrom_21 ?_
        refine pb_topi (fun i4 ei4 => ?_)
        try have ti4 : i4.toInt = i3.toInt + k.toInt := ti_add ei4 rfl rfl (by omega) (by omega)
        refine pb_bald (pc := 22) d_Presser_sameFrom_22 1 rfl (vp_in_iff.mpr (by constructor <;> omega)) ?_
        refine pb_topi (fun i5 ei5 => ?_)
        have xi5 : i5 = gr fr (bg.toInt + x.toInt + k.toInt) := gr_ld ei5 (by omega)
        have yi5 : i5.toInt = gx fr (bg.toInt + x.toInt + k.toInt) := congrArg Int32.toInt xi5
        have ti5 : -128 ≤ i5.toInt ∧ i5.toInt ≤ 127 := ti_fit (F_fr _) ei5
        refine pb_aload_n (pc := 23) d_Presser_sameFrom_23 1 rfl rfl ?_
        refine pb_get (pc := 24) d_Presser_sameFrom_24 0 3 rfl rfl (by decide) in_Presser k_186 rfl ?_
        refine pb_aload_n (pc := 27) d_Presser_sameFrom_27 1 rfl rfl ?_
        refine pb_get (pc := 28) d_Presser_sameFrom_28 0 4 rfl rfl (by decide) in_Presser k_187 rfl ?_
        refine pb_iload_n (pc := 31) d_Presser_sameFrom_31 3 rfl rfl ?_
        refine pb_iadd (pc := 32) d_Presser_sameFrom_32 ?_
        refine pb_topi (fun i6 ei6 => ?_)
        try have ti6 : i6.toInt = bg.toInt + y.toInt := ti_add ei6 rfl rfl (by omega) (by omega)
        refine pb_iload (pc := 33) d_Presser_sameFrom_33 0 rfl ?_
        refine pb_iadd (pc := 35) d_Presser_sameFrom_35 ?_
        refine pb_topi (fun i7 ei7 => ?_)
        try have ti7 : i7.toInt = i6.toInt + k.toInt := ti_add ei7 rfl rfl (by omega) (by omega)
        refine pb_bald (pc := 36) d_Presser_sameFrom_36 1 rfl (vp_in_iff.mpr (by constructor <;> omega)) ?_
        refine pb_topi (fun i8 ei8 => ?_)
        have xi8 : i8 = gr fr (bg.toInt + y.toInt + k.toInt) := gr_ld ei8 (by omega)
        have yi8 : i8.toInt = gx fr (bg.toInt + y.toInt + k.toInt) := congrArg Int32.toInt xi8
        have ti8 : -128 ≤ i8.toInt ∧ i8.toInt ≤ 127 := ti_fit (F_fr _) ei8
        refine pb_icmp_ne (pc := 37) (tgt := 46) d_Presser_sameFrom_37 (by decide) (fun w9 => ?_) (fun w9 => ?_)
        · have tw9 : ¬ i5.toInt = i8.toInt := fun z9 => w9 ((ti_eq rfl rfl).mpr z9)
          refine pb_iload (pc := 46) d_Presser_sameFrom_46 0 rfl ?_
          exact pb_iret (pc := 48) hQ d_Presser_sameFrom_48 rfl rfl (k) ⟨rfl, (show sm_R (sq fr bg.toInt sz.toInt) x.toInt y.toInt n.toInt k.toInt from (sm_of hk hk2 x0 x1 x2 rfl rfl hg (by first | exact fun q9 => absurd q9 (by omega) | exact fun _ => nb_ne (by assumption) (by assumption) (by assumption))))⟩ [0, 1] (by decide) rfl rfl (by decide) (by decide)
        · have tw9 : i5.toInt = i8.toInt := (ti_eq rfl rfl).mp w9
          refine pb_iincN (pc := 40) (c := 1) d_Presser_sameFrom_40 0 rfl (by decide) (by decide) (fun i10 ei10 => ?_)
          have ti10 : i10.toInt = k.toInt + 1 := ti_add ei10 rfl (by decide) (by omega) (by omega)
          refine pb_eq (pc' := 43) (lo' := [(4, .int i10), (0, .ref h), (1, .int x), (2, .int y), (3, .int n)]) (rest' := []) (ws' := [(h, .inr (4, [.ref pp, .ref pl, .ref pe, .ref pr, .int bg, .int sz, .int bt, .int ln, .int ds])), (pr, .inl (G.2.1, N, .inl fr))]) ?_
          refine pb_goto (pc := 43) (tgt := 3) d_Presser_sameFrom_43 (by decide) ?_
          exact ih3 i10 (by first | (with_reducible assumption) | omega (splitDisjunctions := false) | assumption | omega | decide) (by first | (with_reducible assumption) | omega (splitDisjunctions := false) | assumption | omega | decide) (nb_st hg (by omega) (nb_eq (by assumption) (by assumption) (by assumption))) (by (exact omg_7c8a06b1f5 hm9 tw2 ti10))
  exact hL3_1 _ 0 (by first | (with_reducible assumption) | omega (splitDisjunctions := false) | assumption | omega | decide) (by first | (with_reducible assumption) | omega (splitDisjunctions := false) | assumption | omega | decide) (fun j h0 h1 => absurd h1 (by omega)) (Nat.lt_succ_self _)

theorem d_Presser_findLongest_0 : decode prog_8_method_3_code 0 = .ok (.sipush 258, 3) := by decide +kernel
theorem d_Presser_findLongest_3 : decode prog_8_method_3_code 3 = .ok (.aload_n 0, 1) := by decide +kernel
theorem d_Presser_findLongest_4 : decode prog_8_method_3_code 4 = .ok (.getfield 35, 3) := by decide +kernel
theorem d_Presser_findLongest_7 : decode prog_8_method_3_code 7 = .ok (.iload_n 1, 1) := by decide +kernel
theorem d_Presser_findLongest_8 : decode prog_8_method_3_code 8 = .ok (.isub, 1) := by decide +kernel
theorem d_Presser_findLongest_9 : decode prog_8_method_3_code 9 = .ok (.invokestatic 70, 3) := by decide +kernel
theorem k_513 : (Jvm.Cond.methodLink "PackageBook$Presser" (70 : Nat) ({ cls := "java/lang/Math", name := "min", desc := "(II)I" } : Jvm.MethodName)) ∈ uW := uW_of 513 (by decide +kernel) (by decide +kernel)
theorem k_514 : (Jvm.Cond.static ({ cls := "java/lang/Math", name := "min", desc := "(II)I" } : Jvm.MethodName)) ∈ uW := uW_of 514 (by decide +kernel) (by decide +kernel)
theorem k_137 : (Jvm.Cond.initialized "java/lang/Math") ∈ uW := uW_of 137 (by decide +kernel) (by decide +kernel)
theorem k_515 : (Jvm.Cond.code ({ cls := "java/lang/Math", name := "min", desc := "(II)I" } : Jvm.MethodName) prog_16_method_69_code (2 : Nat) (Option.some Jvm.ClassFile.FieldType.int)) ∈ uW := uW_of 515 (by decide +kernel) (by decide +kernel)
theorem d_Presser_findLongest_12 : decode prog_8_method_3_code 12 = .ok (.istore_n 2, 1) := by decide +kernel
theorem d_Presser_findLongest_13 : decode prog_8_method_3_code 13 = .ok (.aload_n 0, 1) := by decide +kernel
theorem d_Presser_findLongest_14 : decode prog_8_method_3_code 14 = .ok (.iconst 1, 1) := by decide +kernel
theorem d_Presser_findLongest_15 : decode prog_8_method_3_code 15 = .ok (.putfield 55, 3) := by decide +kernel
theorem d_Presser_findLongest_18 : decode prog_8_method_3_code 18 = .ok (.iload_n 2, 1) := by decide +kernel
theorem d_Presser_findLongest_19 : decode prog_8_method_3_code 19 = .ok (.iconst 3, 1) := by decide +kernel
theorem d_Presser_findLongest_20 : decode prog_8_method_3_code 20 = .ok (.if_icmp .ge 4, 3) := by decide +kernel
theorem d_Presser_findLongest_24 : decode prog_8_method_3_code 24 = .ok (.aload_n 0, 1) := by decide +kernel
theorem d_Presser_findLongest_25 : decode prog_8_method_3_code 25 = .ok (.getfield 20, 3) := by decide +kernel
theorem d_Presser_findLongest_28 : decode prog_8_method_3_code 28 = .ok (.aload_n 0, 1) := by decide +kernel
theorem d_Presser_findLongest_29 : decode prog_8_method_3_code 29 = .ok (.iload_n 1, 1) := by decide +kernel
theorem d_Presser_findLongest_30 : decode prog_8_method_3_code 30 = .ok (.invokevirtual 76, 3) := by decide +kernel
theorem d_Presser_findLongest_33 : decode prog_8_method_3_code 33 = .ok (.iaload, 1) := by decide +kernel
theorem d_Presser_findLongest_34 : decode prog_8_method_3_code 34 = .ok (.istore_n 3, 1) := by decide +kernel
theorem d_Presser_findLongest_35 : decode prog_8_method_3_code 35 = .ok (.iconst 0, 1) := by decide +kernel
theorem d_Presser_findLongest_36 : decode prog_8_method_3_code 36 = .ok (.istore 4, 2) := by decide +kernel
theorem d_Presser_findLongest_38 : decode prog_8_method_3_code 38 = .ok (.iload 4, 2) := by decide +kernel
theorem d_Presser_findLongest_40 : decode prog_8_method_3_code 40 = .ok (.iload_n 1, 1) := by decide +kernel
theorem d_Presser_findLongest_41 : decode prog_8_method_3_code 41 = .ok (.if_icmp .ge 65, 3) := by decide +kernel
theorem d_Presser_findLongest_106 : decode prog_8_method_3_code 106 = .ok (.return_, 1) := by decide +kernel
theorem d_Presser_findLongest_44 : decode prog_8_method_3_code 44 = .ok (.iload_n 3, 1) := by decide +kernel
theorem d_Presser_findLongest_45 : decode prog_8_method_3_code 45 = .ok (.ifCond .lt 61, 3) := by decide +kernel
theorem d_Presser_findLongest_48 : decode prog_8_method_3_code 48 = .ok (.aload_n 0, 1) := by decide +kernel
theorem d_Presser_findLongest_49 : decode prog_8_method_3_code 49 = .ok (.getfield 55, 3) := by decide +kernel
theorem d_Presser_findLongest_52 : decode prog_8_method_3_code 52 = .ok (.iload_n 2, 1) := by decide +kernel
theorem d_Presser_findLongest_53 : decode prog_8_method_3_code 53 = .ok (.if_icmp .ge 53, 3) := by decide +kernel
theorem d_Presser_findLongest_56 : decode prog_8_method_3_code 56 = .ok (.aload_n 0, 1) := by decide +kernel
theorem d_Presser_findLongest_57 : decode prog_8_method_3_code 57 = .ok (.iload_n 3, 1) := by decide +kernel
theorem d_Presser_findLongest_58 : decode prog_8_method_3_code 58 = .ok (.iload_n 1, 1) := by decide +kernel
theorem d_Presser_findLongest_59 : decode prog_8_method_3_code 59 = .ok (.iload_n 2, 1) := by decide +kernel
theorem d_Presser_findLongest_60 : decode prog_8_method_3_code 60 = .ok (.invokevirtual 80, 3) := by decide +kernel
theorem k_520 : (Jvm.Cond.methodLink "PackageBook$Presser" (80 : Nat) ({ cls := "PackageBook$Presser", name := "sameFrom", desc := "(III)I" } : Jvm.MethodName)) ∈ uW := uW_of 520 (by decide +kernel) (by decide +kernel)
theorem k_523 : (Jvm.Cond.code ({ cls := "PackageBook$Presser", name := "sameFrom", desc := "(III)I" } : Jvm.MethodName) prog_8_method_4_code (5 : Nat) (Option.some Jvm.ClassFile.FieldType.int)) ∈ uW := uW_of 523 (by decide +kernel) (by decide +kernel)
theorem k_522 : (Jvm.Cond.instanceMethod ({ cls := "PackageBook$Presser", name := "sameFrom", desc := "(III)I" } : Jvm.MethodName)) ∈ uW := uW_of 522 (by decide +kernel) (by decide +kernel)
theorem k_5 : Cond.selects "PackageBook$Presser" ⟨"PackageBook$Presser", "sameFrom", "(III)I"⟩ ⟨"PackageBook$Presser", "sameFrom", "(III)I"⟩ ∈ uW := uW_of 5 (by decide +kernel) (by decide +kernel)
theorem hy_Presser_sameFrom : (y_Presser_sameFrom).cls ≠ "java/lang/invoke/MethodHandle" ∧ (y_Presser_sameFrom).cls ≠ "java/lang/invoke/VarHandle" ∧ (parseMethodDescriptor (y_Presser_sameFrom).desc).map (fun d => d.parameters.length) = some 3 := by decide +kernel
theorem d_Presser_findLongest_63 : decode prog_8_method_3_code 63 = .ok (.istore 5, 2) := by decide +kernel
theorem d_Presser_findLongest_93 : decode prog_8_method_3_code 93 = .ok (.aload_n 0, 1) := by decide +kernel
theorem d_Presser_findLongest_94 : decode prog_8_method_3_code 94 = .ok (.getfield 24, 3) := by decide +kernel
theorem d_Presser_findLongest_97 : decode prog_8_method_3_code 97 = .ok (.iload_n 3, 1) := by decide +kernel
theorem d_Presser_findLongest_98 : decode prog_8_method_3_code 98 = .ok (.iaload, 1) := by decide +kernel
theorem d_Presser_findLongest_99 : decode prog_8_method_3_code 99 = .ok (.istore_n 3, 1) := by decide +kernel
theorem d_Presser_findLongest_100 : decode prog_8_method_3_code 100 = .ok (.iinc 4 1, 3) := by decide +kernel
theorem d_Presser_findLongest_103 : decode prog_8_method_3_code 103 = .ok (.goto (-65), 3) := by decide +kernel
theorem d_Presser_findLongest_65 : decode prog_8_method_3_code 65 = .ok (.iload 5, 2) := by decide +kernel
theorem d_Presser_findLongest_67 : decode prog_8_method_3_code 67 = .ok (.iconst 3, 1) := by decide +kernel
theorem d_Presser_findLongest_68 : decode prog_8_method_3_code 68 = .ok (.if_icmp .lt 25, 3) := by decide +kernel
theorem d_Presser_findLongest_71 : decode prog_8_method_3_code 71 = .ok (.iload 5, 2) := by decide +kernel
theorem d_Presser_findLongest_73 : decode prog_8_method_3_code 73 = .ok (.aload_n 0, 1) := by decide +kernel
theorem d_Presser_findLongest_74 : decode prog_8_method_3_code 74 = .ok (.getfield 55, 3) := by decide +kernel
theorem d_Presser_findLongest_77 : decode prog_8_method_3_code 77 = .ok (.if_icmp .le 16, 3) := by decide +kernel
theorem d_Presser_findLongest_80 : decode prog_8_method_3_code 80 = .ok (.aload_n 0, 1) := by decide +kernel
theorem d_Presser_findLongest_81 : decode prog_8_method_3_code 81 = .ok (.iload 5, 2) := by decide +kernel
theorem d_Presser_findLongest_83 : decode prog_8_method_3_code 83 = .ok (.putfield 55, 3) := by decide +kernel
theorem d_Presser_findLongest_86 : decode prog_8_method_3_code 86 = .ok (.aload_n 0, 1) := by decide +kernel
theorem d_Presser_findLongest_87 : decode prog_8_method_3_code 87 = .ok (.iload_n 1, 1) := by decide +kernel
theorem d_Presser_findLongest_88 : decode prog_8_method_3_code 88 = .ok (.iload_n 3, 1) := by decide +kernel
theorem d_Presser_findLongest_89 : decode prog_8_method_3_code 89 = .ok (.isub, 1) := by decide +kernel
theorem d_Presser_findLongest_90 : decode prog_8_method_3_code 90 = .ok (.putfield 84, 3) := by decide +kernel
theorem d_Presser_findLongest_23 : decode prog_8_method_3_code 23 = .ok (.return_, 1) := by decide +kernel
abbrev y_Presser_findLongest : MethodName := ⟨"PackageBook$Presser", "findLongest", "(I)V"⟩
abbrev i_Presser_findLongest : pb_I := (y_Presser_findLongest, prog_8_method_3_code, 6, (Option.none : Option Jvm.ClassFile.FieldType), [], { frames := 1, cells := 0, slots := 0, locals := 40 })
set_option maxRecDepth 100000 in
set_option maxHeartbeats 4000000 in
theorem g_Pr_findLongest {l : Launch} (hl : l.stackTraces = false) (G : pb_G) (h : Nat) (pp : Nat) (pl : Nat) (pe : Nat) (pr : Nat) (pb : Nat) (bg : Int32) (sz : Int32) (bt : Int32) (ln : Int32) (ds : Int32) (N : Nat) (fr : Nat → Int32) (fl : Nat → Int32) (fe : Nat → Int32) (x : Int32) (r0 : 0 ≤ bg.toInt) (r1 : bg.toInt + sz.toInt ≤ N) (r2 : N ≤ 100000) (r3 : sz.toInt ≤ 4000) (r4 : 0 ≤ sz.toInt) (x0 : 0 ≤ x.toInt) (x1 : x.toInt < sz.toInt) (I : ch_I (sq fr bg.toInt sz.toInt) sz.toInt x.toInt fl fe) (F_fr : sb_Fit fr) : Cn l G i_Presser_findLongest [.ref h, .int x] [(h, .inr (4, [.ref pp, .ref pl, .ref pe, .ref pr, .int bg, .int sz, .int bt, .int ln, .int ds])), (pr, .inl (G.2.1, N, .inl fr)), (pl, .inl (G.2.2.1, 1024, .inl fl)), (pe, .inl (G.2.2.1, 4000, .inl fe))] (S := Int32 × Int32) (fun rv_ u => rv_ = none ∧ (fl_R (sq fr bg.toInt sz.toInt) sz.toInt x.toInt u.1.toInt u.2.toInt)) (fun u => [(h, .inr (4, [.ref pp, .ref pl, .ref pe, .ref pr, .int bg, .int sz, .int bt, .int u.1, .int u.2])), (pr, .inl (G.2.1, N, .inl fr)), (pl, .inl (G.2.2.1, 1024, .inl fl)), (pe, .inl (G.2.2.1, 4000, .inl fe))]) := by
  refine Cn.of hl (by decide +kernel) rfl (Nat.le_of_ble_eq_true rfl) (fun M hQ => ?_)
  refine pb_eq (pc' := 0) (lo' := [(0, .ref h), (1, .int x)]) (rest' := []) (ws' := [(h, .inr (4, [.ref pp, .ref pl, .ref pe, .ref pr, .int bg, .int sz, .int bt, .int ln, .int ds])), (pr, .inl (G.2.1, N, .inl fr)), (pl, .inl (G.2.2.1, 1024, .inl fl)), (pe, .inl (G.2.2.1, 4000, .inl fe))]) ?_
  have zl0 : (0 : Int32).toInt = 0 := by decide
  have zl1 : (1 : Int32).toInt = 1 := by decide
  have zl3 : (3 : Int32).toInt = 3 := by decide
  have zl258 : (258 : Int32).toInt = 258 := by decide
  refine pb_sipush (pc := 0) (v := 258) d_Presser_findLongest_0 (by decide) ?_
  refine pb_aload_n (pc := 3) d_Presser_findLongest_3 0 rfl rfl ?_
  refine pb_get (pc := 4) d_Presser_findLongest_4 0 5 rfl rfl (by decide) in_Presser k_188 rfl ?_
  refine pb_iload_n (pc := 7) d_Presser_findLongest_7 1 rfl rfl ?_
  refine pb_isub (pc := 8) d_Presser_findLongest_8 ?_
  refine pb_topi (fun i1 ei1 => ?_)
  try have ti1 : i1.toInt = sz.toInt - x.toInt := ti_sub ei1 rfl rfl (by omega) (by omega)
  refine pb_mmin (pc := 9) d_Presser_findLongest_9 k_513 k_514 k_137 k_515 (by decide) (Nat.le_of_ble_eq_true rfl) (by decide) (by decide) (fun i2 m0i2 m1i2 m2i2 => ?_)
  refine pb_istore_n (pc := 12) (lo' := [(2, .int i2), (0, .ref h), (1, .int x)]) d_Presser_findLongest_12 rfl (by decide) rfl ?_
  refine pb_aload_n (pc := 13) d_Presser_findLongest_13 1 rfl rfl ?_
  refine pb_iconst (pc := 14) (v := 1) d_Presser_findLongest_14 (by decide) ?_
  refine pb_put (pc := 15) (ty := .int) (ws' := [(h, .inr (4, [.ref pp, .ref pl, .ref pe, .ref pr, .int bg, .int sz, .int bt, .int 1, .int ds])), (pr, .inl (G.2.1, N, .inl fr)), (pl, .inl (G.2.2.1, 1024, .inl fl)), (pe, .inl (G.2.2.1, 4000, .inl fe))]) d_Presser_findLongest_15 0 7 t_Presser t_Presser_ok n_Presser rfl rfl (by decide) in_Presser k_190 rfl (by decide +kernel) rfl rfl (Nat.le_of_ble_eq_true rfl) rfl ?_
  refine pb_iload_n (pc := 18) d_Presser_findLongest_18 0 rfl rfl ?_
  refine pb_iconst (pc := 19) (v := 3) d_Presser_findLongest_19 (by decide) ?_
  refine pb_icmp_ge (pc := 20) (tgt := 24) d_Presser_findLongest_20 (by decide) (fun w3 => ?_) (fun w3 => ?_)
  · have tw3 : 3 ≤ i2.toInt := (ti_le (by decide) rfl).mp w3
    refine pb_aload_n (pc := 24) d_Presser_findLongest_24 1 rfl rfl ?_
    refine pb_get (pc := 25) d_Presser_findLongest_25 0 1 rfl rfl (by decide) in_Presser k_184 rfl ?_
    refine pb_aload_n (pc := 28) d_Presser_findLongest_28 1 rfl rfl ?_
    refine pb_iload_n (pc := 29) d_Presser_findLongest_29 2 rfl rfl ?_
    refine pb_callV (pc := 30) (I := i_Presser_findLongest) (qb := 0) (ci := 4) (nA := 1) (rest := [.ref pl]) (wr := [(pl, .inl (G.2.2.1, 1024, .inl fl)), (pe, .inl (G.2.2.1, 4000, .inl fe))]) d_Presser_findLongest_30 (g_Pr_mixAt hl G h pp pl pe pr pb bg sz bt 1 ds N fr x (by first | (with_reducible assumption) | omega (splitDisjunctions := false) | assumption | omega | decide) (by first | (with_reducible assumption) | omega (splitDisjunctions := false) | assumption | omega | decide) (by first | (with_reducible assumption) | omega (splitDisjunctions := false) | assumption | omega | decide) (by first | (with_reducible assumption) | omega (splitDisjunctions := false) | assumption | omega | decide) (by first | (with_reducible assumption) | omega (splitDisjunctions := false) | assumption | omega | decide) (by first | (with_reducible assumption) | omega (splitDisjunctions := false) | assumption | omega | decide) (by first | (with_reducible assumption) | omega (splitDisjunctions := false) | assumption | omega | decide) F_fr) rfl rfl [0, 1] [2, 3] (by decide) rfl rfl rfl (by decide) (by decide) k_519 rfl k_120 k_516 k_518 k_4 ⟨rfl, hy_Presser_mixAt⟩ (by decide) rfl rfl (Nat.le_of_ble_eq_true rfl) (by decide) (fun v9 u5 ch4 => ?_)
    obtain ⟨r_6, rfl⟩ : ∃ z9, z9 = u5 := ⟨_, rfl⟩
    obtain ⟨ech4, ch4⟩ := ch4
    have ech4 : v9 = some (.int r_6) := ech4
    subst ech4
    obtain ⟨fh7, fh8, fh9⟩ : (0 ≤ r_6.toInt) ∧ (r_6.toInt ≤ 1023) ∧ (r_6.toInt = mx_ (sq fr bg.toInt sz.toInt) x.toInt) := ch4
    have y0 := fh9
    have y1 := I.1 r_6.toInt (by omega) (by omega)
    have y2 := la_rng y1 x0
    refine pb_eq (pc' := 33) (lo' := [(2, .int i2), (0, .ref h), (1, .int x)]) (rest' := [.int r_6, .ref pl]) (ws' := [(pl, .inl (G.2.2.1, 1024, .inl fl)), (pe, .inl (G.2.2.1, 4000, .inl fe)), (h, .inr (4, [.ref pp, .ref pl, .ref pe, .ref pr, .int bg, .int sz, .int bt, .int 1, .int ds])), (pr, .inl (G.2.1, N, .inl fr))]) ?_
    refine pb_iald (pc := 33) d_Presser_findLongest_33 0 rfl (vp_in_iff.mpr (by constructor <;> omega)) ?_
    refine pb_topi (fun i10 ei10 => ?_)
    have ti10 : i10.toInt = gx fl (r_6.toInt) := gx_ld ei10 rfl
    have y3 : la_R (sq fr bg.toInt sz.toInt) sz.toInt x.toInt (mx_ (sq fr bg.toInt sz.toInt) x.toInt) i10.toInt := by rw [← y0, ti10]; exact y1
    refine pb_istore_n (pc := 34) (lo' := [(3, .int i10), (2, .int i2), (0, .ref h), (1, .int x)]) d_Presser_findLongest_34 rfl (by decide) rfl ?_
    refine pb_iconst (pc := 35) (v := 0) d_Presser_findLongest_35 (by decide) ?_
    refine pb_istore (pc := 36) (lo' := [(4, .int 0), (3, .int i10), (2, .int i2), (0, .ref h), (1, .int x)]) d_Presser_findLongest_36 (by decide) rfl ?_
    have hL38_11 : ∀ (N9 : Nat) (sn : Int32) (o : Int32) (ms : Int32) (l3 : Int32) (d3 : Int32), (0 ≤ sn.toInt) → (-1 ≤ o.toInt) → (o.toInt + sn.toInt < x.toInt) → (3 ≤ ms.toInt) → (ms.toInt ≤ sz.toInt - x.toInt) → (ms.toInt = mm_ sz.toInt x.toInt) → (0 ≤ o.toInt → o.toInt + 3 ≤ sz.toInt ∧ mx_ (sq fr bg.toInt sz.toInt) o.toInt = mx_ (sq fr bg.toInt sz.toInt) x.toInt) → (bs_R (sq fr bg.toInt sz.toInt) sz.toInt x.toInt o.toInt l3.toInt d3.toInt) → ((x.toInt - sn.toInt).toNat) < N9 → pb_P l G M i_Presser_findLongest 38 [(4, .int sn), (3, .int o), (2, .int ms), (0, .ref h), (1, .int x)] [] [(h, .inr (4, [.ref pp, .ref pl, .ref pe, .ref pr, .int bg, .int sz, .int bt, .int l3, .int d3])), (pr, .inl (G.2.1, N, .inl fr)), (pl, .inl (G.2.2.1, 1024, .inl fl)), (pe, .inl (G.2.2.1, 4000, .inl fe))] 0 0 := by
      intro N9
      induction N9 with
      | zero => intro sn o ms l3 d3 hs ho ho2 hm hm2 hmm ho3 hB hm9; exact absurd hm9 (Nat.not_lt_zero _)
      | succ N9 ih38 =>
        intro sn o ms l3 d3 hs ho ho2 hm hm2 hmm ho3 hB hm9
        refine pb_iload (pc := 38) d_Presser_findLongest_38 0 rfl ?_
        refine pb_iload_n (pc := 40) d_Presser_findLongest_40 4 rfl rfl ?_
        refine pb_icmp_ge (pc := 41) (tgt := 106) d_Presser_findLongest_41 (by decide) (fun w12 => ?_) (fun w12 => ?_)
        · have tw12 : x.toInt ≤ sn.toInt := (ti_le rfl rfl).mp w12
          exact pb_vret (pc := 106) hQ d_Presser_findLongest_106 rfl (l3, d3) ⟨rfl, (show fl_R (sq fr bg.toInt sz.toInt) sz.toInt x.toInt l3.toInt d3.toInt from (fl_bs hB (by omega) (by omega)))⟩ [0, 1, 2, 3] (by decide) rfl rfl (by decide) (by decide)
        · have tw12 : ¬ x.toInt ≤ sn.toInt := fun z9 => w12 ((ti_le rfl rfl).mpr z9)
          refine pb_iload_n (pc := 44) d_Presser_findLongest_44 1 rfl rfl ?_
          refine pb_if_lt (pc := 45) (tgt := 106) d_Presser_findLongest_45 (by decide) (fun w13 => ?_) (fun w13 => ?_)
          · have tw13 : o.toInt < 0 := (ti_lt rfl (by decide)).mp w13
            exact pb_vret (pc := 106) hQ d_Presser_findLongest_106 rfl (l3, d3) ⟨rfl, (show fl_R (sq fr bg.toInt sz.toInt) sz.toInt x.toInt l3.toInt d3.toInt from (fl_bs hB (by omega) (by omega)))⟩ [0, 1, 2, 3] (by decide) rfl rfl (by decide) (by decide)
          · have tw13 : ¬ o.toInt < 0 := fun z9 => w13 ((ti_lt rfl (by decide)).mpr z9)
            refine pb_aload_n (pc := 48) d_Presser_findLongest_48 3 rfl rfl ?_
            refine pb_get (pc := 49) d_Presser_findLongest_49 0 7 rfl rfl (by decide) in_Presser k_190 rfl ?_
            refine pb_iload_n (pc := 52) d_Presser_findLongest_52 2 rfl rfl ?_
            refine pb_icmp_ge (pc := 53) (tgt := 106) d_Presser_findLongest_53 (by decide) (fun w14 => ?_) (fun w14 => ?_)
            · have tw14 : ms.toInt ≤ l3.toInt := (ti_le rfl rfl).mp w14
              exact pb_vret (pc := 106) hQ d_Presser_findLongest_106 rfl (l3, d3) ⟨rfl, (show fl_R (sq fr bg.toInt sz.toInt) sz.toInt x.toInt l3.toInt d3.toInt from (fl_bs hB (by omega) (by omega)))⟩ [0, 1, 2, 3] (by decide) rfl rfl (by decide) (by decide)
            · have tw14 : ¬ ms.toInt ≤ l3.toInt := fun z9 => w14 ((ti_le rfl rfl).mpr z9)
              refine pb_aload_n (pc := 56) d_Presser_findLongest_56 3 rfl rfl ?_
              refine pb_iload_n (pc := 57) d_Presser_findLongest_57 1 rfl rfl ?_
              refine pb_iload_n (pc := 58) d_Presser_findLongest_58 4 rfl rfl ?_
              refine pb_iload_n (pc := 59) d_Presser_findLongest_59 2 rfl rfl ?_
              refine pb_callV (pc := 60) (I := i_Presser_findLongest) (qb := 0) (ci := 4) (nA := 3) (rest := []) (wr := [(pl, .inl (G.2.2.1, 1024, .inl fl)), (pe, .inl (G.2.2.1, 4000, .inl fe))]) d_Presser_findLongest_60 (g_Pr_sameFrom hl G h pp pl pe pr pb bg sz bt l3 d3 N fr o x ms (by first | (with_reducible assumption) | omega (splitDisjunctions := false) | assumption | omega | decide) (by first | (with_reducible assumption) | omega (splitDisjunctions := false) | assumption | omega | decide) (by first | (with_reducible assumption) | omega (splitDisjunctions := false) | assumption | omega | decide) (by first | (with_reducible assumption) | omega (splitDisjunctions := false) | assumption | omega | decide) (by first | (with_reducible assumption) | omega (splitDisjunctions := false) | assumption | omega | decide) (by first | (with_reducible assumption) | omega (splitDisjunctions := false) | assumption | omega | decide) (by first | (with_reducible assumption) | omega (splitDisjunctions := false) | assumption | omega | decide) (by first | (with_reducible assumption) | omega (splitDisjunctions := false) | assumption | omega | decide) (by first | (with_reducible assumption) | omega (splitDisjunctions := false) | assumption | omega | decide) F_fr) rfl rfl [0, 1] [2, 3] (by decide) rfl rfl rfl (by decide) (by decide) k_523 rfl k_120 k_520 k_522 k_5 ⟨rfl, hy_Presser_sameFrom⟩ (by decide) rfl rfl (Nat.le_of_ble_eq_true rfl) (by decide) (fun v9 u16 ch15 => ?_)
              obtain ⟨r_17, rfl⟩ : ∃ z9, z9 = u16 := ⟨_, rfl⟩
              obtain ⟨ech15, ch15⟩ := ch15
              have ech15 : v9 = some (.int r_17) := ech15
              subst ech15
              have fh18 : sm_R (sq fr bg.toInt sz.toInt) o.toInt x.toInt ms.toInt r_17.toInt := ch15
              have y5 : sm_R (sq fr bg.toInt sz.toInt) o.toInt x.toInt (mm_ sz.toInt x.toInt) r_17.toInt := by rw [← hmm]; exact fh18
              have y6 := y5.1
              refine pb_eq (pc' := 63) (lo' := [(4, .int sn), (3, .int o), (2, .int ms), (0, .ref h), (1, .int x)]) (rest' := [.int r_17]) (ws' := [(pl, .inl (G.2.2.1, 1024, .inl fl)), (pe, .inl (G.2.2.1, 4000, .inl fe)), (h, .inr (4, [.ref pp, .ref pl, .ref pe, .ref pr, .int bg, .int sz, .int bt, .int l3, .int d3])), (pr, .inl (G.2.1, N, .inl fr))]) ?_
              refine pb_istore (pc := 63) (lo' := [(5, .int r_17), (4, .int sn), (3, .int o), (2, .int ms), (0, .ref h), (1, .int x)]) d_Presser_findLongest_63 (by decide) rfl ?_
              have hJ93_19 : ∀ (l4 : Int32) (d4 : Int32), (∀ v : Int, la_R (sq fr bg.toInt sz.toInt) sz.toInt o.toInt (mx_ (sq fr bg.toInt sz.toInt) o.toInt) v → bs_R (sq fr bg.toInt sz.toInt) sz.toInt x.toInt v l4.toInt d4.toInt) → pb_P l G M i_Presser_findLongest 93 [(4, .int sn), (3, .int o), (2, .int ms), (0, .ref h), (1, .int x)] [] [(h, .inr (4, [.ref pp, .ref pl, .ref pe, .ref pr, .int bg, .int sz, .int bt, .int l4, .int d4])), (pr, .inl (G.2.1, N, .inl fr)), (pl, .inl (G.2.2.1, 1024, .inl fl)), (pe, .inl (G.2.2.1, 4000, .inl fe))] 0 0 := by
                intro l4 d4 hj
                refine pb_aload_n (pc := 93) d_Presser_findLongest_93 3 rfl rfl ?_
                refine pb_get (pc := 94) d_Presser_findLongest_94 0 2 rfl rfl (by decide) in_Presser k_185 rfl ?_
                refine pb_iload_n (pc := 97) d_Presser_findLongest_97 1 rfl rfl ?_
                have y7 := I.2 o.toInt (by omega) (by omega) (ho3 (by omega)).1
                have y8 := la_rng y7 (by omega)
                refine pb_iald (pc := 98) d_Presser_findLongest_98 3 rfl (vp_in_iff.mpr (by constructor <;> omega)) ?_
                refine pb_topi (fun i20 ei20 => ?_)
                have ti20 : i20.toInt = gx fe (o.toInt) := gx_ld ei20 rfl
                have y9 : la_R (sq fr bg.toInt sz.toInt) sz.toInt o.toInt (mx_ (sq fr bg.toInt sz.toInt) o.toInt) i20.toInt := by rw [ti20]; exact y7
                refine pb_istore_n (pc := 99) (lo' := [(3, .int i20), (4, .int sn), (2, .int ms), (0, .ref h), (1, .int x)]) d_Presser_findLongest_99 rfl (by decide) rfl ?_
                refine pb_iincN (pc := 100) (c := 1) d_Presser_findLongest_100 1 rfl (by decide) (by decide) (fun i21 ei21 => ?_)
                have ti21 : i21.toInt = sn.toInt + 1 := ti_add ei21 rfl (by decide) (by omega) (by omega)
                refine pb_eq (pc' := 103) (lo' := [(4, .int i21), (3, .int i20), (2, .int ms), (0, .ref h), (1, .int x)]) (rest' := []) (ws' := [(h, .inr (4, [.ref pp, .ref pl, .ref pe, .ref pr, .int bg, .int sz, .int bt, .int l4, .int d4])), (pr, .inl (G.2.1, N, .inl fr)), (pl, .inl (G.2.2.1, 1024, .inl fl)), (pe, .inl (G.2.2.1, 4000, .inl fe))]) ?_
                refine pb_goto (pc := 103) (tgt := 38) d_Presser_findLongest_103 (by decide) ?_
                exact ih38 i21 i20 ms l4 d4 (by first | (with_reducible assumption) | omega (splitDisjunctions := false) | assumption | omega | decide) (by first | (with_reducible assumption) | omega (splitDisjunctions := false) | assumption | omega | decide) (by first | (with_reducible assumption) | omega (splitDisjunctions := false) | assumption | omega | decide) (by first | (with_reducible assumption) | omega (splitDisjunctions := false) | assumption | omega | decide) (by first | (with_reducible assumption) | omega (splitDisjunctions := false) | assumption | omega | decide) (by first | (with_reducible assumption) | omega (splitDisjunctions := false) | assumption | omega | decide) (fun q9 => ⟨(la_mx y9 q9).1, (la_mx y9 q9).2.trans (ho3 (by omega)).2⟩) (hj _ y9) (by (exact omg_7c8a06b1f5 hm9 tw12 ti21))
              refine pb_iload (pc := 65) d_Presser_findLongest_65 0 rfl ?_
              refine pb_iconst (pc := 67) (v := 3) d_Presser_findLongest_67 (by decide) ?_
              refine pb_icmp_lt (pc := 68) (tgt := 93) d_Presser_findLongest_68 (by decide) (fun w22 => ?_) (fun w22 => ?_)
              · have tw22 : r_17.toInt < 3 := (ti_lt rfl (by decide)).mp w22
                refine pb_re (ws' := [(h, .inr (4, [.ref pp, .ref pl, .ref pe, .ref pr, .int bg, .int sz, .int bt, .int l3, .int d3])), (pr, .inl (G.2.1, N, .inl fr)), (pl, .inl (G.2.2.1, 1024, .inl fl)), (pe, .inl (G.2.2.1, 4000, .inl fe))]) (lo' := [(4, .int sn), (3, .int o), (2, .int ms), (0, .ref h), (1, .int x)]) [2, 3, 0, 1] [1, 2, 3, 4, 5] (by decide) rfl rfl rfl ?_
                exact hJ93_19 l3 d3 (fun v9 hv9 => by first | exact bs_keep hB (by omega) (by omega) (by omega) (ho3 (by omega)).2 hv9 y5 (by omega) | exact bs_take hB (by omega) (by omega) (by omega) (ho3 (by omega)).2 hv9 y5 (by omega) (by omega) (by omega))
              · have tw22 : ¬ r_17.toInt < 3 := fun z9 => w22 ((ti_lt rfl (by decide)).mpr z9)
                refine pb_iload (pc := 71) d_Presser_findLongest_71 0 rfl ?_
                refine pb_aload_n (pc := 73) d_Presser_findLongest_73 4 rfl rfl ?_
                refine pb_get (pc := 74) d_Presser_findLongest_74 2 7 rfl rfl (by decide) in_Presser k_190 rfl ?_
                refine pb_icmp_le (pc := 77) (tgt := 93) d_Presser_findLongest_77 (by decide) (fun w23 => ?_) (fun w23 => ?_)
                · have tw23 : r_17.toInt ≤ l3.toInt := (ti_le rfl rfl).mp w23
                  refine pb_re (ws' := [(h, .inr (4, [.ref pp, .ref pl, .ref pe, .ref pr, .int bg, .int sz, .int bt, .int l3, .int d3])), (pr, .inl (G.2.1, N, .inl fr)), (pl, .inl (G.2.2.1, 1024, .inl fl)), (pe, .inl (G.2.2.1, 4000, .inl fe))]) (lo' := [(4, .int sn), (3, .int o), (2, .int ms), (0, .ref h), (1, .int x)]) [2, 3, 0, 1] [1, 2, 3, 4, 5] (by decide) rfl rfl rfl ?_
                  exact hJ93_19 l3 d3 (fun v9 hv9 => by first | exact bs_keep hB (by omega) (by omega) (by omega) (ho3 (by omega)).2 hv9 y5 (by omega) | exact bs_take hB (by omega) (by omega) (by omega) (ho3 (by omega)).2 hv9 y5 (by omega) (by omega) (by omega))
                · have tw23 : ¬ r_17.toInt ≤ l3.toInt := fun z9 => w23 ((ti_le rfl rfl).mpr z9)
                  refine pb_aload_n (pc := 80) d_Presser_findLongest_80 4 rfl rfl ?_
                  refine pb_iload (pc := 81) d_Presser_findLongest_81 0 rfl ?_
                  refine pb_put (pc := 83) (ty := .int) (ws' := [(pl, .inl (G.2.2.1, 1024, .inl fl)), (pe, .inl (G.2.2.1, 4000, .inl fe)), (h, .inr (4, [.ref pp, .ref pl, .ref pe, .ref pr, .int bg, .int sz, .int bt, .int r_17, .int d3])), (pr, .inl (G.2.1, N, .inl fr))]) d_Presser_findLongest_83 2 7 t_Presser t_Presser_ok n_Presser rfl rfl (by decide) in_Presser k_190 rfl (by decide +kernel) rfl rfl (Nat.le_of_ble_eq_true rfl) rfl ?_
                  refine pb_aload_n (pc := 86) d_Presser_findLongest_86 4 rfl rfl ?_
                  refine pb_iload_n (pc := 87) d_Presser_findLongest_87 5 rfl rfl ?_
                  refine pb_iload_n (pc := 88) d_Presser_findLongest_88 2 rfl rfl ?_
                  refine pb_isub (pc := 89) d_Presser_findLongest_89 ?_
                  refine pb_topi (fun i24 ei24 => ?_)
                  try have ti24 : i24.toInt = x.toInt - o.toInt := ti_sub ei24 rfl rfl (by omega) (by omega)
                  refine pb_put (pc := 90) (ty := .int) (ws' := [(pl, .inl (G.2.2.1, 1024, .inl fl)), (pe, .inl (G.2.2.1, 4000, .inl fe)), (h, .inr (4, [.ref pp, .ref pl, .ref pe, .ref pr, .int bg, .int sz, .int bt, .int r_17, .int i24])), (pr, .inl (G.2.1, N, .inl fr))]) d_Presser_findLongest_90 2 8 t_Presser t_Presser_ok n_Presser rfl rfl (by decide) in_Presser k_191 rfl (by decide +kernel) rfl rfl (Nat.le_of_ble_eq_true rfl) rfl ?_
                  refine pb_re (ws' := [(h, .inr (4, [.ref pp, .ref pl, .ref pe, .ref pr, .int bg, .int sz, .int bt, .int r_17, .int i24])), (pr, .inl (G.2.1, N, .inl fr)), (pl, .inl (G.2.2.1, 1024, .inl fl)), (pe, .inl (G.2.2.1, 4000, .inl fe))]) (lo' := [(4, .int sn), (3, .int o), (2, .int ms), (0, .ref h), (1, .int x)]) [2, 3, 0, 1] [1, 2, 3, 4, 5] (by decide) rfl rfl rfl ?_
                  exact hJ93_19 r_17 i24 (fun v9 hv9 => by first | exact bs_keep hB (by omega) (by omega) (by omega) (ho3 (by omega)).2 hv9 y5 (by omega) | exact bs_take hB (by omega) (by omega) (by omega) (ho3 (by omega)).2 hv9 y5 (by omega) (by omega) (by omega))
    refine pb_re (ws' := [(h, .inr (4, [.ref pp, .ref pl, .ref pe, .ref pr, .int bg, .int sz, .int bt, .int 1, .int ds])), (pr, .inl (G.2.1, N, .inl fr)), (pl, .inl (G.2.2.1, 1024, .inl fl)), (pe, .inl (G.2.2.1, 4000, .inl fe))]) (lo' := [(4, .int 0), (3, .int i10), (2, .int i2), (0, .ref h), (1, .int x)]) [2, 3, 0, 1] [0, 1, 2, 3, 4] (by decide) rfl rfl rfl ?_
    exact hL38_11 _ 0 i10 i2 1 ds (by first | (with_reducible assumption) | omega (splitDisjunctions := false) | assumption | omega | decide) (by first | (with_reducible assumption) | omega (splitDisjunctions := false) | assumption | omega | decide) (by first | (with_reducible assumption) | omega (splitDisjunctions := false) | assumption | omega | decide) (by first | (with_reducible assumption) | omega (splitDisjunctions := false) | assumption | omega | decide) (by first | (with_reducible assumption) | omega (splitDisjunctions := false) | assumption | omega | decide) (by unfold mm_; split <;> omega) (fun q9 => la_mx y3 q9) (by rw [zl1]; exact bs_0 (by omega) y3) (Nat.lt_succ_self _)
  · have tw3 : ¬ 3 ≤ i2.toInt := fun z9 => w3 ((ti_le (by decide) rfl).mpr z9)
    exact pb_vret (pc := 23) hQ d_Presser_findLongest_23 rfl (1, ds) ⟨rfl, (show fl_R (sq fr bg.toInt sz.toInt) sz.toInt x.toInt (1 : Int32).toInt ds.toInt from (by rw [zl1]; exact fl_few (by unfold mm_; split <;> omega)))⟩ [0, 1, 2, 3] (by decide) rfl rfl (by decide) (by decide)
