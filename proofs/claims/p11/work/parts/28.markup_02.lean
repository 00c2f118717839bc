theorem d_Markup_readNamed_0 : decode prog_7_method_13_code 0 = .ok (.aload_n 0, 1) := by decide +kernel
theorem d_Markup_readNamed_1 : decode prog_7_method_13_code 1 = .ok (.getfield 48, 3) := by decide +kernel
theorem d_Markup_readNamed_4 : decode prog_7_method_13_code 4 = .ok (.istore_n 1, 1) := by decide +kernel
theorem d_Markup_readNamed_5 : decode prog_7_method_13_code 5 = .ok (.aload_n 0, 1) := by decide +kernel
theorem d_Markup_readNamed_6 : decode prog_7_method_13_code 6 = .ok (.invokevirtual 113, 3) := by decide +kernel
theorem k_849 : (Jvm.Cond.methodLink "PackageBook$Markup" (113 : Nat) ({ cls := "PackageBook$Markup", name := "skipLetters", desc := "()V" } : Jvm.MethodName)) ∈ uW := uW_of 849 (by decide +kernel) (by decide +kernel)
theorem k_852 : (Jvm.Cond.code ({ cls := "PackageBook$Markup", name := "skipLetters", desc := "()V" } : Jvm.MethodName) prog_7_method_20_code (1 : Nat) (Option.none : Option Jvm.ClassFile.FieldType)) ∈ uW := uW_of 852 (by decide +kernel) (by decide +kernel)
theorem k_851 : (Jvm.Cond.instanceMethod ({ cls := "PackageBook$Markup", name := "skipLetters", desc := "()V" } : Jvm.MethodName)) ∈ uW := uW_of 851 (by decide +kernel) (by decide +kernel)
theorem k_40 : Cond.selects "PackageBook$Markup" ⟨"PackageBook$Markup", "skipLetters", "()V"⟩ ⟨"PackageBook$Markup", "skipLetters", "()V"⟩ ∈ uW := uW_of 40 (by decide +kernel) (by decide +kernel)
theorem hy_Markup_skipLetters : (y_Markup_skipLetters).cls ≠ "java/lang/invoke/MethodHandle" ∧ (y_Markup_skipLetters).cls ≠ "java/lang/invoke/VarHandle" ∧ (parseMethodDescriptor (y_Markup_skipLetters).desc).map (fun d => d.parameters.length) = some 0 := by decide +kernel
theorem d_Markup_readNamed_9 : decode prog_7_method_13_code 9 = .ok (.aload_n 0, 1) := by decide +kernel
theorem d_Markup_readNamed_10 : decode prog_7_method_13_code 10 = .ok (.iload_n 1, 1) := by decide +kernel
theorem d_Markup_readNamed_11 : decode prog_7_method_13_code 11 = .ok (.ldc 147, 2) := by decide +kernel
theorem d_Markup_readNamed_13 : decode prog_7_method_13_code 13 = .ok (.invokevirtual 118, 3) := by decide +kernel
theorem k_854 : (Jvm.Cond.methodLink "PackageBook$Markup" (118 : Nat) ({ cls := "PackageBook$Markup", name := "isText", desc := "(ILjava/lang/String;)Z" } : Jvm.MethodName)) ∈ uW := uW_of 854 (by decide +kernel) (by decide +kernel)
theorem k_857 : (Jvm.Cond.code ({ cls := "PackageBook$Markup", name := "isText", desc := "(ILjava/lang/String;)Z" } : Jvm.MethodName) prog_7_method_22_code (5 : Nat) (Option.some Jvm.ClassFile.FieldType.boolean)) ∈ uW := uW_of 857 (by decide +kernel) (by decide +kernel)
theorem k_856 : (Jvm.Cond.instanceMethod ({ cls := "PackageBook$Markup", name := "isText", desc := "(ILjava/lang/String;)Z" } : Jvm.MethodName)) ∈ uW := uW_of 856 (by decide +kernel) (by decide +kernel)
theorem k_41 : Cond.selects "PackageBook$Markup" ⟨"PackageBook$Markup", "isText", "(ILjava/lang/String;)Z"⟩ ⟨"PackageBook$Markup", "isText", "(ILjava/lang/String;)Z"⟩ ∈ uW := uW_of 41 (by decide +kernel) (by decide +kernel)
theorem hy_Markup_isText : (y_Markup_isText).cls ≠ "java/lang/invoke/MethodHandle" ∧ (y_Markup_isText).cls ≠ "java/lang/invoke/VarHandle" ∧ (parseMethodDescriptor (y_Markup_isText).desc).map (fun d => d.parameters.length) = some 2 := by decide +kernel
theorem d_Markup_readNamed_16 : decode prog_7_method_13_code 16 = .ok (.ifCond .eq 6, 3) := by decide +kernel
theorem d_Markup_readNamed_22 : decode prog_7_method_13_code 22 = .ok (.aload_n 0, 1) := by decide +kernel
theorem d_Markup_readNamed_23 : decode prog_7_method_13_code 23 = .ok (.iload_n 1, 1) := by decide +kernel
theorem d_Markup_readNamed_24 : decode prog_7_method_13_code 24 = .ok (.ldc 149, 2) := by decide +kernel
theorem d_Markup_readNamed_26 : decode prog_7_method_13_code 26 = .ok (.invokevirtual 118, 3) := by decide +kernel
theorem d_Markup_readNamed_29 : decode prog_7_method_13_code 29 = .ok (.ifCond .eq 6, 3) := by decide +kernel
theorem d_Markup_readNamed_35 : decode prog_7_method_13_code 35 = .ok (.aload_n 0, 1) := by decide +kernel
theorem d_Markup_readNamed_36 : decode prog_7_method_13_code 36 = .ok (.iload_n 1, 1) := by decide +kernel
theorem d_Markup_readNamed_37 : decode prog_7_method_13_code 37 = .ok (.ldc 151, 2) := by decide +kernel
theorem d_Markup_readNamed_39 : decode prog_7_method_13_code 39 = .ok (.invokevirtual 118, 3) := by decide +kernel
theorem d_Markup_readNamed_42 : decode prog_7_method_13_code 42 = .ok (.ifCond .eq 6, 3) := by decide +kernel
theorem d_Markup_readNamed_48 : decode prog_7_method_13_code 48 = .ok (.aload_n 0, 1) := by decide +kernel
theorem d_Markup_readNamed_49 : decode prog_7_method_13_code 49 = .ok (.iload_n 1, 1) := by decide +kernel
theorem d_Markup_readNamed_50 : decode prog_7_method_13_code 50 = .ok (.ldc 153, 2) := by decide +kernel
theorem d_Markup_readNamed_52 : decode prog_7_method_13_code 52 = .ok (.invokevirtual 118, 3) := by decide +kernel
theorem d_Markup_readNamed_55 : decode prog_7_method_13_code 55 = .ok (.ifCond .eq 6, 3) := by decide +kernel
theorem d_Markup_readNamed_61 : decode prog_7_method_13_code 61 = .ok (.aload_n 0, 1) := by decide +kernel
theorem d_Markup_readNamed_62 : decode prog_7_method_13_code 62 = .ok (.iload_n 1, 1) := by decide +kernel
theorem d_Markup_readNamed_63 : decode prog_7_method_13_code 63 = .ok (.ldc 155, 2) := by decide +kernel
theorem d_Markup_readNamed_65 : decode prog_7_method_13_code 65 = .ok (.invokevirtual 118, 3) := by decide +kernel
theorem d_Markup_readNamed_68 : decode prog_7_method_13_code 68 = .ok (.ifCond .eq 6, 3) := by decide +kernel
theorem d_Markup_readNamed_74 : decode prog_7_method_13_code 74 = .ok (.aload_n 0, 1) := by decide +kernel
theorem d_Markup_readNamed_75 : decode prog_7_method_13_code 75 = .ok (.iload_n 1, 1) := by decide +kernel
theorem d_Markup_readNamed_76 : decode prog_7_method_13_code 76 = .ok (.invokevirtual 96, 3) := by decide +kernel
theorem d_Markup_readNamed_79 : decode prog_7_method_13_code 79 = .ok (.pop, 1) := by decide +kernel
theorem d_Markup_readNamed_80 : decode prog_7_method_13_code 80 = .ok (.iconst (-1), 1) := by decide +kernel
theorem d_Markup_readNamed_81 : decode prog_7_method_13_code 81 = .ok (.ireturn, 1) := by decide +kernel
theorem d_Markup_readNamed_71 : decode prog_7_method_13_code 71 = .ok (.bipush 39, 2) := by decide +kernel
theorem d_Markup_readNamed_73 : decode prog_7_method_13_code 73 = .ok (.ireturn, 1) := by decide +kernel
theorem d_Markup_readNamed_58 : decode prog_7_method_13_code 58 = .ok (.bipush 34, 2) := by decide +kernel
theorem d_Markup_readNamed_60 : decode prog_7_method_13_code 60 = .ok (.ireturn, 1) := by decide +kernel
theorem d_Markup_readNamed_45 : decode prog_7_method_13_code 45 = .ok (.bipush 62, 2) := by decide +kernel
theorem d_Markup_readNamed_47 : decode prog_7_method_13_code 47 = .ok (.ireturn, 1) := by decide +kernel
theorem d_Markup_readNamed_32 : decode prog_7_method_13_code 32 = .ok (.bipush 60, 2) := by decide +kernel
theorem d_Markup_readNamed_34 : decode prog_7_method_13_code 34 = .ok (.ireturn, 1) := by decide +kernel
theorem d_Markup_readNamed_19 : decode prog_7_method_13_code 19 = .ok (.bipush 38, 2) := by decide +kernel
theorem d_Markup_readNamed_21 : decode prog_7_method_13_code 21 = .ok (.ireturn, 1) := by decide +kernel
abbrev y_Markup_readNamed : MethodName := ⟨"PackageBook$Markup", "readNamed", "()I"⟩
abbrev i_Markup_readNamed : pb_I := (y_Markup_readNamed, prog_7_method_13_code, 2, (some Jvm.ClassFile.FieldType.int), [], { frames := 5, cells := 0, slots := 0, locals := 109 })
set_option maxRecDepth 100000 in
set_option maxHeartbeats 4000000 in
theorem g_Mu_readNamed {l : Launch} (hl : l.stackTraces = false) (G : pb_G) (h : Nat) (ui : Nat) (ug : Nat) (uv : Nat) (ur : Nat) (ct : Int32) (fa : Int32) (bg : Int32) (at_ : Int32) (en : Int32) (vs : Int32) (io : Int32) (hi : Int32) (ht : Int32) (uf : Nat → Int32) (a0 : 0 ≤ at_.toInt) (a1 : at_.toInt ≤ en.toInt) (a2 : en.toInt ≤ 12000) (F_uf : sb_Fit uf) : Cn l G i_Markup_readNamed [.ref h] [(h, .inr (8, [.ref ui, .ref ug, .ref uv, .ref ur, .int ct, .int fa, .int bg, .int at_, .int en, .int vs, .int io, .int hi, .int ht])), (ur, .inl (G.2.1, 12000, .inl uf))] (S := Int32 × Int32 × Int32) (fun rv_ u => rv_ = some (.int u.1) ∧ (at_.toInt ≤ u.2.1.toInt) ∧ (u.2.1.toInt ≤ en.toInt) ∧ (-1 ≤ u.1.toInt) ∧ (u.1.toInt ≤ 126)) (fun u => [(h, .inr (8, [.ref ui, .ref ug, .ref uv, .ref ur, .int ct, .int u.2.2, .int bg, .int u.2.1, .int en, .int vs, .int io, .int hi, .int ht])), (ur, .inl (G.2.1, 12000, .inl uf))]) := by
  refine Cn.of hl (by decide +kernel) rfl (Nat.le_of_ble_eq_true rfl) (fun M hQ => ?_)
  refine pb_eq (pc' := 0) (lo' := [(0, .ref h)]) (rest' := []) (ws' := [(h, .inr (8, [.ref ui, .ref ug, .ref uv, .ref ur, .int ct, .int fa, .int bg, .int at_, .int en, .int vs, .int io, .int hi, .int ht])), (ur, .inl (G.2.1, 12000, .inl uf))]) ?_
  have zm1 : ((-1) : Int32).toInt = (-1) := by decide
  have zl0 : (0 : Int32).toInt = 0 := by decide
  have zl1 : (1 : Int32).toInt = 1 := by decide
  have zl34 : (34 : Int32).toInt = 34 := by decide
  have zl38 : (38 : Int32).toInt = 38 := by decide
  have zl39 : (39 : Int32).toInt = 39 := by decide
  have zl60 : (60 : Int32).toInt = 60 := by decide
  have zl62 : (62 : Int32).toInt = 62 := by decide
  refine pb_aload_n (pc := 0) d_Markup_readNamed_0 0 rfl rfl ?_
  refine pb_get (pc := 1) d_Markup_readNamed_1 0 7 rfl rfl (by decide) in_Markup k_326 rfl ?_
  refine pb_istore_n (pc := 4) (lo' := [(1, .int at_), (0, .ref h)]) d_Markup_readNamed_4 rfl (by decide) rfl ?_
  refine pb_aload_n (pc := 5) d_Markup_readNamed_5 1 rfl rfl ?_
  refine pb_callV (pc := 6) (I := i_Markup_readNamed) (qb := 0) (ci := 8) (nA := 0) (rest := []) (wr := []) d_Markup_readNamed_6 (g_Mu_skipLetters hl G h ui ug uv ur ct fa bg at_ en vs io hi ht uf (by first | (with_reducible assumption) | omega (splitDisjunctions := false) | assumption | omega | decide) (by first | (with_reducible assumption) | omega (splitDisjunctions := false) | assumption | omega | decide) (by first | (with_reducible assumption) | omega (splitDisjunctions := false) | assumption | omega | decide) F_uf) rfl rfl [0, 1] [] (by decide) rfl rfl rfl (by decide) (by decide) k_852 rfl k_125 k_849 k_851 k_40 ⟨rfl, hy_Markup_skipLetters⟩ (by decide) rfl rfl (Nat.le_of_ble_eq_true rfl) (by decide) (fun v9 u2 ch1 => ?_)
  obtain ⟨at_3, rfl⟩ : ∃ z9, z9 = u2 := ⟨_, rfl⟩
  obtain ⟨ech1, ch1⟩ := ch1
  have ech1 : v9 = none := ech1
  subst ech1
  obtain ⟨fh4, fh5⟩ : (at_.toInt ≤ at_3.toInt) ∧ (at_3.toInt ≤ en.toInt) := ch1
  refine pb_eq (pc' := 9) (lo' := [(1, .int at_), (0, .ref h)]) (rest' := []) (ws' := [(h, .inr (8, [.ref ui, .ref ug, .ref uv, .ref ur, .int ct, .int fa, .int bg, .int at_3, .int en, .int vs, .int io, .int hi, .int ht])), (ur, .inl (G.2.1, 12000, .inl uf))]) ?_
  refine pb_aload_n (pc := 9) d_Markup_readNamed_9 1 rfl rfl ?_
  refine pb_iload_n (pc := 10) d_Markup_readNamed_10 0 rfl rfl ?_
  refine pb_ldcS (pc := 11) (k := 10) d_Markup_readNamed_11 rfl (by decide) ?_
  refine pb_callV (pc := 13) (I := i_Markup_readNamed) (qb := 0) (ci := 8) (nA := 2) (rest := []) (wr := []) d_Markup_readNamed_13 (g_Mu_isText hl G h ui ug uv ur ct fa bg at_3 en vs io hi ht uf at_ 10 (by first | (with_reducible assumption) | omega (splitDisjunctions := false) | assumption | omega | decide) (by first | (with_reducible assumption) | omega (splitDisjunctions := false) | assumption | omega | decide) (by first | (with_reducible assumption) | omega (splitDisjunctions := false) | assumption | omega | decide) (by first | assumption | decide | omega) (by first | (with_reducible assumption) | omega (splitDisjunctions := false) | assumption | omega | decide) F_uf) rfl rfl [0, 1] [] (by decide) rfl rfl rfl (by decide) (by decide) k_857 rfl k_125 k_854 k_856 k_41 ⟨rfl, hy_Markup_isText⟩ (by decide) rfl rfl (Nat.le_of_ble_eq_true rfl) (by decide) (fun v9 u7 ch6 => ?_)
  obtain ⟨r_8, rfl⟩ : ∃ z9, z9 = u7 := ⟨_, rfl⟩
  obtain ⟨ech6, ch6⟩ := ch6
  have ech6 : v9 = some (.int r_8) := ech6
  subst ech6
  have fh9 : r_8.toInt = 0 ∨ r_8.toInt = 1 := ch6
  refine pb_eq (pc' := 16) (lo' := [(1, .int at_), (0, .ref h)]) (rest' := [.int r_8]) (ws' := [(h, .inr (8, [.ref ui, .ref ug, .ref uv, .ref ur, .int ct, .int fa, .int bg, .int at_3, .int en, .int vs, .int io, .int hi, .int ht])), (ur, .inl (G.2.1, 12000, .inl uf))]) ?_
  refine pb_if_eq (pc := 16) (tgt := 22) d_Markup_readNamed_16 (by decide) (fun w10 => ?_) (fun w10 => ?_)
  · have tw10 : r_8.toInt = 0 := (ti_eq rfl (by decide)).mp w10
    refine pb_aload_n (pc := 22) d_Markup_readNamed_22 1 rfl rfl ?_
    refine pb_iload_n (pc := 23) d_Markup_readNamed_23 0 rfl rfl ?_
    refine pb_ldcS (pc := 24) (k := 11) d_Markup_readNamed_24 rfl (by decide) ?_
    refine pb_callV (pc := 26) (I := i_Markup_readNamed) (qb := 0) (ci := 8) (nA := 2) (rest := []) (wr := []) d_Markup_readNamed_26 (g_Mu_isText hl G h ui ug uv ur ct fa bg at_3 en vs io hi ht uf at_ 11 (by first | (with_reducible assumption) | omega (splitDisjunctions := false) | assumption | omega | decide) (by first | (with_reducible assumption) | omega (splitDisjunctions := false) | assumption | omega | decide) (by first | (with_reducible assumption) | omega (splitDisjunctions := false) | assumption | omega | decide) (by first | assumption | decide | omega) (by first | (with_reducible assumption) | omega (splitDisjunctions := false) | assumption | omega | decide) F_uf) rfl rfl [0, 1] [] (by decide) rfl rfl rfl (by decide) (by decide) k_857 rfl k_125 k_854 k_856 k_41 ⟨rfl, hy_Markup_isText⟩ (by decide) rfl rfl (Nat.le_of_ble_eq_true rfl) (by decide) (fun v9 u12 ch11 => ?_)
    obtain ⟨r_13, rfl⟩ : ∃ z9, z9 = u12 := ⟨_, rfl⟩
    obtain ⟨ech11, ch11⟩ := ch11
    have ech11 : v9 = some (.int r_13) := ech11
    subst ech11
    have fh14 : r_13.toInt = 0 ∨ r_13.toInt = 1 := ch11
    refine pb_eq (pc' := 29) (lo' := [(1, .int at_), (0, .ref h)]) (rest' := [.int r_13]) (ws' := [(h, .inr (8, [.ref ui, .ref ug, .ref uv, .ref ur, .int ct, .int fa, .int bg, .int at_3, .int en, .int vs, .int io, .int hi, .int ht])), (ur, .inl (G.2.1, 12000, .inl uf))]) ?_
    refine pb_if_eq (pc := 29) (tgt := 35) d_Markup_readNamed_29 (by decide) (fun w15 => ?_) (fun w15 => ?_)
    · have tw15 : r_13.toInt = 0 := (ti_eq rfl (by decide)).mp w15
      refine pb_aload_n (pc := 35) d_Markup_readNamed_35 1 rfl rfl ?_
      refine pb_iload_n (pc := 36) d_Markup_readNamed_36 0 rfl rfl ?_
      refine pb_ldcS (pc := 37) (k := 12) d_Markup_readNamed_37 rfl (by decide) ?_
      refine pb_callV (pc := 39) (I := i_Markup_readNamed) (qb := 0) (ci := 8) (nA := 2) (rest := []) (wr := []) d_Markup_readNamed_39 (g_Mu_isText hl G h ui ug uv ur ct fa bg at_3 en vs io hi ht uf at_ 12 (by first | (with_reducible assumption) | omega (splitDisjunctions := false) | assumption | omega | decide) (by first | (with_reducible assumption) | omega (splitDisjunctions := false) | assumption | omega | decide) (by first | (with_reducible assumption) | omega (splitDisjunctions := false) | assumption | omega | decide) (by first | assumption | decide | omega) (by first | (with_reducible assumption) | omega (splitDisjunctions := false) | assumption | omega | decide) F_uf) rfl rfl [0, 1] [] (by decide) rfl rfl rfl (by decide) (by decide) k_857 rfl k_125 k_854 k_856 k_41 ⟨rfl, hy_Markup_isText⟩ (by decide) rfl rfl (Nat.le_of_ble_eq_true rfl) (by decide) (fun v9 u17 ch16 => ?_)
      obtain ⟨r_18, rfl⟩ : ∃ z9, z9 = u17 := ⟨_, rfl⟩
      obtain ⟨ech16, ch16⟩ := ch16
      have ech16 : v9 = some (.int r_18) := ech16
      subst ech16
      have fh19 : r_18.toInt = 0 ∨ r_18.toInt = 1 := ch16
      refine pb_eq (pc' := 42) (lo' := [(1, .int at_), (0, .ref h)]) (rest' := [.int r_18]) (ws' := [(h, .inr (8, [.ref ui, .ref ug, .ref uv, .ref ur, .int ct, .int fa, .int bg, .int at_3, .int en, .int vs, .int io, .int hi, .int ht])), (ur, .inl (G.2.1, 12000, .inl uf))]) ?_
      refine pb_if_eq (pc := 42) (tgt := 48) d_Markup_readNamed_42 (by decide) (fun w20 => ?_) (fun w20 => ?_)
      · have tw20 : r_18.toInt = 0 := (ti_eq rfl (by decide)).mp w20
        refine pb_aload_n (pc := 48) d_Markup_readNamed_48 1 rfl rfl ?_
        refine pb_iload_n (pc := 49) d_Markup_readNamed_49 0 rfl rfl ?_
        refine pb_ldcS (pc := 50) (k := 13) d_Markup_readNamed_50 rfl (by decide) ?_
        refine pb_callV (pc := 52) (I := i_Markup_readNamed) (qb := 0) (ci := 8) (nA := 2) (rest := []) (wr := []) d_Markup_readNamed_52 (g_Mu_isText hl G h ui ug uv ur ct fa bg at_3 en vs io hi ht uf at_ 13 (by first | (with_reducible assumption) | omega (splitDisjunctions := false) | assumption | omega | decide) (by first | (with_reducible assumption) | omega (splitDisjunctions := false) | assumption | omega | decide) (by first | (with_reducible assumption) | omega (splitDisjunctions := false) | assumption | omega | decide) (by first | assumption | decide | omega) (by first | (with_reducible assumption) | omega (splitDisjunctions := false) | assumption | omega | decide) F_uf) rfl rfl [0, 1] [] (by decide) rfl rfl rfl (by decide) (by decide) k_857 rfl k_125 k_854 k_856 k_41 ⟨rfl, hy_Markup_isText⟩ (by decide) rfl rfl (Nat.le_of_ble_eq_true rfl) (by decide) (fun v9 u22 ch21 => ?_)
        obtain ⟨r_23, rfl⟩ : ∃ z9, z9 = u22 := ⟨_, rfl⟩
        obtain ⟨ech21, ch21⟩ := ch21
        have ech21 : v9 = some (.int r_23) := ech21
        subst ech21
        have fh24 : r_23.toInt = 0 ∨ r_23.toInt = 1 := ch21
        refine pb_eq (pc' := 55) (lo' := [(1, .int at_), (0, .ref h)]) (rest' := [.int r_23]) (ws' := [(h, .inr (8, [.ref ui, .ref ug, .ref uv, .ref ur, .int ct, .int fa, .int bg, .int at_3, .int en, .int vs, .int io, .int hi, .int ht])), (ur, .inl (G.2.1, 12000, .inl uf))]) ?_
        refine pb_if_eq (pc := 55) (tgt := 61) d_Markup_readNamed_55 (by decide) (fun w25 => ?_) (fun w25 => ?_)
        · have tw25 : r_23.toInt = 0 := (ti_eq rfl (by decide)).mp w25
          refine pb_aload_n (pc := 61) d_Markup_readNamed_61 1 rfl rfl ?_
          refine pb_iload_n (pc := 62) d_Markup_readNamed_62 0 rfl rfl ?_
          refine pb_ldcS (pc := 63) (k := 14) d_Markup_readNamed_63 rfl (by decide) ?_
          refine pb_callV (pc := 65) (I := i_Markup_readNamed) (qb := 0) (ci := 8) (nA := 2) (rest := []) (wr := []) d_Markup_readNamed_65 (g_Mu_isText hl G h ui ug uv ur ct fa bg at_3 en vs io hi ht uf at_ 14 (by first | (with_reducible assumption) | omega (splitDisjunctions := false) | assumption | omega | decide) (by first | (with_reducible assumption) | omega (splitDisjunctions := false) | assumption | omega | decide) (by first | (with_reducible assumption) | omega (splitDisjunctions := false) | assumption | omega | decide) (by first | assumption | decide | omega) (by first | (with_reducible assumption) | omega (splitDisjunctions := false) | assumption | omega | decide) F_uf) rfl rfl [0, 1] [] (by decide) rfl rfl rfl (by decide) (by decide) k_857 rfl k_125 k_854 k_856 k_41 ⟨rfl, hy_Markup_isText⟩ (by decide) rfl rfl (Nat.le_of_ble_eq_true rfl) (by decide) (fun v9 u27 ch26 => ?_)
          obtain ⟨r_28, rfl⟩ : ∃ z9, z9 = u27 := ⟨_, rfl⟩
          obtain ⟨ech26, ch26⟩ := ch26
          have ech26 : v9 = some (.int r_28) := ech26
          subst ech26
          have fh29 : r_28.toInt = 0 ∨ r_28.toInt = 1 := ch26
          refine pb_eq (pc' := 68) (lo' := [(1, .int at_), (0, .ref h)]) (rest' := [.int r_28]) (ws' := [(h, .inr (8, [.ref ui, .ref ug, .ref uv, .ref ur, .int ct, .int fa, .int bg, .int at_3, .int en, .int vs, .int io, .int hi, .int ht])), (ur, .inl (G.2.1, 12000, .inl uf))]) ?_
          refine pb_if_eq (pc := 68) (tgt := 74) d_Markup_readNamed_68 (by decide) (fun w30 => ?_) (fun w30 => ?_)
          · have tw30 : r_28.toInt = 0 := (ti_eq rfl (by decide)).mp w30
            refine pb_aload_n (pc := 74) d_Markup_readNamed_74 1 rfl rfl ?_
            refine pb_iload_n (pc := 75) d_Markup_readNamed_75 0 rfl rfl ?_
            refine pb_callV (pc := 76) (I := i_Markup_readNamed) (qb := 0) (ci := 8) (nA := 1) (rest := []) (wr := [(ur, .inl (G.2.1, 12000, .inl uf))]) d_Markup_readNamed_76 (g_Mu_fail hl G h ui ug uv ur ct fa bg at_3 en vs io hi ht at_) rfl rfl [0] [1] (by decide) rfl rfl rfl (by decide) (by decide) k_831 rfl k_125 k_828 k_830 k_36 ⟨rfl, hy_Markup_fail⟩ (by decide) rfl rfl (Nat.le_of_ble_eq_true rfl) (by decide) (fun v9 u32 ch31 => ?_)
            obtain ⟨f_33, rfl⟩ : ∃ z9, z9 = u32 := ⟨_, rfl⟩
            have ech31 := ch31
            have ech31 : v9 = some (.int 0) := ech31
            subst ech31
            refine pb_eq (pc' := 79) (lo' := [(1, .int at_), (0, .ref h)]) (rest' := [.int 0]) (ws' := [(ur, .inl (G.2.1, 12000, .inl uf)), (h, .inr (8, [.ref ui, .ref ug, .ref uv, .ref ur, .int ct, .int f_33, .int bg, .int at_3, .int en, .int vs, .int io, .int hi, .int ht]))]) ?_
            refine pb_pop (pc := 79) d_Markup_readNamed_79 rfl ?_
            refine pb_iconst (pc := 80) (v := (-1)) d_Markup_readNamed_80 (by decide) ?_
            exact pb_iret (pc := 81) hQ d_Markup_readNamed_81 rfl rfl ((-1), at_3, f_33) ⟨rfl, (by (try dsimp only); first | done | (with_reducible assumption) | omega (splitDisjunctions := false) | assumption | omega | decide), (by (try dsimp only); first | done | (with_reducible assumption) | omega (splitDisjunctions := false) | assumption | omega | decide), (by (try dsimp only); first | done | (with_reducible assumption) | omega (splitDisjunctions := false) | assumption | omega | decide), (by (try dsimp only); first | done | (with_reducible assumption) | omega (splitDisjunctions := false) | assumption | omega | decide)⟩ [1, 0] (by decide) rfl rfl (by decide) (by decide)
          · have tw30 : ¬ r_28.toInt = 0 := fun z9 => w30 ((ti_eq rfl (by decide)).mpr z9)
            refine pb_bipush (pc := 71) (v := 39) d_Markup_readNamed_71 (by decide) ?_
            exact pb_iret (pc := 73) hQ d_Markup_readNamed_73 rfl rfl (39, at_3, fa) ⟨rfl, (by (try dsimp only); first | done | (with_reducible assumption) | omega (splitDisjunctions := false) | assumption | omega | decide), (by (try dsimp only); first | done | (with_reducible assumption) | omega (splitDisjunctions := false) | assumption | omega | decide), (by (try dsimp only); first | done | (with_reducible assumption) | omega (splitDisjunctions := false) | assumption | omega | decide), (by (try dsimp only); first | done | (with_reducible assumption) | omega (splitDisjunctions := false) | assumption | omega | decide)⟩ [0, 1] (by decide) rfl rfl (by decide) (by decide)
        · have tw25 : ¬ r_23.toInt = 0 := fun z9 => w25 ((ti_eq rfl (by decide)).mpr z9)
          refine pb_bipush (pc := 58) (v := 34) d_Markup_readNamed_58 (by decide) ?_
          exact pb_iret (pc := 60) hQ d_Markup_readNamed_60 rfl rfl (34, at_3, fa) ⟨rfl, (by (try dsimp only); first | done | (with_reducible assumption) | omega (splitDisjunctions := false) | assumption | omega | decide), (by (try dsimp only); first | done | (with_reducible assumption) | omega (splitDisjunctions := false) | assumption | omega | decide), (by (try dsimp only); first | done | (with_reducible assumption) | omega (splitDisjunctions := false) | assumption | omega | decide), (by (try dsimp only); first | done | (with_reducible assumption) | omega (splitDisjunctions := false) | assumption | omega | decide)⟩ [0, 1] (by decide) rfl rfl (by decide) (by decide)
      · have tw20 : ¬ r_18.toInt = 0 := fun z9 => w20 ((ti_eq rfl (by decide)).mpr z9)
        refine pb_bipush (pc := 45) (v := 62) d_Markup_readNamed_45 (by decide) ?_
        exact pb_iret (pc := 47) hQ d_Markup_readNamed_47 rfl rfl (62, at_3, fa) ⟨rfl, (by (try dsimp only); first | done | (with_reducible assumption) | omega (splitDisjunctions := false) | assumption | omega | decide), (by (try dsimp only); first | done | (with_reducible assumption) | omega (splitDisjunctions := false) | assumption | omega | decide), (by (try dsimp only); first | done | (with_reducible assumption) | omega (splitDisjunctions := false) | assumption | omega | decide), (by (try dsimp only); first | done | (with_reducible assumption) | omega (splitDisjunctions := false) | assumption | omega | decide)⟩ [0, 1] (by decide) rfl rfl (by decide) (by decide)
    · have tw15 : ¬ r_13.toInt = 0 := fun z9 => w15 ((ti_eq rfl (by decide)).mpr z9)
      refine pb_bipush (pc := 32) (v := 60) d_Markup_readNamed_32 (by decide) ?_
      exact pb_iret (pc := 34) hQ d_Markup_readNamed_34 rfl rfl (60, at_3, fa) ⟨rfl, (by (try dsimp only); first | done | (with_reducible assumption) | omega (splitDisjunctions := false) | assumption | omega | decide), (by (try dsimp only); first | done | (with_reducible assumption) | omega (splitDisjunctions := false) | assumption | omega | decide), (by (try dsimp only); first | done | (with_reducible assumption) | omega (splitDisjunctions := false) | assumption | omega | decide), (by (try dsimp only); first | done | (with_reducible assumption) | omega (splitDisjunctions := false) | assumption | omega | decide)⟩ [0, 1] (by decide) rfl rfl (by decide) (by decide)
  · have tw10 : ¬ r_8.toInt = 0 := fun z9 => w10 ((ti_eq rfl (by decide)).mpr z9)
    refine pb_bipush (pc := 19) (v := 38) d_Markup_readNamed_19 (by decide) ?_
    exact pb_iret (pc := 21) hQ d_Markup_readNamed_21 rfl rfl (38, at_3, fa) ⟨rfl, (by (try dsimp only); first | done | (with_reducible assumption) | omega (splitDisjunctions := false) | assumption | omega | decide), (by (try dsimp only); first | done | (with_reducible assumption) | omega (splitDisjunctions := false) | assumption | omega | decide), (by (try dsimp only); first | done | (with_reducible assumption) | omega (splitDisjunctions := false) | assumption | omega | decide), (by (try dsimp only); first | done | (with_reducible assumption) | omega (splitDisjunctions := false) | assumption | omega | decide)⟩ [0, 1] (by decide) rfl rfl (by decide) (by decide)

theorem d_Markup_readNumber_0 : decode prog_7_method_14_code 0 = .ok (.aload_n 0, 1) := by decide +kernel
theorem d_Markup_readNumber_1 : decode prog_7_method_14_code 1 = .ok (.dup, 1) := by decide +kernel
theorem d_Markup_readNumber_2 : decode prog_7_method_14_code 2 = .ok (.getfield 48, 3) := by decide +kernel
theorem d_Markup_readNumber_5 : decode prog_7_method_14_code 5 = .ok (.iconst 1, 1) := by decide +kernel
theorem d_Markup_readNumber_6 : decode prog_7_method_14_code 6 = .ok (.iadd, 1) := by decide +kernel
theorem d_Markup_readNumber_7 : decode prog_7_method_14_code 7 = .ok (.putfield 48, 3) := by decide +kernel
theorem d_Markup_readNumber_10 : decode prog_7_method_14_code 10 = .ok (.aload_n 0, 1) := by decide +kernel
theorem d_Markup_readNumber_11 : decode prog_7_method_14_code 11 = .ok (.getfield 48, 3) := by decide +kernel
theorem d_Markup_readNumber_14 : decode prog_7_method_14_code 14 = .ok (.istore_n 1, 1) := by decide +kernel
theorem d_Markup_readNumber_31 : decode prog_7_method_14_code 31 = .ok (.iconst 0, 1) := by decide +kernel
theorem d_Markup_readNumber_32 : decode prog_7_method_14_code 32 = .ok (.istore_n 3, 1) := by decide +kernel
theorem d_Markup_readNumber_33 : decode prog_7_method_14_code 33 = .ok (.iconst 0, 1) := by decide +kernel
theorem d_Markup_readNumber_34 : decode prog_7_method_14_code 34 = .ok (.istore 4, 2) := by decide +kernel
theorem d_Markup_readNumber_36 : decode prog_7_method_14_code 36 = .ok (.iload 4, 2) := by decide +kernel
theorem d_Markup_readNumber_38 : decode prog_7_method_14_code 38 = .ok (.iconst 3, 1) := by decide +kernel
theorem d_Markup_readNumber_39 : decode prog_7_method_14_code 39 = .ok (.if_icmp .ge 53, 3) := by decide +kernel
theorem d_Markup_readNumber_92 : decode prog_7_method_14_code 92 = .ok (.iload_n 2, 1) := by decide +kernel
theorem d_Markup_readNumber_93 : decode prog_7_method_14_code 93 = .ok (.ifCond .ne 15, 3) := by decide +kernel
theorem d_Markup_readNumber_108 : decode prog_7_method_14_code 108 = .ok (.aload_n 0, 1) := by decide +kernel
theorem d_Markup_readNumber_109 : decode prog_7_method_14_code 109 = .ok (.iload_n 1, 1) := by decide +kernel
theorem d_Markup_readNumber_110 : decode prog_7_method_14_code 110 = .ok (.invokevirtual 96, 3) := by decide +kernel
theorem d_Markup_readNumber_113 : decode prog_7_method_14_code 113 = .ok (.pop, 1) := by decide +kernel
theorem d_Markup_readNumber_114 : decode prog_7_method_14_code 114 = .ok (.iconst (-1), 1) := by decide +kernel
theorem d_Markup_readNumber_115 : decode prog_7_method_14_code 115 = .ok (.ireturn, 1) := by decide +kernel
theorem d_Markup_readNumber_96 : decode prog_7_method_14_code 96 = .ok (.iload_n 3, 1) := by decide +kernel
theorem d_Markup_readNumber_97 : decode prog_7_method_14_code 97 = .ok (.bipush 32, 2) := by decide +kernel
theorem d_Markup_readNumber_99 : decode prog_7_method_14_code 99 = .ok (.if_icmp .lt 9, 3) := by decide +kernel
theorem d_Markup_readNumber_102 : decode prog_7_method_14_code 102 = .ok (.iload_n 3, 1) := by decide +kernel
theorem d_Markup_readNumber_103 : decode prog_7_method_14_code 103 = .ok (.bipush 126, 2) := by decide +kernel
theorem d_Markup_readNumber_105 : decode prog_7_method_14_code 105 = .ok (.if_icmp .le 11, 3) := by decide +kernel
theorem d_Markup_readNumber_116 : decode prog_7_method_14_code 116 = .ok (.iload_n 3, 1) := by decide +kernel
theorem d_Markup_readNumber_117 : decode prog_7_method_14_code 117 = .ok (.ireturn, 1) := by decide +kernel
theorem d_Markup_readNumber_42 : decode prog_7_method_14_code 42 = .ok (.aload_n 0, 1) := by decide +kernel
theorem d_Markup_readNumber_43 : decode prog_7_method_14_code 43 = .ok (.iconst 0, 1) := by decide +kernel
theorem d_Markup_readNumber_44 : decode prog_7_method_14_code 44 = .ok (.invokevirtual 80, 3) := by decide +kernel
theorem d_Markup_readNumber_47 : decode prog_7_method_14_code 47 = .ok (.bipush 48, 2) := by decide +kernel
theorem d_Markup_readNumber_49 : decode prog_7_method_14_code 49 = .ok (.if_icmp .lt 43, 3) := by decide +kernel
theorem d_Markup_readNumber_52 : decode prog_7_method_14_code 52 = .ok (.aload_n 0, 1) := by decide +kernel
theorem d_Markup_readNumber_53 : decode prog_7_method_14_code 53 = .ok (.iconst 0, 1) := by decide +kernel
theorem d_Markup_readNumber_54 : decode prog_7_method_14_code 54 = .ok (.invokevirtual 80, 3) := by decide +kernel
theorem d_Markup_readNumber_57 : decode prog_7_method_14_code 57 = .ok (.bipush 57, 2) := by decide +kernel
theorem d_Markup_readNumber_59 : decode prog_7_method_14_code 59 = .ok (.if_icmp .gt 33, 3) := by decide +kernel
theorem d_Markup_readNumber_62 : decode prog_7_method_14_code 62 = .ok (.bipush 10, 2) := by decide +kernel
theorem d_Markup_readNumber_64 : decode prog_7_method_14_code 64 = .ok (.iload_n 3, 1) := by decide +kernel
theorem d_Markup_readNumber_65 : decode prog_7_method_14_code 65 = .ok (.imul, 1) := by decide +kernel
theorem d_Markup_readNumber_66 : decode prog_7_method_14_code 66 = .ok (.aload_n 0, 1) := by decide +kernel
theorem d_Markup_readNumber_67 : decode prog_7_method_14_code 67 = .ok (.iconst 0, 1) := by decide +kernel
theorem d_Markup_readNumber_68 : decode prog_7_method_14_code 68 = .ok (.invokevirtual 80, 3) := by decide +kernel
theorem d_Markup_readNumber_71 : decode prog_7_method_14_code 71 = .ok (.iadd, 1) := by decide +kernel
theorem d_Markup_readNumber_72 : decode prog_7_method_14_code 72 = .ok (.bipush 48, 2) := by decide +kernel
theorem d_Markup_readNumber_74 : decode prog_7_method_14_code 74 = .ok (.isub, 1) := by decide +kernel
theorem d_Markup_readNumber_75 : decode prog_7_method_14_code 75 = .ok (.istore_n 3, 1) := by decide +kernel
theorem d_Markup_readNumber_76 : decode prog_7_method_14_code 76 = .ok (.aload_n 0, 1) := by decide +kernel
theorem d_Markup_readNumber_77 : decode prog_7_method_14_code 77 = .ok (.dup, 1) := by decide +kernel
theorem d_Markup_readNumber_78 : decode prog_7_method_14_code 78 = .ok (.getfield 48, 3) := by decide +kernel
theorem d_Markup_readNumber_81 : decode prog_7_method_14_code 81 = .ok (.iconst 1, 1) := by decide +kernel
theorem d_Markup_readNumber_82 : decode prog_7_method_14_code 82 = .ok (.iadd, 1) := by decide +kernel
theorem d_Markup_readNumber_83 : decode prog_7_method_14_code 83 = .ok (.putfield 48, 3) := by decide +kernel
theorem d_Markup_readNumber_86 : decode prog_7_method_14_code 86 = .ok (.iinc 4 1, 3) := by decide +kernel
theorem d_Markup_readNumber_89 : decode prog_7_method_14_code 89 = .ok (.goto (-53), 3) := by decide +kernel
theorem d_Markup_readNumber_15 : decode prog_7_method_14_code 15 = .ok (.aload_n 0, 1) := by decide +kernel
theorem d_Markup_readNumber_16 : decode prog_7_method_14_code 16 = .ok (.iconst 0, 1) := by decide +kernel
theorem d_Markup_readNumber_17 : decode prog_7_method_14_code 17 = .ok (.invokevirtual 80, 3) := by decide +kernel
theorem d_Markup_readNumber_20 : decode prog_7_method_14_code 20 = .ok (.bipush 48, 2) := by decide +kernel
theorem d_Markup_readNumber_22 : decode prog_7_method_14_code 22 = .ok (.if_icmp .ne 7, 3) := by decide +kernel
theorem d_Markup_readNumber_29 : decode prog_7_method_14_code 29 = .ok (.iconst 0, 1) := by decide +kernel
theorem d_Markup_readNumber_30 : decode prog_7_method_14_code 30 = .ok (.istore_n 2, 1) := by decide +kernel
theorem d_Markup_readNumber_25 : decode prog_7_method_14_code 25 = .ok (.iconst 1, 1) := by decide +kernel
theorem d_Markup_readNumber_26 : decode prog_7_method_14_code 26 = .ok (.goto 4, 3) := by decide +kernel
abbrev y_Markup_readNumber : MethodName := ⟨"PackageBook$Markup", "readNumber", "()I"⟩
abbrev i_Markup_readNumber : pb_I := (y_Markup_readNumber, prog_7_method_14_code, 5, (some Jvm.ClassFile.FieldType.int), [], { frames := 1, cells := 0, slots := 0, locals := 21 })
set_option maxRecDepth 100000 in
set_option maxHeartbeats 4000000 in
theorem g_Mu_readNumber {l : Launch} (hl : l.stackTraces = false) (G : pb_G) (h : Nat) (ui : Nat) (ug : Nat) (uv : Nat) (ur : Nat) (ct : Int32) (fa : Int32) (bg : Int32) (at_ : Int32) (en : Int32) (vs : Int32) (io : Int32) (hi : Int32) (ht : Int32) (uf : Nat → Int32) (a0 : 0 ≤ at_.toInt) (a1 : at_.toInt ≤ en.toInt) (a2 : en.toInt ≤ 12000) (b0 : at_.toInt < en.toInt) (F_uf : sb_Fit uf) : Cn l G i_Markup_readNumber [.ref h] [(h, .inr (8, [.ref ui, .ref ug, .ref uv, .ref ur, .int ct, .int fa, .int bg, .int at_, .int en, .int vs, .int io, .int hi, .int ht])), (ur, .inl (G.2.1, 12000, .inl uf))] (S := Int32 × Int32 × Int32) (fun rv_ u => rv_ = some (.int u.1) ∧ (at_.toInt ≤ u.2.1.toInt) ∧ (u.2.1.toInt ≤ en.toInt) ∧ (-1 ≤ u.1.toInt) ∧ (u.1.toInt ≤ 126)) (fun u => [(h, .inr (8, [.ref ui, .ref ug, .ref uv, .ref ur, .int ct, .int u.2.2, .int bg, .int u.2.1, .int en, .int vs, .int io, .int hi, .int ht])), (ur, .inl (G.2.1, 12000, .inl uf))]) := by
  refine Cn.of hl (by decide +kernel) rfl (Nat.le_of_ble_eq_true rfl) (fun M hQ => ?_)
  refine pb_eq (pc' := 0) (lo' := [(0, .ref h)]) (rest' := []) (ws' := [(h, .inr (8, [.ref ui, .ref ug, .ref uv, .ref ur, .int ct, .int fa, .int bg, .int at_, .int en, .int vs, .int io, .int hi, .int ht])), (ur, .inl (G.2.1, 12000, .inl uf))]) ?_
  have zm1 : ((-1) : Int32).toInt = (-1) := by decide
  have zl0 : (0 : Int32).toInt = 0 := by decide
  have zl1 : (1 : Int32).toInt = 1 := by decide
  have zl10 : (10 : Int32).toInt = 10 := by decide
  refine pb_aload_n (pc := 0) d_Markup_readNumber_0 0 rfl rfl ?_
  refine pb_dup (pc := 1) d_Markup_readNumber_1 rfl ?_
  refine pb_get (pc := 2) d_Markup_readNumber_2 0 7 rfl rfl (by decide) in_Markup k_326 rfl ?_
  refine pb_iconst (pc := 5) (v := 1) d_Markup_readNumber_5 (by decide) ?_
  refine pb_iadd (pc := 6) d_Markup_readNumber_6 ?_
  refine pb_topi (fun i1 ei1 => ?_)
  try have ti1 : i1.toInt = at_.toInt + 1 := t2_add ei1 rfl (by decide) (by omega)
  refine pb_put (pc := 7) (ty := .int) (ws' := [(h, .inr (8, [.ref ui, .ref ug, .ref uv, .ref ur, .int ct, .int fa, .int bg, .int i1, .int en, .int vs, .int io, .int hi, .int ht])), (ur, .inl (G.2.1, 12000, .inl uf))]) d_Markup_readNumber_7 0 7 t_Markup t_Markup_ok n_Markup rfl rfl (by decide) in_Markup k_326 rfl (by decide +kernel) rfl rfl (Nat.le_of_ble_eq_true rfl) rfl ?_
  refine pb_aload_n (pc := 10) d_Markup_readNumber_10 0 rfl rfl ?_
  refine pb_get (pc := 11) d_Markup_readNumber_11 0 7 rfl rfl (by decide) in_Markup k_326 rfl ?_
  refine pb_istore_n (pc := 14) (lo' := [(1, .int i1), (0, .ref h)]) d_Markup_readNumber_14 rfl (by decide) rfl ?_
  have hJ31_2 : ∀ (z : Int32) (fr_ : Int32) (a1_ : Int32), (at_.toInt ≤ a1_.toInt) → (a1_.toInt ≤ en.toInt) → pb_P l G M i_Markup_readNumber 31 [(2, .int z), (1, .int fr_), (0, .ref h)] [] [(h, .inr (8, [.ref ui, .ref ug, .ref uv, .ref ur, .int ct, .int fa, .int bg, .int a1_, .int en, .int vs, .int io, .int hi, .int ht])), (ur, .inl (G.2.1, 12000, .inl uf))] 0 0 := by
    intro z fr_ a1_ j0 j1
    refine pb_iconst (pc := 31) (v := 0) d_Markup_readNumber_31 (by decide) ?_
    refine pb_istore_n (pc := 32) (lo' := [(3, .int 0), (2, .int z), (1, .int fr_), (0, .ref h)]) d_Markup_readNumber_32 rfl (by decide) rfl ?_
    refine pb_iconst (pc := 33) (v := 0) d_Markup_readNumber_33 (by decide) ?_
    refine pb_istore (pc := 34) (lo' := [(4, .int 0), (3, .int 0), (2, .int z), (1, .int fr_), (0, .ref h)]) d_Markup_readNumber_34 (by decide) rfl ?_
    have hL36_3 : ∀ (N9 : Nat) (n : Int32) (j : Int32) (a : Int32) (f : Int32), (at_.toInt ≤ a.toInt) → (a.toInt ≤ en.toInt) → (0 ≤ j.toInt) → ((3 - j.toInt).toNat) < N9 → pb_P l G M i_Markup_readNumber 36 [(3, .int n), (4, .int j), (2, .int z), (1, .int fr_), (0, .ref h)] [] [(h, .inr (8, [.ref ui, .ref ug, .ref uv, .ref ur, .int ct, .int f, .int bg, .int a, .int en, .int vs, .int io, .int hi, .int ht])), (ur, .inl (G.2.1, 12000, .inl uf))] 0 0 := by
      intro N9
      induction N9 with
      | zero => intro n j a f k0 k1 k2 hm9; exact absurd hm9 (Nat.not_lt_zero _)
      | succ N9 ih36 =>
        intro n j a f k0 k1 k2 hm9
        refine pb_iload (pc := 36) d_Markup_readNumber_36 1 rfl ?_
        refine pb_iconst (pc := 38) (v := 3) d_Markup_readNumber_38 (by decide) ?_
        refine pb_icmp_ge (pc := 39) (tgt := 92) d_Markup_readNumber_39 (by decide) (fun w4 => ?_) (fun w4 => ?_)
        · have tw4 : 3 ≤ j.toInt := (ti_le (by decide) rfl).mp w4
          refine pb_iload_n (pc := 92) d_Markup_readNumber_92 2 rfl rfl ?_
          refine pb_if_ne (pc := 93) (tgt := 108) d_Markup_readNumber_93 (by decide) (fun w5 => ?_) (fun w5 => ?_)
          · have tw5 : ¬ z.toInt = 0 := fun z9 => w5 ((ti_eq rfl (by decide)).mpr z9)
            refine pb_aload_n (pc := 108) d_Markup_readNumber_108 4 rfl rfl ?_
            refine pb_iload_n (pc := 109) d_Markup_readNumber_109 3 rfl rfl ?_
            refine pb_callV (pc := 110) (I := i_Markup_readNumber) (qb := 0) (ci := 8) (nA := 1) (rest := []) (wr := [(ur, .inl (G.2.1, 12000, .inl uf))]) d_Markup_readNumber_110 (g_Mu_fail hl G h ui ug uv ur ct f bg a en vs io hi ht fr_) rfl rfl [0] [1] (by decide) rfl rfl rfl (by decide) (by decide) k_831 rfl k_125 k_828 k_830 k_36 ⟨rfl, hy_Markup_fail⟩ (by decide) rfl rfl (Nat.le_of_ble_eq_true rfl) (by decide) (fun v9 u7 ch6 => ?_)
            obtain ⟨f_8, rfl⟩ : ∃ z9, z9 = u7 := ⟨_, rfl⟩
            have ech6 := ch6
            have ech6 : v9 = some (.int 0) := ech6
            subst ech6
            refine pb_eq (pc' := 113) (lo' := [(3, .int n), (4, .int j), (2, .int z), (1, .int fr_), (0, .ref h)]) (rest' := [.int 0]) (ws' := [(ur, .inl (G.2.1, 12000, .inl uf)), (h, .inr (8, [.ref ui, .ref ug, .ref uv, .ref ur, .int ct, .int f_8, .int bg, .int a, .int en, .int vs, .int io, .int hi, .int ht]))]) ?_
            refine pb_pop (pc := 113) d_Markup_readNumber_113 rfl ?_
            refine pb_iconst (pc := 114) (v := (-1)) d_Markup_readNumber_114 (by decide) ?_
            exact pb_iret (pc := 115) hQ d_Markup_readNumber_115 rfl rfl ((-1), a, f_8) ⟨rfl, (by (try dsimp only); first | done | (with_reducible assumption) | omega (splitDisjunctions := false) | assumption | omega | decide), (by (try dsimp only); first | done | (with_reducible assumption) | omega (splitDisjunctions := false) | assumption | omega | decide), (by (try dsimp only); first | done | (with_reducible assumption) | omega (splitDisjunctions := false) | assumption | omega | decide), (by (try dsimp only); first | done | (with_reducible assumption) | omega (splitDisjunctions := false) | assumption | omega | decide)⟩ [1, 0] (by decide) rfl rfl (by decide) (by decide)
          · have tw5 : z.toInt = 0 := (ti_eq rfl (by decide)).mp w5
            refine pb_iload_n (pc := 96) d_Markup_readNumber_96 0 rfl rfl ?_
            refine pb_bipush (pc := 97) (v := 32) d_Markup_readNumber_97 (by decide) ?_
            refine pb_icmp_lt (pc := 99) (tgt := 108) d_Markup_readNumber_99 (by decide) (fun w9 => ?_) (fun w9 => ?_)
            · have tw9 : n.toInt < 32 := (ti_lt rfl (by decide)).mp w9
              refine pb_aload_n (pc := 108) d_Markup_readNumber_108 4 rfl rfl ?_
              refine pb_iload_n (pc := 109) d_Markup_readNumber_109 3 rfl rfl ?_
              refine pb_callV (pc := 110) (I := i_Markup_readNumber) (qb := 0) (ci := 8) (nA := 1) (rest := []) (wr := [(ur, .inl (G.2.1, 12000, .inl uf))]) d_Markup_readNumber_110 (g_Mu_fail hl G h ui ug uv ur ct f bg a en vs io hi ht fr_) rfl rfl [0] [1] (by decide) rfl rfl rfl (by decide) (by decide) k_831 rfl k_125 k_828 k_830 k_36 ⟨rfl, hy_Markup_fail⟩ (by decide) rfl rfl (Nat.le_of_ble_eq_true rfl) (by decide) (fun v9 u11 ch10 => ?_)
              obtain ⟨f_12, rfl⟩ : ∃ z9, z9 = u11 := ⟨_, rfl⟩
              have ech10 := ch10
              have ech10 : v9 = some (.int 0) := ech10
              subst ech10
              refine pb_eq (pc' := 113) (lo' := [(3, .int n), (4, .int j), (2, .int z), (1, .int fr_), (0, .ref h)]) (rest' := [.int 0]) (ws' := [(ur, .inl (G.2.1, 12000, .inl uf)), (h, .inr (8, [.ref ui, .ref ug, .ref uv, .ref ur, .int ct, .int f_12, .int bg, .int a, .int en, .int vs, .int io, .int hi, .int ht]))]) ?_
              refine pb_pop (pc := 113) d_Markup_readNumber_113 rfl ?_
              refine pb_iconst (pc := 114) (v := (-1)) d_Markup_readNumber_114 (by decide) ?_
              exact pb_iret (pc := 115) hQ d_Markup_readNumber_115 rfl rfl ((-1), a, f_12) ⟨rfl, (by (try dsimp only); first | done | (with_reducible assumption) | omega (splitDisjunctions := false) | assumption | omega | decide), (by (try dsimp only); first | done | (with_reducible assumption) | omega (splitDisjunctions := false) | assumption | omega | decide), (by (try dsimp only); first | done | (with_reducible assumption) | omega (splitDisjunctions := false) | assumption | omega | decide), (by (try dsimp only); first | done | (with_reducible assumption) | omega (splitDisjunctions := false) | assumption | omega | decide)⟩ [1, 0] (by decide) rfl rfl (by decide) (by decide)
            · have tw9 : ¬ n.toInt < 32 := fun z9 => w9 ((ti_lt rfl (by decide)).mpr z9)
              refine pb_iload_n (pc := 102) d_Markup_readNumber_102 0 rfl rfl ?_
              refine pb_bipush (pc := 103) (v := 126) d_Markup_readNumber_103 (by decide) ?_
              refine pb_icmp_le (pc := 105) (tgt := 116) d_Markup_readNumber_105 (by decide) (fun w13 => ?_) (fun w13 => ?_)
              · have tw13 : n.toInt ≤ 126 := (ti_le rfl (by decide)).mp w13
                refine pb_iload_n (pc := 116) d_Markup_readNumber_116 0 rfl rfl ?_
                exact pb_iret (pc := 117) hQ d_Markup_readNumber_117 rfl rfl (n, a, f) ⟨rfl, (by (try dsimp only); first | done | (with_reducible assumption) | omega (splitDisjunctions := false) | assumption | omega | decide), (by (try dsimp only); first | done | (with_reducible assumption) | omega (splitDisjunctions := false) | assumption | omega | decide), (by (try dsimp only); first | done | (with_reducible assumption) | omega (splitDisjunctions := false) | assumption | omega | decide), (by (try dsimp only); first | done | (with_reducible assumption) | omega (splitDisjunctions := false) | assumption | omega | decide)⟩ [0, 1] (by decide) rfl rfl (by decide) (by decide)
              · have tw13 : ¬ n.toInt ≤ 126 := fun z9 => w13 ((ti_le rfl (by decide)).mpr z9)
                refine pb_aload_n (pc := 108) d_Markup_readNumber_108 4 rfl rfl ?_
                refine pb_iload_n (pc := 109) d_Markup_readNumber_109 3 rfl rfl ?_
                refine pb_callV (pc := 110) (I := i_Markup_readNumber) (qb := 0) (ci := 8) (nA := 1) (rest := []) (wr := [(ur, .inl (G.2.1, 12000, .inl uf))]) d_Markup_readNumber_110 (g_Mu_fail hl G h ui ug uv ur ct f bg a en vs io hi ht fr_) rfl rfl [0] [1] (by decide) rfl rfl rfl (by decide) (by decide) k_831 rfl k_125 k_828 k_830 k_36 ⟨rfl, hy_Markup_fail⟩ (by decide) rfl rfl (Nat.le_of_ble_eq_true rfl) (by decide) (fun v9 u15 ch14 => ?_)
                obtain ⟨f_16, rfl⟩ : ∃ z9, z9 = u15 := ⟨_, rfl⟩
                have ech14 := ch14
                have ech14 : v9 = some (.int 0) := ech14
                subst ech14
                refine pb_eq (pc' := 113) (lo' := [(3, .int n), (4, .int j), (2, .int z), (1, .int fr_), (0, .ref h)]) (rest' := [.int 0]) (ws' := [(ur, .inl (G.2.1, 12000, .inl uf)), (h, .inr (8, [.ref ui, .ref ug, .ref uv, .ref ur, .int ct, .int f_16, .int bg, .int a, .int en, .int vs, .int io, .int hi, .int ht]))]) ?_
                refine pb_pop (pc := 113) d_Markup_readNumber_113 rfl ?_
                refine pb_iconst (pc := 114) (v := (-1)) d_Markup_readNumber_114 (by decide) ?_
                exact pb_iret (pc := 115) hQ d_Markup_readNumber_115 rfl rfl ((-1), a, f_16) ⟨rfl, (by (try dsimp only); first | done | (with_reducible assumption) | omega (splitDisjunctions := false) | assumption | omega | decide), (by (try dsimp only); first | done | (with_reducible assumption) | omega (splitDisjunctions := false) | assumption | omega | decide), (by (try dsimp only); first | done | (with_reducible assumption) | omega (splitDisjunctions := false) | assumption | omega | decide), (by (try dsimp only); first | done | (with_reducible assumption) | omega (splitDisjunctions := false) | assumption | omega | decide)⟩ [1, 0] (by decide) rfl rfl (by decide) (by decide)
        · have tw4 : ¬ 3 ≤ j.toInt := fun z9 => w4 ((ti_le (by decide) rfl).mpr z9)
          refine pb_aload_n (pc := 42) d_Markup_readNumber_42 4 rfl rfl ?_
          refine pb_iconst (pc := 43) (v := 0) d_Markup_readNumber_43 (by decide) ?_
          refine pb_callV (pc := 44) (I := i_Markup_readNumber) (qb := 0) (ci := 8) (nA := 1) (rest := []) (wr := []) d_Markup_readNumber_44 (g_Mu_next hl G h ui ug uv ur ct f bg a en vs io hi ht uf 0 (by first | (with_reducible assumption) | omega (splitDisjunctions := false) | assumption | omega | decide) (by first | (with_reducible assumption) | omega (splitDisjunctions := false) | assumption | omega | decide) (by first | (with_reducible assumption) | omega (splitDisjunctions := false) | assumption | omega | decide) (by first | (with_reducible assumption) | omega (splitDisjunctions := false) | assumption | omega | decide) (by first | (with_reducible assumption) | omega (splitDisjunctions := false) | assumption | omega | decide) (by first | assumption | decide | omega)) rfl rfl [0, 1] [] (by decide) rfl rfl rfl (by decide) (by decide) k_813 rfl k_125 k_810 k_812 k_33 ⟨rfl, hy_Markup_next⟩ (by decide) rfl rfl (Nat.le_of_ble_eq_true rfl) (by decide) (fun v9 u18 ch17 => ?_)
          obtain ⟨r_19, rfl⟩ : ∃ z9, z9 = u18 := ⟨_, rfl⟩
          obtain ⟨ech17, ch17⟩ := ch17
          have ech17 : v9 = some (.int r_19) := ech17
          subst ech17
          obtain ⟨fh20, fh21, fh22⟩ : (-1 ≤ r_19.toInt) ∧ (r_19.toInt ≤ 255) ∧ (0 ≤ r_19.toInt → a.toInt + (0 : Int32).toInt < en.toInt) := ch17
          refine pb_eq (pc' := 47) (lo' := [(3, .int n), (4, .int j), (2, .int z), (1, .int fr_), (0, .ref h)]) (rest' := [.int r_19]) (ws' := [(h, .inr (8, [.ref ui, .ref ug, .ref uv, .ref ur, .int ct, .int f, .int bg, .int a, .int en, .int vs, .int io, .int hi, .int ht])), (ur, .inl (G.2.1, 12000, .inl uf))]) ?_
          refine pb_bipush (pc := 47) (v := 48) d_Markup_readNumber_47 (by decide) ?_
          refine pb_icmp_lt (pc := 49) (tgt := 92) d_Markup_readNumber_49 (by decide) (fun w23 => ?_) (fun w23 => ?_)
          · have tw23 : r_19.toInt < 48 := (ti_lt rfl (by decide)).mp w23
            refine pb_iload_n (pc := 92) d_Markup_readNumber_92 2 rfl rfl ?_
            refine pb_if_ne (pc := 93) (tgt := 108) d_Markup_readNumber_93 (by decide) (fun w24 => ?_) (fun w24 => ?_)
            · have tw24 : ¬ z.toInt = 0 := fun z9 => w24 ((ti_eq rfl (by decide)).mpr z9)
              refine pb_aload_n (pc := 108) d_Markup_readNumber_108 4 rfl rfl ?_
              refine pb_iload_n (pc := 109) d_Markup_readNumber_109 3 rfl rfl ?_
              refine pb_callV (pc := 110) (I := i_Markup_readNumber) (qb := 0) (ci := 8) (nA := 1) (rest := []) (wr := [(ur, .inl (G.2.1, 12000, .inl uf))]) d_Markup_readNumber_110 (g_Mu_fail hl G h ui ug uv ur ct f bg a en vs io hi ht fr_) rfl rfl [0] [1] (by decide) rfl rfl rfl (by decide) (by decide) k_831 rfl k_125 k_828 k_830 k_36 ⟨rfl, hy_Markup_fail⟩ (by decide) rfl rfl (Nat.le_of_ble_eq_true rfl) (by decide) (fun v9 u26 ch25 => ?_)
              obtain ⟨f_27, rfl⟩ : ∃ z9, z9 = u26 := ⟨_, rfl⟩
              have ech25 := ch25
              have ech25 : v9 = some (.int 0) := ech25
              subst ech25
              refine pb_eq (pc' := 113) (lo' := [(3, .int n), (4, .int j), (2, .int z), (1, .int fr_), (0, .ref h)]) (rest' := [.int 0]) (ws' := [(ur, .inl (G.2.1, 12000, .inl uf)), (h, .inr (8, [.ref ui, .ref ug, .ref uv, .ref ur, .int ct, .int f_27, .int bg, .int a, .int en, .int vs, .int io, .int hi, .int ht]))]) ?_
              refine pb_pop (pc := 113) d_Markup_readNumber_113 rfl ?_
              refine pb_iconst (pc := 114) (v := (-1)) d_Markup_readNumber_114 (by decide) ?_
              exact pb_iret (pc := 115) hQ d_Markup_readNumber_115 rfl rfl ((-1), a, f_27) ⟨rfl, (by (try dsimp only); first | done | (with_reducible assumption) | omega (splitDisjunctions := false) | assumption | (clear fh22 hm9; first | omega (splitDisjunctions := false) | omega) | omega | decide), (by (try dsimp only); first | done | (with_reducible assumption) | omega (splitDisjunctions := false) | assumption | (clear fh22 hm9; first | omega (splitDisjunctions := false) | omega) | omega | decide), (by (try dsimp only); first | done | (with_reducible assumption) | omega (splitDisjunctions := false) | assumption | (clear fh22 hm9; first | omega (splitDisjunctions := false) | omega) | omega | decide), (by (try dsimp only); first | done | (with_reducible assumption) | omega (splitDisjunctions := false) | assumption | (clear fh22 hm9; first | omega (splitDisjunctions := false) | omega) | omega | decide)⟩ [1, 0] (by decide) rfl rfl (by decide) (by decide)
            · have tw24 : z.toInt = 0 := (ti_eq rfl (by decide)).mp w24
              refine pb_iload_n (pc := 96) d_Markup_readNumber_96 0 rfl rfl ?_
              refine pb_bipush (pc := 97) (v := 32) d_Markup_readNumber_97 (by decide) ?_
              refine pb_icmp_lt (pc := 99) (tgt := 108) d_Markup_readNumber_99 (by decide) (fun w28 => ?_) (fun w28 => ?_)
              · have tw28 : n.toInt < 32 := (ti_lt rfl (by decide)).mp w28
                refine pb_aload_n (pc := 108) d_Markup_readNumber_108 4 rfl rfl ?_
                refine pb_iload_n (pc := 109) d_Markup_readNumber_109 3 rfl rfl ?_
                refine pb_callV (pc := 110) (I := i_Markup_readNumber) (qb := 0) (ci := 8) (nA := 1) (rest := []) (wr := [(ur, .inl (G.2.1, 12000, .inl uf))]) d_Markup_readNumber_110 (g_Mu_fail hl G h ui ug uv ur ct f bg a en vs io hi ht fr_) rfl rfl [0] [1] (by decide) rfl rfl rfl (by decide) (by decide) k_831 rfl k_125 k_828 k_830 k_36 ⟨rfl, hy_Markup_fail⟩ (by decide) rfl rfl (Nat.le_of_ble_eq_true rfl) (by decide) (fun v9 u30 ch29 => ?_)
                obtain ⟨f_31, rfl⟩ : ∃ z9, z9 = u30 := ⟨_, rfl⟩
                have ech29 := ch29
                have ech29 : v9 = some (.int 0) := ech29
                subst ech29
                refine pb_eq (pc' := 113) (lo' := [(3, .int n), (4, .int j), (2, .int z), (1, .int fr_), (0, .ref h)]) (rest' := [.int 0]) (ws' := [(ur, .inl (G.2.1, 12000, .inl uf)), (h, .inr (8, [.ref ui, .ref ug, .ref uv, .ref ur, .int ct, .int f_31, .int bg, .int a, .int en, .int vs, .int io, .int hi, .int ht]))]) ?_
                refine pb_pop (pc := 113) d_Markup_readNumber_113 rfl ?_
                refine pb_iconst (pc := 114) (v := (-1)) d_Markup_readNumber_114 (by decide) ?_
                exact pb_iret (pc := 115) hQ d_Markup_readNumber_115 rfl rfl ((-1), a, f_31) ⟨rfl, (by (try dsimp only); first | done | (with_reducible assumption) | omega (splitDisjunctions := false) | assumption | (clear fh22 hm9; first | omega (splitDisjunctions := false) | omega) | omega | decide), (by (try dsimp only); first | done | (with_reducible assumption) | omega (splitDisjunctions := false) | assumption | (clear fh22 hm9; first | omega (splitDisjunctions := false) | omega) | omega | decide), (by (try dsimp only); first | done | (with_reducible assumption) | omega (splitDisjunctions := false) | assumption | (clear fh22 hm9; first | omega (splitDisjunctions := false) | omega) | omega | decide), (by (try dsimp only); first | done | (with_reducible assumption) | omega (splitDisjunctions := false) | assumption | (clear fh22 hm9; first | omega (splitDisjunctions := false) | omega) | omega | decide)⟩ [1, 0] (by decide) rfl rfl (by decide) (by decide)
              · have tw28 : ¬ n.toInt < 32 := fun z9 => w28 ((ti_lt rfl (by decide)).mpr z9)
                refine pb_iload_n (pc := 102) d_Markup_readNumber_102 0 rfl rfl ?_
                refine pb_bipush (pc := 103) (v := 126) d_Markup_readNumber_103 (by decide) ?_
                refine pb_icmp_le (pc := 105) (tgt := 116) d_Markup_readNumber_105 (by decide) (fun w32 => ?_) (fun w32 => ?_)
                · have tw32 : n.toInt ≤ 126 := (ti_le rfl (by decide)).mp w32
                  refine pb_iload_n (pc := 116) d_Markup_readNumber_116 0 rfl rfl ?_
                  exact pb_iret (pc := 117) hQ d_Markup_readNumber_117 rfl rfl (n, a, f) ⟨rfl, (by (try dsimp only); first | done | (with_reducible assumption) | omega (splitDisjunctions := false) | assumption | (clear fh22 hm9; first | omega (splitDisjunctions := false) | omega) | omega | decide), (by (try dsimp only); first | done | (with_reducible assumption) | omega (splitDisjunctions := false) | assumption | (clear fh22 hm9; first | omega (splitDisjunctions := false) | omega) | omega | decide), (by (try dsimp only); first | done | (with_reducible assumption) | omega (splitDisjunctions := false) | assumption | (clear fh22 hm9; first | omega (splitDisjunctions := false) | omega) | omega | decide), (by (try dsimp only); first | done | (with_reducible assumption) | omega (splitDisjunctions := false) | assumption | (clear fh22 hm9; first | omega (splitDisjunctions := false) | omega) | omega | decide)⟩ [0, 1] (by decide) rfl rfl (by decide) (by decide)
                · have tw32 : ¬ n.toInt ≤ 126 := fun z9 => w32 ((ti_le rfl (by decide)).mpr z9)
                  refine pb_aload_n (pc := 108) d_Markup_readNumber_108 4 rfl rfl ?_
                  refine pb_iload_n (pc := 109) d_Markup_readNumber_109 3 rfl rfl ?_
                  refine pb_callV (pc := 110) (I := i_Markup_readNumber) (qb := 0) (ci := 8) (nA := 1) (rest := []) (wr := [(ur, .inl (G.2.1, 12000, .inl uf))]) d_Markup_readNumber_110 (g_Mu_fail hl G h ui ug uv ur ct f bg a en vs io hi ht fr_) rfl rfl [0] [1] (by decide) rfl rfl rfl (by decide) (by decide) k_831 rfl k_125 k_828 k_830 k_36 ⟨rfl, hy_Markup_fail⟩ (by decide) rfl rfl (Nat.le_of_ble_eq_true rfl) (by decide) (fun v9 u34 ch33 => ?_)
                  obtain ⟨f_35, rfl⟩ : ∃ z9, z9 = u34 := ⟨_, rfl⟩
                  have ech33 := ch33
                  have ech33 : v9 = some (.int 0) := ech33
                  subst ech33
                  refine pb_eq (pc' := 113) (lo' := [(3, .int n), (4, .int j), (2, .int z), (1, .int fr_), (0, .ref h)]) (rest' := [.int 0]) (ws' := [(ur, .inl (G.2.1, 12000, .inl uf)), (h, .inr (8, [.ref ui, .ref ug, .ref uv, .ref ur, .int ct, .int f_35, .int bg, .int a, .int en, .int vs, .int io, .int hi, .int ht]))]) ?_
                  refine pb_pop (pc := 113) d_Markup_readNumber_113 rfl ?_
                  refine pb_iconst (pc := 114) (v := (-1)) d_Markup_readNumber_114 (by decide) ?_
                  exact pb_iret (pc := 115) hQ d_Markup_readNumber_115 rfl rfl ((-1), a, f_35) ⟨rfl, (by (try dsimp only); first | done | (with_reducible assumption) | omega (splitDisjunctions := false) | assumption | (clear fh22 hm9; first | omega (splitDisjunctions := false) | omega) | omega | decide), (by (try dsimp only); first | done | (with_reducible assumption) | omega (splitDisjunctions := false) | assumption | (clear fh22 hm9; first | omega (splitDisjunctions := false) | omega) | omega | decide), (by (try dsimp only); first | done | (with_reducible assumption) | omega (splitDisjunctions := false) | assumption | (clear fh22 hm9; first | omega (splitDisjunctions := false) | omega) | omega | decide), (by (try dsimp only); first | done | (with_reducible assumption) | omega (splitDisjunctions := false) | assumption | (clear fh22 hm9; first | omega (splitDisjunctions := false) | omega) | omega | decide)⟩ [1, 0] (by decide) rfl rfl (by decide) (by decide)
          · have tw23 : ¬ r_19.toInt < 48 := fun z9 => w23 ((ti_lt rfl (by decide)).mpr z9)
            refine pb_aload_n (pc := 52) d_Markup_readNumber_52 4 rfl rfl ?_
            refine pb_iconst (pc := 53) (v := 0) d_Markup_readNumber_53 (by decide) ?_
            refine pb_callV (pc := 54) (I := i_Markup_readNumber) (qb := 0) (ci := 8) (nA := 1) (rest := []) (wr := []) d_Markup_readNumber_54 (g_Mu_next hl G h ui ug uv ur ct f bg a en vs io hi ht uf 0 (by first | (with_reducible assumption) | omega (splitDisjunctions := false) | assumption | (clear fh22 hm9; first | omega (splitDisjunctions := false) | omega) | omega | decide) (by first | (with_reducible assumption) | omega (splitDisjunctions := false) | assumption | (clear fh22 hm9; first | omega (splitDisjunctions := false) | omega) | omega | decide) (by first | (with_reducible assumption) | omega (splitDisjunctions := false) | assumption | (clear fh22 hm9; first | omega (splitDisjunctions := false) | omega) | omega | decide) (by first | (with_reducible assumption) | omega (splitDisjunctions := false) | assumption | (clear fh22 hm9; first | omega (splitDisjunctions := false) | omega) | omega | decide) (by first | (with_reducible assumption) | omega (splitDisjunctions := false) | assumption | (clear fh22 hm9; first | omega (splitDisjunctions := false) | omega) | omega | decide) (by first | assumption | decide | omega)) rfl rfl [0, 1] [] (by decide) rfl rfl rfl (by decide) (by decide) k_813 rfl k_125 k_810 k_812 k_33 ⟨rfl, hy_Markup_next⟩ (by decide) rfl rfl (Nat.le_of_ble_eq_true rfl) (by decide) (fun v9 u37 ch36 => ?_)
            obtain ⟨r_38, rfl⟩ : ∃ z9, z9 = u37 := ⟨_, rfl⟩
            obtain ⟨ech36, ch36⟩ := ch36
            have ech36 : v9 = some (.int r_38) := ech36
            subst ech36
            obtain ⟨fh39, fh40, fh41⟩ : (-1 ≤ r_38.toInt) ∧ (r_38.toInt ≤ 255) ∧ (0 ≤ r_38.toInt → a.toInt + (0 : Int32).toInt < en.toInt) := ch36
            refine pb_eq (pc' := 57) (lo' := [(3, .int n), (4, .int j), (2, .int z), (1, .int fr_), (0, .ref h)]) (rest' := [.int r_38]) (ws' := [(h, .inr (8, [.ref ui, .ref ug, .ref uv, .ref ur, .int ct, .int f, .int bg, .int a, .int en, .int vs, .int io, .int hi, .int ht])), (ur, .inl (G.2.1, 12000, .inl uf))]) ?_
            refine pb_bipush (pc := 57) (v := 57) d_Markup_readNumber_57 (by decide) ?_
            refine pb_icmp_gt (pc := 59) (tgt := 92) d_Markup_readNumber_59 (by decide) (fun w42 => ?_) (fun w42 => ?_)
            · have tw42 : 57 < r_38.toInt := (ti_lt (by decide) rfl).mp w42
              refine pb_iload_n (pc := 92) d_Markup_readNumber_92 2 rfl rfl ?_
              refine pb_if_ne (pc := 93) (tgt := 108) d_Markup_readNumber_93 (by decide) (fun w43 => ?_) (fun w43 => ?_)
              · have tw43 : ¬ z.toInt = 0 := fun z9 => w43 ((ti_eq rfl (by decide)).mpr z9)
                refine pb_aload_n (pc := 108) d_Markup_readNumber_108 4 rfl rfl ?_
                refine pb_iload_n (pc := 109) d_Markup_readNumber_109 3 rfl rfl ?_
                refine pb_callV (pc := 110) (I := i_Markup_readNumber) (qb := 0) (ci := 8) (nA := 1) (rest := []) (wr := [(ur, .inl (G.2.1, 12000, .inl uf))]) d_Markup_readNumber_110 (g_Mu_fail hl G h ui ug uv ur ct f bg a en vs io hi ht fr_) rfl rfl [0] [1] (by decide) rfl rfl rfl (by decide) (by decide) k_831 rfl k_125 k_828 k_830 k_36 ⟨rfl, hy_Markup_fail⟩ (by decide) rfl rfl (Nat.le_of_ble_eq_true rfl) (by decide) (fun v9 u45 ch44 => ?_)
                obtain ⟨f_46, rfl⟩ : ∃ z9, z9 = u45 := ⟨_, rfl⟩
                have ech44 := ch44
                have ech44 : v9 = some (.int 0) := ech44
                subst ech44
                refine pb_eq (pc' := 113) (lo' := [(3, .int n), (4, .int j), (2, .int z), (1, .int fr_), (0, .ref h)]) (rest' := [.int 0]) (ws' := [(ur, .inl (G.2.1, 12000, .inl uf)), (h, .inr (8, [.ref ui, .ref ug, .ref uv, .ref ur, .int ct, .int f_46, .int bg, .int a, .int en, .int vs, .int io, .int hi, .int ht]))]) ?_
                refine pb_pop (pc := 113) d_Markup_readNumber_113 rfl ?_
                refine pb_iconst (pc := 114) (v := (-1)) d_Markup_readNumber_114 (by decide) ?_
                exact pb_iret (pc := 115) hQ d_Markup_readNumber_115 rfl rfl ((-1), a, f_46) ⟨rfl, (by (try dsimp only); first | done | (with_reducible assumption) | omega (splitDisjunctions := false) | assumption | (clear fh22 fh41 hm9; first | omega (splitDisjunctions := false) | omega) | omega | decide), (by (try dsimp only); first | done | (with_reducible assumption) | omega (splitDisjunctions := false) | assumption | (clear fh22 fh41 hm9; first | omega (splitDisjunctions := false) | omega) | omega | decide), (by (try dsimp only); first | done | (with_reducible assumption) | omega (splitDisjunctions := false) | assumption | (clear fh22 fh41 hm9; first | omega (splitDisjunctions := false) | omega) | omega | decide), (by (try dsimp only); first | done | (with_reducible assumption) | omega (splitDisjunctions := false) | assumption | (clear fh22 fh41 hm9; first | omega (splitDisjunctions := false) | omega) | omega | decide)⟩ [1, 0] (by decide) rfl rfl (by decide) (by decide)
              · have tw43 : z.toInt = 0 := (ti_eq rfl (by decide)).mp w43
                refine pb_iload_n (pc := 96) d_Markup_readNumber_96 0 rfl rfl ?_
                refine pb_bipush (pc := 97) (v := 32) d_Markup_readNumber_97 (by decide) ?_
                refine pb_icmp_lt (pc := 99) (tgt := 108) d_Markup_readNumber_99 (by decide) (fun w47 => ?_) (fun w47 => ?_)
                · have tw47 : n.toInt < 32 := (ti_lt rfl (by decide)).mp w47
                  refine pb_aload_n (pc := 108) d_Markup_readNumber_108 4 rfl rfl ?_
                  refine pb_iload_n (pc := 109) d_Markup_readNumber_109 3 rfl rfl ?_
                  refine pb_callV (pc := 110) (I := i_Markup_readNumber) (qb := 0) (ci := 8) (nA := 1) (rest := []) (wr := [(ur, .inl (G.2.1, 12000, .inl uf))]) d_Markup_readNumber_110 (g_Mu_fail hl G h ui ug uv ur ct f bg a en vs io hi ht fr_) rfl rfl [0] [1] (by decide) rfl rfl rfl (by decide) (by decide) k_831 rfl k_125 k_828 k_830 k_36 ⟨rfl, hy_Markup_fail⟩ (by decide) rfl rfl (Nat.le_of_ble_eq_true rfl) (by decide) (fun v9 u49 ch48 => ?_)
                  obtain ⟨f_50, rfl⟩ : ∃ z9, z9 = u49 := ⟨_, rfl⟩
                  have ech48 := ch48
                  have ech48 : v9 = some (.int 0) := ech48
                  subst ech48
                  refine pb_eq (pc' := 113) (lo' := [(3, .int n), (4, .int j), (2, .int z), (1, .int fr_), (0, .ref h)]) (rest' := [.int 0]) (ws' := [(ur, .inl (G.2.1, 12000, .inl uf)), (h, .inr (8, [.ref ui, .ref ug, .ref uv, .ref ur, .int ct, .int f_50, .int bg, .int a, .int en, .int vs, .int io, .int hi, .int ht]))]) ?_
                  refine pb_pop (pc := 113) d_Markup_readNumber_113 rfl ?_
                  refine pb_iconst (pc := 114) (v := (-1)) d_Markup_readNumber_114 (by decide) ?_
                  exact pb_iret (pc := 115) hQ d_Markup_readNumber_115 rfl rfl ((-1), a, f_50) ⟨rfl, (by (try dsimp only); first | done | (with_reducible assumption) | omega (splitDisjunctions := false) | assumption | (clear fh22 fh41 hm9; first | omega (splitDisjunctions := false) | omega) | omega | decide), (by (try dsimp only); first | done | (with_reducible assumption) | omega (splitDisjunctions := false) | assumption | (clear fh22 fh41 hm9; first | omega (splitDisjunctions := false) | omega) | omega | decide), (by (try dsimp only); first | done | (with_reducible assumption) | omega (splitDisjunctions := false) | assumption | (clear fh22 fh41 hm9; first | omega (splitDisjunctions := false) | omega) | omega | decide), (by (try dsimp only); first | done | (with_reducible assumption) | omega (splitDisjunctions := false) | assumption | (clear fh22 fh41 hm9; first | omega (splitDisjunctions := false) | omega) | omega | decide)⟩ [1, 0] (by decide) rfl rfl (by decide) (by decide)
                · have tw47 : ¬ n.toInt < 32 := fun z9 => w47 ((ti_lt rfl (by decide)).mpr z9)
                  refine pb_iload_n (pc := 102) d_Markup_readNumber_102 0 rfl rfl ?_
                  refine pb_bipush (pc := 103) (v := 126) d_Markup_readNumber_103 (by decide) ?_
                  refine pb_icmp_le (pc := 105) (tgt := 116) d_Markup_readNumber_105 (by decide) (fun w51 => ?_) (fun w51 => ?_)
                  · have tw51 : n.toInt ≤ 126 := (ti_le rfl (by decide)).mp w51
                    refine pb_iload_n (pc := 116) d_Markup_readNumber_116 0 rfl rfl ?_
                    exact pb_iret (pc := 117) hQ d_Markup_readNumber_117 rfl rfl (n, a, f) ⟨rfl, (by (try dsimp only); first | done | (with_reducible assumption) | omega (splitDisjunctions := false) | assumption | (clear fh22 fh41 hm9; first | omega (splitDisjunctions := false) | omega) | omega | decide), (by (try dsimp only); first | done | (with_reducible assumption) | omega (splitDisjunctions := false) | assumption | (clear fh22 fh41 hm9; first | omega (splitDisjunctions := false) | omega) | omega | decide), (by (try dsimp only); first | done | (with_reducible assumption) | omega (splitDisjunctions := false) | assumption | (clear fh22 fh41 hm9; first | omega (splitDisjunctions := false) | omega) | omega | decide), (by (try dsimp only); first | done | (with_reducible assumption) | omega (splitDisjunctions := false) | assumption | (clear fh22 fh41 hm9; first | omega (splitDisjunctions := false) | omega) | omega | decide)⟩ [0, 1] (by decide) rfl rfl (by decide) (by decide)
                  · have tw51 : ¬ n.toInt ≤ 126 := fun z9 => w51 ((ti_le rfl (by decide)).mpr z9)
                    refine pb_aload_n (pc := 108) d_Markup_readNumber_108 4 rfl rfl ?_
                    refine pb_iload_n (pc := 109) d_Markup_readNumber_109 3 rfl rfl ?_
                    refine pb_callV (pc := 110) (I := i_Markup_readNumber) (qb := 0) (ci := 8) (nA := 1) (rest := []) (wr := [(ur, .inl (G.2.1, 12000, .inl uf))]) d_Markup_readNumber_110 (g_Mu_fail hl G h ui ug uv ur ct f bg a en vs io hi ht fr_) rfl rfl [0] [1] (by decide) rfl rfl rfl (by decide) (by decide) k_831 rfl k_125 k_828 k_830 k_36 ⟨rfl, hy_Markup_fail⟩ (by decide) rfl rfl (Nat.le_of_ble_eq_true rfl) (by decide) (fun v9 u53 ch52 => ?_)
                    obtain ⟨f_54, rfl⟩ : ∃ z9, z9 = u53 := ⟨_, rfl⟩
                    have ech52 := ch52
                    have ech52 : v9 = some (.int 0) := ech52
                    subst ech52
                    refine pb_eq (pc' := 113) (lo' := [(3, .int n), (4, .int j), (2, .int z), (1, .int fr_), (0, .ref h)]) (rest' := [.int 0]) (ws' := [(ur, .inl (G.2.1, 12000, .inl uf)), (h, .inr (8, [.ref ui, .ref ug, .ref uv, .ref ur, .int ct, .int f_54, .int bg, .int a, .int en, .int vs, .int io, .int hi, .int ht]))]) ?_
                    refine pb_pop (pc := 113) d_Markup_readNumber_113 rfl ?_
                    refine pb_iconst (pc := 114) (v := (-1)) d_Markup_readNumber_114 (by decide) ?_
                    exact pb_iret (pc := 115) hQ d_Markup_readNumber_115 rfl rfl ((-1), a, f_54) ⟨rfl, (by (try dsimp only); first | done | (with_reducible assumption) | omega (splitDisjunctions := false) | assumption | (clear fh22 fh41 hm9; first | omega (splitDisjunctions := false) | omega) | omega | decide), (by (try dsimp only); first | done | (with_reducible assumption) | omega (splitDisjunctions := false) | assumption | (clear fh22 fh41 hm9; first | omega (splitDisjunctions := false) | omega) | omega | decide), (by (try dsimp only); first | done | (with_reducible assumption) | omega (splitDisjunctions := false) | assumption | (clear fh22 fh41 hm9; first | omega (splitDisjunctions := false) | omega) | omega | decide), (by (try dsimp only); first | done | (with_reducible assumption) | omega (splitDisjunctions := false) | assumption | (clear fh22 fh41 hm9; first | omega (splitDisjunctions := false) | omega) | omega | decide)⟩ [1, 0] (by decide) rfl rfl (by decide) (by decide)
            · have tw42 : ¬ 57 < r_38.toInt := fun z9 => w42 ((ti_lt (by decide) rfl).mpr z9)
              refine pb_bipush (pc := 62) (v := 10) d_Markup_readNumber_62 (by decide) ?_
              refine pb_iload_n (pc := 64) d_Markup_readNumber_64 0 rfl rfl ?_
              refine pb_imul (pc := 65) d_Markup_readNumber_65 ?_
              refine pb_topi (fun i55 ei55 => ?_)
              refine pb_aload_n (pc := 66) d_Markup_readNumber_66 4 rfl rfl ?_
              refine pb_iconst (pc := 67) (v := 0) d_Markup_readNumber_67 (by decide) ?_
              refine pb_callV (pc := 68) (I := i_Markup_readNumber) (qb := 0) (ci := 8) (nA := 1) (rest := [.int i55]) (wr := []) d_Markup_readNumber_68 (g_Mu_next hl G h ui ug uv ur ct f bg a en vs io hi ht uf 0 (by first | (with_reducible assumption) | omega (splitDisjunctions := false) | assumption | (clear fh22 fh41 hm9; first | omega (splitDisjunctions := false) | omega) | omega | decide) (by first | (with_reducible assumption) | omega (splitDisjunctions := false) | assumption | (clear fh22 fh41 hm9; first | omega (splitDisjunctions := false) | omega) | omega | decide) (by first | (with_reducible assumption) | omega (splitDisjunctions := false) | assumption | (clear fh22 fh41 hm9; first | omega (splitDisjunctions := false) | omega) | omega | decide) (by first | (with_reducible assumption) | omega (splitDisjunctions := false) | assumption | (clear fh22 fh41 hm9; first | omega (splitDisjunctions := false) | omega) | omega | decide) (by first | (with_reducible assumption) | omega (splitDisjunctions := false) | assumption | (clear fh22 fh41 hm9; first | omega (splitDisjunctions := false) | omega) | omega | decide) (by first | assumption | decide | omega)) rfl rfl [0, 1] [] (by decide) rfl rfl rfl (by decide) (by decide) k_813 rfl k_125 k_810 k_812 k_33 ⟨rfl, hy_Markup_next⟩ (by decide) rfl rfl (Nat.le_of_ble_eq_true rfl) (by decide) (fun v9 u57 ch56 => ?_)
              obtain ⟨r_58, rfl⟩ : ∃ z9, z9 = u57 := ⟨_, rfl⟩
              obtain ⟨ech56, ch56⟩ := ch56
              have ech56 : v9 = some (.int r_58) := ech56
              subst ech56
              obtain ⟨fh59, fh60, fh61⟩ : (-1 ≤ r_58.toInt) ∧ (r_58.toInt ≤ 255) ∧ (0 ≤ r_58.toInt → a.toInt + (0 : Int32).toInt < en.toInt) := ch56
              refine pb_eq (pc' := 71) (lo' := [(3, .int n), (4, .int j), (2, .int z), (1, .int fr_), (0, .ref h)]) (rest' := [.int r_58, .int i55]) (ws' := [(h, .inr (8, [.ref ui, .ref ug, .ref uv, .ref ur, .int ct, .int f, .int bg, .int a, .int en, .int vs, .int io, .int hi, .int ht])), (ur, .inl (G.2.1, 12000, .inl uf))]) ?_
              refine pb_iadd (pc := 71) d_Markup_readNumber_71 ?_
              refine pb_topi (fun i62 ei62 => ?_)
              refine pb_bipush (pc := 72) (v := 48) d_Markup_readNumber_72 (by decide) ?_
              refine pb_isub (pc := 74) d_Markup_readNumber_74 ?_
              refine pb_topi (fun i63 ei63 => ?_)
              refine pb_istore_n (pc := 75) (lo' := [(3, .int i63), (4, .int j), (2, .int z), (1, .int fr_), (0, .ref h)]) d_Markup_readNumber_75 rfl (by decide) rfl ?_
              refine pb_aload_n (pc := 76) d_Markup_readNumber_76 4 rfl rfl ?_
              refine pb_dup (pc := 77) d_Markup_readNumber_77 rfl ?_
              refine pb_get (pc := 78) d_Markup_readNumber_78 0 7 rfl rfl (by decide) in_Markup k_326 rfl ?_
              refine pb_iconst (pc := 81) (v := 1) d_Markup_readNumber_81 (by decide) ?_
              refine pb_iadd (pc := 82) d_Markup_readNumber_82 ?_
              refine pb_topi (fun i64 ei64 => ?_)
              try have ti64 : i64.toInt = a.toInt + 1 := t2_add ei64 rfl (by decide) (by omega)
              refine pb_put (pc := 83) (ty := .int) (ws' := [(h, .inr (8, [.ref ui, .ref ug, .ref uv, .ref ur, .int ct, .int f, .int bg, .int i64, .int en, .int vs, .int io, .int hi, .int ht])), (ur, .inl (G.2.1, 12000, .inl uf))]) d_Markup_readNumber_83 0 7 t_Markup t_Markup_ok n_Markup rfl rfl (by decide) in_Markup k_326 rfl (by decide +kernel) rfl rfl (Nat.le_of_ble_eq_true rfl) rfl ?_
              refine pb_iincN (pc := 86) (c := 1) d_Markup_readNumber_86 1 rfl (by decide) (by decide) (fun i65 ei65 => ?_)
              have ti65 : i65.toInt = j.toInt + 1 := t2_add ei65 rfl (by decide) (by first | omega | (have r90 := ti_rng i65; have r91 := ti_rng i63; have r92 := ti_rng z; have r93 := ti_rng fr_; omega))
              refine pb_eq (pc' := 89) (lo' := [(4, .int i65), (3, .int i63), (2, .int z), (1, .int fr_), (0, .ref h)]) (rest' := []) (ws' := [(h, .inr (8, [.ref ui, .ref ug, .ref uv, .ref ur, .int ct, .int f, .int bg, .int i64, .int en, .int vs, .int io, .int hi, .int ht])), (ur, .inl (G.2.1, 12000, .inl uf))]) ?_
              refine pb_goto (pc := 89) (tgt := 36) d_Markup_readNumber_89 (by decide) ?_
              refine pb_re (ws' := [(h, .inr (8, [.ref ui, .ref ug, .ref uv, .ref ur, .int ct, .int f, .int bg, .int i64, .int en, .int vs, .int io, .int hi, .int ht])), (ur, .inl (G.2.1, 12000, .inl uf))]) (lo' := [(3, .int i63), (4, .int i65), (2, .int z), (1, .int fr_), (0, .ref h)]) [0, 1] [1, 0, 2, 3, 4] (by decide) rfl rfl rfl ?_
              exact ih36 i63 i65 i64 f (by first | (with_reducible assumption) | omega (splitDisjunctions := false) | assumption | (clear fh22 fh41 fh61 hm9; first | omega (splitDisjunctions := false) | omega) | omega | decide) (by first | (with_reducible assumption) | omega (splitDisjunctions := false) | assumption | (clear fh22 fh41 fh61 hm9; first | omega (splitDisjunctions := false) | omega) | omega | decide) (by first | (with_reducible assumption) | omega (splitDisjunctions := false) | assumption | (clear fh22 fh41 fh61 hm9; first | omega (splitDisjunctions := false) | omega) | omega | decide) (by first | (clear fh22 fh41 fh61; omega) | omega)
    refine pb_re (ws' := [(h, .inr (8, [.ref ui, .ref ug, .ref uv, .ref ur, .int ct, .int fa, .int bg, .int a1_, .int en, .int vs, .int io, .int hi, .int ht])), (ur, .inl (G.2.1, 12000, .inl uf))]) (lo' := [(3, .int 0), (4, .int 0), (2, .int z), (1, .int fr_), (0, .ref h)]) [0, 1] [1, 0, 2, 3, 4] (by decide) rfl rfl rfl ?_
    exact hL36_3 _ 0 0 a1_ fa (by first | (with_reducible assumption) | omega (splitDisjunctions := false) | assumption | omega | decide) (by first | (with_reducible assumption) | omega (splitDisjunctions := false) | assumption | omega | decide) (by first | (with_reducible assumption) | omega (splitDisjunctions := false) | assumption | omega | decide) (Nat.lt_succ_self _)
  refine pb_aload_n (pc := 15) d_Markup_readNumber_15 1 rfl rfl ?_
  refine pb_iconst (pc := 16) (v := 0) d_Markup_readNumber_16 (by decide) ?_
  refine pb_callV (pc := 17) (I := i_Markup_readNumber) (qb := 0) (ci := 8) (nA := 1) (rest := []) (wr := []) d_Markup_readNumber_17 (g_Mu_next hl G h ui ug uv ur ct fa bg i1 en vs io hi ht uf 0 (by first | (with_reducible assumption) | omega (splitDisjunctions := false) | assumption | omega | decide) (by first | (with_reducible assumption) | omega (splitDisjunctions := false) | assumption | omega | decide) (by first | (with_reducible assumption) | omega (splitDisjunctions := false) | assumption | omega | decide) (by first | (with_reducible assumption) | omega (splitDisjunctions := false) | assumption | omega | decide) (by first | (with_reducible assumption) | omega (splitDisjunctions := false) | assumption | omega | decide) F_uf) rfl rfl [0, 1] [] (by decide) rfl rfl rfl (by decide) (by decide) k_813 rfl k_125 k_810 k_812 k_33 ⟨rfl, hy_Markup_next⟩ (by decide) rfl rfl (Nat.le_of_ble_eq_true rfl) (by decide) (fun v9 u67 ch66 => ?_)
  obtain ⟨r_68, rfl⟩ : ∃ z9, z9 = u67 := ⟨_, rfl⟩
  obtain ⟨ech66, ch66⟩ := ch66
  have ech66 : v9 = some (.int r_68) := ech66
  subst ech66
  obtain ⟨fh69, fh70, fh71⟩ : (-1 ≤ r_68.toInt) ∧ (r_68.toInt ≤ 255) ∧ (0 ≤ r_68.toInt → i1.toInt + (0 : Int32).toInt < en.toInt) := ch66
  refine pb_eq (pc' := 20) (lo' := [(1, .int i1), (0, .ref h)]) (rest' := [.int r_68]) (ws' := [(h, .inr (8, [.ref ui, .ref ug, .ref uv, .ref ur, .int ct, .int fa, .int bg, .int i1, .int en, .int vs, .int io, .int hi, .int ht])), (ur, .inl (G.2.1, 12000, .inl uf))]) ?_
  refine pb_bipush (pc := 20) (v := 48) d_Markup_readNumber_20 (by decide) ?_
  refine pb_icmp_ne (pc := 22) (tgt := 29) d_Markup_readNumber_22 (by decide) (fun w72 => ?_) (fun w72 => ?_)
  · have tw72 : ¬ r_68.toInt = 48 := fun z9 => w72 ((ti_eq rfl (by decide)).mpr z9)
    refine pb_iconst (pc := 29) (v := 0) d_Markup_readNumber_29 (by decide) ?_
    refine pb_istore_n (pc := 30) (lo' := [(2, .int 0), (1, .int i1), (0, .ref h)]) d_Markup_readNumber_30 rfl (by decide) rfl ?_
    exact hJ31_2 0 i1 i1 (by first | (with_reducible assumption) | omega (splitDisjunctions := false) | assumption | (clear fh71; first | omega (splitDisjunctions := false) | omega) | omega | decide) (by first | (with_reducible assumption) | omega (splitDisjunctions := false) | assumption | (clear fh71; first | omega (splitDisjunctions := false) | omega) | omega | decide)
  · have tw72 : r_68.toInt = 48 := (ti_eq rfl (by decide)).mp w72
    refine pb_iconst (pc := 25) (v := 1) d_Markup_readNumber_25 (by decide) ?_
    refine pb_goto (pc := 26) (tgt := 30) d_Markup_readNumber_26 (by decide) ?_
    refine pb_istore_n (pc := 30) (lo' := [(2, .int 1), (1, .int i1), (0, .ref h)]) d_Markup_readNumber_30 rfl (by decide) rfl ?_
    exact hJ31_2 1 i1 i1 (by first | (with_reducible assumption) | omega (splitDisjunctions := false) | assumption | (clear fh71; first | omega (splitDisjunctions := false) | omega) | omega | decide) (by first | (with_reducible assumption) | omega (splitDisjunctions := false) | assumption | (clear fh71; first | omega (splitDisjunctions := false) | omega) | omega | decide)

theorem d_Markup_readValue_0 : decode prog_7_method_12_code 0 = .ok (.aload_n 0, 1) := by decide +kernel
theorem d_Markup_readValue_1 : decode prog_7_method_12_code 1 = .ok (.iconst 0, 1) := by decide +kernel
theorem d_Markup_readValue_2 : decode prog_7_method_12_code 2 = .ok (.putfield 135, 3) := by decide +kernel
theorem k_328 : (Jvm.Cond.fieldLink "PackageBook$Markup" (135 : Nat) "PackageBook$Markup" "valueSize" "I") ∈ uW := uW_of 328 (by decide +kernel) (by decide +kernel)
theorem d_Markup_readValue_5 : decode prog_7_method_12_code 5 = .ok (.aload_n 0, 1) := by decide +kernel
theorem d_Markup_readValue_6 : decode prog_7_method_12_code 6 = .ok (.getfield 51, 3) := by decide +kernel
theorem d_Markup_readValue_9 : decode prog_7_method_12_code 9 = .ok (.aload_n 0, 1) := by decide +kernel
theorem d_Markup_readValue_10 : decode prog_7_method_12_code 10 = .ok (.getfield 48, 3) := by decide +kernel
theorem d_Markup_readValue_13 : decode prog_7_method_12_code 13 = .ok (.isub, 1) := by decide +kernel
theorem d_Markup_readValue_14 : decode prog_7_method_12_code 14 = .ok (.istore_n 2, 1) := by decide +kernel
theorem d_Markup_readValue_15 : decode prog_7_method_12_code 15 = .ok (.iload_n 2, 1) := by decide +kernel
theorem d_Markup_readValue_16 : decode prog_7_method_12_code 16 = .ok (.ifCond .lt 134, 3) := by decide +kernel
theorem d_Markup_readValue_150 : decode prog_7_method_12_code 150 = .ok (.iconst 1, 1) := by decide +kernel
theorem d_Markup_readValue_151 : decode prog_7_method_12_code 151 = .ok (.ireturn, 1) := by decide +kernel
theorem d_Markup_readValue_19 : decode prog_7_method_12_code 19 = .ok (.aload_n 0, 1) := by decide +kernel
theorem d_Markup_readValue_20 : decode prog_7_method_12_code 20 = .ok (.iconst 0, 1) := by decide +kernel
theorem d_Markup_readValue_21 : decode prog_7_method_12_code 21 = .ok (.invokevirtual 80, 3) := by decide +kernel
theorem d_Markup_readValue_24 : decode prog_7_method_12_code 24 = .ok (.iload_n 1, 1) := by decide +kernel
theorem d_Markup_readValue_25 : decode prog_7_method_12_code 25 = .ok (.if_icmp .eq 125, 3) := by decide +kernel
theorem d_Markup_readValue_28 : decode prog_7_method_12_code 28 = .ok (.aload_n 0, 1) := by decide +kernel
theorem d_Markup_readValue_29 : decode prog_7_method_12_code 29 = .ok (.iconst 0, 1) := by decide +kernel
theorem d_Markup_readValue_30 : decode prog_7_method_12_code 30 = .ok (.invokevirtual 80, 3) := by decide +kernel
theorem d_Markup_readValue_33 : decode prog_7_method_12_code 33 = .ok (.istore_n 3, 1) := by decide +kernel
theorem d_Markup_readValue_34 : decode prog_7_method_12_code 34 = .ok (.iload_n 3, 1) := by decide +kernel
theorem d_Markup_readValue_35 : decode prog_7_method_12_code 35 = .ok (.bipush 32, 2) := by decide +kernel
theorem d_Markup_readValue_37 : decode prog_7_method_12_code 37 = .ok (.if_icmp .lt 15, 3) := by decide +kernel
theorem d_Markup_readValue_52 : decode prog_7_method_12_code 52 = .ok (.aload_n 0, 1) := by decide +kernel
theorem d_Markup_readValue_53 : decode prog_7_method_12_code 53 = .ok (.aload_n 0, 1) := by decide +kernel
theorem d_Markup_readValue_54 : decode prog_7_method_12_code 54 = .ok (.getfield 48, 3) := by decide +kernel
theorem d_Markup_readValue_57 : decode prog_7_method_12_code 57 = .ok (.invokevirtual 96, 3) := by decide +kernel
theorem d_Markup_readValue_60 : decode prog_7_method_12_code 60 = .ok (.ireturn, 1) := by decide +kernel
theorem d_Markup_readValue_40 : decode prog_7_method_12_code 40 = .ok (.iload_n 3, 1) := by decide +kernel
theorem d_Markup_readValue_41 : decode prog_7_method_12_code 41 = .ok (.bipush 126, 2) := by decide +kernel
theorem d_Markup_readValue_43 : decode prog_7_method_12_code 43 = .ok (.if_icmp .gt 9, 3) := by decide +kernel
theorem d_Markup_readValue_46 : decode prog_7_method_12_code 46 = .ok (.iload_n 3, 1) := by decide +kernel
theorem d_Markup_readValue_47 : decode prog_7_method_12_code 47 = .ok (.bipush 60, 2) := by decide +kernel
theorem d_Markup_readValue_49 : decode prog_7_method_12_code 49 = .ok (.if_icmp .ne 12, 3) := by decide +kernel
theorem d_Markup_readValue_61 : decode prog_7_method_12_code 61 = .ok (.aload_n 0, 1) := by decide +kernel
theorem d_Markup_readValue_62 : decode prog_7_method_12_code 62 = .ok (.dup, 1) := by decide +kernel
theorem d_Markup_readValue_63 : decode prog_7_method_12_code 63 = .ok (.getfield 48, 3) := by decide +kernel
theorem d_Markup_readValue_66 : decode prog_7_method_12_code 66 = .ok (.iconst 1, 1) := by decide +kernel
theorem d_Markup_readValue_67 : decode prog_7_method_12_code 67 = .ok (.iadd, 1) := by decide +kernel
theorem d_Markup_readValue_68 : decode prog_7_method_12_code 68 = .ok (.putfield 48, 3) := by decide +kernel
theorem d_Markup_readValue_114 : decode prog_7_method_12_code 114 = .ok (.aload_n 0, 1) := by decide +kernel
theorem d_Markup_readValue_115 : decode prog_7_method_12_code 115 = .ok (.getfield 135, 3) := by decide +kernel
theorem d_Markup_readValue_118 : decode prog_7_method_12_code 118 = .ok (.bipush 24, 2) := by decide +kernel
theorem d_Markup_readValue_120 : decode prog_7_method_12_code 120 = .ok (.if_icmp .ge 14, 3) := by decide +kernel
theorem d_Markup_readValue_134 : decode prog_7_method_12_code 134 = .ok (.aload_n 0, 1) := by decide +kernel
theorem d_Markup_readValue_135 : decode prog_7_method_12_code 135 = .ok (.dup, 1) := by decide +kernel
theorem d_Markup_readValue_136 : decode prog_7_method_12_code 136 = .ok (.getfield 135, 3) := by decide +kernel
theorem d_Markup_readValue_139 : decode prog_7_method_12_code 139 = .ok (.iconst 1, 1) := by decide +kernel
theorem d_Markup_readValue_140 : decode prog_7_method_12_code 140 = .ok (.iadd, 1) := by decide +kernel
theorem d_Markup_readValue_141 : decode prog_7_method_12_code 141 = .ok (.putfield 135, 3) := by decide +kernel
theorem d_Markup_readValue_144 : decode prog_7_method_12_code 144 = .ok (.iinc 2 (-1), 3) := by decide +kernel
theorem d_Markup_readValue_147 : decode prog_7_method_12_code 147 = .ok (.goto (-132), 3) := by decide +kernel
theorem d_Markup_readValue_123 : decode prog_7_method_12_code 123 = .ok (.aload_n 0, 1) := by decide +kernel
theorem d_Markup_readValue_124 : decode prog_7_method_12_code 124 = .ok (.getfield 19, 3) := by decide +kernel
theorem d_Markup_readValue_127 : decode prog_7_method_12_code 127 = .ok (.aload_n 0, 1) := by decide +kernel
theorem d_Markup_readValue_128 : decode prog_7_method_12_code 128 = .ok (.getfield 135, 3) := by decide +kernel
theorem d_Markup_readValue_131 : decode prog_7_method_12_code 131 = .ok (.iload_n 3, 1) := by decide +kernel
theorem d_Markup_readValue_132 : decode prog_7_method_12_code 132 = .ok (.i2b, 1) := by decide +kernel
theorem d_Markup_readValue_133 : decode prog_7_method_12_code 133 = .ok (.bastore, 1) := by decide +kernel
theorem d_Markup_readValue_71 : decode prog_7_method_12_code 71 = .ok (.iload_n 3, 1) := by decide +kernel
theorem d_Markup_readValue_72 : decode prog_7_method_12_code 72 = .ok (.bipush 38, 2) := by decide +kernel
theorem d_Markup_readValue_74 : decode prog_7_method_12_code 74 = .ok (.if_icmp .ne 40, 3) := by decide +kernel
theorem d_Markup_readValue_77 : decode prog_7_method_12_code 77 = .ok (.aload_n 0, 1) := by decide +kernel
theorem d_Markup_readValue_78 : decode prog_7_method_12_code 78 = .ok (.iconst 0, 1) := by decide +kernel
theorem d_Markup_readValue_79 : decode prog_7_method_12_code 79 = .ok (.invokevirtual 80, 3) := by decide +kernel
theorem d_Markup_readValue_82 : decode prog_7_method_12_code 82 = .ok (.bipush 35, 2) := by decide +kernel
theorem d_Markup_readValue_84 : decode prog_7_method_12_code 84 = .ok (.if_icmp .ne 10, 3) := by decide +kernel
theorem d_Markup_readValue_94 : decode prog_7_method_12_code 94 = .ok (.aload_n 0, 1) := by decide +kernel
theorem d_Markup_readValue_95 : decode prog_7_method_12_code 95 = .ok (.invokevirtual 142, 3) := by decide +kernel
theorem k_868 : (Jvm.Cond.methodLink "PackageBook$Markup" (142 : Nat) ({ cls := "PackageBook$Markup", name := "readNamed", desc := "()I" } : Jvm.MethodName)) ∈ uW := uW_of 868 (by decide +kernel) (by decide +kernel)
theorem k_871 : (Jvm.Cond.code ({ cls := "PackageBook$Markup", name := "readNamed", desc := "()I" } : Jvm.MethodName) prog_7_method_13_code (2 : Nat) (Option.some Jvm.ClassFile.FieldType.int)) ∈ uW := uW_of 871 (by decide +kernel) (by decide +kernel)
theorem k_870 : (Jvm.Cond.instanceMethod ({ cls := "PackageBook$Markup", name := "readNamed", desc := "()I" } : Jvm.MethodName)) ∈ uW := uW_of 870 (by decide +kernel) (by decide +kernel)
theorem k_44 : Cond.selects "PackageBook$Markup" ⟨"PackageBook$Markup", "readNamed", "()I"⟩ ⟨"PackageBook$Markup", "readNamed", "()I"⟩ ∈ uW := uW_of 44 (by decide +kernel) (by decide +kernel)
theorem hy_Markup_readNamed : (y_Markup_readNamed).cls ≠ "java/lang/invoke/MethodHandle" ∧ (y_Markup_readNamed).cls ≠ "java/lang/invoke/VarHandle" ∧ (parseMethodDescriptor (y_Markup_readNamed).desc).map (fun d => d.parameters.length) = some 0 := by decide +kernel
theorem d_Markup_readValue_98 : decode prog_7_method_12_code 98 = .ok (.istore_n 3, 1) := by decide +kernel
theorem d_Markup_readValue_99 : decode prog_7_method_12_code 99 = .ok (.iload_n 3, 1) := by decide +kernel
theorem d_Markup_readValue_100 : decode prog_7_method_12_code 100 = .ok (.ifCond .lt 12, 3) := by decide +kernel
theorem d_Markup_readValue_112 : decode prog_7_method_12_code 112 = .ok (.iconst 0, 1) := by decide +kernel
theorem d_Markup_readValue_113 : decode prog_7_method_12_code 113 = .ok (.ireturn, 1) := by decide +kernel
theorem d_Markup_readValue_103 : decode prog_7_method_12_code 103 = .ok (.aload_n 0, 1) := by decide +kernel
theorem d_Markup_readValue_104 : decode prog_7_method_12_code 104 = .ok (.ldc 145, 2) := by decide +kernel
theorem d_Markup_readValue_106 : decode prog_7_method_12_code 106 = .ok (.invokevirtual 73, 3) := by decide +kernel
theorem d_Markup_readValue_109 : decode prog_7_method_12_code 109 = .ok (.ifCond .ne 5, 3) := by decide +kernel
theorem d_Markup_readValue_87 : decode prog_7_method_12_code 87 = .ok (.aload_n 0, 1) := by decide +kernel
theorem d_Markup_readValue_88 : decode prog_7_method_12_code 88 = .ok (.invokevirtual 138, 3) := by decide +kernel
theorem k_864 : (Jvm.Cond.methodLink "PackageBook$Markup" (138 : Nat) ({ cls := "PackageBook$Markup", name := "readNumber", desc := "()I" } : Jvm.MethodName)) ∈ uW := uW_of 864 (by decide +kernel) (by decide +kernel)
theorem k_867 : (Jvm.Cond.code ({ cls := "PackageBook$Markup", name := "readNumber", desc := "()I" } : Jvm.MethodName) prog_7_method_14_code (5 : Nat) (Option.some Jvm.ClassFile.FieldType.int)) ∈ uW := uW_of 867 (by decide +kernel) (by decide +kernel)
theorem k_866 : (Jvm.Cond.instanceMethod ({ cls := "PackageBook$Markup", name := "readNumber", desc := "()I" } : Jvm.MethodName)) ∈ uW := uW_of 866 (by decide +kernel) (by decide +kernel)
theorem k_43 : Cond.selects "PackageBook$Markup" ⟨"PackageBook$Markup", "readNumber", "()I"⟩ ⟨"PackageBook$Markup", "readNumber", "()I"⟩ ∈ uW := uW_of 43 (by decide +kernel) (by decide +kernel)
theorem hy_Markup_readNumber : (y_Markup_readNumber).cls ≠ "java/lang/invoke/MethodHandle" ∧ (y_Markup_readNumber).cls ≠ "java/lang/invoke/VarHandle" ∧ (parseMethodDescriptor (y_Markup_readNumber).desc).map (fun d => d.parameters.length) = some 0 := by decide +kernel
theorem d_Markup_readValue_91 : decode prog_7_method_12_code 91 = .ok (.goto 7, 3) := by decide +kernel
abbrev y_Markup_readValue : MethodName := ⟨"PackageBook$Markup", "readValue", "(I)Z"⟩
abbrev i_Markup_readValue : pb_I := (y_Markup_readValue, prog_7_method_12_code, 4, (some Jvm.ClassFile.FieldType.boolean), [], { frames := 6, cells := 0, slots := 0, locals := 130 })
set_option maxRecDepth 100000 in
set_option maxHeartbeats 4000000 in
theorem g_Mu_readValue {l : Launch} (hl : l.stackTraces = false) (G : pb_G) (h : Nat) (ui : Nat) (ug : Nat) (uv : Nat) (ur : Nat) (ct : Int32) (fa : Int32) (bg : Int32) (at_ : Int32) (en : Int32) (vs : Int32) (io : Int32) (hi : Int32) (ht : Int32) (uf : Nat → Int32) (vf : Nat → Int32) (q : Int32) (a0 : 0 ≤ at_.toInt) (a1 : at_.toInt ≤ en.toInt) (a2 : en.toInt ≤ 12000) (q0 : 0 ≤ q.toInt) (F_uf : sb_Fit uf) (F_vf : sb_Fit vf) : Cn l G i_Markup_readValue [.ref h, .int q] [(h, .inr (8, [.ref ui, .ref ug, .ref uv, .ref ur, .int ct, .int fa, .int bg, .int at_, .int en, .int vs, .int io, .int hi, .int ht])), (ur, .inl (G.2.1, 12000, .inl uf)), (uv, .inl (G.2.1, 24, .inl vf))] (S := Int32 × Int32 × Int32 × Int32 × (Nat → Int32)) (fun rv_ u => rv_ = some (.int u.1) ∧ (u.1.toInt = 0 ∨ u.1.toInt = 1) ∧ (at_.toInt ≤ u.2.1.toInt) ∧ (u.2.1.toInt ≤ en.toInt) ∧ (u.1.toInt = 1 → u.2.1.toInt < en.toInt) ∧ (0 ≤ u.2.2.2.1.toInt) ∧ (sb_Fit u.2.2.2.2)) (fun u => [(h, .inr (8, [.ref ui, .ref ug, .ref uv, .ref ur, .int ct, .int u.2.2.1, .int bg, .int u.2.1, .int en, .int u.2.2.2.1, .int io, .int hi, .int ht])), (ur, .inl (G.2.1, 12000, .inl uf)), (uv, .inl (G.2.1, 24, .inl u.2.2.2.2))]) := by
  refine Cn.of hl (by decide +kernel) rfl (Nat.le_of_ble_eq_true rfl) (fun M hQ => ?_)
  refine pb_eq (pc' := 0) (lo' := [(0, .ref h), (1, .int q)]) (rest' := []) (ws' := [(h, .inr (8, [.ref ui, .ref ug, .ref uv, .ref ur, .int ct, .int fa, .int bg, .int at_, .int en, .int vs, .int io, .int hi, .int ht])), (ur, .inl (G.2.1, 12000, .inl uf)), (uv, .inl (G.2.1, 24, .inl vf))]) ?_
  have zl0 : (0 : Int32).toInt = 0 := by decide
  have zl1 : (1 : Int32).toInt = 1 := by decide
  refine pb_aload_n (pc := 0) d_Markup_readValue_0 0 rfl rfl ?_
  refine pb_iconst (pc := 1) (v := 0) d_Markup_readValue_1 (by decide) ?_
  refine pb_put (pc := 2) (ty := .int) (ws' := [(h, .inr (8, [.ref ui, .ref ug, .ref uv, .ref ur, .int ct, .int fa, .int bg, .int at_, .int en, .int 0, .int io, .int hi, .int ht])), (ur, .inl (G.2.1, 12000, .inl uf)), (uv, .inl (G.2.1, 24, .inl vf))]) d_Markup_readValue_2 0 9 t_Markup t_Markup_ok n_Markup rfl rfl (by decide) in_Markup k_328 rfl (by decide +kernel) rfl rfl (Nat.le_of_ble_eq_true rfl) rfl ?_
  refine pb_aload_n (pc := 5) d_Markup_readValue_5 0 rfl rfl ?_
  refine pb_get (pc := 6) d_Markup_readValue_6 0 8 rfl rfl (by decide) in_Markup k_327 rfl ?_
  refine pb_aload_n (pc := 9) d_Markup_readValue_9 0 rfl rfl ?_
  refine pb_get (pc := 10) d_Markup_readValue_10 0 7 rfl rfl (by decide) in_Markup k_326 rfl ?_
  refine pb_isub (pc := 13) d_Markup_readValue_13 ?_
  refine pb_topi (fun i1 ei1 => ?_)
  try have ti1 : i1.toInt = en.toInt - at_.toInt := t2_sub ei1 rfl rfl (by omega)
  refine pb_istore_n (pc := 14) (lo' := [(2, .int i1), (0, .ref h), (1, .int q)]) d_Markup_readValue_14 rfl (by decide) rfl ?_
  have hL15_2 : ∀ (N9 : Nat) (l_ : Int32) (a : Int32) (f : Int32) (v : Int32) (g : Nat → Int32), (sb_Fit g) → (at_.toInt ≤ a.toInt) → (a.toInt ≤ en.toInt) → (en.toInt - a.toInt ≤ l_.toInt) → (0 ≤ v.toInt) → (v.toInt ≤ a.toInt - at_.toInt) → ((l_.toInt + 1).toNat) < N9 → pb_P l G M i_Markup_readValue 15 [(2, .int l_), (0, .ref h), (1, .int q)] [] [(h, .inr (8, [.ref ui, .ref ug, .ref uv, .ref ur, .int ct, .int f, .int bg, .int a, .int en, .int v, .int io, .int hi, .int ht])), (ur, .inl (G.2.1, 12000, .inl uf)), (uv, .inl (G.2.1, 24, .inl g))] 0 0 := by
    intro N9
    induction N9 with
    | zero => intro l_ a f v g F_g k0 k1 k2 k3 k4 hm9; exact absurd hm9 (Nat.not_lt_zero _)
    | succ N9 ih15 =>
      intro l_ a f v g F_g k0 k1 k2 k3 k4 hm9
      have rl_ := ti_rng l_
      refine pb_iload_n (pc := 15) d_Markup_readValue_15 0 rfl rfl ?_
      refine pb_if_lt (pc := 16) (tgt := 150) d_Markup_readValue_16 (by decide) (fun w3 => ?_) (fun w3 => ?_)
      · have tw3 : l_.toInt < 0 := (ti_lt rfl (by decide)).mp w3
        refine pb_iconst (pc := 150) (v := 1) d_Markup_readValue_150 (by decide) ?_
        exact pb_iret (pc := 151) hQ d_Markup_readValue_151 rfl rfl (1, a, f, v, g) ⟨rfl, (by (try dsimp only); first | done | (with_reducible assumption) | omega (splitDisjunctions := false) | assumption | omega | decide), (by (try dsimp only); first | done | (with_reducible assumption) | omega (splitDisjunctions := false) | assumption | omega | decide), (by (try dsimp only); first | done | (with_reducible assumption) | omega (splitDisjunctions := false) | assumption | omega | decide), (by (try dsimp only); first | done | (with_reducible assumption) | omega (splitDisjunctions := false) | assumption | omega | decide), (by (try dsimp only); first | done | (with_reducible assumption) | omega (splitDisjunctions := false) | assumption | omega | decide), F_g⟩ [0, 1, 2] (by decide) rfl rfl (by decide) (by decide)
      · have tw3 : ¬ l_.toInt < 0 := fun z9 => w3 ((ti_lt rfl (by decide)).mpr z9)
        refine pb_aload_n (pc := 19) d_Markup_readValue_19 1 rfl rfl ?_
        refine pb_iconst (pc := 20) (v := 0) d_Markup_readValue_20 (by decide) ?_
        refine pb_callV (pc := 21) (I := i_Markup_readValue) (qb := 0) (ci := 8) (nA := 1) (rest := []) (wr := [(uv, .inl (G.2.1, 24, .inl g))]) d_Markup_readValue_21 (g_Mu_next hl G h ui ug uv ur ct f bg a en v io hi ht uf 0 (by first | (with_reducible assumption) | omega (splitDisjunctions := false) | assumption | omega | decide) (by first | (with_reducible assumption) | omega (splitDisjunctions := false) | assumption | omega | decide) (by first | (with_reducible assumption) | omega (splitDisjunctions := false) | assumption | omega | decide) (by first | (with_reducible assumption) | omega (splitDisjunctions := false) | assumption | omega | decide) (by first | (with_reducible assumption) | omega (splitDisjunctions := false) | assumption | omega | decide) F_uf) rfl rfl [0, 1] [2] (by decide) rfl rfl rfl (by decide) (by decide) k_813 rfl k_125 k_810 k_812 k_33 ⟨rfl, hy_Markup_next⟩ (by decide) rfl rfl (Nat.le_of_ble_eq_true rfl) (by decide) (fun v9 u5 ch4 => ?_)
        obtain ⟨r_6, rfl⟩ : ∃ z9, z9 = u5 := ⟨_, rfl⟩
        obtain ⟨ech4, ch4⟩ := ch4
        have ech4 : v9 = some (.int r_6) := ech4
        subst ech4
        obtain ⟨fh7, fh8, fh9⟩ : (-1 ≤ r_6.toInt) ∧ (r_6.toInt ≤ 255) ∧ (0 ≤ r_6.toInt → a.toInt + (0 : Int32).toInt < en.toInt) := ch4
        refine pb_eq (pc' := 24) (lo' := [(2, .int l_), (0, .ref h), (1, .int q)]) (rest' := [.int r_6]) (ws' := [(uv, .inl (G.2.1, 24, .inl g)), (h, .inr (8, [.ref ui, .ref ug, .ref uv, .ref ur, .int ct, .int f, .int bg, .int a, .int en, .int v, .int io, .int hi, .int ht])), (ur, .inl (G.2.1, 12000, .inl uf))]) ?_
        refine pb_iload_n (pc := 24) d_Markup_readValue_24 2 rfl rfl ?_
        refine pb_icmp_eq (pc := 25) (tgt := 150) d_Markup_readValue_25 (by decide) (fun w10 => ?_) (fun w10 => ?_)
        · have tw10 : r_6.toInt = q.toInt := (ti_eq rfl rfl).mp w10
          refine pb_iconst (pc := 150) (v := 1) d_Markup_readValue_150 (by decide) ?_
          exact pb_iret (pc := 151) hQ d_Markup_readValue_151 rfl rfl (1, a, f, v, g) ⟨rfl, (by (try dsimp only); first | done | (with_reducible assumption) | omega (splitDisjunctions := false) | assumption | (clear fh9 hm9; first | omega (splitDisjunctions := false) | omega) | omega | decide), (by (try dsimp only); first | done | (with_reducible assumption) | omega (splitDisjunctions := false) | assumption | (clear fh9 hm9; first | omega (splitDisjunctions := false) | omega) | omega | decide), (by (try dsimp only); first | done | (with_reducible assumption) | omega (splitDisjunctions := false) | assumption | (clear fh9 hm9; first | omega (splitDisjunctions := false) | omega) | omega | decide), (by (try dsimp only); first | done | (with_reducible assumption) | omega (splitDisjunctions := false) | assumption | exact fun q90 => (by clear fh9 hm9; first | omega (splitDisjunctions := false) | omega) | omega | decide), (by (try dsimp only); first | done | (with_reducible assumption) | omega (splitDisjunctions := false) | assumption | (clear fh9 hm9; first | omega (splitDisjunctions := false) | omega) | omega | decide), F_g⟩ [1, 2, 0] (by decide) rfl rfl (by decide) (by decide)
        · have tw10 : ¬ r_6.toInt = q.toInt := fun z9 => w10 ((ti_eq rfl rfl).mpr z9)
          refine pb_aload_n (pc := 28) d_Markup_readValue_28 1 rfl rfl ?_
          refine pb_iconst (pc := 29) (v := 0) d_Markup_readValue_29 (by decide) ?_
          refine pb_callV (pc := 30) (I := i_Markup_readValue) (qb := 1) (ci := 8) (nA := 1) (rest := []) (wr := [(uv, .inl (G.2.1, 24, .inl g))]) d_Markup_readValue_30 (g_Mu_next hl G h ui ug uv ur ct f bg a en v io hi ht uf 0 (by first | (with_reducible assumption) | omega (splitDisjunctions := false) | assumption | (clear fh9 hm9; first | omega (splitDisjunctions := false) | omega) | omega | decide) (by first | (with_reducible assumption) | omega (splitDisjunctions := false) | assumption | (clear fh9 hm9; first | omega (splitDisjunctions := false) | omega) | omega | decide) (by first | (with_reducible assumption) | omega (splitDisjunctions := false) | assumption | (clear fh9 hm9; first | omega (splitDisjunctions := false) | omega) | omega | decide) (by first | (with_reducible assumption) | omega (splitDisjunctions := false) | assumption | (clear fh9 hm9; first | omega (splitDisjunctions := false) | omega) | omega | decide) (by first | (with_reducible assumption) | omega (splitDisjunctions := false) | assumption | (clear fh9 hm9; first | omega (splitDisjunctions := false) | omega) | omega | decide) F_uf) rfl rfl [1, 2] [0] (by decide) rfl rfl rfl (by decide) (by decide) k_813 rfl k_125 k_810 k_812 k_33 ⟨rfl, hy_Markup_next⟩ (by decide) rfl rfl (Nat.le_of_ble_eq_true rfl) (by decide) (fun v9 u12 ch11 => ?_)
          obtain ⟨r_13, rfl⟩ : ∃ z9, z9 = u12 := ⟨_, rfl⟩
          obtain ⟨ech11, ch11⟩ := ch11
          have ech11 : v9 = some (.int r_13) := ech11
          subst ech11
          obtain ⟨fh14, fh15, fh16⟩ : (-1 ≤ r_13.toInt) ∧ (r_13.toInt ≤ 255) ∧ (0 ≤ r_13.toInt → a.toInt + (0 : Int32).toInt < en.toInt) := ch11
          have nxB := fh16
          clear fh16
          refine pb_eq (pc' := 33) (lo' := [(2, .int l_), (0, .ref h), (1, .int q)]) (rest' := [.int r_13]) (ws' := [(uv, .inl (G.2.1, 24, .inl g)), (h, .inr (8, [.ref ui, .ref ug, .ref uv, .ref ur, .int ct, .int f, .int bg, .int a, .int en, .int v, .int io, .int hi, .int ht])), (ur, .inl (G.2.1, 12000, .inl uf))]) ?_
          refine pb_istore_n (pc := 33) (lo' := [(3, .int r_13), (2, .int l_), (0, .ref h), (1, .int q)]) d_Markup_readValue_33 rfl (by decide) rfl ?_
          refine pb_iload_n (pc := 34) d_Markup_readValue_34 0 rfl rfl ?_
          refine pb_bipush (pc := 35) (v := 32) d_Markup_readValue_35 (by decide) ?_
          refine pb_icmp_lt (pc := 37) (tgt := 52) d_Markup_readValue_37 (by decide) (fun w17 => ?_) (fun w17 => ?_)
          · have tw17 : r_13.toInt < 32 := (ti_lt rfl (by decide)).mp w17
            refine pb_aload_n (pc := 52) d_Markup_readValue_52 2 rfl rfl ?_
            refine pb_aload_n (pc := 53) d_Markup_readValue_53 2 rfl rfl ?_
            refine pb_get (pc := 54) d_Markup_readValue_54 1 7 rfl rfl (by decide) in_Markup k_326 rfl ?_
            refine pb_callV (pc := 57) (I := i_Markup_readValue) (qb := 1) (ci := 8) (nA := 1) (rest := []) (wr := [(uv, .inl (G.2.1, 24, .inl g)), (ur, .inl (G.2.1, 12000, .inl uf))]) d_Markup_readValue_57 (g_Mu_fail hl G h ui ug uv ur ct f bg a en v io hi ht a) rfl rfl [1] [0, 2] (by decide) rfl rfl rfl (by decide) (by decide) k_831 rfl k_125 k_828 k_830 k_36 ⟨rfl, hy_Markup_fail⟩ (by decide) rfl rfl (Nat.le_of_ble_eq_true rfl) (by decide) (fun v9 u19 ch18 => ?_)
            obtain ⟨f_20, rfl⟩ : ∃ z9, z9 = u19 := ⟨_, rfl⟩
            have ech18 := ch18
            have ech18 : v9 = some (.int 0) := ech18
            subst ech18
            refine pb_eq (pc' := 60) (lo' := [(3, .int r_13), (2, .int l_), (0, .ref h), (1, .int q)]) (rest' := [.int 0]) (ws' := [(uv, .inl (G.2.1, 24, .inl g)), (ur, .inl (G.2.1, 12000, .inl uf)), (h, .inr (8, [.ref ui, .ref ug, .ref uv, .ref ur, .int ct, .int f_20, .int bg, .int a, .int en, .int v, .int io, .int hi, .int ht]))]) ?_
            exact pb_iret (pc := 60) hQ d_Markup_readValue_60 rfl rfl (0, a, f_20, v, g) ⟨rfl, (by (try dsimp only); first | done | (with_reducible assumption) | omega (splitDisjunctions := false) | assumption | (clear fh9 nxB hm9; first | omega (splitDisjunctions := false) | omega) | omega | decide), (by (try dsimp only); first | done | (with_reducible assumption) | omega (splitDisjunctions := false) | assumption | (clear fh9 nxB hm9; first | omega (splitDisjunctions := false) | omega) | omega | decide), (by (try dsimp only); first | done | (with_reducible assumption) | omega (splitDisjunctions := false) | assumption | (clear fh9 nxB hm9; first | omega (splitDisjunctions := false) | omega) | omega | decide), (by (try dsimp only); first | done | (with_reducible assumption) | omega (splitDisjunctions := false) | assumption | exact fun q90 => (by clear fh9 nxB hm9; first | omega (splitDisjunctions := false) | omega) | omega | decide), (by (try dsimp only); first | done | (with_reducible assumption) | omega (splitDisjunctions := false) | assumption | (clear fh9 nxB hm9; first | omega (splitDisjunctions := false) | omega) | omega | decide), F_g⟩ [2, 1, 0] (by decide) rfl rfl (by decide) (by decide)
          · have tw17 : ¬ r_13.toInt < 32 := fun z9 => w17 ((ti_lt rfl (by decide)).mpr z9)
            refine pb_iload_n (pc := 40) d_Markup_readValue_40 0 rfl rfl ?_
            refine pb_bipush (pc := 41) (v := 126) d_Markup_readValue_41 (by decide) ?_
            refine pb_icmp_gt (pc := 43) (tgt := 52) d_Markup_readValue_43 (by decide) (fun w21 => ?_) (fun w21 => ?_)
            · have tw21 : 126 < r_13.toInt := (ti_lt (by decide) rfl).mp w21
              refine pb_aload_n (pc := 52) d_Markup_readValue_52 2 rfl rfl ?_
              refine pb_aload_n (pc := 53) d_Markup_readValue_53 2 rfl rfl ?_
              refine pb_get (pc := 54) d_Markup_readValue_54 1 7 rfl rfl (by decide) in_Markup k_326 rfl ?_
              refine pb_callV (pc := 57) (I := i_Markup_readValue) (qb := 1) (ci := 8) (nA := 1) (rest := []) (wr := [(uv, .inl (G.2.1, 24, .inl g)), (ur, .inl (G.2.1, 12000, .inl uf))]) d_Markup_readValue_57 (g_Mu_fail hl G h ui ug uv ur ct f bg a en v io hi ht a) rfl rfl [1] [0, 2] (by decide) rfl rfl rfl (by decide) (by decide) k_831 rfl k_125 k_828 k_830 k_36 ⟨rfl, hy_Markup_fail⟩ (by decide) rfl rfl (Nat.le_of_ble_eq_true rfl) (by decide) (fun v9 u23 ch22 => ?_)
              obtain ⟨f_24, rfl⟩ : ∃ z9, z9 = u23 := ⟨_, rfl⟩
              have ech22 := ch22
              have ech22 : v9 = some (.int 0) := ech22
              subst ech22
              refine pb_eq (pc' := 60) (lo' := [(3, .int r_13), (2, .int l_), (0, .ref h), (1, .int q)]) (rest' := [.int 0]) (ws' := [(uv, .inl (G.2.1, 24, .inl g)), (ur, .inl (G.2.1, 12000, .inl uf)), (h, .inr (8, [.ref ui, .ref ug, .ref uv, .ref ur, .int ct, .int f_24, .int bg, .int a, .int en, .int v, .int io, .int hi, .int ht]))]) ?_
              exact pb_iret (pc := 60) hQ d_Markup_readValue_60 rfl rfl (0, a, f_24, v, g) ⟨rfl, (by (try dsimp only); first | done | (with_reducible assumption) | omega (splitDisjunctions := false) | assumption | (clear fh9 nxB hm9; first | omega (splitDisjunctions := false) | omega) | omega | decide), (by (try dsimp only); first | done | (with_reducible assumption) | omega (splitDisjunctions := false) | assumption | (clear fh9 nxB hm9; first | omega (splitDisjunctions := false) | omega) | omega | decide), (by (try dsimp only); first | done | (with_reducible assumption) | omega (splitDisjunctions := false) | assumption | (clear fh9 nxB hm9; first | omega (splitDisjunctions := false) | omega) | omega | decide), (by (try dsimp only); first | done | (with_reducible assumption) | omega (splitDisjunctions := false) | assumption | exact fun q90 => (by clear fh9 nxB hm9; first | omega (splitDisjunctions := false) | omega) | omega | decide), (by (try dsimp only); first | done | (with_reducible assumption) | omega (splitDisjunctions := false) | assumption | (clear fh9 nxB hm9; first | omega (splitDisjunctions := false) | omega) | omega | decide), F_g⟩ [2, 1, 0] (by decide) rfl rfl (by decide) (by decide)
            · have tw21 : ¬ 126 < r_13.toInt := fun z9 => w21 ((ti_lt (by decide) rfl).mpr z9)
              refine pb_iload_n (pc := 46) d_Markup_readValue_46 0 rfl rfl ?_
              refine pb_bipush (pc := 47) (v := 60) d_Markup_readValue_47 (by decide) ?_
              refine pb_icmp_ne (pc := 49) (tgt := 61) d_Markup_readValue_49 (by decide) (fun w25 => ?_) (fun w25 => ?_)
              · have tw25 : ¬ r_13.toInt = 60 := fun z9 => w25 ((ti_eq rfl (by decide)).mpr z9)
                have nxC := nxB (by omega)
                clear nxB
                refine pb_aload_n (pc := 61) d_Markup_readValue_61 2 rfl rfl ?_
                refine pb_dup (pc := 62) d_Markup_readValue_62 rfl ?_
                refine pb_get (pc := 63) d_Markup_readValue_63 1 7 rfl rfl (by decide) in_Markup k_326 rfl ?_
                refine pb_iconst (pc := 66) (v := 1) d_Markup_readValue_66 (by decide) ?_
                refine pb_iadd (pc := 67) d_Markup_readValue_67 ?_
                refine pb_topi (fun i26 ei26 => ?_)
                try have ti26 : i26.toInt = a.toInt + 1 := t2_add ei26 rfl (by decide) (by omega)
                refine pb_put (pc := 68) (ty := .int) (ws' := [(uv, .inl (G.2.1, 24, .inl g)), (h, .inr (8, [.ref ui, .ref ug, .ref uv, .ref ur, .int ct, .int f, .int bg, .int i26, .int en, .int v, .int io, .int hi, .int ht])), (ur, .inl (G.2.1, 12000, .inl uf))]) d_Markup_readValue_68 1 7 t_Markup t_Markup_ok n_Markup rfl rfl (by decide) in_Markup k_326 rfl (by decide +kernel) rfl rfl (Nat.le_of_ble_eq_true rfl) rfl ?_
                have hJ114_27 : ∀ (b3 : Int32) (a3 : Int32) (f3 : Int32), (a.toInt + 1 ≤ a3.toInt) → (a3.toInt ≤ en.toInt) → pb_P l G M i_Markup_readValue 114 [(3, .int b3), (2, .int l_), (0, .ref h), (1, .int q)] [] [(h, .inr (8, [.ref ui, .ref ug, .ref uv, .ref ur, .int ct, .int f3, .int bg, .int a3, .int en, .int v, .int io, .int hi, .int ht])), (ur, .inl (G.2.1, 12000, .inl uf)), (uv, .inl (G.2.1, 24, .inl g))] 0 0 := by
                  intro b3 a3 f3 j0 j1
                  refine pb_aload_n (pc := 114) d_Markup_readValue_114 2 rfl rfl ?_
                  refine pb_get (pc := 115) d_Markup_readValue_115 0 9 rfl rfl (by decide) in_Markup k_328 rfl ?_
                  refine pb_bipush (pc := 118) (v := 24) d_Markup_readValue_118 (by decide) ?_
                  refine pb_icmp_ge (pc := 120) (tgt := 134) d_Markup_readValue_120 (by decide) (fun w28 => ?_) (fun w28 => ?_)
                  · have tw28 : 24 ≤ v.toInt := (ti_le (by decide) rfl).mp w28
                    refine pb_aload_n (pc := 134) d_Markup_readValue_134 2 rfl rfl ?_
                    refine pb_dup (pc := 135) d_Markup_readValue_135 rfl ?_
                    refine pb_get (pc := 136) d_Markup_readValue_136 0 9 rfl rfl (by decide) in_Markup k_328 rfl ?_
                    refine pb_iconst (pc := 139) (v := 1) d_Markup_readValue_139 (by decide) ?_
                    refine pb_iadd (pc := 140) d_Markup_readValue_140 ?_
                    refine pb_topi (fun i29 ei29 => ?_)
                    try have ti29 : i29.toInt = v.toInt + 1 := t2_add ei29 rfl (by decide) (by omega)
                    refine pb_put (pc := 141) (ty := .int) (ws' := [(h, .inr (8, [.ref ui, .ref ug, .ref uv, .ref ur, .int ct, .int f3, .int bg, .int a3, .int en, .int i29, .int io, .int hi, .int ht])), (ur, .inl (G.2.1, 12000, .inl uf)), (uv, .inl (G.2.1, 24, .inl g))]) d_Markup_readValue_141 0 9 t_Markup t_Markup_ok n_Markup rfl rfl (by decide) in_Markup k_328 rfl (by decide +kernel) rfl rfl (Nat.le_of_ble_eq_true rfl) rfl ?_
                    refine pb_iincN (pc := 144) (c := (-1)) d_Markup_readValue_144 1 rfl (by decide) (by decide) (fun i30 ei30 => ?_)
                    have ti30 : i30.toInt = l_.toInt + (-1) := t2_add ei30 rfl (by decide) (by first | omega | (have r90 := ti_rng i30; have r91 := ti_rng b3; have r92 := ti_rng q; omega))
                    refine pb_eq (pc' := 147) (lo' := [(2, .int i30), (3, .int b3), (0, .ref h), (1, .int q)]) (rest' := []) (ws' := [(h, .inr (8, [.ref ui, .ref ug, .ref uv, .ref ur, .int ct, .int f3, .int bg, .int a3, .int en, .int i29, .int io, .int hi, .int ht])), (ur, .inl (G.2.1, 12000, .inl uf)), (uv, .inl (G.2.1, 24, .inl g))]) ?_
                    refine pb_goto (pc := 147) (tgt := 15) d_Markup_readValue_147 (by decide) ?_
                    refine pb_re (ws' := [(h, .inr (8, [.ref ui, .ref ug, .ref uv, .ref ur, .int ct, .int f3, .int bg, .int a3, .int en, .int i29, .int io, .int hi, .int ht])), (ur, .inl (G.2.1, 12000, .inl uf)), (uv, .inl (G.2.1, 24, .inl g))]) (lo' := [(2, .int i30), (0, .ref h), (1, .int q)]) [0, 1, 2] [0, 2, 3] (by decide) rfl rfl rfl ?_
                    exact ih15 i30 a3 f3 i29 g (by first | (with_reducible exact F_g) | exact sb_fitU F_g (fit_nar _)) (by first | (with_reducible assumption) | omega (splitDisjunctions := false) | assumption | (clear fh9 hm9; first | omega (splitDisjunctions := false) | omega) | omega | decide) (by first | (with_reducible assumption) | omega (splitDisjunctions := false) | assumption | (clear fh9 hm9; first | omega (splitDisjunctions := false) | omega) | omega | decide) (by first | (with_reducible assumption) | omega (splitDisjunctions := false) | assumption | (clear fh9 hm9; first | omega (splitDisjunctions := false) | omega) | omega | decide) (by first | (with_reducible assumption) | omega (splitDisjunctions := false) | assumption | (clear fh9 hm9; first | omega (splitDisjunctions := false) | omega) | omega | decide) (by first | (with_reducible assumption) | omega (splitDisjunctions := false) | assumption | (clear fh9 hm9; first | omega (splitDisjunctions := false) | omega) | omega | decide) (by first | exact tn_dec hm9 (Int.not_lt.mp (by assumption)) (by assumption) | omega)
                  · have tw28 : ¬ 24 ≤ v.toInt := fun z9 => w28 ((ti_le (by decide) rfl).mpr z9)
                    refine pb_aload_n (pc := 123) d_Markup_readValue_123 2 rfl rfl ?_
                    refine pb_get (pc := 124) d_Markup_readValue_124 0 2 rfl rfl (by decide) in_Markup k_319 rfl ?_
                    refine pb_aload_n (pc := 127) d_Markup_readValue_127 2 rfl rfl ?_
                    refine pb_get (pc := 128) d_Markup_readValue_128 0 9 rfl rfl (by decide) in_Markup k_328 rfl ?_
                    refine pb_iload_n (pc := 131) d_Markup_readValue_131 0 rfl rfl ?_
                    refine pb_i2b (pc := 132) d_Markup_readValue_132 rfl ?_
                    refine pb_topi (fun i31 ei31 => ?_)
                    have ti31 : -128 ≤ i31.toInt ∧ i31.toInt ≤ 127 := ti_i2b ei31
                    refine pb_bast (pc := 133) (ws' := [(h, .inr (8, [.ref ui, .ref ug, .ref uv, .ref ur, .int ct, .int f3, .int bg, .int a3, .int en, .int v, .int io, .int hi, .int ht])), (ur, .inl (G.2.1, 12000, .inl uf)), (uv, .inl (G.2.1, 24, .inl (upd g ((v : Int32).toNatClampNeg) (vp_nar .byte i31))))]) d_Markup_readValue_133 2 rfl (vp_in_iff.mpr (by omega)) rfl ?_
                    refine pb_aload_n (pc := 134) d_Markup_readValue_134 2 rfl rfl ?_
                    refine pb_dup (pc := 135) d_Markup_readValue_135 rfl ?_
                    refine pb_get (pc := 136) d_Markup_readValue_136 0 9 rfl rfl (by decide) in_Markup k_328 rfl ?_
                    refine pb_iconst (pc := 139) (v := 1) d_Markup_readValue_139 (by decide) ?_
                    refine pb_iadd (pc := 140) d_Markup_readValue_140 ?_
                    refine pb_topi (fun i32 ei32 => ?_)
                    try have ti32 : i32.toInt = v.toInt + 1 := t2_add ei32 rfl (by decide) (by omega)
                    refine pb_put (pc := 141) (ty := .int) (ws' := [(h, .inr (8, [.ref ui, .ref ug, .ref uv, .ref ur, .int ct, .int f3, .int bg, .int a3, .int en, .int i32, .int io, .int hi, .int ht])), (ur, .inl (G.2.1, 12000, .inl uf)), (uv, .inl (G.2.1, 24, .inl (upd g ((v : Int32).toNatClampNeg) (vp_nar .byte i31))))]) d_Markup_readValue_141 0 9 t_Markup t_Markup_ok n_Markup rfl rfl (by decide) in_Markup k_328 rfl (by decide +kernel) rfl rfl (Nat.le_of_ble_eq_true rfl) rfl ?_
                    refine pb_iincN (pc := 144) (c := (-1)) d_Markup_readValue_144 1 rfl (by decide) (by decide) (fun i33 ei33 => ?_)
                    have ti33 : i33.toInt = l_.toInt + (-1) := t2_add ei33 rfl (by decide) (by first | omega | (have r90 := ti_rng i33; have r91 := ti_rng b3; have r92 := ti_rng q; omega))
                    refine pb_eq (pc' := 147) (lo' := [(2, .int i33), (3, .int b3), (0, .ref h), (1, .int q)]) (rest' := []) (ws' := [(h, .inr (8, [.ref ui, .ref ug, .ref uv, .ref ur, .int ct, .int f3, .int bg, .int a3, .int en, .int i32, .int io, .int hi, .int ht])), (ur, .inl (G.2.1, 12000, .inl uf)), (uv, .inl (G.2.1, 24, .inl (upd g ((v : Int32).toNatClampNeg) (vp_nar .byte i31))))]) ?_
                    refine pb_goto (pc := 147) (tgt := 15) d_Markup_readValue_147 (by decide) ?_
                    refine pb_re (ws' := [(h, .inr (8, [.ref ui, .ref ug, .ref uv, .ref ur, .int ct, .int f3, .int bg, .int a3, .int en, .int i32, .int io, .int hi, .int ht])), (ur, .inl (G.2.1, 12000, .inl uf)), (uv, .inl (G.2.1, 24, .inl (upd g ((v : Int32).toNatClampNeg) (vp_nar .byte i31))))]) (lo' := [(2, .int i33), (0, .ref h), (1, .int q)]) [0, 1, 2] [0, 2, 3] (by decide) rfl rfl rfl ?_
                    exact ih15 i33 a3 f3 i32 (upd g ((v : Int32).toNatClampNeg) (vp_nar .byte i31)) (by first | (with_reducible exact F_g) | exact sb_fitU F_g (fit_nar _)) (by first | (with_reducible assumption) | omega (splitDisjunctions := false) | assumption | (clear fh9 hm9; first | omega (splitDisjunctions := false) | omega) | omega | decide) (by first | (with_reducible assumption) | omega (splitDisjunctions := false) | assumption | (clear fh9 hm9; first | omega (splitDisjunctions := false) | omega) | omega | decide) (by first | (with_reducible assumption) | omega (splitDisjunctions := false) | assumption | (clear fh9 hm9; first | omega (splitDisjunctions := false) | omega) | omega | decide) (by first | (with_reducible assumption) | omega (splitDisjunctions := false) | assumption | (clear fh9 hm9; first | omega (splitDisjunctions := false) | omega) | omega | decide) (by first | (with_reducible assumption) | omega (splitDisjunctions := false) | assumption | (clear fh9 hm9; first | omega (splitDisjunctions := false) | omega) | omega | decide) (by first | exact tn_dec hm9 (Int.not_lt.mp (by assumption)) (by assumption) | omega)
                refine pb_iload_n (pc := 71) d_Markup_readValue_71 0 rfl rfl ?_
                refine pb_bipush (pc := 72) (v := 38) d_Markup_readValue_72 (by decide) ?_
                refine pb_icmp_ne (pc := 74) (tgt := 114) d_Markup_readValue_74 (by decide) (fun w34 => ?_) (fun w34 => ?_)
                · have tw34 : ¬ r_13.toInt = 38 := fun z9 => w34 ((ti_eq rfl (by decide)).mpr z9)
                  refine pb_re (ws' := [(h, .inr (8, [.ref ui, .ref ug, .ref uv, .ref ur, .int ct, .int f, .int bg, .int i26, .int en, .int v, .int io, .int hi, .int ht])), (ur, .inl (G.2.1, 12000, .inl uf)), (uv, .inl (G.2.1, 24, .inl g))]) (lo' := [(3, .int r_13), (2, .int l_), (0, .ref h), (1, .int q)]) [1, 2, 0] [0, 1, 2, 3] (by decide) rfl rfl rfl ?_
                  exact hJ114_27 r_13 i26 f (by first | (with_reducible assumption) | omega (splitDisjunctions := false) | assumption | (clear fh9 hm9; first | omega (splitDisjunctions := false) | omega) | omega | decide) (by first | (with_reducible assumption) | omega (splitDisjunctions := false) | assumption | (clear fh9 hm9; first | omega (splitDisjunctions := false) | omega) | omega | decide)
                · have tw34 : r_13.toInt = 38 := (ti_eq rfl (by decide)).mp w34
                  refine pb_aload_n (pc := 77) d_Markup_readValue_77 2 rfl rfl ?_
                  refine pb_iconst (pc := 78) (v := 0) d_Markup_readValue_78 (by decide) ?_
                  refine pb_callV (pc := 79) (I := i_Markup_readValue) (qb := 1) (ci := 8) (nA := 1) (rest := []) (wr := [(uv, .inl (G.2.1, 24, .inl g))]) d_Markup_readValue_79 (g_Mu_next hl G h ui ug uv ur ct f bg i26 en v io hi ht uf 0 (by first | (with_reducible assumption) | omega (splitDisjunctions := false) | assumption | (clear fh9 hm9; first | omega (splitDisjunctions := false) | omega) | omega | decide) (by first | (with_reducible assumption) | omega (splitDisjunctions := false) | assumption | (clear fh9 hm9; first | omega (splitDisjunctions := false) | omega) | omega | decide) (by first | (with_reducible assumption) | omega (splitDisjunctions := false) | assumption | (clear fh9 hm9; first | omega (splitDisjunctions := false) | omega) | omega | decide) (by first | (with_reducible assumption) | omega (splitDisjunctions := false) | assumption | (clear fh9 hm9; first | omega (splitDisjunctions := false) | omega) | omega | decide) (by first | (with_reducible assumption) | omega (splitDisjunctions := false) | assumption | (clear fh9 hm9; first | omega (splitDisjunctions := false) | omega) | omega | decide) F_uf) rfl rfl [1, 2] [0] (by decide) rfl rfl rfl (by decide) (by decide) k_813 rfl k_125 k_810 k_812 k_33 ⟨rfl, hy_Markup_next⟩ (by decide) rfl rfl (Nat.le_of_ble_eq_true rfl) (by decide) (fun v9 u36 ch35 => ?_)
                  obtain ⟨r_37, rfl⟩ : ∃ z9, z9 = u36 := ⟨_, rfl⟩
                  obtain ⟨ech35, ch35⟩ := ch35
                  have ech35 : v9 = some (.int r_37) := ech35
                  subst ech35
                  obtain ⟨fh38, fh39, fh40⟩ : (-1 ≤ r_37.toInt) ∧ (r_37.toInt ≤ 255) ∧ (0 ≤ r_37.toInt → i26.toInt + (0 : Int32).toInt < en.toInt) := ch35
                  refine pb_eq (pc' := 82) (lo' := [(3, .int r_13), (2, .int l_), (0, .ref h), (1, .int q)]) (rest' := [.int r_37]) (ws' := [(uv, .inl (G.2.1, 24, .inl g)), (h, .inr (8, [.ref ui, .ref ug, .ref uv, .ref ur, .int ct, .int f, .int bg, .int i26, .int en, .int v, .int io, .int hi, .int ht])), (ur, .inl (G.2.1, 12000, .inl uf))]) ?_
                  refine pb_bipush (pc := 82) (v := 35) d_Markup_readValue_82 (by decide) ?_
                  refine pb_icmp_ne (pc := 84) (tgt := 94) d_Markup_readValue_84 (by decide) (fun w41 => ?_) (fun w41 => ?_)
                  · have tw41 : ¬ r_37.toInt = 35 := fun z9 => w41 ((ti_eq rfl (by decide)).mpr z9)
                    refine pb_aload_n (pc := 94) d_Markup_readValue_94 2 rfl rfl ?_
                    refine pb_callV (pc := 95) (I := i_Markup_readValue) (qb := 1) (ci := 8) (nA := 0) (rest := []) (wr := [(uv, .inl (G.2.1, 24, .inl g))]) d_Markup_readValue_95 (g_Mu_readNamed hl G h ui ug uv ur ct f bg i26 en v io hi ht uf (by first | (with_reducible assumption) | omega (splitDisjunctions := false) | assumption | (clear fh9 fh40 hm9; first | omega (splitDisjunctions := false) | omega) | omega | decide) (by first | (with_reducible assumption) | omega (splitDisjunctions := false) | assumption | (clear fh9 fh40 hm9; first | omega (splitDisjunctions := false) | omega) | omega | decide) (by first | (with_reducible assumption) | omega (splitDisjunctions := false) | assumption | (clear fh9 fh40 hm9; first | omega (splitDisjunctions := false) | omega) | omega | decide) F_uf) rfl rfl [1, 2] [0] (by decide) rfl rfl rfl (by decide) (by decide) k_871 rfl k_125 k_868 k_870 k_44 ⟨rfl, hy_Markup_readNamed⟩ (by decide) rfl rfl (Nat.le_of_ble_eq_true rfl) (by decide) (fun v9 u43 ch42 => ?_)
                    obtain ⟨r_44, at_45, f_46⟩ := u43
                    obtain ⟨ech42, ch42⟩ := ch42
                    have ech42 : v9 = some (.int r_44) := ech42
                    subst ech42
                    obtain ⟨fh47, fh48, fh49, fh50⟩ : (i26.toInt ≤ at_45.toInt) ∧ (at_45.toInt ≤ en.toInt) ∧ (-1 ≤ r_44.toInt) ∧ (r_44.toInt ≤ 126) := ch42
                    refine pb_eq (pc' := 98) (lo' := [(3, .int r_13), (2, .int l_), (0, .ref h), (1, .int q)]) (rest' := [.int r_44]) (ws' := [(uv, .inl (G.2.1, 24, .inl g)), (h, .inr (8, [.ref ui, .ref ug, .ref uv, .ref ur, .int ct, .int f_46, .int bg, .int at_45, .int en, .int v, .int io, .int hi, .int ht])), (ur, .inl (G.2.1, 12000, .inl uf))]) ?_
                    refine pb_istore_n (pc := 98) (lo' := [(3, .int r_44), (2, .int l_), (0, .ref h), (1, .int q)]) d_Markup_readValue_98 rfl (by decide) rfl ?_
                    refine pb_iload_n (pc := 99) d_Markup_readValue_99 0 rfl rfl ?_
                    refine pb_if_lt (pc := 100) (tgt := 112) d_Markup_readValue_100 (by decide) (fun w51 => ?_) (fun w51 => ?_)
                    · have tw51 : r_44.toInt < 0 := (ti_lt rfl (by decide)).mp w51
                      refine pb_iconst (pc := 112) (v := 0) d_Markup_readValue_112 (by decide) ?_
                      exact pb_iret (pc := 113) hQ d_Markup_readValue_113 rfl rfl (0, at_45, f_46, v, g) ⟨rfl, (by (try dsimp only); first | done | (with_reducible assumption) | omega (splitDisjunctions := false) | assumption | (clear fh9 fh40 hm9; first | omega (splitDisjunctions := false) | omega) | omega | decide), (by (try dsimp only); first | done | (with_reducible assumption) | omega (splitDisjunctions := false) | assumption | (clear fh9 fh40 hm9; first | omega (splitDisjunctions := false) | omega) | omega | decide), (by (try dsimp only); first | done | (with_reducible assumption) | omega (splitDisjunctions := false) | assumption | (clear fh9 fh40 hm9; first | omega (splitDisjunctions := false) | omega) | omega | decide), (by (try dsimp only); first | done | (with_reducible assumption) | omega (splitDisjunctions := false) | assumption | exact fun q90 => (by clear fh9 fh40 hm9; first | omega (splitDisjunctions := false) | omega) | omega | decide), (by (try dsimp only); first | done | (with_reducible assumption) | omega (splitDisjunctions := false) | assumption | (clear fh9 fh40 hm9; first | omega (splitDisjunctions := false) | omega) | omega | decide), F_g⟩ [1, 2, 0] (by decide) rfl rfl (by decide) (by decide)
                    · have tw51 : ¬ r_44.toInt < 0 := fun z9 => w51 ((ti_lt rfl (by decide)).mpr z9)
                      refine pb_aload_n (pc := 103) d_Markup_readValue_103 2 rfl rfl ?_
                      refine pb_ldcS (pc := 104) (k := 15) d_Markup_readValue_104 rfl (by decide) ?_
                      refine pb_callV (pc := 106) (I := i_Markup_readValue) (qb := 1) (ci := 8) (nA := 1) (rest := []) (wr := [(uv, .inl (G.2.1, 24, .inl g))]) d_Markup_readValue_106 (g_Mu_takeText hl G h ui ug uv ur ct f_46 bg at_45 en v io hi ht uf 15 (by first | (with_reducible assumption) | omega (splitDisjunctions := false) | assumption | (clear fh9 fh40 hm9; first | omega (splitDisjunctions := false) | omega) | omega | decide) (by first | (with_reducible assumption) | omega (splitDisjunctions := false) | assumption | (clear fh9 fh40 hm9; first | omega (splitDisjunctions := false) | omega) | omega | decide) (by first | (with_reducible assumption) | omega (splitDisjunctions := false) | assumption | (clear fh9 fh40 hm9; first | omega (splitDisjunctions := false) | omega) | omega | decide) (by first | assumption | decide | omega) F_uf) rfl rfl [1, 2] [0] (by decide) rfl rfl rfl (by decide) (by decide) k_825 rfl k_125 k_822 k_824 k_35 ⟨rfl, hy_Markup_takeText⟩ (by decide) rfl rfl (Nat.le_of_ble_eq_true rfl) (by decide) (fun v9 u53 ch52 => ?_)
                      obtain ⟨r_54, at_55, f_56⟩ := u53
                      obtain ⟨ech52, ch52⟩ := ch52
                      have ech52 : v9 = some (.int r_54) := ech52
                      subst ech52
                      obtain ⟨fh57, fh58, fh59⟩ : (r_54.toInt = 0 ∨ r_54.toInt = 1) ∧ (at_45.toInt ≤ at_55.toInt) ∧ (at_55.toInt ≤ en.toInt) := ch52
                      refine pb_eq (pc' := 109) (lo' := [(3, .int r_44), (2, .int l_), (0, .ref h), (1, .int q)]) (rest' := [.int r_54]) (ws' := [(uv, .inl (G.2.1, 24, .inl g)), (h, .inr (8, [.ref ui, .ref ug, .ref uv, .ref ur, .int ct, .int f_56, .int bg, .int at_55, .int en, .int v, .int io, .int hi, .int ht])), (ur, .inl (G.2.1, 12000, .inl uf))]) ?_
                      refine pb_if_ne (pc := 109) (tgt := 114) d_Markup_readValue_109 (by decide) (fun w60 => ?_) (fun w60 => ?_)
                      · have tw60 : ¬ r_54.toInt = 0 := fun z9 => w60 ((ti_eq rfl (by decide)).mpr z9)
                        refine pb_re (ws' := [(h, .inr (8, [.ref ui, .ref ug, .ref uv, .ref ur, .int ct, .int f_56, .int bg, .int at_55, .int en, .int v, .int io, .int hi, .int ht])), (ur, .inl (G.2.1, 12000, .inl uf)), (uv, .inl (G.2.1, 24, .inl g))]) (lo' := [(3, .int r_44), (2, .int l_), (0, .ref h), (1, .int q)]) [1, 2, 0] [0, 1, 2, 3] (by decide) rfl rfl rfl ?_
                        exact hJ114_27 r_44 at_55 f_56 (by first | (with_reducible assumption) | omega (splitDisjunctions := false) | assumption | (clear fh9 fh40 hm9; first | omega (splitDisjunctions := false) | omega) | omega | decide) (by first | (with_reducible assumption) | omega (splitDisjunctions := false) | assumption | (clear fh9 fh40 hm9; first | omega (splitDisjunctions := false) | omega) | omega | decide)
                      · have tw60 : r_54.toInt = 0 := (ti_eq rfl (by decide)).mp w60
                        refine pb_iconst (pc := 112) (v := 0) d_Markup_readValue_112 (by decide) ?_
                        exact pb_iret (pc := 113) hQ d_Markup_readValue_113 rfl rfl (0, at_55, f_56, v, g) ⟨rfl, (by (try dsimp only); first | done | (with_reducible assumption) | omega (splitDisjunctions := false) | assumption | (clear fh9 fh40 hm9; first | omega (splitDisjunctions := false) | omega) | omega | decide), (by (try dsimp only); first | done | (with_reducible assumption) | omega (splitDisjunctions := false) | assumption | (clear fh9 fh40 hm9; first | omega (splitDisjunctions := false) | omega) | omega | decide), (by (try dsimp only); first | done | (with_reducible assumption) | omega (splitDisjunctions := false) | assumption | (clear fh9 fh40 hm9; first | omega (splitDisjunctions := false) | omega) | omega | decide), (by (try dsimp only); first | done | (with_reducible assumption) | omega (splitDisjunctions := false) | assumption | exact fun q90 => (by clear fh9 fh40 hm9; first | omega (splitDisjunctions := false) | omega) | omega | decide), (by (try dsimp only); first | done | (with_reducible assumption) | omega (splitDisjunctions := false) | assumption | (clear fh9 fh40 hm9; first | omega (splitDisjunctions := false) | omega) | omega | decide), F_g⟩ [1, 2, 0] (by decide) rfl rfl (by decide) (by decide)
                  · have tw41 : r_37.toInt = 35 := (ti_eq rfl (by decide)).mp w41
                    refine pb_aload_n (pc := 87) d_Markup_readValue_87 2 rfl rfl ?_
                    refine pb_callV (pc := 88) (I := i_Markup_readValue) (qb := 1) (ci := 8) (nA := 0) (rest := []) (wr := [(uv, .inl (G.2.1, 24, .inl g))]) d_Markup_readValue_88 (g_Mu_readNumber hl G h ui ug uv ur ct f bg i26 en v io hi ht uf (by first | (with_reducible assumption) | omega (splitDisjunctions := false) | assumption | (clear fh9 fh40 hm9; first | omega (splitDisjunctions := false) | omega) | omega | decide) (by first | (with_reducible assumption) | omega (splitDisjunctions := false) | assumption | (clear fh9 fh40 hm9; first | omega (splitDisjunctions := false) | omega) | omega | decide) (by first | (with_reducible assumption) | omega (splitDisjunctions := false) | assumption | (clear fh9 fh40 hm9; first | omega (splitDisjunctions := false) | omega) | omega | decide) (by first | (with_reducible assumption) | omega (splitDisjunctions := false) | assumption | (clear fh9 fh40 hm9; first | omega (splitDisjunctions := false) | omega) | omega | decide) F_uf) rfl rfl [1, 2] [0] (by decide) rfl rfl rfl (by decide) (by decide) k_867 rfl k_125 k_864 k_866 k_43 ⟨rfl, hy_Markup_readNumber⟩ (by decide) rfl rfl (Nat.le_of_ble_eq_true rfl) (by decide) (fun v9 u62 ch61 => ?_)
                    obtain ⟨r_63, at_64, f_65⟩ := u62
                    obtain ⟨ech61, ch61⟩ := ch61
                    have ech61 : v9 = some (.int r_63) := ech61
                    subst ech61
                    obtain ⟨fh66, fh67, fh68, fh69⟩ : (i26.toInt ≤ at_64.toInt) ∧ (at_64.toInt ≤ en.toInt) ∧ (-1 ≤ r_63.toInt) ∧ (r_63.toInt ≤ 126) := ch61
                    refine pb_eq (pc' := 91) (lo' := [(3, .int r_13), (2, .int l_), (0, .ref h), (1, .int q)]) (rest' := [.int r_63]) (ws' := [(uv, .inl (G.2.1, 24, .inl g)), (h, .inr (8, [.ref ui, .ref ug, .ref uv, .ref ur, .int ct, .int f_65, .int bg, .int at_64, .int en, .int v, .int io, .int hi, .int ht])), (ur, .inl (G.2.1, 12000, .inl uf))]) ?_
                    refine pb_goto (pc := 91) (tgt := 98) d_Markup_readValue_91 (by decide) ?_
                    refine pb_istore_n (pc := 98) (lo' := [(3, .int r_63), (2, .int l_), (0, .ref h), (1, .int q)]) d_Markup_readValue_98 rfl (by decide) rfl ?_
                    refine pb_iload_n (pc := 99) d_Markup_readValue_99 0 rfl rfl ?_
                    refine pb_if_lt (pc := 100) (tgt := 112) d_Markup_readValue_100 (by decide) (fun w70 => ?_) (fun w70 => ?_)
                    · have tw70 : r_63.toInt < 0 := (ti_lt rfl (by decide)).mp w70
                      refine pb_iconst (pc := 112) (v := 0) d_Markup_readValue_112 (by decide) ?_
                      exact pb_iret (pc := 113) hQ d_Markup_readValue_113 rfl rfl (0, at_64, f_65, v, g) ⟨rfl, (by (try dsimp only); first | done | (with_reducible assumption) | omega (splitDisjunctions := false) | assumption | (clear fh9 fh40 hm9; first | omega (splitDisjunctions := false) | omega) | omega | decide), (by (try dsimp only); first | done | (with_reducible assumption) | omega (splitDisjunctions := false) | assumption | (clear fh9 fh40 hm9; first | omega (splitDisjunctions := false) | omega) | omega | decide), (by (try dsimp only); first | done | (with_reducible assumption) | omega (splitDisjunctions := false) | assumption | (clear fh9 fh40 hm9; first | omega (splitDisjunctions := false) | omega) | omega | decide), (by (try dsimp only); first | done | (with_reducible assumption) | omega (splitDisjunctions := false) | assumption | exact fun q90 => (by clear fh9 fh40 hm9; first | omega (splitDisjunctions := false) | omega) | omega | decide), (by (try dsimp only); first | done | (with_reducible assumption) | omega (splitDisjunctions := false) | assumption | (clear fh9 fh40 hm9; first | omega (splitDisjunctions := false) | omega) | omega | decide), F_g⟩ [1, 2, 0] (by decide) rfl rfl (by decide) (by decide)
                    · have tw70 : ¬ r_63.toInt < 0 := fun z9 => w70 ((ti_lt rfl (by decide)).mpr z9)
                      refine pb_aload_n (pc := 103) d_Markup_readValue_103 2 rfl rfl ?_
                      refine pb_ldcS (pc := 104) (k := 15) d_Markup_readValue_104 rfl (by decide) ?_
                      refine pb_callV (pc := 106) (I := i_Markup_readValue) (qb := 1) (ci := 8) (nA := 1) (rest := []) (wr := [(uv, .inl (G.2.1, 24, .inl g))]) d_Markup_readValue_106 (g_Mu_takeText hl G h ui ug uv ur ct f_65 bg at_64 en v io hi ht uf 15 (by first | (with_reducible assumption) | omega (splitDisjunctions := false) | assumption | (clear fh9 fh40 hm9; first | omega (splitDisjunctions := false) | omega) | omega | decide) (by first | (with_reducible assumption) | omega (splitDisjunctions := false) | assumption | (clear fh9 fh40 hm9; first | omega (splitDisjunctions := false) | omega) | omega | decide) (by first | (with_reducible assumption) | omega (splitDisjunctions := false) | assumption | (clear fh9 fh40 hm9; first | omega (splitDisjunctions := false) | omega) | omega | decide) (by first | assumption | decide | omega) F_uf) rfl rfl [1, 2] [0] (by decide) rfl rfl rfl (by decide) (by decide) k_825 rfl k_125 k_822 k_824 k_35 ⟨rfl, hy_Markup_takeText⟩ (by decide) rfl rfl (Nat.le_of_ble_eq_true rfl) (by decide) (fun v9 u72 ch71 => ?_)
                      obtain ⟨r_73, at_74, f_75⟩ := u72
                      obtain ⟨ech71, ch71⟩ := ch71
                      have ech71 : v9 = some (.int r_73) := ech71
                      subst ech71
                      obtain ⟨fh76, fh77, fh78⟩ : (r_73.toInt = 0 ∨ r_73.toInt = 1) ∧ (at_64.toInt ≤ at_74.toInt) ∧ (at_74.toInt ≤ en.toInt) := ch71
                      refine pb_eq (pc' := 109) (lo' := [(3, .int r_63), (2, .int l_), (0, .ref h), (1, .int q)]) (rest' := [.int r_73]) (ws' := [(uv, .inl (G.2.1, 24, .inl g)), (h, .inr (8, [.ref ui, .ref ug, .ref uv, .ref ur, .int ct, .int f_75, .int bg, .int at_74, .int en, .int v, .int io, .int hi, .int ht])), (ur, .inl (G.2.1, 12000, .inl uf))]) ?_
                      refine pb_if_ne (pc := 109) (tgt := 114) d_Markup_readValue_109 (by decide) (fun w79 => ?_) (fun w79 => ?_)
                      · have tw79 : ¬ r_73.toInt = 0 := fun z9 => w79 ((ti_eq rfl (by decide)).mpr z9)
                        refine pb_re (ws' := [(h, .inr (8, [.ref ui, .ref ug, .ref uv, .ref ur, .int ct, .int f_75, .int bg, .int at_74, .int en, .int v, .int io, .int hi, .int ht])), (ur, .inl (G.2.1, 12000, .inl uf)), (uv, .inl (G.2.1, 24, .inl g))]) (lo' := [(3, .int r_63), (2, .int l_), (0, .ref h), (1, .int q)]) [1, 2, 0] [0, 1, 2, 3] (by decide) rfl rfl rfl ?_
                        exact hJ114_27 r_63 at_74 f_75 (by first | (with_reducible assumption) | omega (splitDisjunctions := false) | assumption | (clear fh9 fh40 hm9; first | omega (splitDisjunctions := false) | omega) | omega | decide) (by first | (with_reducible assumption) | omega (splitDisjunctions := false) | assumption | (clear fh9 fh40 hm9; first | omega (splitDisjunctions := false) | omega) | omega | decide)
                      · have tw79 : r_73.toInt = 0 := (ti_eq rfl (by decide)).mp w79
                        refine pb_iconst (pc := 112) (v := 0) d_Markup_readValue_112 (by decide) ?_
                        exact pb_iret (pc := 113) hQ d_Markup_readValue_113 rfl rfl (0, at_74, f_75, v, g) ⟨rfl, (by (try dsimp only); first | done | (with_reducible assumption) | omega (splitDisjunctions := false) | assumption | (clear fh9 fh40 hm9; first | omega (splitDisjunctions := false) | omega) | omega | decide), (by (try dsimp only); first | done | (with_reducible assumption) | omega (splitDisjunctions := false) | assumption | (clear fh9 fh40 hm9; first | omega (splitDisjunctions := false) | omega) | omega | decide), (by (try dsimp only); first | done | (with_reducible assumption) | omega (splitDisjunctions := false) | assumption | (clear fh9 fh40 hm9; first | omega (splitDisjunctions := false) | omega) | omega | decide), (by (try dsimp only); first | done | (with_reducible assumption) | omega (splitDisjunctions := false) | assumption | exact fun q90 => (by clear fh9 fh40 hm9; first | omega (splitDisjunctions := false) | omega) | omega | decide), (by (try dsimp only); first | done | (with_reducible assumption) | omega (splitDisjunctions := false) | assumption | (clear fh9 fh40 hm9; first | omega (splitDisjunctions := false) | omega) | omega | decide), F_g⟩ [1, 2, 0] (by decide) rfl rfl (by decide) (by decide)
              · have tw25 : r_13.toInt = 60 := (ti_eq rfl (by decide)).mp w25
                refine pb_aload_n (pc := 52) d_Markup_readValue_52 2 rfl rfl ?_
                refine pb_aload_n (pc := 53) d_Markup_readValue_53 2 rfl rfl ?_
                refine pb_get (pc := 54) d_Markup_readValue_54 1 7 rfl rfl (by decide) in_Markup k_326 rfl ?_
                refine pb_callV (pc := 57) (I := i_Markup_readValue) (qb := 1) (ci := 8) (nA := 1) (rest := []) (wr := [(uv, .inl (G.2.1, 24, .inl g)), (ur, .inl (G.2.1, 12000, .inl uf))]) d_Markup_readValue_57 (g_Mu_fail hl G h ui ug uv ur ct f bg a en v io hi ht a) rfl rfl [1] [0, 2] (by decide) rfl rfl rfl (by decide) (by decide) k_831 rfl k_125 k_828 k_830 k_36 ⟨rfl, hy_Markup_fail⟩ (by decide) rfl rfl (Nat.le_of_ble_eq_true rfl) (by decide) (fun v9 u81 ch80 => ?_)
                obtain ⟨f_82, rfl⟩ : ∃ z9, z9 = u81 := ⟨_, rfl⟩
                have ech80 := ch80
                have ech80 : v9 = some (.int 0) := ech80
                subst ech80
                refine pb_eq (pc' := 60) (lo' := [(3, .int r_13), (2, .int l_), (0, .ref h), (1, .int q)]) (rest' := [.int 0]) (ws' := [(uv, .inl (G.2.1, 24, .inl g)), (ur, .inl (G.2.1, 12000, .inl uf)), (h, .inr (8, [.ref ui, .ref ug, .ref uv, .ref ur, .int ct, .int f_82, .int bg, .int a, .int en, .int v, .int io, .int hi, .int ht]))]) ?_
                exact pb_iret (pc := 60) hQ d_Markup_readValue_60 rfl rfl (0, a, f_82, v, g) ⟨rfl, (by (try dsimp only); first | done | (with_reducible assumption) | omega (splitDisjunctions := false) | assumption | (clear fh9 nxB hm9; first | omega (splitDisjunctions := false) | omega) | omega | decide), (by (try dsimp only); first | done | (with_reducible assumption) | omega (splitDisjunctions := false) | assumption | (clear fh9 nxB hm9; first | omega (splitDisjunctions := false) | omega) | omega | decide), (by (try dsimp only); first | done | (with_reducible assumption) | omega (splitDisjunctions := false) | assumption | (clear fh9 nxB hm9; first | omega (splitDisjunctions := false) | omega) | omega | decide), (by (try dsimp only); first | done | (with_reducible assumption) | omega (splitDisjunctions := false) | assumption | exact fun q90 => (by clear fh9 nxB hm9; first | omega (splitDisjunctions := false) | omega) | omega | decide), (by (try dsimp only); first | done | (with_reducible assumption) | omega (splitDisjunctions := false) | assumption | (clear fh9 nxB hm9; first | omega (splitDisjunctions := false) | omega) | omega | decide), F_g⟩ [2, 1, 0] (by decide) rfl rfl (by decide) (by decide)
  exact hL15_2 _ i1 at_ fa 0 vf F_vf (by first | (with_reducible assumption) | omega (splitDisjunctions := false) | assumption | omega | decide) (by first | (with_reducible assumption) | omega (splitDisjunctions := false) | assumption | omega | decide) (by first | (with_reducible assumption) | omega (splitDisjunctions := false) | assumption | omega | decide) (by first | (with_reducible assumption) | omega (splitDisjunctions := false) | assumption | omega | decide) (by first | (with_reducible assumption) | omega (splitDisjunctions := false) | assumption | omega | decide) (Nat.lt_succ_self _)
