theorem d_Markup_isElementNext_0 : decode prog_7_method_7_code 0 = .ok (.aload_n 0, 1) := by decide +kernel
theorem d_Markup_isElementNext_1 : decode prog_7_method_7_code 1 = .ok (.getfield 83, 3) := by decide +kernel
theorem k_329 : (Jvm.Cond.fieldLink "PackageBook$Markup" (83 : Nat) "PackageBook$Markup" "isOpen" "Z") ∈ uW := uW_of 329 (by decide +kernel) (by decide +kernel)
theorem d_Markup_isElementNext_4 : decode prog_7_method_7_code 4 = .ok (.ifCond .eq 27, 3) := by decide +kernel
theorem d_Markup_isElementNext_31 : decode prog_7_method_7_code 31 = .ok (.iconst 0, 1) := by decide +kernel
theorem d_Markup_isElementNext_32 : decode prog_7_method_7_code 32 = .ok (.ireturn, 1) := by decide +kernel
theorem d_Markup_isElementNext_7 : decode prog_7_method_7_code 7 = .ok (.aload_n 0, 1) := by decide +kernel
theorem d_Markup_isElementNext_8 : decode prog_7_method_7_code 8 = .ok (.iconst 0, 1) := by decide +kernel
theorem d_Markup_isElementNext_9 : decode prog_7_method_7_code 9 = .ok (.invokevirtual 80, 3) := by decide +kernel
theorem d_Markup_isElementNext_12 : decode prog_7_method_7_code 12 = .ok (.bipush 60, 2) := by decide +kernel
theorem d_Markup_isElementNext_14 : decode prog_7_method_7_code 14 = .ok (.if_icmp .ne 17, 3) := by decide +kernel
theorem d_Markup_isElementNext_17 : decode prog_7_method_7_code 17 = .ok (.aload_n 0, 1) := by decide +kernel
theorem d_Markup_isElementNext_18 : decode prog_7_method_7_code 18 = .ok (.iconst 1, 1) := by decide +kernel
theorem d_Markup_isElementNext_19 : decode prog_7_method_7_code 19 = .ok (.invokevirtual 80, 3) := by decide +kernel
theorem d_Markup_isElementNext_22 : decode prog_7_method_7_code 22 = .ok (.bipush 47, 2) := by decide +kernel
theorem d_Markup_isElementNext_24 : decode prog_7_method_7_code 24 = .ok (.if_icmp .eq 7, 3) := by decide +kernel
theorem d_Markup_isElementNext_27 : decode prog_7_method_7_code 27 = .ok (.iconst 1, 1) := by decide +kernel
theorem d_Markup_isElementNext_28 : decode prog_7_method_7_code 28 = .ok (.goto 4, 3) := by decide +kernel
abbrev y_Markup_isElementNext : MethodName := ⟨"PackageBook$Markup", "isElementNext", "()Z"⟩
abbrev i_Markup_isElementNext : pb_I := (y_Markup_isElementNext, prog_7_method_7_code, 1, (some Jvm.ClassFile.FieldType.boolean), [], { frames := 1, cells := 0, slots := 0, locals := 21 })
set_option maxRecDepth 100000 in
set_option maxHeartbeats 4000000 in
theorem g_Mu_isElementNext {l : Launch} (hl : l.stackTraces = false) (G : pb_G) (h : Nat) (ui : Nat) (ug : Nat) (uv : Nat) (ur : Nat) (ct : Int32) (fa : Int32) (bg : Int32) (at_ : Int32) (en : Int32) (vs : Int32) (io : Int32) (hi : Int32) (ht : Int32) (uf : Nat → Int32) (a0 : 0 ≤ at_.toInt) (a1 : at_.toInt ≤ en.toInt) (a2 : en.toInt ≤ 12000) (F_uf : sb_Fit uf) : Cn l G i_Markup_isElementNext [.ref h] [(h, .inr (8, [.ref ui, .ref ug, .ref uv, .ref ur, .int ct, .int fa, .int bg, .int at_, .int en, .int vs, .int io, .int hi, .int ht])), (ur, .inl (G.2.1, 12000, .inl uf))] (S := Int32) (fun rv_ u => rv_ = some (.int u) ∧ (u.toInt = 0 ∨ u.toInt = 1)) (fun u => [(h, .inr (8, [.ref ui, .ref ug, .ref uv, .ref ur, .int ct, .int fa, .int bg, .int at_, .int en, .int vs, .int io, .int hi, .int ht])), (ur, .inl (G.2.1, 12000, .inl uf))]) := by
  refine Cn.of hl (by decide +kernel) rfl (Nat.le_of_ble_eq_true rfl) (fun M hQ => ?_)
  refine pb_eq (pc' := 0) (lo' := [(0, .ref h)]) (rest' := []) (ws' := [(h, .inr (8, [.ref ui, .ref ug, .ref uv, .ref ur, .int ct, .int fa, .int bg, .int at_, .int en, .int vs, .int io, .int hi, .int ht])), (ur, .inl (G.2.1, 12000, .inl uf))]) ?_
  have zl0 : (0 : Int32).toInt = 0 := by decide
  have zl1 : (1 : Int32).toInt = 1 := by decide
  refine pb_aload_n (pc := 0) d_Markup_isElementNext_0 0 rfl rfl ?_
  refine pb_get (pc := 1) d_Markup_isElementNext_1 0 10 rfl rfl (by decide) in_Markup k_329 rfl ?_
  refine pb_if_eq (pc := 4) (tgt := 31) d_Markup_isElementNext_4 (by decide) (fun w1 => ?_) (fun w1 => ?_)
  · have tw1 : io.toInt = 0 := (ti_eq rfl (by decide)).mp w1
    refine pb_iconst (pc := 31) (v := 0) d_Markup_isElementNext_31 (by decide) ?_
    exact pb_iret (pc := 32) hQ d_Markup_isElementNext_32 rfl rfl (0) ⟨rfl, (by (try dsimp only); first | done | (with_reducible assumption) | omega (splitDisjunctions := false) | assumption | omega | decide)⟩ [0, 1] (by decide) rfl rfl (by decide) (by decide)
  · have tw1 : ¬ io.toInt = 0 := fun z9 => w1 ((ti_eq rfl (by decide)).mpr z9)
    refine pb_aload_n (pc := 7) d_Markup_isElementNext_7 0 rfl rfl ?_
    refine pb_iconst (pc := 8) (v := 0) d_Markup_isElementNext_8 (by decide) ?_
    refine pb_callV (pc := 9) (I := i_Markup_isElementNext) (qb := 0) (ci := 8) (nA := 1) (rest := []) (wr := []) d_Markup_isElementNext_9 (g_Mu_next hl G h ui ug uv ur ct fa bg at_ en vs io hi ht uf 0 (by first | (with_reducible assumption) | omega (splitDisjunctions := false) | assumption | omega | decide) (by first | (with_reducible assumption) | omega (splitDisjunctions := false) | assumption | omega | decide) (by first | (with_reducible assumption) | omega (splitDisjunctions := false) | assumption | omega | decide) (by first | (with_reducible assumption) | omega (splitDisjunctions := false) | assumption | omega | decide) (by first | (with_reducible assumption) | omega (splitDisjunctions := false) | assumption | omega | decide) F_uf) rfl rfl [0, 1] [] (by decide) rfl rfl rfl (by decide) (by decide) k_813 rfl k_125 k_810 k_812 k_33 ⟨rfl, hy_Markup_next⟩ (by decide) rfl rfl (Nat.le_of_ble_eq_true rfl) (by decide) (fun v9 u3 ch2 => ?_)
    obtain ⟨r_4, rfl⟩ : ∃ z9, z9 = u3 := ⟨_, rfl⟩
    obtain ⟨ech2, ch2⟩ := ch2
    have ech2 : v9 = some (.int r_4) := ech2
    subst ech2
    obtain ⟨fh5, fh6, fh7⟩ : (-1 ≤ r_4.toInt) ∧ (r_4.toInt ≤ 255) ∧ (0 ≤ r_4.toInt → at_.toInt + (0 : Int32).toInt < en.toInt) := ch2
    refine pb_eq (pc' := 12) (lo' := [(0, .ref h)]) (rest' := [.int r_4]) (ws' := [(h, .inr (8, [.ref ui, .ref ug, .ref uv, .ref ur, .int ct, .int fa, .int bg, .int at_, .int en, .int vs, .int io, .int hi, .int ht])), (ur, .inl (G.2.1, 12000, .inl uf))]) ?_
    refine pb_bipush (pc := 12) (v := 60) d_Markup_isElementNext_12 (by decide) ?_
    refine pb_icmp_ne (pc := 14) (tgt := 31) d_Markup_isElementNext_14 (by decide) (fun w8 => ?_) (fun w8 => ?_)
    · have tw8 : ¬ r_4.toInt = 60 := fun z9 => w8 ((ti_eq rfl (by decide)).mpr z9)
      refine pb_iconst (pc := 31) (v := 0) d_Markup_isElementNext_31 (by decide) ?_
      exact pb_iret (pc := 32) hQ d_Markup_isElementNext_32 rfl rfl (0) ⟨rfl, (by (try dsimp only); first | done | (with_reducible assumption) | omega (splitDisjunctions := false) | assumption | (clear fh7; first | omega (splitDisjunctions := false) | omega) | omega | decide)⟩ [0, 1] (by decide) rfl rfl (by decide) (by decide)
    · have tw8 : r_4.toInt = 60 := (ti_eq rfl (by decide)).mp w8
      refine pb_aload_n (pc := 17) d_Markup_isElementNext_17 0 rfl rfl ?_
      refine pb_iconst (pc := 18) (v := 1) d_Markup_isElementNext_18 (by decide) ?_
      refine pb_callV (pc := 19) (I := i_Markup_isElementNext) (qb := 0) (ci := 8) (nA := 1) (rest := []) (wr := []) d_Markup_isElementNext_19 (g_Mu_next hl G h ui ug uv ur ct fa bg at_ en vs io hi ht uf 1 (by first | (with_reducible assumption) | omega (splitDisjunctions := false) | assumption | (clear fh7; first | omega (splitDisjunctions := false) | omega) | omega | decide) (by first | (with_reducible assumption) | omega (splitDisjunctions := false) | assumption | (clear fh7; first | omega (splitDisjunctions := false) | omega) | omega | decide) (by first | (with_reducible assumption) | omega (splitDisjunctions := false) | assumption | (clear fh7; first | omega (splitDisjunctions := false) | omega) | omega | decide) (by first | (with_reducible assumption) | omega (splitDisjunctions := false) | assumption | (clear fh7; first | omega (splitDisjunctions := false) | omega) | omega | decide) (by first | (with_reducible assumption) | omega (splitDisjunctions := false) | assumption | (clear fh7; first | omega (splitDisjunctions := false) | omega) | omega | decide) F_uf) rfl rfl [0, 1] [] (by decide) rfl rfl rfl (by decide) (by decide) k_813 rfl k_125 k_810 k_812 k_33 ⟨rfl, hy_Markup_next⟩ (by decide) rfl rfl (Nat.le_of_ble_eq_true rfl) (by decide) (fun v9 u10 ch9 => ?_)
      obtain ⟨r_11, rfl⟩ : ∃ z9, z9 = u10 := ⟨_, rfl⟩
      obtain ⟨ech9, ch9⟩ := ch9
      have ech9 : v9 = some (.int r_11) := ech9
      subst ech9
      obtain ⟨fh12, fh13, fh14⟩ : (-1 ≤ r_11.toInt) ∧ (r_11.toInt ≤ 255) ∧ (0 ≤ r_11.toInt → at_.toInt + (1 : Int32).toInt < en.toInt) := ch9
      refine pb_eq (pc' := 22) (lo' := [(0, .ref h)]) (rest' := [.int r_11]) (ws' := [(h, .inr (8, [.ref ui, .ref ug, .ref uv, .ref ur, .int ct, .int fa, .int bg, .int at_, .int en, .int vs, .int io, .int hi, .int ht])), (ur, .inl (G.2.1, 12000, .inl uf))]) ?_
      refine pb_bipush (pc := 22) (v := 47) d_Markup_isElementNext_22 (by decide) ?_
      refine pb_icmp_eq (pc := 24) (tgt := 31) d_Markup_isElementNext_24 (by decide) (fun w15 => ?_) (fun w15 => ?_)
      · have tw15 : r_11.toInt = 47 := (ti_eq rfl (by decide)).mp w15
        refine pb_iconst (pc := 31) (v := 0) d_Markup_isElementNext_31 (by decide) ?_
        exact pb_iret (pc := 32) hQ d_Markup_isElementNext_32 rfl rfl (0) ⟨rfl, (by (try dsimp only); first | done | (with_reducible assumption) | omega (splitDisjunctions := false) | assumption | (clear fh7 fh14; first | omega (splitDisjunctions := false) | omega) | omega | decide)⟩ [0, 1] (by decide) rfl rfl (by decide) (by decide)
      · have tw15 : ¬ r_11.toInt = 47 := fun z9 => w15 ((ti_eq rfl (by decide)).mpr z9)
        refine pb_iconst (pc := 27) (v := 1) d_Markup_isElementNext_27 (by decide) ?_
        refine pb_goto (pc := 28) (tgt := 32) d_Markup_isElementNext_28 (by decide) ?_
        exact pb_iret (pc := 32) hQ d_Markup_isElementNext_32 rfl rfl (1) ⟨rfl, (by (try dsimp only); first | done | (with_reducible assumption) | omega (splitDisjunctions := false) | assumption | (clear fh7 fh14; first | omega (splitDisjunctions := false) | omega) | omega | decide)⟩ [0, 1] (by decide) rfl rfl (by decide) (by decide)

theorem d_Markup_skipComment_0 : decode prog_7_method_18_code 0 = .ok (.aload_n 0, 1) := by decide +kernel
theorem d_Markup_skipComment_1 : decode prog_7_method_18_code 1 = .ok (.ldc 168, 2) := by decide +kernel
theorem d_Markup_skipComment_3 : decode prog_7_method_18_code 3 = .ok (.invokevirtual 73, 3) := by decide +kernel
theorem k_822 : (Jvm.Cond.methodLink "PackageBook$Markup" (73 : Nat) ({ cls := "PackageBook$Markup", name := "takeText", desc := "(Ljava/lang/String;)Z" } : Jvm.MethodName)) ∈ uW := uW_of 822 (by decide +kernel) (by decide +kernel)
theorem k_825 : (Jvm.Cond.code ({ cls := "PackageBook$Markup", name := "takeText", desc := "(Ljava/lang/String;)Z" } : Jvm.MethodName) prog_7_method_21_code (3 : Nat) (Option.some Jvm.ClassFile.FieldType.boolean)) ∈ uW := uW_of 825 (by decide +kernel) (by decide +kernel)
theorem k_824 : (Jvm.Cond.instanceMethod ({ cls := "PackageBook$Markup", name := "takeText", desc := "(Ljava/lang/String;)Z" } : Jvm.MethodName)) ∈ uW := uW_of 824 (by decide +kernel) (by decide +kernel)
theorem k_35 : Cond.selects "PackageBook$Markup" ⟨"PackageBook$Markup", "takeText", "(Ljava/lang/String;)Z"⟩ ⟨"PackageBook$Markup", "takeText", "(Ljava/lang/String;)Z"⟩ ∈ uW := uW_of 35 (by decide +kernel) (by decide +kernel)
theorem hy_Markup_takeText : (y_Markup_takeText).cls ≠ "java/lang/invoke/MethodHandle" ∧ (y_Markup_takeText).cls ≠ "java/lang/invoke/VarHandle" ∧ (parseMethodDescriptor (y_Markup_takeText).desc).map (fun d => d.parameters.length) = some 1 := by decide +kernel
theorem d_Markup_skipComment_6 : decode prog_7_method_18_code 6 = .ok (.ifCond .ne 5, 3) := by decide +kernel
theorem d_Markup_skipComment_11 : decode prog_7_method_18_code 11 = .ok (.aload_n 0, 1) := by decide +kernel
theorem d_Markup_skipComment_12 : decode prog_7_method_18_code 12 = .ok (.getfield 48, 3) := by decide +kernel
theorem d_Markup_skipComment_15 : decode prog_7_method_18_code 15 = .ok (.aload_n 0, 1) := by decide +kernel
theorem d_Markup_skipComment_16 : decode prog_7_method_18_code 16 = .ok (.getfield 51, 3) := by decide +kernel
theorem d_Markup_skipComment_19 : decode prog_7_method_18_code 19 = .ok (.if_icmp .ge 36, 3) := by decide +kernel
theorem d_Markup_skipComment_55 : decode prog_7_method_18_code 55 = .ok (.aload_n 0, 1) := by decide +kernel
theorem d_Markup_skipComment_56 : decode prog_7_method_18_code 56 = .ok (.ldc 170, 2) := by decide +kernel
theorem d_Markup_skipComment_58 : decode prog_7_method_18_code 58 = .ok (.invokevirtual 73, 3) := by decide +kernel
theorem d_Markup_skipComment_61 : decode prog_7_method_18_code 61 = .ok (.ireturn, 1) := by decide +kernel
theorem d_Markup_skipComment_22 : decode prog_7_method_18_code 22 = .ok (.aload_n 0, 1) := by decide +kernel
theorem d_Markup_skipComment_23 : decode prog_7_method_18_code 23 = .ok (.iconst 0, 1) := by decide +kernel
theorem d_Markup_skipComment_24 : decode prog_7_method_18_code 24 = .ok (.invokevirtual 80, 3) := by decide +kernel
theorem d_Markup_skipComment_27 : decode prog_7_method_18_code 27 = .ok (.bipush 45, 2) := by decide +kernel
theorem d_Markup_skipComment_29 : decode prog_7_method_18_code 29 = .ok (.if_icmp .ne 13, 3) := by decide +kernel
theorem d_Markup_skipComment_42 : decode prog_7_method_18_code 42 = .ok (.aload_n 0, 1) := by decide +kernel
theorem d_Markup_skipComment_43 : decode prog_7_method_18_code 43 = .ok (.dup, 1) := by decide +kernel
theorem d_Markup_skipComment_44 : decode prog_7_method_18_code 44 = .ok (.getfield 48, 3) := by decide +kernel
theorem d_Markup_skipComment_47 : decode prog_7_method_18_code 47 = .ok (.iconst 1, 1) := by decide +kernel
theorem d_Markup_skipComment_48 : decode prog_7_method_18_code 48 = .ok (.iadd, 1) := by decide +kernel
theorem d_Markup_skipComment_49 : decode prog_7_method_18_code 49 = .ok (.putfield 48, 3) := by decide +kernel
theorem d_Markup_skipComment_52 : decode prog_7_method_18_code 52 = .ok (.goto (-41), 3) := by decide +kernel
theorem d_Markup_skipComment_32 : decode prog_7_method_18_code 32 = .ok (.aload_n 0, 1) := by decide +kernel
theorem d_Markup_skipComment_33 : decode prog_7_method_18_code 33 = .ok (.iconst 1, 1) := by decide +kernel
theorem d_Markup_skipComment_34 : decode prog_7_method_18_code 34 = .ok (.invokevirtual 80, 3) := by decide +kernel
theorem d_Markup_skipComment_37 : decode prog_7_method_18_code 37 = .ok (.bipush 45, 2) := by decide +kernel
theorem d_Markup_skipComment_39 : decode prog_7_method_18_code 39 = .ok (.if_icmp .eq 16, 3) := by decide +kernel
theorem d_Markup_skipComment_9 : decode prog_7_method_18_code 9 = .ok (.iconst 0, 1) := by decide +kernel
theorem d_Markup_skipComment_10 : decode prog_7_method_18_code 10 = .ok (.ireturn, 1) := by decide +kernel
abbrev y_Markup_skipComment : MethodName := ⟨"PackageBook$Markup", "skipComment", "()Z"⟩
abbrev i_Markup_skipComment : pb_I := (y_Markup_skipComment, prog_7_method_18_code, 1, (some Jvm.ClassFile.FieldType.boolean), [], { frames := 5, cells := 0, slots := 0, locals := 107 })
set_option maxRecDepth 100000 in
set_option maxHeartbeats 4000000 in
theorem g_Mu_skipComment {l : Launch} (hl : l.stackTraces = false) (G : pb_G) (h : Nat) (ui : Nat) (ug : Nat) (uv : Nat) (ur : Nat) (ct : Int32) (fa : Int32) (bg : Int32) (at_ : Int32) (en : Int32) (vs : Int32) (io : Int32) (hi : Int32) (ht : Int32) (uf : Nat → Int32) (a0 : 0 ≤ at_.toInt) (a1 : at_.toInt ≤ en.toInt) (a2 : en.toInt ≤ 12000) (F_uf : sb_Fit uf) : Cn l G i_Markup_skipComment [.ref h] [(h, .inr (8, [.ref ui, .ref ug, .ref uv, .ref ur, .int ct, .int fa, .int bg, .int at_, .int en, .int vs, .int io, .int hi, .int ht])), (ur, .inl (G.2.1, 12000, .inl uf))] (S := Int32 × Int32 × Int32) (fun rv_ u => rv_ = some (.int u.1) ∧ (u.1.toInt = 0 ∨ u.1.toInt = 1) ∧ (at_.toInt ≤ u.2.1.toInt) ∧ (u.2.1.toInt ≤ en.toInt)) (fun u => [(h, .inr (8, [.ref ui, .ref ug, .ref uv, .ref ur, .int ct, .int u.2.2, .int bg, .int u.2.1, .int en, .int vs, .int io, .int hi, .int ht])), (ur, .inl (G.2.1, 12000, .inl uf))]) := by
  refine Cn.of hl (by decide +kernel) rfl (Nat.le_of_ble_eq_true rfl) (fun M hQ => ?_)
  refine pb_eq (pc' := 0) (lo' := [(0, .ref h)]) (rest' := []) (ws' := [(h, .inr (8, [.ref ui, .ref ug, .ref uv, .ref ur, .int ct, .int fa, .int bg, .int at_, .int en, .int vs, .int io, .int hi, .int ht])), (ur, .inl (G.2.1, 12000, .inl uf))]) ?_
  have zl0 : (0 : Int32).toInt = 0 := by decide
  have zl1 : (1 : Int32).toInt = 1 := by decide
  refine pb_aload_n (pc := 0) d_Markup_skipComment_0 0 rfl rfl ?_
  refine pb_ldcS (pc := 1) (k := 1) d_Markup_skipComment_1 rfl (by decide) ?_
  refine pb_callV (pc := 3) (I := i_Markup_skipComment) (qb := 0) (ci := 8) (nA := 1) (rest := []) (wr := []) d_Markup_skipComment_3 (g_Mu_takeText hl G h ui ug uv ur ct fa bg at_ en vs io hi ht uf 1 (by first | (with_reducible assumption) | omega (splitDisjunctions := false) | assumption | omega | decide) (by first | (with_reducible assumption) | omega (splitDisjunctions := false) | assumption | omega | decide) (by first | (with_reducible assumption) | omega (splitDisjunctions := false) | assumption | omega | decide) (by first | assumption | decide | omega) F_uf) rfl rfl [0, 1] [] (by decide) rfl rfl rfl (by decide) (by decide) k_825 rfl k_125 k_822 k_824 k_35 ⟨rfl, hy_Markup_takeText⟩ (by decide) rfl rfl (Nat.le_of_ble_eq_true rfl) (by decide) (fun v9 u2 ch1 => ?_)
  obtain ⟨r_3, at_4, f_5⟩ := u2
  obtain ⟨ech1, ch1⟩ := ch1
  have ech1 : v9 = some (.int r_3) := ech1
  subst ech1
  obtain ⟨fh6, fh7, fh8⟩ : (r_3.toInt = 0 ∨ r_3.toInt = 1) ∧ (at_.toInt ≤ at_4.toInt) ∧ (at_4.toInt ≤ en.toInt) := ch1
  refine pb_eq (pc' := 6) (lo' := [(0, .ref h)]) (rest' := [.int r_3]) (ws' := [(h, .inr (8, [.ref ui, .ref ug, .ref uv, .ref ur, .int ct, .int f_5, .int bg, .int at_4, .int en, .int vs, .int io, .int hi, .int ht])), (ur, .inl (G.2.1, 12000, .inl uf))]) ?_
  refine pb_if_ne (pc := 6) (tgt := 11) d_Markup_skipComment_6 (by decide) (fun w9 => ?_) (fun w9 => ?_)
  · have tw9 : ¬ r_3.toInt = 0 := fun z9 => w9 ((ti_eq rfl (by decide)).mpr z9)
    have hL11_10 : ∀ (N9 : Nat) (a : Int32) (f : Int32), (at_.toInt ≤ a.toInt) → (a.toInt ≤ en.toInt) → ((en.toInt - a.toInt).toNat) < N9 → pb_P l G M i_Markup_skipComment 11 [(0, .ref h)] [] [(h, .inr (8, [.ref ui, .ref ug, .ref uv, .ref ur, .int ct, .int f, .int bg, .int a, .int en, .int vs, .int io, .int hi, .int ht])), (ur, .inl (G.2.1, 12000, .inl uf))] 0 0 := by
      intro N9
      induction N9 with
      | zero => intro a f k0 k1 hm9; exact absurd hm9 (Nat.not_lt_zero _)
      | succ N9 ih11 =>
        intro a f k0 k1 hm9
        refine pb_aload_n (pc := 11) d_Markup_skipComment_11 0 rfl rfl ?_
        refine pb_get (pc := 12) d_Markup_skipComment_12 0 7 rfl rfl (by decide) in_Markup k_326 rfl ?_
        refine pb_aload_n (pc := 15) d_Markup_skipComment_15 0 rfl rfl ?_
        refine pb_get (pc := 16) d_Markup_skipComment_16 0 8 rfl rfl (by decide) in_Markup k_327 rfl ?_
        refine pb_icmp_ge (pc := 19) (tgt := 55) d_Markup_skipComment_19 (by decide) (fun w11 => ?_) (fun w11 => ?_)
        · have tw11 : en.toInt ≤ a.toInt := (ti_le rfl rfl).mp w11
          refine pb_aload_n (pc := 55) d_Markup_skipComment_55 0 rfl rfl ?_
          refine pb_ldcS (pc := 56) (k := 2) d_Markup_skipComment_56 rfl (by decide) ?_
          refine pb_callV (pc := 58) (I := i_Markup_skipComment) (qb := 0) (ci := 8) (nA := 1) (rest := []) (wr := []) d_Markup_skipComment_58 (g_Mu_takeText hl G h ui ug uv ur ct f bg a en vs io hi ht uf 2 (by first | (with_reducible assumption) | omega (splitDisjunctions := false) | assumption | omega | decide) (by first | (with_reducible assumption) | omega (splitDisjunctions := false) | assumption | omega | decide) (by first | (with_reducible assumption) | omega (splitDisjunctions := false) | assumption | omega | decide) (by first | assumption | decide | omega) F_uf) rfl rfl [0, 1] [] (by decide) rfl rfl rfl (by decide) (by decide) k_825 rfl k_125 k_822 k_824 k_35 ⟨rfl, hy_Markup_takeText⟩ (by decide) rfl rfl (Nat.le_of_ble_eq_true rfl) (by decide) (fun v9 u13 ch12 => ?_)
          obtain ⟨r_14, at_15, f_16⟩ := u13
          obtain ⟨ech12, ch12⟩ := ch12
          have ech12 : v9 = some (.int r_14) := ech12
          subst ech12
          obtain ⟨fh17, fh18, fh19⟩ : (r_14.toInt = 0 ∨ r_14.toInt = 1) ∧ (a.toInt ≤ at_15.toInt) ∧ (at_15.toInt ≤ en.toInt) := ch12
          refine pb_eq (pc' := 61) (lo' := [(0, .ref h)]) (rest' := [.int r_14]) (ws' := [(h, .inr (8, [.ref ui, .ref ug, .ref uv, .ref ur, .int ct, .int f_16, .int bg, .int at_15, .int en, .int vs, .int io, .int hi, .int ht])), (ur, .inl (G.2.1, 12000, .inl uf))]) ?_
          exact pb_iret (pc := 61) hQ d_Markup_skipComment_61 rfl (nar_b (by omega)) (r_14, at_15, f_16) ⟨rfl, (by (try dsimp only); first | done | (with_reducible assumption) | omega (splitDisjunctions := false) | assumption | omega | decide), (by (try dsimp only); first | done | (with_reducible assumption) | omega (splitDisjunctions := false) | assumption | omega | decide), (by (try dsimp only); first | done | (with_reducible assumption) | omega (splitDisjunctions := false) | assumption | omega | decide)⟩ [0, 1] (by decide) rfl rfl (by decide) (by decide)
        · have tw11 : ¬ en.toInt ≤ a.toInt := fun z9 => w11 ((ti_le rfl rfl).mpr z9)
          refine pb_aload_n (pc := 22) d_Markup_skipComment_22 0 rfl rfl ?_
          refine pb_iconst (pc := 23) (v := 0) d_Markup_skipComment_23 (by decide) ?_
          refine pb_callV (pc := 24) (I := i_Markup_skipComment) (qb := 0) (ci := 8) (nA := 1) (rest := []) (wr := []) d_Markup_skipComment_24 (g_Mu_next hl G h ui ug uv ur ct f bg a en vs io hi ht uf 0 (by first | (with_reducible assumption) | omega (splitDisjunctions := false) | assumption | omega | decide) (by first | (with_reducible assumption) | omega (splitDisjunctions := false) | assumption | omega | decide) (by first | (with_reducible assumption) | omega (splitDisjunctions := false) | assumption | omega | decide) (by first | (with_reducible assumption) | omega (splitDisjunctions := false) | assumption | omega | decide) (by first | (with_reducible assumption) | omega (splitDisjunctions := false) | assumption | omega | decide) F_uf) rfl rfl [0, 1] [] (by decide) rfl rfl rfl (by decide) (by decide) k_813 rfl k_125 k_810 k_812 k_33 ⟨rfl, hy_Markup_next⟩ (by decide) rfl rfl (Nat.le_of_ble_eq_true rfl) (by decide) (fun v9 u21 ch20 => ?_)
          obtain ⟨r_22, rfl⟩ : ∃ z9, z9 = u21 := ⟨_, rfl⟩
          obtain ⟨ech20, ch20⟩ := ch20
          have ech20 : v9 = some (.int r_22) := ech20
          subst ech20
          obtain ⟨fh23, fh24, fh25⟩ : (-1 ≤ r_22.toInt) ∧ (r_22.toInt ≤ 255) ∧ (0 ≤ r_22.toInt → a.toInt + (0 : Int32).toInt < en.toInt) := ch20
          refine pb_eq (pc' := 27) (lo' := [(0, .ref h)]) (rest' := [.int r_22]) (ws' := [(h, .inr (8, [.ref ui, .ref ug, .ref uv, .ref ur, .int ct, .int f, .int bg, .int a, .int en, .int vs, .int io, .int hi, .int ht])), (ur, .inl (G.2.1, 12000, .inl uf))]) ?_
          refine pb_bipush (pc := 27) (v := 45) d_Markup_skipComment_27 (by decide) ?_
          refine pb_icmp_ne (pc := 29) (tgt := 42) d_Markup_skipComment_29 (by decide) (fun w26 => ?_) (fun w26 => ?_)
          · have tw26 : ¬ r_22.toInt = 45 := fun z9 => w26 ((ti_eq rfl (by decide)).mpr z9)
            refine pb_aload_n (pc := 42) d_Markup_skipComment_42 0 rfl rfl ?_
            refine pb_dup (pc := 43) d_Markup_skipComment_43 rfl ?_
            refine pb_get (pc := 44) d_Markup_skipComment_44 0 7 rfl rfl (by decide) in_Markup k_326 rfl ?_
            refine pb_iconst (pc := 47) (v := 1) d_Markup_skipComment_47 (by decide) ?_
            refine pb_iadd (pc := 48) d_Markup_skipComment_48 ?_
            refine pb_topi (fun i27 ei27 => ?_)
            try have ti27 : i27.toInt = a.toInt + 1 := t2_add ei27 rfl (by decide) (by omega)
            refine pb_put (pc := 49) (ty := .int) (ws' := [(h, .inr (8, [.ref ui, .ref ug, .ref uv, .ref ur, .int ct, .int f, .int bg, .int i27, .int en, .int vs, .int io, .int hi, .int ht])), (ur, .inl (G.2.1, 12000, .inl uf))]) d_Markup_skipComment_49 0 7 t_Markup t_Markup_ok n_Markup rfl rfl (by decide) in_Markup k_326 rfl (by decide +kernel) rfl rfl (Nat.le_of_ble_eq_true rfl) rfl ?_
            refine pb_goto (pc := 52) (tgt := 11) d_Markup_skipComment_52 (by decide) ?_
            exact ih11 i27 f (by first | (with_reducible assumption) | omega (splitDisjunctions := false) | assumption | (clear fh25 hm9; first | omega (splitDisjunctions := false) | omega) | omega | decide) (by first | (with_reducible assumption) | omega (splitDisjunctions := false) | assumption | (clear fh25 hm9; first | omega (splitDisjunctions := false) | omega) | omega | decide) (by first | (clear fh25; omega) | omega)
          · have tw26 : r_22.toInt = 45 := (ti_eq rfl (by decide)).mp w26
            refine pb_aload_n (pc := 32) d_Markup_skipComment_32 0 rfl rfl ?_
            refine pb_iconst (pc := 33) (v := 1) d_Markup_skipComment_33 (by decide) ?_
            refine pb_callV (pc := 34) (I := i_Markup_skipComment) (qb := 0) (ci := 8) (nA := 1) (rest := []) (wr := []) d_Markup_skipComment_34 (g_Mu_next hl G h ui ug uv ur ct f bg a en vs io hi ht uf 1 (by first | (with_reducible assumption) | omega (splitDisjunctions := false) | assumption | (clear fh25 hm9; first | omega (splitDisjunctions := false) | omega) | omega | decide) (by first | (with_reducible assumption) | omega (splitDisjunctions := false) | assumption | (clear fh25 hm9; first | omega (splitDisjunctions := false) | omega) | omega | decide) (by first | (with_reducible assumption) | omega (splitDisjunctions := false) | assumption | (clear fh25 hm9; first | omega (splitDisjunctions := false) | omega) | omega | decide) (by first | (with_reducible assumption) | omega (splitDisjunctions := false) | assumption | (clear fh25 hm9; first | omega (splitDisjunctions := false) | omega) | omega | decide) (by first | (with_reducible assumption) | omega (splitDisjunctions := false) | assumption | (clear fh25 hm9; first | omega (splitDisjunctions := false) | omega) | omega | decide) F_uf) rfl rfl [0, 1] [] (by decide) rfl rfl rfl (by decide) (by decide) k_813 rfl k_125 k_810 k_812 k_33 ⟨rfl, hy_Markup_next⟩ (by decide) rfl rfl (Nat.le_of_ble_eq_true rfl) (by decide) (fun v9 u29 ch28 => ?_)
            obtain ⟨r_30, rfl⟩ : ∃ z9, z9 = u29 := ⟨_, rfl⟩
            obtain ⟨ech28, ch28⟩ := ch28
            have ech28 : v9 = some (.int r_30) := ech28
            subst ech28
            obtain ⟨fh31, fh32, fh33⟩ : (-1 ≤ r_30.toInt) ∧ (r_30.toInt ≤ 255) ∧ (0 ≤ r_30.toInt → a.toInt + (1 : Int32).toInt < en.toInt) := ch28
            refine pb_eq (pc' := 37) (lo' := [(0, .ref h)]) (rest' := [.int r_30]) (ws' := [(h, .inr (8, [.ref ui, .ref ug, .ref uv, .ref ur, .int ct, .int f, .int bg, .int a, .int en, .int vs, .int io, .int hi, .int ht])), (ur, .inl (G.2.1, 12000, .inl uf))]) ?_
            refine pb_bipush (pc := 37) (v := 45) d_Markup_skipComment_37 (by decide) ?_
            refine pb_icmp_eq (pc := 39) (tgt := 55) d_Markup_skipComment_39 (by decide) (fun w34 => ?_) (fun w34 => ?_)
            · have tw34 : r_30.toInt = 45 := (ti_eq rfl (by decide)).mp w34
              refine pb_aload_n (pc := 55) d_Markup_skipComment_55 0 rfl rfl ?_
              refine pb_ldcS (pc := 56) (k := 2) d_Markup_skipComment_56 rfl (by decide) ?_
              refine pb_callV (pc := 58) (I := i_Markup_skipComment) (qb := 0) (ci := 8) (nA := 1) (rest := []) (wr := []) d_Markup_skipComment_58 (g_Mu_takeText hl G h ui ug uv ur ct f bg a en vs io hi ht uf 2 (by first | (with_reducible assumption) | omega (splitDisjunctions := false) | assumption | (clear fh25 fh33 hm9; first | omega (splitDisjunctions := false) | omega) | omega | decide) (by first | (with_reducible assumption) | omega (splitDisjunctions := false) | assumption | (clear fh25 fh33 hm9; first | omega (splitDisjunctions := false) | omega) | omega | decide) (by first | (with_reducible assumption) | omega (splitDisjunctions := false) | assumption | (clear fh25 fh33 hm9; first | omega (splitDisjunctions := false) | omega) | omega | decide) (by first | assumption | decide | omega) F_uf) rfl rfl [0, 1] [] (by decide) rfl rfl rfl (by decide) (by decide) k_825 rfl k_125 k_822 k_824 k_35 ⟨rfl, hy_Markup_takeText⟩ (by decide) rfl rfl (Nat.le_of_ble_eq_true rfl) (by decide) (fun v9 u36 ch35 => ?_)
              obtain ⟨r_37, at_38, f_39⟩ := u36
              obtain ⟨ech35, ch35⟩ := ch35
              have ech35 : v9 = some (.int r_37) := ech35
              subst ech35
              obtain ⟨fh40, fh41, fh42⟩ : (r_37.toInt = 0 ∨ r_37.toInt = 1) ∧ (a.toInt ≤ at_38.toInt) ∧ (at_38.toInt ≤ en.toInt) := ch35
              refine pb_eq (pc' := 61) (lo' := [(0, .ref h)]) (rest' := [.int r_37]) (ws' := [(h, .inr (8, [.ref ui, .ref ug, .ref uv, .ref ur, .int ct, .int f_39, .int bg, .int at_38, .int en, .int vs, .int io, .int hi, .int ht])), (ur, .inl (G.2.1, 12000, .inl uf))]) ?_
              exact pb_iret (pc := 61) hQ d_Markup_skipComment_61 rfl (nar_b (by omega)) (r_37, at_38, f_39) ⟨rfl, (by (try dsimp only); first | done | (with_reducible assumption) | omega (splitDisjunctions := false) | assumption | (clear fh25 fh33 hm9; first | omega (splitDisjunctions := false) | omega) | omega | decide), (by (try dsimp only); first | done | (with_reducible assumption) | omega (splitDisjunctions := false) | assumption | (clear fh25 fh33 hm9; first | omega (splitDisjunctions := false) | omega) | omega | decide), (by (try dsimp only); first | done | (with_reducible assumption) | omega (splitDisjunctions := false) | assumption | (clear fh25 fh33 hm9; first | omega (splitDisjunctions := false) | omega) | omega | decide)⟩ [0, 1] (by decide) rfl rfl (by decide) (by decide)
            · have tw34 : ¬ r_30.toInt = 45 := fun z9 => w34 ((ti_eq rfl (by decide)).mpr z9)
              refine pb_aload_n (pc := 42) d_Markup_skipComment_42 0 rfl rfl ?_
              refine pb_dup (pc := 43) d_Markup_skipComment_43 rfl ?_
              refine pb_get (pc := 44) d_Markup_skipComment_44 0 7 rfl rfl (by decide) in_Markup k_326 rfl ?_
              refine pb_iconst (pc := 47) (v := 1) d_Markup_skipComment_47 (by decide) ?_
              refine pb_iadd (pc := 48) d_Markup_skipComment_48 ?_
              refine pb_topi (fun i43 ei43 => ?_)
              try have ti43 : i43.toInt = a.toInt + 1 := t2_add ei43 rfl (by decide) (by omega)
              refine pb_put (pc := 49) (ty := .int) (ws' := [(h, .inr (8, [.ref ui, .ref ug, .ref uv, .ref ur, .int ct, .int f, .int bg, .int i43, .int en, .int vs, .int io, .int hi, .int ht])), (ur, .inl (G.2.1, 12000, .inl uf))]) d_Markup_skipComment_49 0 7 t_Markup t_Markup_ok n_Markup rfl rfl (by decide) in_Markup k_326 rfl (by decide +kernel) rfl rfl (Nat.le_of_ble_eq_true rfl) rfl ?_
              refine pb_goto (pc := 52) (tgt := 11) d_Markup_skipComment_52 (by decide) ?_
              exact ih11 i43 f (by first | (with_reducible assumption) | omega (splitDisjunctions := false) | assumption | (clear fh25 fh33 hm9; first | omega (splitDisjunctions := false) | omega) | omega | decide) (by first | (with_reducible assumption) | omega (splitDisjunctions := false) | assumption | (clear fh25 fh33 hm9; first | omega (splitDisjunctions := false) | omega) | omega | decide) (by first | (clear fh25 fh33; omega) | omega)
    exact hL11_10 _ at_4 f_5 (by first | (with_reducible assumption) | omega (splitDisjunctions := false) | assumption | omega | decide) (by first | (with_reducible assumption) | omega (splitDisjunctions := false) | assumption | omega | decide) (Nat.lt_succ_self _)
  · have tw9 : r_3.toInt = 0 := (ti_eq rfl (by decide)).mp w9
    refine pb_iconst (pc := 9) (v := 0) d_Markup_skipComment_9 (by decide) ?_
    exact pb_iret (pc := 10) hQ d_Markup_skipComment_10 rfl rfl (0, at_4, f_5) ⟨rfl, (by (try dsimp only); first | done | (with_reducible assumption) | omega (splitDisjunctions := false) | assumption | omega | decide), (by (try dsimp only); first | done | (with_reducible assumption) | omega (splitDisjunctions := false) | assumption | omega | decide), (by (try dsimp only); first | done | (with_reducible assumption) | omega (splitDisjunctions := false) | assumption | omega | decide)⟩ [0, 1] (by decide) rfl rfl (by decide) (by decide)

theorem d_Markup_skipGaps_0 : decode prog_7_method_17_code 0 = .ok (.aload_n 0, 1) := by decide +kernel
theorem d_Markup_skipGaps_1 : decode prog_7_method_17_code 1 = .ok (.getfield 51, 3) := by decide +kernel
theorem d_Markup_skipGaps_4 : decode prog_7_method_17_code 4 = .ok (.aload_n 0, 1) := by decide +kernel
theorem d_Markup_skipGaps_5 : decode prog_7_method_17_code 5 = .ok (.getfield 48, 3) := by decide +kernel
theorem d_Markup_skipGaps_8 : decode prog_7_method_17_code 8 = .ok (.isub, 1) := by decide +kernel
theorem d_Markup_skipGaps_9 : decode prog_7_method_17_code 9 = .ok (.istore_n 1, 1) := by decide +kernel
theorem d_Markup_skipGaps_10 : decode prog_7_method_17_code 10 = .ok (.iload_n 1, 1) := by decide +kernel
theorem d_Markup_skipGaps_11 : decode prog_7_method_17_code 11 = .ok (.ifCond .lt 45, 3) := by decide +kernel
theorem d_Markup_skipGaps_56 : decode prog_7_method_17_code 56 = .ok (.iconst 1, 1) := by decide +kernel
theorem d_Markup_skipGaps_57 : decode prog_7_method_17_code 57 = .ok (.ireturn, 1) := by decide +kernel
theorem d_Markup_skipGaps_14 : decode prog_7_method_17_code 14 = .ok (.aload_n 0, 1) := by decide +kernel
theorem d_Markup_skipGaps_15 : decode prog_7_method_17_code 15 = .ok (.invokevirtual 77, 3) := by decide +kernel
theorem k_806 : (Jvm.Cond.methodLink "PackageBook$Markup" (77 : Nat) ({ cls := "PackageBook$Markup", name := "skipSpace", desc := "()Z" } : Jvm.MethodName)) ∈ uW := uW_of 806 (by decide +kernel) (by decide +kernel)
theorem k_809 : (Jvm.Cond.code ({ cls := "PackageBook$Markup", name := "skipSpace", desc := "()Z" } : Jvm.MethodName) prog_7_method_19_code (2 : Nat) (Option.some Jvm.ClassFile.FieldType.boolean)) ∈ uW := uW_of 809 (by decide +kernel) (by decide +kernel)
theorem k_808 : (Jvm.Cond.instanceMethod ({ cls := "PackageBook$Markup", name := "skipSpace", desc := "()Z" } : Jvm.MethodName)) ∈ uW := uW_of 808 (by decide +kernel) (by decide +kernel)
theorem k_32 : Cond.selects "PackageBook$Markup" ⟨"PackageBook$Markup", "skipSpace", "()Z"⟩ ⟨"PackageBook$Markup", "skipSpace", "()Z"⟩ ∈ uW := uW_of 32 (by decide +kernel) (by decide +kernel)
theorem hy_Markup_skipSpace : (y_Markup_skipSpace).cls ≠ "java/lang/invoke/MethodHandle" ∧ (y_Markup_skipSpace).cls ≠ "java/lang/invoke/VarHandle" ∧ (parseMethodDescriptor (y_Markup_skipSpace).desc).map (fun d => d.parameters.length) = some 0 := by decide +kernel
theorem d_Markup_skipGaps_18 : decode prog_7_method_17_code 18 = .ok (.pop, 1) := by decide +kernel
theorem d_Markup_skipGaps_19 : decode prog_7_method_17_code 19 = .ok (.aload_n 0, 1) := by decide +kernel
theorem d_Markup_skipGaps_20 : decode prog_7_method_17_code 20 = .ok (.iconst 0, 1) := by decide +kernel
theorem d_Markup_skipGaps_21 : decode prog_7_method_17_code 21 = .ok (.invokevirtual 80, 3) := by decide +kernel
theorem d_Markup_skipGaps_24 : decode prog_7_method_17_code 24 = .ok (.bipush 60, 2) := by decide +kernel
theorem d_Markup_skipGaps_26 : decode prog_7_method_17_code 26 = .ok (.if_icmp .ne 13, 3) := by decide +kernel
theorem d_Markup_skipGaps_39 : decode prog_7_method_17_code 39 = .ok (.iconst 1, 1) := by decide +kernel
theorem d_Markup_skipGaps_40 : decode prog_7_method_17_code 40 = .ok (.ireturn, 1) := by decide +kernel
theorem d_Markup_skipGaps_29 : decode prog_7_method_17_code 29 = .ok (.aload_n 0, 1) := by decide +kernel
theorem d_Markup_skipGaps_30 : decode prog_7_method_17_code 30 = .ok (.iconst 1, 1) := by decide +kernel
theorem d_Markup_skipGaps_31 : decode prog_7_method_17_code 31 = .ok (.invokevirtual 80, 3) := by decide +kernel
theorem d_Markup_skipGaps_34 : decode prog_7_method_17_code 34 = .ok (.bipush 33, 2) := by decide +kernel
theorem d_Markup_skipGaps_36 : decode prog_7_method_17_code 36 = .ok (.if_icmp .eq 5, 3) := by decide +kernel
theorem d_Markup_skipGaps_41 : decode prog_7_method_17_code 41 = .ok (.aload_n 0, 1) := by decide +kernel
theorem d_Markup_skipGaps_42 : decode prog_7_method_17_code 42 = .ok (.invokevirtual 165, 3) := by decide +kernel
theorem k_817 : (Jvm.Cond.methodLink "PackageBook$Markup" (165 : Nat) ({ cls := "PackageBook$Markup", name := "skipComment", desc := "()Z" } : Jvm.MethodName)) ∈ uW := uW_of 817 (by decide +kernel) (by decide +kernel)
theorem k_820 : (Jvm.Cond.code ({ cls := "PackageBook$Markup", name := "skipComment", desc := "()Z" } : Jvm.MethodName) prog_7_method_18_code (1 : Nat) (Option.some Jvm.ClassFile.FieldType.boolean)) ∈ uW := uW_of 820 (by decide +kernel) (by decide +kernel)
theorem k_819 : (Jvm.Cond.instanceMethod ({ cls := "PackageBook$Markup", name := "skipComment", desc := "()Z" } : Jvm.MethodName)) ∈ uW := uW_of 819 (by decide +kernel) (by decide +kernel)
theorem k_34 : Cond.selects "PackageBook$Markup" ⟨"PackageBook$Markup", "skipComment", "()Z"⟩ ⟨"PackageBook$Markup", "skipComment", "()Z"⟩ ∈ uW := uW_of 34 (by decide +kernel) (by decide +kernel)
theorem hy_Markup_skipComment : (y_Markup_skipComment).cls ≠ "java/lang/invoke/MethodHandle" ∧ (y_Markup_skipComment).cls ≠ "java/lang/invoke/VarHandle" ∧ (parseMethodDescriptor (y_Markup_skipComment).desc).map (fun d => d.parameters.length) = some 0 := by decide +kernel
theorem d_Markup_skipGaps_45 : decode prog_7_method_17_code 45 = .ok (.ifCond .ne 5, 3) := by decide +kernel
theorem d_Markup_skipGaps_50 : decode prog_7_method_17_code 50 = .ok (.iinc 1 (-1), 3) := by decide +kernel
theorem d_Markup_skipGaps_53 : decode prog_7_method_17_code 53 = .ok (.goto (-43), 3) := by decide +kernel
theorem d_Markup_skipGaps_48 : decode prog_7_method_17_code 48 = .ok (.iconst 0, 1) := by decide +kernel
theorem d_Markup_skipGaps_49 : decode prog_7_method_17_code 49 = .ok (.ireturn, 1) := by decide +kernel
abbrev y_Markup_skipGaps : MethodName := ⟨"PackageBook$Markup", "skipGaps", "()Z"⟩
abbrev i_Markup_skipGaps : pb_I := (y_Markup_skipGaps, prog_7_method_17_code, 2, (some Jvm.ClassFile.FieldType.boolean), [], { frames := 6, cells := 0, slots := 0, locals := 127 })
set_option maxRecDepth 100000 in
set_option maxHeartbeats 4000000 in
theorem g_Mu_skipGaps {l : Launch} (hl : l.stackTraces = false) (G : pb_G) (h : Nat) (ui : Nat) (ug : Nat) (uv : Nat) (ur : Nat) (ct : Int32) (fa : Int32) (bg : Int32) (at_ : Int32) (en : Int32) (vs : Int32) (io : Int32) (hi : Int32) (ht : Int32) (uf : Nat → Int32) (a0 : 0 ≤ at_.toInt) (a1 : at_.toInt ≤ en.toInt) (a2 : en.toInt ≤ 12000) (F_uf : sb_Fit uf) : Cn l G i_Markup_skipGaps [.ref h] [(h, .inr (8, [.ref ui, .ref ug, .ref uv, .ref ur, .int ct, .int fa, .int bg, .int at_, .int en, .int vs, .int io, .int hi, .int ht])), (ur, .inl (G.2.1, 12000, .inl uf))] (S := Int32 × Int32 × Int32) (fun rv_ u => rv_ = some (.int u.1) ∧ (u.1.toInt = 0 ∨ u.1.toInt = 1) ∧ (at_.toInt ≤ u.2.1.toInt) ∧ (u.2.1.toInt ≤ en.toInt)) (fun u => [(h, .inr (8, [.ref ui, .ref ug, .ref uv, .ref ur, .int ct, .int u.2.2, .int bg, .int u.2.1, .int en, .int vs, .int io, .int hi, .int ht])), (ur, .inl (G.2.1, 12000, .inl uf))]) := by
  refine Cn.of hl (by decide +kernel) rfl (Nat.le_of_ble_eq_true rfl) (fun M hQ => ?_)
  refine pb_eq (pc' := 0) (lo' := [(0, .ref h)]) (rest' := []) (ws' := [(h, .inr (8, [.ref ui, .ref ug, .ref uv, .ref ur, .int ct, .int fa, .int bg, .int at_, .int en, .int vs, .int io, .int hi, .int ht])), (ur, .inl (G.2.1, 12000, .inl uf))]) ?_
  have zl0 : (0 : Int32).toInt = 0 := by decide
  have zl1 : (1 : Int32).toInt = 1 := by decide
  refine pb_aload_n (pc := 0) d_Markup_skipGaps_0 0 rfl rfl ?_
  refine pb_get (pc := 1) d_Markup_skipGaps_1 0 8 rfl rfl (by decide) in_Markup k_327 rfl ?_
  refine pb_aload_n (pc := 4) d_Markup_skipGaps_4 0 rfl rfl ?_
  refine pb_get (pc := 5) d_Markup_skipGaps_5 0 7 rfl rfl (by decide) in_Markup k_326 rfl ?_
  refine pb_isub (pc := 8) d_Markup_skipGaps_8 ?_
  refine pb_topi (fun i1 ei1 => ?_)
  try have ti1 : i1.toInt = en.toInt - at_.toInt := t2_sub ei1 rfl rfl (by omega)
  refine pb_istore_n (pc := 9) (lo' := [(1, .int i1), (0, .ref h)]) d_Markup_skipGaps_9 rfl (by decide) rfl ?_
  have hL10_2 : ∀ (N9 : Nat) (l_ : Int32) (a : Int32) (f : Int32), (at_.toInt ≤ a.toInt) → (a.toInt ≤ en.toInt) → ((l_.toInt + 1).toNat) < N9 → pb_P l G M i_Markup_skipGaps 10 [(1, .int l_), (0, .ref h)] [] [(h, .inr (8, [.ref ui, .ref ug, .ref uv, .ref ur, .int ct, .int f, .int bg, .int a, .int en, .int vs, .int io, .int hi, .int ht])), (ur, .inl (G.2.1, 12000, .inl uf))] 0 0 := by
    intro N9
    induction N9 with
    | zero => intro l_ a f k0 k1 hm9; exact absurd hm9 (Nat.not_lt_zero _)
    | succ N9 ih10 =>
      intro l_ a f k0 k1 hm9
      have rl_ := ti_rng l_
      refine pb_iload_n (pc := 10) d_Markup_skipGaps_10 0 rfl rfl ?_
      refine pb_if_lt (pc := 11) (tgt := 56) d_Markup_skipGaps_11 (by decide) (fun w3 => ?_) (fun w3 => ?_)
      · have tw3 : l_.toInt < 0 := (ti_lt rfl (by decide)).mp w3
        refine pb_iconst (pc := 56) (v := 1) d_Markup_skipGaps_56 (by decide) ?_
        exact pb_iret (pc := 57) hQ d_Markup_skipGaps_57 rfl rfl (1, a, f) ⟨rfl, (by (try dsimp only); first | done | (with_reducible assumption) | omega (splitDisjunctions := false) | assumption | omega | decide), (by (try dsimp only); first | done | (with_reducible assumption) | omega (splitDisjunctions := false) | assumption | omega | decide), (by (try dsimp only); first | done | (with_reducible assumption) | omega (splitDisjunctions := false) | assumption | omega | decide)⟩ [0, 1] (by decide) rfl rfl (by decide) (by decide)
      · have tw3 : ¬ l_.toInt < 0 := fun z9 => w3 ((ti_lt rfl (by decide)).mpr z9)
        refine pb_aload_n (pc := 14) d_Markup_skipGaps_14 1 rfl rfl ?_
        refine pb_callV (pc := 15) (I := i_Markup_skipGaps) (qb := 0) (ci := 8) (nA := 0) (rest := []) (wr := []) d_Markup_skipGaps_15 (g_Mu_skipSpace hl G h ui ug uv ur ct f bg a en vs io hi ht uf (by first | (with_reducible assumption) | omega (splitDisjunctions := false) | assumption | omega | decide) (by first | (with_reducible assumption) | omega (splitDisjunctions := false) | assumption | omega | decide) (by first | (with_reducible assumption) | omega (splitDisjunctions := false) | assumption | omega | decide) F_uf) rfl rfl [0, 1] [] (by decide) rfl rfl rfl (by decide) (by decide) k_809 rfl k_125 k_806 k_808 k_32 ⟨rfl, hy_Markup_skipSpace⟩ (by decide) rfl rfl (Nat.le_of_ble_eq_true rfl) (by decide) (fun v9 u5 ch4 => ?_)
        obtain ⟨r_6, at_7⟩ := u5
        obtain ⟨ech4, ch4⟩ := ch4
        have ech4 : v9 = some (.int r_6) := ech4
        subst ech4
        obtain ⟨fh8, fh9, fh10⟩ : (r_6.toInt = 0 ∨ r_6.toInt = 1) ∧ (a.toInt ≤ at_7.toInt) ∧ (at_7.toInt ≤ en.toInt) := ch4
        refine pb_eq (pc' := 18) (lo' := [(1, .int l_), (0, .ref h)]) (rest' := [.int r_6]) (ws' := [(h, .inr (8, [.ref ui, .ref ug, .ref uv, .ref ur, .int ct, .int f, .int bg, .int at_7, .int en, .int vs, .int io, .int hi, .int ht])), (ur, .inl (G.2.1, 12000, .inl uf))]) ?_
        refine pb_pop (pc := 18) d_Markup_skipGaps_18 rfl ?_
        refine pb_aload_n (pc := 19) d_Markup_skipGaps_19 1 rfl rfl ?_
        refine pb_iconst (pc := 20) (v := 0) d_Markup_skipGaps_20 (by decide) ?_
        refine pb_callV (pc := 21) (I := i_Markup_skipGaps) (qb := 0) (ci := 8) (nA := 1) (rest := []) (wr := []) d_Markup_skipGaps_21 (g_Mu_next hl G h ui ug uv ur ct f bg at_7 en vs io hi ht uf 0 (by first | (with_reducible assumption) | omega (splitDisjunctions := false) | assumption | omega | decide) (by first | (with_reducible assumption) | omega (splitDisjunctions := false) | assumption | omega | decide) (by first | (with_reducible assumption) | omega (splitDisjunctions := false) | assumption | omega | decide) (by first | (with_reducible assumption) | omega (splitDisjunctions := false) | assumption | omega | decide) (by first | (with_reducible assumption) | omega (splitDisjunctions := false) | assumption | omega | decide) F_uf) rfl rfl [0, 1] [] (by decide) rfl rfl rfl (by decide) (by decide) k_813 rfl k_125 k_810 k_812 k_33 ⟨rfl, hy_Markup_next⟩ (by decide) rfl rfl (Nat.le_of_ble_eq_true rfl) (by decide) (fun v9 u12 ch11 => ?_)
        obtain ⟨r_13, rfl⟩ : ∃ z9, z9 = u12 := ⟨_, rfl⟩
        obtain ⟨ech11, ch11⟩ := ch11
        have ech11 : v9 = some (.int r_13) := ech11
        subst ech11
        obtain ⟨fh14, fh15, fh16⟩ : (-1 ≤ r_13.toInt) ∧ (r_13.toInt ≤ 255) ∧ (0 ≤ r_13.toInt → at_7.toInt + (0 : Int32).toInt < en.toInt) := ch11
        refine pb_eq (pc' := 24) (lo' := [(1, .int l_), (0, .ref h)]) (rest' := [.int r_13]) (ws' := [(h, .inr (8, [.ref ui, .ref ug, .ref uv, .ref ur, .int ct, .int f, .int bg, .int at_7, .int en, .int vs, .int io, .int hi, .int ht])), (ur, .inl (G.2.1, 12000, .inl uf))]) ?_
        refine pb_bipush (pc := 24) (v := 60) d_Markup_skipGaps_24 (by decide) ?_
        refine pb_icmp_ne (pc := 26) (tgt := 39) d_Markup_skipGaps_26 (by decide) (fun w17 => ?_) (fun w17 => ?_)
        · have tw17 : ¬ r_13.toInt = 60 := fun z9 => w17 ((ti_eq rfl (by decide)).mpr z9)
          refine pb_iconst (pc := 39) (v := 1) d_Markup_skipGaps_39 (by decide) ?_
          exact pb_iret (pc := 40) hQ d_Markup_skipGaps_40 rfl rfl (1, at_7, f) ⟨rfl, (by (try dsimp only); first | done | (with_reducible assumption) | omega (splitDisjunctions := false) | assumption | (clear fh16 hm9; first | omega (splitDisjunctions := false) | omega) | omega | decide), (by (try dsimp only); first | done | (with_reducible assumption) | omega (splitDisjunctions := false) | assumption | (clear fh16 hm9; first | omega (splitDisjunctions := false) | omega) | omega | decide), (by (try dsimp only); first | done | (with_reducible assumption) | omega (splitDisjunctions := false) | assumption | (clear fh16 hm9; first | omega (splitDisjunctions := false) | omega) | omega | decide)⟩ [0, 1] (by decide) rfl rfl (by decide) (by decide)
        · have tw17 : r_13.toInt = 60 := (ti_eq rfl (by decide)).mp w17
          refine pb_aload_n (pc := 29) d_Markup_skipGaps_29 1 rfl rfl ?_
          refine pb_iconst (pc := 30) (v := 1) d_Markup_skipGaps_30 (by decide) ?_
          refine pb_callV (pc := 31) (I := i_Markup_skipGaps) (qb := 0) (ci := 8) (nA := 1) (rest := []) (wr := []) d_Markup_skipGaps_31 (g_Mu_next hl G h ui ug uv ur ct f bg at_7 en vs io hi ht uf 1 (by first | (with_reducible assumption) | omega (splitDisjunctions := false) | assumption | (clear fh16 hm9; first | omega (splitDisjunctions := false) | omega) | omega | decide) (by first | (with_reducible assumption) | omega (splitDisjunctions := false) | assumption | (clear fh16 hm9; first | omega (splitDisjunctions := false) | omega) | omega | decide) (by first | (with_reducible assumption) | omega (splitDisjunctions := false) | assumption | (clear fh16 hm9; first | omega (splitDisjunctions := false) | omega) | omega | decide) (by first | (with_reducible assumption) | omega (splitDisjunctions := false) | assumption | (clear fh16 hm9; first | omega (splitDisjunctions := false) | omega) | omega | decide) (by first | (with_reducible assumption) | omega (splitDisjunctions := false) | assumption | (clear fh16 hm9; first | omega (splitDisjunctions := false) | omega) | omega | decide) F_uf) rfl rfl [0, 1] [] (by decide) rfl rfl rfl (by decide) (by decide) k_813 rfl k_125 k_810 k_812 k_33 ⟨rfl, hy_Markup_next⟩ (by decide) rfl rfl (Nat.le_of_ble_eq_true rfl) (by decide) (fun v9 u19 ch18 => ?_)
          obtain ⟨r_20, rfl⟩ : ∃ z9, z9 = u19 := ⟨_, rfl⟩
          obtain ⟨ech18, ch18⟩ := ch18
          have ech18 : v9 = some (.int r_20) := ech18
          subst ech18
          obtain ⟨fh21, fh22, fh23⟩ : (-1 ≤ r_20.toInt) ∧ (r_20.toInt ≤ 255) ∧ (0 ≤ r_20.toInt → at_7.toInt + (1 : Int32).toInt < en.toInt) := ch18
          refine pb_eq (pc' := 34) (lo' := [(1, .int l_), (0, .ref h)]) (rest' := [.int r_20]) (ws' := [(h, .inr (8, [.ref ui, .ref ug, .ref uv, .ref ur, .int ct, .int f, .int bg, .int at_7, .int en, .int vs, .int io, .int hi, .int ht])), (ur, .inl (G.2.1, 12000, .inl uf))]) ?_
          refine pb_bipush (pc := 34) (v := 33) d_Markup_skipGaps_34 (by decide) ?_
          refine pb_icmp_eq (pc := 36) (tgt := 41) d_Markup_skipGaps_36 (by decide) (fun w24 => ?_) (fun w24 => ?_)
          · have tw24 : r_20.toInt = 33 := (ti_eq rfl (by decide)).mp w24
            refine pb_aload_n (pc := 41) d_Markup_skipGaps_41 1 rfl rfl ?_
            refine pb_callV (pc := 42) (I := i_Markup_skipGaps) (qb := 0) (ci := 8) (nA := 0) (rest := []) (wr := []) d_Markup_skipGaps_42 (g_Mu_skipComment hl G h ui ug uv ur ct f bg at_7 en vs io hi ht uf (by first | (with_reducible assumption) | omega (splitDisjunctions := false) | assumption | (clear fh16 fh23 hm9; first | omega (splitDisjunctions := false) | omega) | omega | decide) (by first | (with_reducible assumption) | omega (splitDisjunctions := false) | assumption | (clear fh16 fh23 hm9; first | omega (splitDisjunctions := false) | omega) | omega | decide) (by first | (with_reducible assumption) | omega (splitDisjunctions := false) | assumption | (clear fh16 fh23 hm9; first | omega (splitDisjunctions := false) | omega) | omega | decide) F_uf) rfl rfl [0, 1] [] (by decide) rfl rfl rfl (by decide) (by decide) k_820 rfl k_125 k_817 k_819 k_34 ⟨rfl, hy_Markup_skipComment⟩ (by decide) rfl rfl (Nat.le_of_ble_eq_true rfl) (by decide) (fun v9 u26 ch25 => ?_)
            obtain ⟨r_27, at_28, f_29⟩ := u26
            obtain ⟨ech25, ch25⟩ := ch25
            have ech25 : v9 = some (.int r_27) := ech25
            subst ech25
            obtain ⟨fh30, fh31, fh32⟩ : (r_27.toInt = 0 ∨ r_27.toInt = 1) ∧ (at_7.toInt ≤ at_28.toInt) ∧ (at_28.toInt ≤ en.toInt) := ch25
            refine pb_eq (pc' := 45) (lo' := [(1, .int l_), (0, .ref h)]) (rest' := [.int r_27]) (ws' := [(h, .inr (8, [.ref ui, .ref ug, .ref uv, .ref ur, .int ct, .int f_29, .int bg, .int at_28, .int en, .int vs, .int io, .int hi, .int ht])), (ur, .inl (G.2.1, 12000, .inl uf))]) ?_
            refine pb_if_ne (pc := 45) (tgt := 50) d_Markup_skipGaps_45 (by decide) (fun w33 => ?_) (fun w33 => ?_)
            · have tw33 : ¬ r_27.toInt = 0 := fun z9 => w33 ((ti_eq rfl (by decide)).mpr z9)
              refine pb_iincN (pc := 50) (c := (-1)) d_Markup_skipGaps_50 0 rfl (by decide) (by decide) (fun i34 ei34 => ?_)
              have ti34 : i34.toInt = l_.toInt + (-1) := t2_add ei34 rfl (by decide) (by first | omega | (have r90 := ti_rng i34; omega))
              refine pb_eq (pc' := 53) (lo' := [(1, .int i34), (0, .ref h)]) (rest' := []) (ws' := [(h, .inr (8, [.ref ui, .ref ug, .ref uv, .ref ur, .int ct, .int f_29, .int bg, .int at_28, .int en, .int vs, .int io, .int hi, .int ht])), (ur, .inl (G.2.1, 12000, .inl uf))]) ?_
              refine pb_goto (pc := 53) (tgt := 10) d_Markup_skipGaps_53 (by decide) ?_
              exact ih10 i34 at_28 f_29 (by first | (with_reducible assumption) | omega (splitDisjunctions := false) | assumption | (clear fh16 fh23 hm9; first | omega (splitDisjunctions := false) | omega) | omega | decide) (by first | (with_reducible assumption) | omega (splitDisjunctions := false) | assumption | (clear fh16 fh23 hm9; first | omega (splitDisjunctions := false) | omega) | omega | decide) (by first | (clear fh16 fh23; omega) | omega)
            · have tw33 : r_27.toInt = 0 := (ti_eq rfl (by decide)).mp w33
              refine pb_iconst (pc := 48) (v := 0) d_Markup_skipGaps_48 (by decide) ?_
              exact pb_iret (pc := 49) hQ d_Markup_skipGaps_49 rfl rfl (0, at_28, f_29) ⟨rfl, (by (try dsimp only); first | done | (with_reducible assumption) | omega (splitDisjunctions := false) | assumption | (clear fh16 fh23 hm9; first | omega (splitDisjunctions := false) | omega) | omega | decide), (by (try dsimp only); first | done | (with_reducible assumption) | omega (splitDisjunctions := false) | assumption | (clear fh16 fh23 hm9; first | omega (splitDisjunctions := false) | omega) | omega | decide), (by (try dsimp only); first | done | (with_reducible assumption) | omega (splitDisjunctions := false) | assumption | (clear fh16 fh23 hm9; first | omega (splitDisjunctions := false) | omega) | omega | decide)⟩ [0, 1] (by decide) rfl rfl (by decide) (by decide)
          · have tw24 : ¬ r_20.toInt = 33 := fun z9 => w24 ((ti_eq rfl (by decide)).mpr z9)
            refine pb_iconst (pc := 39) (v := 1) d_Markup_skipGaps_39 (by decide) ?_
            exact pb_iret (pc := 40) hQ d_Markup_skipGaps_40 rfl rfl (1, at_7, f) ⟨rfl, (by (try dsimp only); first | done | (with_reducible assumption) | omega (splitDisjunctions := false) | assumption | (clear fh16 fh23 hm9; first | omega (splitDisjunctions := false) | omega) | omega | decide), (by (try dsimp only); first | done | (with_reducible assumption) | omega (splitDisjunctions := false) | assumption | (clear fh16 fh23 hm9; first | omega (splitDisjunctions := false) | omega) | omega | decide), (by (try dsimp only); first | done | (with_reducible assumption) | omega (splitDisjunctions := false) | assumption | (clear fh16 fh23 hm9; first | omega (splitDisjunctions := false) | omega) | omega | decide)⟩ [0, 1] (by decide) rfl rfl (by decide) (by decide)
  exact hL10_2 _ i1 at_ fa (by first | (with_reducible assumption) | omega (splitDisjunctions := false) | assumption | omega | decide) (by first | (with_reducible assumption) | omega (splitDisjunctions := false) | assumption | omega | decide) (Nat.lt_succ_self _)

theorem d_Markup_readClose_0 : decode prog_7_method_9_code 0 = .ok (.aload_n 0, 1) := by decide +kernel
theorem d_Markup_readClose_1 : decode prog_7_method_9_code 1 = .ok (.aload_n 1, 1) := by decide +kernel
theorem d_Markup_readClose_2 : decode prog_7_method_9_code 2 = .ok (.invokevirtual 73, 3) := by decide +kernel
theorem d_Markup_readClose_5 : decode prog_7_method_9_code 5 = .ok (.ifCond .ne 5, 3) := by decide +kernel
theorem d_Markup_readClose_10 : decode prog_7_method_9_code 10 = .ok (.aload_n 0, 1) := by decide +kernel
theorem d_Markup_readClose_11 : decode prog_7_method_9_code 11 = .ok (.invokevirtual 77, 3) := by decide +kernel
theorem d_Markup_readClose_14 : decode prog_7_method_9_code 14 = .ok (.pop, 1) := by decide +kernel
theorem d_Markup_readClose_15 : decode prog_7_method_9_code 15 = .ok (.aload_n 0, 1) := by decide +kernel
theorem d_Markup_readClose_16 : decode prog_7_method_9_code 16 = .ok (.ldc 87, 2) := by decide +kernel
theorem d_Markup_readClose_18 : decode prog_7_method_9_code 18 = .ok (.invokevirtual 73, 3) := by decide +kernel
theorem d_Markup_readClose_21 : decode prog_7_method_9_code 21 = .ok (.ireturn, 1) := by decide +kernel
theorem d_Markup_readClose_8 : decode prog_7_method_9_code 8 = .ok (.iconst 0, 1) := by decide +kernel
theorem d_Markup_readClose_9 : decode prog_7_method_9_code 9 = .ok (.ireturn, 1) := by decide +kernel
abbrev y_Markup_readClose : MethodName := ⟨"PackageBook$Markup", "readClose", "(Ljava/lang/String;)Z"⟩
abbrev i_Markup_readClose : pb_I := (y_Markup_readClose, prog_7_method_9_code, 2, (some Jvm.ClassFile.FieldType.boolean), [], { frames := 5, cells := 0, slots := 0, locals := 107 })
set_option maxRecDepth 100000 in
set_option maxHeartbeats 4000000 in
theorem g_Mu_readClose {l : Launch} (hl : l.stackTraces = false) (G : pb_G) (h : Nat) (ui : Nat) (ug : Nat) (uv : Nat) (ur : Nat) (ct : Int32) (fa : Int32) (bg : Int32) (at_ : Int32) (en : Int32) (vs : Int32) (io : Int32) (hi : Int32) (ht : Int32) (uf : Nat → Int32) (k : Nat) (a0 : 0 ≤ at_.toInt) (a1 : at_.toInt ≤ en.toInt) (a2 : en.toInt ≤ 12000) (hk : k < st_n) (F_uf : sb_Fit uf) : Cn l G i_Markup_readClose [.ref h, .ref (G.2.2.2.2.2.1 k)] [(h, .inr (8, [.ref ui, .ref ug, .ref uv, .ref ur, .int ct, .int fa, .int bg, .int at_, .int en, .int vs, .int io, .int hi, .int ht])), (ur, .inl (G.2.1, 12000, .inl uf))] (S := Int32 × Int32 × Int32) (fun rv_ u => rv_ = some (.int u.1) ∧ (u.1.toInt = 0 ∨ u.1.toInt = 1) ∧ (at_.toInt ≤ u.2.1.toInt) ∧ (u.2.1.toInt ≤ en.toInt)) (fun u => [(h, .inr (8, [.ref ui, .ref ug, .ref uv, .ref ur, .int ct, .int u.2.2, .int bg, .int u.2.1, .int en, .int vs, .int io, .int hi, .int ht])), (ur, .inl (G.2.1, 12000, .inl uf))]) := by
  refine Cn.of hl (by decide +kernel) rfl (Nat.le_of_ble_eq_true rfl) (fun M hQ => ?_)
  refine pb_eq (pc' := 0) (lo' := [(0, .ref h), (1, .ref (G.2.2.2.2.2.1 k))]) (rest' := []) (ws' := [(h, .inr (8, [.ref ui, .ref ug, .ref uv, .ref ur, .int ct, .int fa, .int bg, .int at_, .int en, .int vs, .int io, .int hi, .int ht])), (ur, .inl (G.2.1, 12000, .inl uf))]) ?_
  have zl0 : (0 : Int32).toInt = 0 := by decide
  have zl1 : (1 : Int32).toInt = 1 := by decide
  refine pb_aload_n (pc := 0) d_Markup_readClose_0 0 rfl rfl ?_
  refine pb_aload_n (pc := 1) d_Markup_readClose_1 1 rfl rfl ?_
  refine pb_callV (pc := 2) (I := i_Markup_readClose) (qb := 0) (ci := 8) (nA := 1) (rest := []) (wr := []) d_Markup_readClose_2 (g_Mu_takeText hl G h ui ug uv ur ct fa bg at_ en vs io hi ht uf k (by first | (with_reducible assumption) | omega (splitDisjunctions := false) | assumption | omega | decide) (by first | (with_reducible assumption) | omega (splitDisjunctions := false) | assumption | omega | decide) (by first | (with_reducible assumption) | omega (splitDisjunctions := false) | assumption | omega | decide) (by first | assumption | decide | omega) F_uf) rfl rfl [0, 1] [] (by decide) rfl rfl rfl (by decide) (by decide) k_825 rfl k_125 k_822 k_824 k_35 ⟨rfl, hy_Markup_takeText⟩ (by decide) rfl rfl (Nat.le_of_ble_eq_true rfl) (by decide) (fun v9 u2 ch1 => ?_)
  obtain ⟨r_3, at_4, f_5⟩ := u2
  obtain ⟨ech1, ch1⟩ := ch1
  have ech1 : v9 = some (.int r_3) := ech1
  subst ech1
  obtain ⟨fh6, fh7, fh8⟩ : (r_3.toInt = 0 ∨ r_3.toInt = 1) ∧ (at_.toInt ≤ at_4.toInt) ∧ (at_4.toInt ≤ en.toInt) := ch1
  refine pb_eq (pc' := 5) (lo' := [(0, .ref h), (1, .ref (G.2.2.2.2.2.1 k))]) (rest' := [.int r_3]) (ws' := [(h, .inr (8, [.ref ui, .ref ug, .ref uv, .ref ur, .int ct, .int f_5, .int bg, .int at_4, .int en, .int vs, .int io, .int hi, .int ht])), (ur, .inl (G.2.1, 12000, .inl uf))]) ?_
  refine pb_if_ne (pc := 5) (tgt := 10) d_Markup_readClose_5 (by decide) (fun w9 => ?_) (fun w9 => ?_)
  · have tw9 : ¬ r_3.toInt = 0 := fun z9 => w9 ((ti_eq rfl (by decide)).mpr z9)
    refine pb_aload_n (pc := 10) d_Markup_readClose_10 0 rfl rfl ?_
    refine pb_callV (pc := 11) (I := i_Markup_readClose) (qb := 0) (ci := 8) (nA := 0) (rest := []) (wr := []) d_Markup_readClose_11 (g_Mu_skipSpace hl G h ui ug uv ur ct f_5 bg at_4 en vs io hi ht uf (by first | (with_reducible assumption) | omega (splitDisjunctions := false) | assumption | omega | decide) (by first | (with_reducible assumption) | omega (splitDisjunctions := false) | assumption | omega | decide) (by first | (with_reducible assumption) | omega (splitDisjunctions := false) | assumption | omega | decide) F_uf) rfl rfl [0, 1] [] (by decide) rfl rfl rfl (by decide) (by decide) k_809 rfl k_125 k_806 k_808 k_32 ⟨rfl, hy_Markup_skipSpace⟩ (by decide) rfl rfl (Nat.le_of_ble_eq_true rfl) (by decide) (fun v9 u11 ch10 => ?_)
    obtain ⟨r_12, at_13⟩ := u11
    obtain ⟨ech10, ch10⟩ := ch10
    have ech10 : v9 = some (.int r_12) := ech10
    subst ech10
    obtain ⟨fh14, fh15, fh16⟩ : (r_12.toInt = 0 ∨ r_12.toInt = 1) ∧ (at_4.toInt ≤ at_13.toInt) ∧ (at_13.toInt ≤ en.toInt) := ch10
    refine pb_eq (pc' := 14) (lo' := [(0, .ref h), (1, .ref (G.2.2.2.2.2.1 k))]) (rest' := [.int r_12]) (ws' := [(h, .inr (8, [.ref ui, .ref ug, .ref uv, .ref ur, .int ct, .int f_5, .int bg, .int at_13, .int en, .int vs, .int io, .int hi, .int ht])), (ur, .inl (G.2.1, 12000, .inl uf))]) ?_
    refine pb_pop (pc := 14) d_Markup_readClose_14 rfl ?_
    refine pb_aload_n (pc := 15) d_Markup_readClose_15 0 rfl rfl ?_
    refine pb_ldcS (pc := 16) (k := 4) d_Markup_readClose_16 rfl (by decide) ?_
    refine pb_callV (pc := 18) (I := i_Markup_readClose) (qb := 0) (ci := 8) (nA := 1) (rest := []) (wr := []) d_Markup_readClose_18 (g_Mu_takeText hl G h ui ug uv ur ct f_5 bg at_13 en vs io hi ht uf 4 (by first | (with_reducible assumption) | omega (splitDisjunctions := false) | assumption | omega | decide) (by first | (with_reducible assumption) | omega (splitDisjunctions := false) | assumption | omega | decide) (by first | (with_reducible assumption) | omega (splitDisjunctions := false) | assumption | omega | decide) (by first | assumption | decide | omega) F_uf) rfl rfl [0, 1] [] (by decide) rfl rfl rfl (by decide) (by decide) k_825 rfl k_125 k_822 k_824 k_35 ⟨rfl, hy_Markup_takeText⟩ (by decide) rfl rfl (Nat.le_of_ble_eq_true rfl) (by decide) (fun v9 u18 ch17 => ?_)
    obtain ⟨r_19, at_20, f_21⟩ := u18
    obtain ⟨ech17, ch17⟩ := ch17
    have ech17 : v9 = some (.int r_19) := ech17
    subst ech17
    obtain ⟨fh22, fh23, fh24⟩ : (r_19.toInt = 0 ∨ r_19.toInt = 1) ∧ (at_13.toInt ≤ at_20.toInt) ∧ (at_20.toInt ≤ en.toInt) := ch17
    refine pb_eq (pc' := 21) (lo' := [(0, .ref h), (1, .ref (G.2.2.2.2.2.1 k))]) (rest' := [.int r_19]) (ws' := [(h, .inr (8, [.ref ui, .ref ug, .ref uv, .ref ur, .int ct, .int f_21, .int bg, .int at_20, .int en, .int vs, .int io, .int hi, .int ht])), (ur, .inl (G.2.1, 12000, .inl uf))]) ?_
    exact pb_iret (pc := 21) hQ d_Markup_readClose_21 rfl (nar_b (by omega)) (r_19, at_20, f_21) ⟨rfl, (by (try dsimp only); first | done | (with_reducible assumption) | omega (splitDisjunctions := false) | assumption | omega | decide), (by (try dsimp only); first | done | (with_reducible assumption) | omega (splitDisjunctions := false) | assumption | omega | decide), (by (try dsimp only); first | done | (with_reducible assumption) | omega (splitDisjunctions := false) | assumption | omega | decide)⟩ [0, 1] (by decide) rfl rfl (by decide) (by decide)
  · have tw9 : r_3.toInt = 0 := (ti_eq rfl (by decide)).mp w9
    refine pb_iconst (pc := 8) (v := 0) d_Markup_readClose_8 (by decide) ?_
    exact pb_iret (pc := 9) hQ d_Markup_readClose_9 rfl rfl (0, at_4, f_5) ⟨rfl, (by (try dsimp only); first | done | (with_reducible assumption) | omega (splitDisjunctions := false) | assumption | omega | decide), (by (try dsimp only); first | done | (with_reducible assumption) | omega (splitDisjunctions := false) | assumption | omega | decide), (by (try dsimp only); first | done | (with_reducible assumption) | omega (splitDisjunctions := false) | assumption | omega | decide)⟩ [0, 1] (by decide) rfl rfl (by decide) (by decide)

theorem d_Markup_readHead_0 : decode prog_7_method_6_code 0 = .ok (.aload_n 0, 1) := by decide +kernel
theorem d_Markup_readHead_1 : decode prog_7_method_6_code 1 = .ok (.invokevirtual 65, 3) := by decide +kernel
theorem k_802 : (Jvm.Cond.methodLink "PackageBook$Markup" (65 : Nat) ({ cls := "PackageBook$Markup", name := "skipGaps", desc := "()Z" } : Jvm.MethodName)) ∈ uW := uW_of 802 (by decide +kernel) (by decide +kernel)
theorem k_805 : (Jvm.Cond.code ({ cls := "PackageBook$Markup", name := "skipGaps", desc := "()Z" } : Jvm.MethodName) prog_7_method_17_code (2 : Nat) (Option.some Jvm.ClassFile.FieldType.boolean)) ∈ uW := uW_of 805 (by decide +kernel) (by decide +kernel)
theorem k_804 : (Jvm.Cond.instanceMethod ({ cls := "PackageBook$Markup", name := "skipGaps", desc := "()Z" } : Jvm.MethodName)) ∈ uW := uW_of 804 (by decide +kernel) (by decide +kernel)
theorem k_31 : Cond.selects "PackageBook$Markup" ⟨"PackageBook$Markup", "skipGaps", "()Z"⟩ ⟨"PackageBook$Markup", "skipGaps", "()Z"⟩ ∈ uW := uW_of 31 (by decide +kernel) (by decide +kernel)
theorem hy_Markup_skipGaps : (y_Markup_skipGaps).cls ≠ "java/lang/invoke/MethodHandle" ∧ (y_Markup_skipGaps).cls ≠ "java/lang/invoke/VarHandle" ∧ (parseMethodDescriptor (y_Markup_skipGaps).desc).map (fun d => d.parameters.length) = some 0 := by decide +kernel
theorem d_Markup_readHead_4 : decode prog_7_method_6_code 4 = .ok (.ifCond .eq 12, 3) := by decide +kernel
theorem d_Markup_readHead_16 : decode prog_7_method_6_code 16 = .ok (.iconst 0, 1) := by decide +kernel
theorem d_Markup_readHead_17 : decode prog_7_method_6_code 17 = .ok (.ireturn, 1) := by decide +kernel
theorem d_Markup_readHead_7 : decode prog_7_method_6_code 7 = .ok (.aload_n 0, 1) := by decide +kernel
theorem d_Markup_readHead_8 : decode prog_7_method_6_code 8 = .ok (.ldc 71, 2) := by decide +kernel
theorem d_Markup_readHead_10 : decode prog_7_method_6_code 10 = .ok (.invokevirtual 73, 3) := by decide +kernel
theorem d_Markup_readHead_13 : decode prog_7_method_6_code 13 = .ok (.ifCond .ne 5, 3) := by decide +kernel
theorem d_Markup_readHead_18 : decode prog_7_method_6_code 18 = .ok (.aload_n 0, 1) := by decide +kernel
theorem d_Markup_readHead_19 : decode prog_7_method_6_code 19 = .ok (.invokevirtual 77, 3) := by decide +kernel
theorem d_Markup_readHead_22 : decode prog_7_method_6_code 22 = .ok (.pop, 1) := by decide +kernel
theorem d_Markup_readHead_23 : decode prog_7_method_6_code 23 = .ok (.aload_n 0, 1) := by decide +kernel
theorem d_Markup_readHead_24 : decode prog_7_method_6_code 24 = .ok (.aload_n 0, 1) := by decide +kernel
theorem d_Markup_readHead_25 : decode prog_7_method_6_code 25 = .ok (.iconst 0, 1) := by decide +kernel
theorem d_Markup_readHead_26 : decode prog_7_method_6_code 26 = .ok (.invokevirtual 80, 3) := by decide +kernel
theorem d_Markup_readHead_29 : decode prog_7_method_6_code 29 = .ok (.bipush 47, 2) := by decide +kernel
theorem d_Markup_readHead_31 : decode prog_7_method_6_code 31 = .ok (.if_icmp .eq 7, 3) := by decide +kernel
theorem d_Markup_readHead_38 : decode prog_7_method_6_code 38 = .ok (.iconst 0, 1) := by decide +kernel
theorem d_Markup_readHead_39 : decode prog_7_method_6_code 39 = .ok (.putfield 83, 3) := by decide +kernel
theorem d_Markup_readHead_42 : decode prog_7_method_6_code 42 = .ok (.aload_n 0, 1) := by decide +kernel
theorem d_Markup_readHead_43 : decode prog_7_method_6_code 43 = .ok (.getfield 83, 3) := by decide +kernel
theorem d_Markup_readHead_46 : decode prog_7_method_6_code 46 = .ok (.ifCond .eq 27, 3) := by decide +kernel
theorem d_Markup_readHead_73 : decode prog_7_method_6_code 73 = .ok (.aload_n 0, 1) := by decide +kernel
theorem d_Markup_readHead_74 : decode prog_7_method_6_code 74 = .ok (.ldc 89, 2) := by decide +kernel
theorem d_Markup_readHead_76 : decode prog_7_method_6_code 76 = .ok (.invokevirtual 73, 3) := by decide +kernel
theorem d_Markup_readHead_79 : decode prog_7_method_6_code 79 = .ok (.ireturn, 1) := by decide +kernel
theorem d_Markup_readHead_34 : decode prog_7_method_6_code 34 = .ok (.iconst 1, 1) := by decide +kernel
theorem d_Markup_readHead_35 : decode prog_7_method_6_code 35 = .ok (.goto 4, 3) := by decide +kernel
theorem d_Markup_readHead_49 : decode prog_7_method_6_code 49 = .ok (.aload_n 0, 1) := by decide +kernel
theorem d_Markup_readHead_50 : decode prog_7_method_6_code 50 = .ok (.ldc 87, 2) := by decide +kernel
theorem d_Markup_readHead_52 : decode prog_7_method_6_code 52 = .ok (.invokevirtual 73, 3) := by decide +kernel
theorem d_Markup_readHead_55 : decode prog_7_method_6_code 55 = .ok (.ifCond .eq 14, 3) := by decide +kernel
theorem d_Markup_readHead_69 : decode prog_7_method_6_code 69 = .ok (.iconst 0, 1) := by decide +kernel
theorem d_Markup_readHead_70 : decode prog_7_method_6_code 70 = .ok (.goto 9, 3) := by decide +kernel
theorem d_Markup_readHead_58 : decode prog_7_method_6_code 58 = .ok (.aload_n 0, 1) := by decide +kernel
theorem d_Markup_readHead_59 : decode prog_7_method_6_code 59 = .ok (.invokevirtual 65, 3) := by decide +kernel
theorem d_Markup_readHead_62 : decode prog_7_method_6_code 62 = .ok (.ifCond .eq 7, 3) := by decide +kernel
theorem d_Markup_readHead_65 : decode prog_7_method_6_code 65 = .ok (.iconst 1, 1) := by decide +kernel
theorem d_Markup_readHead_66 : decode prog_7_method_6_code 66 = .ok (.goto 13, 3) := by decide +kernel
abbrev y_Markup_readHead : MethodName := ⟨"PackageBook$Markup", "readHead", "()Z"⟩
abbrev i_Markup_readHead : pb_I := (y_Markup_readHead, prog_7_method_6_code, 1, (some Jvm.ClassFile.FieldType.boolean), [], { frames := 7, cells := 0, slots := 0, locals := 148 })
set_option maxRecDepth 100000 in
set_option maxHeartbeats 4000000 in
theorem g_Mu_readHead {l : Launch} (hl : l.stackTraces = false) (G : pb_G) (h : Nat) (ui : Nat) (ug : Nat) (uv : Nat) (ur : Nat) (ct : Int32) (fa : Int32) (bg : Int32) (at_ : Int32) (en : Int32) (vs : Int32) (io : Int32) (hi : Int32) (ht : Int32) (uf : Nat → Int32) (a0 : 0 ≤ at_.toInt) (a1 : at_.toInt ≤ en.toInt) (a2 : en.toInt ≤ 12000) (F_uf : sb_Fit uf) : Cn l G i_Markup_readHead [.ref h] [(h, .inr (8, [.ref ui, .ref ug, .ref uv, .ref ur, .int ct, .int fa, .int bg, .int at_, .int en, .int vs, .int io, .int hi, .int ht])), (ur, .inl (G.2.1, 12000, .inl uf))] (S := Int32 × Int32 × Int32 × Int32) (fun rv_ u => rv_ = some (.int u.1) ∧ (u.1.toInt = 0 ∨ u.1.toInt = 1) ∧ (at_.toInt ≤ u.2.1.toInt) ∧ (u.2.1.toInt ≤ en.toInt)) (fun u => [(h, .inr (8, [.ref ui, .ref ug, .ref uv, .ref ur, .int ct, .int u.2.2.1, .int bg, .int u.2.1, .int en, .int vs, .int u.2.2.2, .int hi, .int ht])), (ur, .inl (G.2.1, 12000, .inl uf))]) := by
  refine Cn.of hl (by decide +kernel) rfl (Nat.le_of_ble_eq_true rfl) (fun M hQ => ?_)
  refine pb_eq (pc' := 0) (lo' := [(0, .ref h)]) (rest' := []) (ws' := [(h, .inr (8, [.ref ui, .ref ug, .ref uv, .ref ur, .int ct, .int fa, .int bg, .int at_, .int en, .int vs, .int io, .int hi, .int ht])), (ur, .inl (G.2.1, 12000, .inl uf))]) ?_
  have zl0 : (0 : Int32).toInt = 0 := by decide
  have zl1 : (1 : Int32).toInt = 1 := by decide
  refine pb_aload_n (pc := 0) d_Markup_readHead_0 0 rfl rfl ?_
  refine pb_callV (pc := 1) (I := i_Markup_readHead) (qb := 0) (ci := 8) (nA := 0) (rest := []) (wr := []) d_Markup_readHead_1 (g_Mu_skipGaps hl G h ui ug uv ur ct fa bg at_ en vs io hi ht uf (by first | (with_reducible assumption) | omega (splitDisjunctions := false) | assumption | omega | decide) (by first | (with_reducible assumption) | omega (splitDisjunctions := false) | assumption | omega | decide) (by first | (with_reducible assumption) | omega (splitDisjunctions := false) | assumption | omega | decide) F_uf) rfl rfl [0, 1] [] (by decide) rfl rfl rfl (by decide) (by decide) k_805 rfl k_125 k_802 k_804 k_31 ⟨rfl, hy_Markup_skipGaps⟩ (by decide) rfl rfl (Nat.le_of_ble_eq_true rfl) (by decide) (fun v9 u2 ch1 => ?_)
  obtain ⟨r_3, at_4, f_5⟩ := u2
  obtain ⟨ech1, ch1⟩ := ch1
  have ech1 : v9 = some (.int r_3) := ech1
  subst ech1
  obtain ⟨fh6, fh7, fh8⟩ : (r_3.toInt = 0 ∨ r_3.toInt = 1) ∧ (at_.toInt ≤ at_4.toInt) ∧ (at_4.toInt ≤ en.toInt) := ch1
  refine pb_eq (pc' := 4) (lo' := [(0, .ref h)]) (rest' := [.int r_3]) (ws' := [(h, .inr (8, [.ref ui, .ref ug, .ref uv, .ref ur, .int ct, .int f_5, .int bg, .int at_4, .int en, .int vs, .int io, .int hi, .int ht])), (ur, .inl (G.2.1, 12000, .inl uf))]) ?_
  refine pb_if_eq (pc := 4) (tgt := 16) d_Markup_readHead_4 (by decide) (fun w9 => ?_) (fun w9 => ?_)
  · have tw9 : r_3.toInt = 0 := (ti_eq rfl (by decide)).mp w9
    refine pb_iconst (pc := 16) (v := 0) d_Markup_readHead_16 (by decide) ?_
    exact pb_iret (pc := 17) hQ d_Markup_readHead_17 rfl rfl (0, at_4, f_5, io) ⟨rfl, (by (try dsimp only); first | done | (with_reducible assumption) | omega (splitDisjunctions := false) | assumption | omega | decide), (by (try dsimp only); first | done | (with_reducible assumption) | omega (splitDisjunctions := false) | assumption | omega | decide), (by (try dsimp only); first | done | (with_reducible assumption) | omega (splitDisjunctions := false) | assumption | omega | decide)⟩ [0, 1] (by decide) rfl rfl (by decide) (by decide)
  · have tw9 : ¬ r_3.toInt = 0 := fun z9 => w9 ((ti_eq rfl (by decide)).mpr z9)
    refine pb_aload_n (pc := 7) d_Markup_readHead_7 0 rfl rfl ?_
    refine pb_ldcS (pc := 8) (k := 3) d_Markup_readHead_8 rfl (by decide) ?_
    refine pb_callV (pc := 10) (I := i_Markup_readHead) (qb := 0) (ci := 8) (nA := 1) (rest := []) (wr := []) d_Markup_readHead_10 (g_Mu_takeText hl G h ui ug uv ur ct f_5 bg at_4 en vs io hi ht uf 3 (by first | (with_reducible assumption) | omega (splitDisjunctions := false) | assumption | omega | decide) (by first | (with_reducible assumption) | omega (splitDisjunctions := false) | assumption | omega | decide) (by first | (with_reducible assumption) | omega (splitDisjunctions := false) | assumption | omega | decide) (by first | assumption | decide | omega) F_uf) rfl rfl [0, 1] [] (by decide) rfl rfl rfl (by decide) (by decide) k_825 rfl k_125 k_822 k_824 k_35 ⟨rfl, hy_Markup_takeText⟩ (by decide) rfl rfl (Nat.le_of_ble_eq_true rfl) (by decide) (fun v9 u11 ch10 => ?_)
    obtain ⟨r_12, at_13, f_14⟩ := u11
    obtain ⟨ech10, ch10⟩ := ch10
    have ech10 : v9 = some (.int r_12) := ech10
    subst ech10
    obtain ⟨fh15, fh16, fh17⟩ : (r_12.toInt = 0 ∨ r_12.toInt = 1) ∧ (at_4.toInt ≤ at_13.toInt) ∧ (at_13.toInt ≤ en.toInt) := ch10
    refine pb_eq (pc' := 13) (lo' := [(0, .ref h)]) (rest' := [.int r_12]) (ws' := [(h, .inr (8, [.ref ui, .ref ug, .ref uv, .ref ur, .int ct, .int f_14, .int bg, .int at_13, .int en, .int vs, .int io, .int hi, .int ht])), (ur, .inl (G.2.1, 12000, .inl uf))]) ?_
    refine pb_if_ne (pc := 13) (tgt := 18) d_Markup_readHead_13 (by decide) (fun w18 => ?_) (fun w18 => ?_)
    · have tw18 : ¬ r_12.toInt = 0 := fun z9 => w18 ((ti_eq rfl (by decide)).mpr z9)
      refine pb_aload_n (pc := 18) d_Markup_readHead_18 0 rfl rfl ?_
      refine pb_callV (pc := 19) (I := i_Markup_readHead) (qb := 0) (ci := 8) (nA := 0) (rest := []) (wr := []) d_Markup_readHead_19 (g_Mu_skipSpace hl G h ui ug uv ur ct f_14 bg at_13 en vs io hi ht uf (by first | (with_reducible assumption) | omega (splitDisjunctions := false) | assumption | omega | decide) (by first | (with_reducible assumption) | omega (splitDisjunctions := false) | assumption | omega | decide) (by first | (with_reducible assumption) | omega (splitDisjunctions := false) | assumption | omega | decide) F_uf) rfl rfl [0, 1] [] (by decide) rfl rfl rfl (by decide) (by decide) k_809 rfl k_125 k_806 k_808 k_32 ⟨rfl, hy_Markup_skipSpace⟩ (by decide) rfl rfl (Nat.le_of_ble_eq_true rfl) (by decide) (fun v9 u20 ch19 => ?_)
      obtain ⟨r_21, at_22⟩ := u20
      obtain ⟨ech19, ch19⟩ := ch19
      have ech19 : v9 = some (.int r_21) := ech19
      subst ech19
      obtain ⟨fh23, fh24, fh25⟩ : (r_21.toInt = 0 ∨ r_21.toInt = 1) ∧ (at_13.toInt ≤ at_22.toInt) ∧ (at_22.toInt ≤ en.toInt) := ch19
      refine pb_eq (pc' := 22) (lo' := [(0, .ref h)]) (rest' := [.int r_21]) (ws' := [(h, .inr (8, [.ref ui, .ref ug, .ref uv, .ref ur, .int ct, .int f_14, .int bg, .int at_22, .int en, .int vs, .int io, .int hi, .int ht])), (ur, .inl (G.2.1, 12000, .inl uf))]) ?_
      refine pb_pop (pc := 22) d_Markup_readHead_22 rfl ?_
      refine pb_aload_n (pc := 23) d_Markup_readHead_23 0 rfl rfl ?_
      refine pb_aload_n (pc := 24) d_Markup_readHead_24 0 rfl rfl ?_
      refine pb_iconst (pc := 25) (v := 0) d_Markup_readHead_25 (by decide) ?_
      refine pb_callV (pc := 26) (I := i_Markup_readHead) (qb := 0) (ci := 8) (nA := 1) (rest := [.ref h]) (wr := []) d_Markup_readHead_26 (g_Mu_next hl G h ui ug uv ur ct f_14 bg at_22 en vs io hi ht uf 0 (by first | (with_reducible assumption) | omega (splitDisjunctions := false) | assumption | omega | decide) (by first | (with_reducible assumption) | omega (splitDisjunctions := false) | assumption | omega | decide) (by first | (with_reducible assumption) | omega (splitDisjunctions := false) | assumption | omega | decide) (by first | (with_reducible assumption) | omega (splitDisjunctions := false) | assumption | omega | decide) (by first | (with_reducible assumption) | omega (splitDisjunctions := false) | assumption | omega | decide) F_uf) rfl rfl [0, 1] [] (by decide) rfl rfl rfl (by decide) (by decide) k_813 rfl k_125 k_810 k_812 k_33 ⟨rfl, hy_Markup_next⟩ (by decide) rfl rfl (Nat.le_of_ble_eq_true rfl) (by decide) (fun v9 u27 ch26 => ?_)
      obtain ⟨r_28, rfl⟩ : ∃ z9, z9 = u27 := ⟨_, rfl⟩
      obtain ⟨ech26, ch26⟩ := ch26
      have ech26 : v9 = some (.int r_28) := ech26
      subst ech26
      obtain ⟨fh29, fh30, fh31⟩ : (-1 ≤ r_28.toInt) ∧ (r_28.toInt ≤ 255) ∧ (0 ≤ r_28.toInt → at_22.toInt + (0 : Int32).toInt < en.toInt) := ch26
      refine pb_eq (pc' := 29) (lo' := [(0, .ref h)]) (rest' := [.int r_28, .ref h]) (ws' := [(h, .inr (8, [.ref ui, .ref ug, .ref uv, .ref ur, .int ct, .int f_14, .int bg, .int at_22, .int en, .int vs, .int io, .int hi, .int ht])), (ur, .inl (G.2.1, 12000, .inl uf))]) ?_
      refine pb_bipush (pc := 29) (v := 47) d_Markup_readHead_29 (by decide) ?_
      refine pb_icmp_eq (pc := 31) (tgt := 38) d_Markup_readHead_31 (by decide) (fun w32 => ?_) (fun w32 => ?_)
      · have tw32 : r_28.toInt = 47 := (ti_eq rfl (by decide)).mp w32
        refine pb_iconst (pc := 38) (v := 0) d_Markup_readHead_38 (by decide) ?_
        refine pb_put (pc := 39) (ty := .boolean) (ws' := [(h, .inr (8, [.ref ui, .ref ug, .ref uv, .ref ur, .int ct, .int f_14, .int bg, .int at_22, .int en, .int vs, .int 0, .int hi, .int ht])), (ur, .inl (G.2.1, 12000, .inl uf))]) d_Markup_readHead_39 0 10 t_Markup t_Markup_ok n_Markup rfl rfl (by decide) in_Markup k_329 rfl (by decide +kernel) rfl rfl (Nat.le_of_ble_eq_true rfl) rfl ?_
        refine pb_aload_n (pc := 42) d_Markup_readHead_42 0 rfl rfl ?_
        refine pb_get (pc := 43) d_Markup_readHead_43 0 10 rfl rfl (by decide) in_Markup k_329 rfl ?_
        refine pb_if_eq (pc := 46) (tgt := 73) d_Markup_readHead_46 (by decide) (fun _ => ?_) (fun h9 => absurd h9 (by decide))
        refine pb_aload_n (pc := 73) d_Markup_readHead_73 0 rfl rfl ?_
        refine pb_ldcS (pc := 74) (k := 5) d_Markup_readHead_74 rfl (by decide) ?_
        refine pb_callV (pc := 76) (I := i_Markup_readHead) (qb := 0) (ci := 8) (nA := 1) (rest := []) (wr := []) d_Markup_readHead_76 (g_Mu_takeText hl G h ui ug uv ur ct f_14 bg at_22 en vs 0 hi ht uf 5 (by first | (with_reducible assumption) | omega (splitDisjunctions := false) | assumption | (clear fh31; first | omega (splitDisjunctions := false) | omega) | omega | decide) (by first | (with_reducible assumption) | omega (splitDisjunctions := false) | assumption | (clear fh31; first | omega (splitDisjunctions := false) | omega) | omega | decide) (by first | (with_reducible assumption) | omega (splitDisjunctions := false) | assumption | (clear fh31; first | omega (splitDisjunctions := false) | omega) | omega | decide) (by first | assumption | decide | omega) F_uf) rfl rfl [0, 1] [] (by decide) rfl rfl rfl (by decide) (by decide) k_825 rfl k_125 k_822 k_824 k_35 ⟨rfl, hy_Markup_takeText⟩ (by decide) rfl rfl (Nat.le_of_ble_eq_true rfl) (by decide) (fun v9 u35 ch34 => ?_)
        obtain ⟨r_36, at_37, f_38⟩ := u35
        obtain ⟨ech34, ch34⟩ := ch34
        have ech34 : v9 = some (.int r_36) := ech34
        subst ech34
        obtain ⟨fh39, fh40, fh41⟩ : (r_36.toInt = 0 ∨ r_36.toInt = 1) ∧ (at_22.toInt ≤ at_37.toInt) ∧ (at_37.toInt ≤ en.toInt) := ch34
        refine pb_eq (pc' := 79) (lo' := [(0, .ref h)]) (rest' := [.int r_36]) (ws' := [(h, .inr (8, [.ref ui, .ref ug, .ref uv, .ref ur, .int ct, .int f_38, .int bg, .int at_37, .int en, .int vs, .int 0, .int hi, .int ht])), (ur, .inl (G.2.1, 12000, .inl uf))]) ?_
        exact pb_iret (pc := 79) hQ d_Markup_readHead_79 rfl (nar_b (by omega)) (r_36, at_37, f_38, 0) ⟨rfl, (by (try dsimp only); first | done | (with_reducible assumption) | omega (splitDisjunctions := false) | assumption | (clear fh31; first | omega (splitDisjunctions := false) | omega) | omega | decide), (by (try dsimp only); first | done | (with_reducible assumption) | omega (splitDisjunctions := false) | assumption | (clear fh31; first | omega (splitDisjunctions := false) | omega) | omega | decide), (by (try dsimp only); first | done | (with_reducible assumption) | omega (splitDisjunctions := false) | assumption | (clear fh31; first | omega (splitDisjunctions := false) | omega) | omega | decide)⟩ [0, 1] (by decide) rfl rfl (by decide) (by decide)
      · have tw32 : ¬ r_28.toInt = 47 := fun z9 => w32 ((ti_eq rfl (by decide)).mpr z9)
        refine pb_iconst (pc := 34) (v := 1) d_Markup_readHead_34 (by decide) ?_
        refine pb_goto (pc := 35) (tgt := 39) d_Markup_readHead_35 (by decide) ?_
        refine pb_put (pc := 39) (ty := .boolean) (ws' := [(h, .inr (8, [.ref ui, .ref ug, .ref uv, .ref ur, .int ct, .int f_14, .int bg, .int at_22, .int en, .int vs, .int 1, .int hi, .int ht])), (ur, .inl (G.2.1, 12000, .inl uf))]) d_Markup_readHead_39 0 10 t_Markup t_Markup_ok n_Markup rfl rfl (by decide) in_Markup k_329 rfl (by decide +kernel) rfl rfl (Nat.le_of_ble_eq_true rfl) rfl ?_
        refine pb_aload_n (pc := 42) d_Markup_readHead_42 0 rfl rfl ?_
        refine pb_get (pc := 43) d_Markup_readHead_43 0 10 rfl rfl (by decide) in_Markup k_329 rfl ?_
        refine pb_if_eq (pc := 46) (tgt := 73) d_Markup_readHead_46 (by decide) (fun h9 => absurd h9 (by decide)) (fun _ => ?_)
        refine pb_aload_n (pc := 49) d_Markup_readHead_49 0 rfl rfl ?_
        refine pb_ldcS (pc := 50) (k := 4) d_Markup_readHead_50 rfl (by decide) ?_
        refine pb_callV (pc := 52) (I := i_Markup_readHead) (qb := 0) (ci := 8) (nA := 1) (rest := []) (wr := []) d_Markup_readHead_52 (g_Mu_takeText hl G h ui ug uv ur ct f_14 bg at_22 en vs 1 hi ht uf 4 (by first | (with_reducible assumption) | omega (splitDisjunctions := false) | assumption | (clear fh31; first | omega (splitDisjunctions := false) | omega) | omega | decide) (by first | (with_reducible assumption) | omega (splitDisjunctions := false) | assumption | (clear fh31; first | omega (splitDisjunctions := false) | omega) | omega | decide) (by first | (with_reducible assumption) | omega (splitDisjunctions := false) | assumption | (clear fh31; first | omega (splitDisjunctions := false) | omega) | omega | decide) (by first | assumption | decide | omega) F_uf) rfl rfl [0, 1] [] (by decide) rfl rfl rfl (by decide) (by decide) k_825 rfl k_125 k_822 k_824 k_35 ⟨rfl, hy_Markup_takeText⟩ (by decide) rfl rfl (Nat.le_of_ble_eq_true rfl) (by decide) (fun v9 u44 ch43 => ?_)
        obtain ⟨r_45, at_46, f_47⟩ := u44
        obtain ⟨ech43, ch43⟩ := ch43
        have ech43 : v9 = some (.int r_45) := ech43
        subst ech43
        obtain ⟨fh48, fh49, fh50⟩ : (r_45.toInt = 0 ∨ r_45.toInt = 1) ∧ (at_22.toInt ≤ at_46.toInt) ∧ (at_46.toInt ≤ en.toInt) := ch43
        refine pb_eq (pc' := 55) (lo' := [(0, .ref h)]) (rest' := [.int r_45]) (ws' := [(h, .inr (8, [.ref ui, .ref ug, .ref uv, .ref ur, .int ct, .int f_47, .int bg, .int at_46, .int en, .int vs, .int 1, .int hi, .int ht])), (ur, .inl (G.2.1, 12000, .inl uf))]) ?_
        refine pb_if_eq (pc := 55) (tgt := 69) d_Markup_readHead_55 (by decide) (fun w51 => ?_) (fun w51 => ?_)
        · have tw51 : r_45.toInt = 0 := (ti_eq rfl (by decide)).mp w51
          refine pb_iconst (pc := 69) (v := 0) d_Markup_readHead_69 (by decide) ?_
          refine pb_goto (pc := 70) (tgt := 79) d_Markup_readHead_70 (by decide) ?_
          exact pb_iret (pc := 79) hQ d_Markup_readHead_79 rfl rfl (0, at_46, f_47, 1) ⟨rfl, (by (try dsimp only); first | done | (with_reducible assumption) | omega (splitDisjunctions := false) | assumption | (clear fh31; first | omega (splitDisjunctions := false) | omega) | omega | decide), (by (try dsimp only); first | done | (with_reducible assumption) | omega (splitDisjunctions := false) | assumption | (clear fh31; first | omega (splitDisjunctions := false) | omega) | omega | decide), (by (try dsimp only); first | done | (with_reducible assumption) | omega (splitDisjunctions := false) | assumption | (clear fh31; first | omega (splitDisjunctions := false) | omega) | omega | decide)⟩ [0, 1] (by decide) rfl rfl (by decide) (by decide)
        · have tw51 : ¬ r_45.toInt = 0 := fun z9 => w51 ((ti_eq rfl (by decide)).mpr z9)
          refine pb_aload_n (pc := 58) d_Markup_readHead_58 0 rfl rfl ?_
          refine pb_callV (pc := 59) (I := i_Markup_readHead) (qb := 0) (ci := 8) (nA := 0) (rest := []) (wr := []) d_Markup_readHead_59 (g_Mu_skipGaps hl G h ui ug uv ur ct f_47 bg at_46 en vs 1 hi ht uf (by first | (with_reducible assumption) | omega (splitDisjunctions := false) | assumption | (clear fh31; first | omega (splitDisjunctions := false) | omega) | omega | decide) (by first | (with_reducible assumption) | omega (splitDisjunctions := false) | assumption | (clear fh31; first | omega (splitDisjunctions := false) | omega) | omega | decide) (by first | (with_reducible assumption) | omega (splitDisjunctions := false) | assumption | (clear fh31; first | omega (splitDisjunctions := false) | omega) | omega | decide) F_uf) rfl rfl [0, 1] [] (by decide) rfl rfl rfl (by decide) (by decide) k_805 rfl k_125 k_802 k_804 k_31 ⟨rfl, hy_Markup_skipGaps⟩ (by decide) rfl rfl (Nat.le_of_ble_eq_true rfl) (by decide) (fun v9 u53 ch52 => ?_)
          obtain ⟨r_54, at_55, f_56⟩ := u53
          obtain ⟨ech52, ch52⟩ := ch52
          have ech52 : v9 = some (.int r_54) := ech52
          subst ech52
          obtain ⟨fh57, fh58, fh59⟩ : (r_54.toInt = 0 ∨ r_54.toInt = 1) ∧ (at_46.toInt ≤ at_55.toInt) ∧ (at_55.toInt ≤ en.toInt) := ch52
          refine pb_eq (pc' := 62) (lo' := [(0, .ref h)]) (rest' := [.int r_54]) (ws' := [(h, .inr (8, [.ref ui, .ref ug, .ref uv, .ref ur, .int ct, .int f_56, .int bg, .int at_55, .int en, .int vs, .int 1, .int hi, .int ht])), (ur, .inl (G.2.1, 12000, .inl uf))]) ?_
          refine pb_if_eq (pc := 62) (tgt := 69) d_Markup_readHead_62 (by decide) (fun w60 => ?_) (fun w60 => ?_)
          · have tw60 : r_54.toInt = 0 := (ti_eq rfl (by decide)).mp w60
            refine pb_iconst (pc := 69) (v := 0) d_Markup_readHead_69 (by decide) ?_
            refine pb_goto (pc := 70) (tgt := 79) d_Markup_readHead_70 (by decide) ?_
            exact pb_iret (pc := 79) hQ d_Markup_readHead_79 rfl rfl (0, at_55, f_56, 1) ⟨rfl, (by (try dsimp only); first | done | (with_reducible assumption) | omega (splitDisjunctions := false) | assumption | (clear fh31; first | omega (splitDisjunctions := false) | omega) | omega | decide), (by (try dsimp only); first | done | (with_reducible assumption) | omega (splitDisjunctions := false) | assumption | (clear fh31; first | omega (splitDisjunctions := false) | omega) | omega | decide), (by (try dsimp only); first | done | (with_reducible assumption) | omega (splitDisjunctions := false) | assumption | (clear fh31; first | omega (splitDisjunctions := false) | omega) | omega | decide)⟩ [0, 1] (by decide) rfl rfl (by decide) (by decide)
          · have tw60 : ¬ r_54.toInt = 0 := fun z9 => w60 ((ti_eq rfl (by decide)).mpr z9)
            refine pb_iconst (pc := 65) (v := 1) d_Markup_readHead_65 (by decide) ?_
            refine pb_goto (pc := 66) (tgt := 79) d_Markup_readHead_66 (by decide) ?_
            exact pb_iret (pc := 79) hQ d_Markup_readHead_79 rfl rfl (1, at_55, f_56, 1) ⟨rfl, (by (try dsimp only); first | done | (with_reducible assumption) | omega (splitDisjunctions := false) | assumption | (clear fh31; first | omega (splitDisjunctions := false) | omega) | omega | decide), (by (try dsimp only); first | done | (with_reducible assumption) | omega (splitDisjunctions := false) | assumption | (clear fh31; first | omega (splitDisjunctions := false) | omega) | omega | decide), (by (try dsimp only); first | done | (with_reducible assumption) | omega (splitDisjunctions := false) | assumption | (clear fh31; first | omega (splitDisjunctions := false) | omega) | omega | decide)⟩ [0, 1] (by decide) rfl rfl (by decide) (by decide)
    · have tw18 : r_12.toInt = 0 := (ti_eq rfl (by decide)).mp w18
      refine pb_iconst (pc := 16) (v := 0) d_Markup_readHead_16 (by decide) ?_
      exact pb_iret (pc := 17) hQ d_Markup_readHead_17 rfl rfl (0, at_13, f_14, io) ⟨rfl, (by (try dsimp only); first | done | (with_reducible assumption) | omega (splitDisjunctions := false) | assumption | omega | decide), (by (try dsimp only); first | done | (with_reducible assumption) | omega (splitDisjunctions := false) | assumption | omega | decide), (by (try dsimp only); first | done | (with_reducible assumption) | omega (splitDisjunctions := false) | assumption | omega | decide)⟩ [0, 1] (by decide) rfl rfl (by decide) (by decide)

theorem d_Markup_readTail_0 : decode prog_7_method_8_code 0 = .ok (.aload_n 0, 1) := by decide +kernel
theorem d_Markup_readTail_1 : decode prog_7_method_8_code 1 = .ok (.getfield 83, 3) := by decide +kernel
theorem d_Markup_readTail_4 : decode prog_7_method_8_code 4 = .ok (.ifCond .eq 12, 3) := by decide +kernel
theorem d_Markup_readTail_16 : decode prog_7_method_8_code 16 = .ok (.aload_n 0, 1) := by decide +kernel
theorem d_Markup_readTail_17 : decode prog_7_method_8_code 17 = .ok (.invokevirtual 65, 3) := by decide +kernel
theorem d_Markup_readTail_20 : decode prog_7_method_8_code 20 = .ok (.ifCond .ne 5, 3) := by decide +kernel
theorem d_Markup_readTail_25 : decode prog_7_method_8_code 25 = .ok (.aload_n 0, 1) := by decide +kernel
theorem d_Markup_readTail_26 : decode prog_7_method_8_code 26 = .ok (.getfield 48, 3) := by decide +kernel
theorem d_Markup_readTail_29 : decode prog_7_method_8_code 29 = .ok (.aload_n 0, 1) := by decide +kernel
theorem d_Markup_readTail_30 : decode prog_7_method_8_code 30 = .ok (.getfield 51, 3) := by decide +kernel
theorem d_Markup_readTail_33 : decode prog_7_method_8_code 33 = .ok (.if_icmp .ne 5, 3) := by decide +kernel
theorem d_Markup_readTail_38 : decode prog_7_method_8_code 38 = .ok (.aload_n 0, 1) := by decide +kernel
theorem d_Markup_readTail_39 : decode prog_7_method_8_code 39 = .ok (.aload_n 0, 1) := by decide +kernel
theorem d_Markup_readTail_40 : decode prog_7_method_8_code 40 = .ok (.iconst 0, 1) := by decide +kernel
theorem d_Markup_readTail_41 : decode prog_7_method_8_code 41 = .ok (.invokevirtual 80, 3) := by decide +kernel
theorem d_Markup_readTail_44 : decode prog_7_method_8_code 44 = .ok (.bipush 60, 2) := by decide +kernel
theorem d_Markup_readTail_46 : decode prog_7_method_8_code 46 = .ok (.if_icmp .ne 12, 3) := by decide +kernel
theorem d_Markup_readTail_58 : decode prog_7_method_8_code 58 = .ok (.aload_n 0, 1) := by decide +kernel
theorem d_Markup_readTail_59 : decode prog_7_method_8_code 59 = .ok (.getfield 48, 3) := by decide +kernel
theorem d_Markup_readTail_62 : decode prog_7_method_8_code 62 = .ok (.invokevirtual 96, 3) := by decide +kernel
theorem d_Markup_readTail_65 : decode prog_7_method_8_code 65 = .ok (.ireturn, 1) := by decide +kernel
theorem d_Markup_readTail_49 : decode prog_7_method_8_code 49 = .ok (.aload_n 0, 1) := by decide +kernel
theorem d_Markup_readTail_50 : decode prog_7_method_8_code 50 = .ok (.getfield 48, 3) := by decide +kernel
theorem d_Markup_readTail_53 : decode prog_7_method_8_code 53 = .ok (.iconst 1, 1) := by decide +kernel
theorem d_Markup_readTail_54 : decode prog_7_method_8_code 54 = .ok (.iadd, 1) := by decide +kernel
theorem d_Markup_readTail_55 : decode prog_7_method_8_code 55 = .ok (.goto 7, 3) := by decide +kernel
theorem d_Markup_readTail_36 : decode prog_7_method_8_code 36 = .ok (.iconst 1, 1) := by decide +kernel
theorem d_Markup_readTail_37 : decode prog_7_method_8_code 37 = .ok (.ireturn, 1) := by decide +kernel
theorem d_Markup_readTail_23 : decode prog_7_method_8_code 23 = .ok (.iconst 0, 1) := by decide +kernel
theorem d_Markup_readTail_24 : decode prog_7_method_8_code 24 = .ok (.ireturn, 1) := by decide +kernel
theorem d_Markup_readTail_7 : decode prog_7_method_8_code 7 = .ok (.aload_n 0, 1) := by decide +kernel
theorem d_Markup_readTail_8 : decode prog_7_method_8_code 8 = .ok (.ldc 91, 2) := by decide +kernel
theorem d_Markup_readTail_10 : decode prog_7_method_8_code 10 = .ok (.invokevirtual 93, 3) := by decide +kernel
theorem k_889 : (Jvm.Cond.methodLink "PackageBook$Markup" (93 : Nat) ({ cls := "PackageBook$Markup", name := "readClose", desc := "(Ljava/lang/String;)Z" } : Jvm.MethodName)) ∈ uW := uW_of 889 (by decide +kernel) (by decide +kernel)
theorem k_892 : (Jvm.Cond.code ({ cls := "PackageBook$Markup", name := "readClose", desc := "(Ljava/lang/String;)Z" } : Jvm.MethodName) prog_7_method_9_code (2 : Nat) (Option.some Jvm.ClassFile.FieldType.boolean)) ∈ uW := uW_of 892 (by decide +kernel) (by decide +kernel)
theorem k_891 : (Jvm.Cond.instanceMethod ({ cls := "PackageBook$Markup", name := "readClose", desc := "(Ljava/lang/String;)Z" } : Jvm.MethodName)) ∈ uW := uW_of 891 (by decide +kernel) (by decide +kernel)
theorem k_47 : Cond.selects "PackageBook$Markup" ⟨"PackageBook$Markup", "readClose", "(Ljava/lang/String;)Z"⟩ ⟨"PackageBook$Markup", "readClose", "(Ljava/lang/String;)Z"⟩ ∈ uW := uW_of 47 (by decide +kernel) (by decide +kernel)
theorem hy_Markup_readClose : (y_Markup_readClose).cls ≠ "java/lang/invoke/MethodHandle" ∧ (y_Markup_readClose).cls ≠ "java/lang/invoke/VarHandle" ∧ (parseMethodDescriptor (y_Markup_readClose).desc).map (fun d => d.parameters.length) = some 1 := by decide +kernel
theorem d_Markup_readTail_13 : decode prog_7_method_8_code 13 = .ok (.ifCond .eq 10, 3) := by decide +kernel
abbrev y_Markup_readTail : MethodName := ⟨"PackageBook$Markup", "readTail", "()Z"⟩
abbrev i_Markup_readTail : pb_I := (y_Markup_readTail, prog_7_method_8_code, 1, (some Jvm.ClassFile.FieldType.boolean), [], { frames := 7, cells := 0, slots := 0, locals := 148 })
set_option maxRecDepth 100000 in
set_option maxHeartbeats 4000000 in
theorem g_Mu_readTail {l : Launch} (hl : l.stackTraces = false) (G : pb_G) (h : Nat) (ui : Nat) (ug : Nat) (uv : Nat) (ur : Nat) (ct : Int32) (fa : Int32) (bg : Int32) (at_ : Int32) (en : Int32) (vs : Int32) (io : Int32) (hi : Int32) (ht : Int32) (uf : Nat → Int32) (a0 : 0 ≤ at_.toInt) (a1 : at_.toInt ≤ en.toInt) (a2 : en.toInt ≤ 12000) (F_uf : sb_Fit uf) : Cn l G i_Markup_readTail [.ref h] [(h, .inr (8, [.ref ui, .ref ug, .ref uv, .ref ur, .int ct, .int fa, .int bg, .int at_, .int en, .int vs, .int io, .int hi, .int ht])), (ur, .inl (G.2.1, 12000, .inl uf))] (S := Int32 × Int32 × Int32) (fun rv_ u => rv_ = some (.int u.1) ∧ (u.1.toInt = 0 ∨ u.1.toInt = 1) ∧ (at_.toInt ≤ u.2.1.toInt) ∧ (u.2.1.toInt ≤ en.toInt)) (fun u => [(h, .inr (8, [.ref ui, .ref ug, .ref uv, .ref ur, .int ct, .int u.2.2, .int bg, .int u.2.1, .int en, .int vs, .int io, .int hi, .int ht])), (ur, .inl (G.2.1, 12000, .inl uf))]) := by
  refine Cn.of hl (by decide +kernel) rfl (Nat.le_of_ble_eq_true rfl) (fun M hQ => ?_)
  refine pb_eq (pc' := 0) (lo' := [(0, .ref h)]) (rest' := []) (ws' := [(h, .inr (8, [.ref ui, .ref ug, .ref uv, .ref ur, .int ct, .int fa, .int bg, .int at_, .int en, .int vs, .int io, .int hi, .int ht])), (ur, .inl (G.2.1, 12000, .inl uf))]) ?_
  have zl0 : (0 : Int32).toInt = 0 := by decide
  have zl1 : (1 : Int32).toInt = 1 := by decide
  refine pb_aload_n (pc := 0) d_Markup_readTail_0 0 rfl rfl ?_
  refine pb_get (pc := 1) d_Markup_readTail_1 0 10 rfl rfl (by decide) in_Markup k_329 rfl ?_
  refine pb_if_eq (pc := 4) (tgt := 16) d_Markup_readTail_4 (by decide) (fun w1 => ?_) (fun w1 => ?_)
  · have tw1 : io.toInt = 0 := (ti_eq rfl (by decide)).mp w1
    refine pb_aload_n (pc := 16) d_Markup_readTail_16 0 rfl rfl ?_
    refine pb_callV (pc := 17) (I := i_Markup_readTail) (qb := 0) (ci := 8) (nA := 0) (rest := []) (wr := []) d_Markup_readTail_17 (g_Mu_skipGaps hl G h ui ug uv ur ct fa bg at_ en vs io hi ht uf (by first | (with_reducible assumption) | omega (splitDisjunctions := false) | assumption | omega | decide) (by first | (with_reducible assumption) | omega (splitDisjunctions := false) | assumption | omega | decide) (by first | (with_reducible assumption) | omega (splitDisjunctions := false) | assumption | omega | decide) F_uf) rfl rfl [0, 1] [] (by decide) rfl rfl rfl (by decide) (by decide) k_805 rfl k_125 k_802 k_804 k_31 ⟨rfl, hy_Markup_skipGaps⟩ (by decide) rfl rfl (Nat.le_of_ble_eq_true rfl) (by decide) (fun v9 u3 ch2 => ?_)
    obtain ⟨r_4, at_5, f_6⟩ := u3
    obtain ⟨ech2, ch2⟩ := ch2
    have ech2 : v9 = some (.int r_4) := ech2
    subst ech2
    obtain ⟨fh7, fh8, fh9⟩ : (r_4.toInt = 0 ∨ r_4.toInt = 1) ∧ (at_.toInt ≤ at_5.toInt) ∧ (at_5.toInt ≤ en.toInt) := ch2
    refine pb_eq (pc' := 20) (lo' := [(0, .ref h)]) (rest' := [.int r_4]) (ws' := [(h, .inr (8, [.ref ui, .ref ug, .ref uv, .ref ur, .int ct, .int f_6, .int bg, .int at_5, .int en, .int vs, .int io, .int hi, .int ht])), (ur, .inl (G.2.1, 12000, .inl uf))]) ?_
    refine pb_if_ne (pc := 20) (tgt := 25) d_Markup_readTail_20 (by decide) (fun w10 => ?_) (fun w10 => ?_)
    · have tw10 : ¬ r_4.toInt = 0 := fun z9 => w10 ((ti_eq rfl (by decide)).mpr z9)
      refine pb_aload_n (pc := 25) d_Markup_readTail_25 0 rfl rfl ?_
      refine pb_get (pc := 26) d_Markup_readTail_26 0 7 rfl rfl (by decide) in_Markup k_326 rfl ?_
      refine pb_aload_n (pc := 29) d_Markup_readTail_29 0 rfl rfl ?_
      refine pb_get (pc := 30) d_Markup_readTail_30 0 8 rfl rfl (by decide) in_Markup k_327 rfl ?_
      refine pb_icmp_ne (pc := 33) (tgt := 38) d_Markup_readTail_33 (by decide) (fun w11 => ?_) (fun w11 => ?_)
      · have tw11 : ¬ at_5.toInt = en.toInt := fun z9 => w11 ((ti_eq rfl rfl).mpr z9)
        refine pb_aload_n (pc := 38) d_Markup_readTail_38 0 rfl rfl ?_
        refine pb_aload_n (pc := 39) d_Markup_readTail_39 0 rfl rfl ?_
        refine pb_iconst (pc := 40) (v := 0) d_Markup_readTail_40 (by decide) ?_
        refine pb_callV (pc := 41) (I := i_Markup_readTail) (qb := 0) (ci := 8) (nA := 1) (rest := [.ref h]) (wr := []) d_Markup_readTail_41 (g_Mu_next hl G h ui ug uv ur ct f_6 bg at_5 en vs io hi ht uf 0 (by first | (with_reducible assumption) | omega (splitDisjunctions := false) | assumption | omega | decide) (by first | (with_reducible assumption) | omega (splitDisjunctions := false) | assumption | omega | decide) (by first | (with_reducible assumption) | omega (splitDisjunctions := false) | assumption | omega | decide) (by first | (with_reducible assumption) | omega (splitDisjunctions := false) | assumption | omega | decide) (by first | (with_reducible assumption) | omega (splitDisjunctions := false) | assumption | omega | decide) F_uf) rfl rfl [0, 1] [] (by decide) rfl rfl rfl (by decide) (by decide) k_813 rfl k_125 k_810 k_812 k_33 ⟨rfl, hy_Markup_next⟩ (by decide) rfl rfl (Nat.le_of_ble_eq_true rfl) (by decide) (fun v9 u13 ch12 => ?_)
        obtain ⟨r_14, rfl⟩ : ∃ z9, z9 = u13 := ⟨_, rfl⟩
        obtain ⟨ech12, ch12⟩ := ch12
        have ech12 : v9 = some (.int r_14) := ech12
        subst ech12
        obtain ⟨fh15, fh16, fh17⟩ : (-1 ≤ r_14.toInt) ∧ (r_14.toInt ≤ 255) ∧ (0 ≤ r_14.toInt → at_5.toInt + (0 : Int32).toInt < en.toInt) := ch12
        refine pb_eq (pc' := 44) (lo' := [(0, .ref h)]) (rest' := [.int r_14, .ref h]) (ws' := [(h, .inr (8, [.ref ui, .ref ug, .ref uv, .ref ur, .int ct, .int f_6, .int bg, .int at_5, .int en, .int vs, .int io, .int hi, .int ht])), (ur, .inl (G.2.1, 12000, .inl uf))]) ?_
        refine pb_bipush (pc := 44) (v := 60) d_Markup_readTail_44 (by decide) ?_
        refine pb_icmp_ne (pc := 46) (tgt := 58) d_Markup_readTail_46 (by decide) (fun w18 => ?_) (fun w18 => ?_)
        · have tw18 : ¬ r_14.toInt = 60 := fun z9 => w18 ((ti_eq rfl (by decide)).mpr z9)
          refine pb_aload_n (pc := 58) d_Markup_readTail_58 0 rfl rfl ?_
          refine pb_get (pc := 59) d_Markup_readTail_59 0 7 rfl rfl (by decide) in_Markup k_326 rfl ?_
          refine pb_callV (pc := 62) (I := i_Markup_readTail) (qb := 0) (ci := 8) (nA := 1) (rest := []) (wr := [(ur, .inl (G.2.1, 12000, .inl uf))]) d_Markup_readTail_62 (g_Mu_fail hl G h ui ug uv ur ct f_6 bg at_5 en vs io hi ht at_5) rfl rfl [0] [1] (by decide) rfl rfl rfl (by decide) (by decide) k_831 rfl k_125 k_828 k_830 k_36 ⟨rfl, hy_Markup_fail⟩ (by decide) rfl rfl (Nat.le_of_ble_eq_true rfl) (by decide) (fun v9 u20 ch19 => ?_)
          obtain ⟨f_21, rfl⟩ : ∃ z9, z9 = u20 := ⟨_, rfl⟩
          have ech19 := ch19
          have ech19 : v9 = some (.int 0) := ech19
          subst ech19
          refine pb_eq (pc' := 65) (lo' := [(0, .ref h)]) (rest' := [.int 0]) (ws' := [(ur, .inl (G.2.1, 12000, .inl uf)), (h, .inr (8, [.ref ui, .ref ug, .ref uv, .ref ur, .int ct, .int f_21, .int bg, .int at_5, .int en, .int vs, .int io, .int hi, .int ht]))]) ?_
          exact pb_iret (pc := 65) hQ d_Markup_readTail_65 rfl rfl (0, at_5, f_21) ⟨rfl, (by (try dsimp only); first | done | (with_reducible assumption) | omega (splitDisjunctions := false) | assumption | (clear fh17; first | omega (splitDisjunctions := false) | omega) | omega | decide), (by (try dsimp only); first | done | (with_reducible assumption) | omega (splitDisjunctions := false) | assumption | (clear fh17; first | omega (splitDisjunctions := false) | omega) | omega | decide), (by (try dsimp only); first | done | (with_reducible assumption) | omega (splitDisjunctions := false) | assumption | (clear fh17; first | omega (splitDisjunctions := false) | omega) | omega | decide)⟩ [1, 0] (by decide) rfl rfl (by decide) (by decide)
        · have tw18 : r_14.toInt = 60 := (ti_eq rfl (by decide)).mp w18
          refine pb_aload_n (pc := 49) d_Markup_readTail_49 0 rfl rfl ?_
          refine pb_get (pc := 50) d_Markup_readTail_50 0 7 rfl rfl (by decide) in_Markup k_326 rfl ?_
          refine pb_iconst (pc := 53) (v := 1) d_Markup_readTail_53 (by decide) ?_
          refine pb_iadd (pc := 54) d_Markup_readTail_54 ?_
          refine pb_topi (fun i22 ei22 => ?_)
          try have ti22 : i22.toInt = at_5.toInt + 1 := t2_add ei22 rfl (by decide) (by omega)
          refine pb_goto (pc := 55) (tgt := 62) d_Markup_readTail_55 (by decide) ?_
          refine pb_callV (pc := 62) (I := i_Markup_readTail) (qb := 0) (ci := 8) (nA := 1) (rest := []) (wr := [(ur, .inl (G.2.1, 12000, .inl uf))]) d_Markup_readTail_62 (g_Mu_fail hl G h ui ug uv ur ct f_6 bg at_5 en vs io hi ht i22) rfl rfl [0] [1] (by decide) rfl rfl rfl (by decide) (by decide) k_831 rfl k_125 k_828 k_830 k_36 ⟨rfl, hy_Markup_fail⟩ (by decide) rfl rfl (Nat.le_of_ble_eq_true rfl) (by decide) (fun v9 u24 ch23 => ?_)
          obtain ⟨f_25, rfl⟩ : ∃ z9, z9 = u24 := ⟨_, rfl⟩
          have ech23 := ch23
          have ech23 : v9 = some (.int 0) := ech23
          subst ech23
          refine pb_eq (pc' := 65) (lo' := [(0, .ref h)]) (rest' := [.int 0]) (ws' := [(ur, .inl (G.2.1, 12000, .inl uf)), (h, .inr (8, [.ref ui, .ref ug, .ref uv, .ref ur, .int ct, .int f_25, .int bg, .int at_5, .int en, .int vs, .int io, .int hi, .int ht]))]) ?_
          exact pb_iret (pc := 65) hQ d_Markup_readTail_65 rfl rfl (0, at_5, f_25) ⟨rfl, (by (try dsimp only); first | done | (with_reducible assumption) | omega (splitDisjunctions := false) | assumption | (clear fh17; first | omega (splitDisjunctions := false) | omega) | omega | decide), (by (try dsimp only); first | done | (with_reducible assumption) | omega (splitDisjunctions := false) | assumption | (clear fh17; first | omega (splitDisjunctions := false) | omega) | omega | decide), (by (try dsimp only); first | done | (with_reducible assumption) | omega (splitDisjunctions := false) | assumption | (clear fh17; first | omega (splitDisjunctions := false) | omega) | omega | decide)⟩ [1, 0] (by decide) rfl rfl (by decide) (by decide)
      · have tw11 : at_5.toInt = en.toInt := (ti_eq rfl rfl).mp w11
        refine pb_iconst (pc := 36) (v := 1) d_Markup_readTail_36 (by decide) ?_
        exact pb_iret (pc := 37) hQ d_Markup_readTail_37 rfl rfl (1, at_5, f_6) ⟨rfl, (by (try dsimp only); first | done | (with_reducible assumption) | omega (splitDisjunctions := false) | assumption | omega | decide), (by (try dsimp only); first | done | (with_reducible assumption) | omega (splitDisjunctions := false) | assumption | omega | decide), (by (try dsimp only); first | done | (with_reducible assumption) | omega (splitDisjunctions := false) | assumption | omega | decide)⟩ [0, 1] (by decide) rfl rfl (by decide) (by decide)
    · have tw10 : r_4.toInt = 0 := (ti_eq rfl (by decide)).mp w10
      refine pb_iconst (pc := 23) (v := 0) d_Markup_readTail_23 (by decide) ?_
      exact pb_iret (pc := 24) hQ d_Markup_readTail_24 rfl rfl (0, at_5, f_6) ⟨rfl, (by (try dsimp only); first | done | (with_reducible assumption) | omega (splitDisjunctions := false) | assumption | omega | decide), (by (try dsimp only); first | done | (with_reducible assumption) | omega (splitDisjunctions := false) | assumption | omega | decide), (by (try dsimp only); first | done | (with_reducible assumption) | omega (splitDisjunctions := false) | assumption | omega | decide)⟩ [0, 1] (by decide) rfl rfl (by decide) (by decide)
  · have tw1 : ¬ io.toInt = 0 := fun z9 => w1 ((ti_eq rfl (by decide)).mpr z9)
    refine pb_aload_n (pc := 7) d_Markup_readTail_7 0 rfl rfl ?_
    refine pb_ldcS (pc := 8) (k := 17) d_Markup_readTail_8 rfl (by decide) ?_
    refine pb_callV (pc := 10) (I := i_Markup_readTail) (qb := 0) (ci := 8) (nA := 1) (rest := []) (wr := []) d_Markup_readTail_10 (g_Mu_readClose hl G h ui ug uv ur ct fa bg at_ en vs io hi ht uf 17 (by first | (with_reducible assumption) | omega (splitDisjunctions := false) | assumption | omega | decide) (by first | (with_reducible assumption) | omega (splitDisjunctions := false) | assumption | omega | decide) (by first | (with_reducible assumption) | omega (splitDisjunctions := false) | assumption | omega | decide) (by first | assumption | decide | omega) F_uf) rfl rfl [0, 1] [] (by decide) rfl rfl rfl (by decide) (by decide) k_892 rfl k_125 k_889 k_891 k_47 ⟨rfl, hy_Markup_readClose⟩ (by decide) rfl rfl (Nat.le_of_ble_eq_true rfl) (by decide) (fun v9 u27 ch26 => ?_)
    obtain ⟨r_28, at_29, f_30⟩ := u27
    obtain ⟨ech26, ch26⟩ := ch26
    have ech26 : v9 = some (.int r_28) := ech26
    subst ech26
    obtain ⟨fh31, fh32, fh33⟩ : (r_28.toInt = 0 ∨ r_28.toInt = 1) ∧ (at_.toInt ≤ at_29.toInt) ∧ (at_29.toInt ≤ en.toInt) := ch26
    refine pb_eq (pc' := 13) (lo' := [(0, .ref h)]) (rest' := [.int r_28]) (ws' := [(h, .inr (8, [.ref ui, .ref ug, .ref uv, .ref ur, .int ct, .int f_30, .int bg, .int at_29, .int en, .int vs, .int io, .int hi, .int ht])), (ur, .inl (G.2.1, 12000, .inl uf))]) ?_
    refine pb_if_eq (pc := 13) (tgt := 23) d_Markup_readTail_13 (by decide) (fun w34 => ?_) (fun w34 => ?_)
    · have tw34 : r_28.toInt = 0 := (ti_eq rfl (by decide)).mp w34
      refine pb_iconst (pc := 23) (v := 0) d_Markup_readTail_23 (by decide) ?_
      exact pb_iret (pc := 24) hQ d_Markup_readTail_24 rfl rfl (0, at_29, f_30) ⟨rfl, (by (try dsimp only); first | done | (with_reducible assumption) | omega (splitDisjunctions := false) | assumption | omega | decide), (by (try dsimp only); first | done | (with_reducible assumption) | omega (splitDisjunctions := false) | assumption | omega | decide), (by (try dsimp only); first | done | (with_reducible assumption) | omega (splitDisjunctions := false) | assumption | omega | decide)⟩ [0, 1] (by decide) rfl rfl (by decide) (by decide)
    · have tw34 : ¬ r_28.toInt = 0 := fun z9 => w34 ((ti_eq rfl (by decide)).mpr z9)
      refine pb_aload_n (pc := 16) d_Markup_readTail_16 0 rfl rfl ?_
      refine pb_callV (pc := 17) (I := i_Markup_readTail) (qb := 0) (ci := 8) (nA := 0) (rest := []) (wr := []) d_Markup_readTail_17 (g_Mu_skipGaps hl G h ui ug uv ur ct f_30 bg at_29 en vs io hi ht uf (by first | (with_reducible assumption) | omega (splitDisjunctions := false) | assumption | omega | decide) (by first | (with_reducible assumption) | omega (splitDisjunctions := false) | assumption | omega | decide) (by first | (with_reducible assumption) | omega (splitDisjunctions := false) | assumption | omega | decide) F_uf) rfl rfl [0, 1] [] (by decide) rfl rfl rfl (by decide) (by decide) k_805 rfl k_125 k_802 k_804 k_31 ⟨rfl, hy_Markup_skipGaps⟩ (by decide) rfl rfl (Nat.le_of_ble_eq_true rfl) (by decide) (fun v9 u36 ch35 => ?_)
      obtain ⟨r_37, at_38, f_39⟩ := u36
      obtain ⟨ech35, ch35⟩ := ch35
      have ech35 : v9 = some (.int r_37) := ech35
      subst ech35
      obtain ⟨fh40, fh41, fh42⟩ : (r_37.toInt = 0 ∨ r_37.toInt = 1) ∧ (at_29.toInt ≤ at_38.toInt) ∧ (at_38.toInt ≤ en.toInt) := ch35
      refine pb_eq (pc' := 20) (lo' := [(0, .ref h)]) (rest' := [.int r_37]) (ws' := [(h, .inr (8, [.ref ui, .ref ug, .ref uv, .ref ur, .int ct, .int f_39, .int bg, .int at_38, .int en, .int vs, .int io, .int hi, .int ht])), (ur, .inl (G.2.1, 12000, .inl uf))]) ?_
      refine pb_if_ne (pc := 20) (tgt := 25) d_Markup_readTail_20 (by decide) (fun w43 => ?_) (fun w43 => ?_)
      · have tw43 : ¬ r_37.toInt = 0 := fun z9 => w43 ((ti_eq rfl (by decide)).mpr z9)
        refine pb_aload_n (pc := 25) d_Markup_readTail_25 0 rfl rfl ?_
        refine pb_get (pc := 26) d_Markup_readTail_26 0 7 rfl rfl (by decide) in_Markup k_326 rfl ?_
        refine pb_aload_n (pc := 29) d_Markup_readTail_29 0 rfl rfl ?_
        refine pb_get (pc := 30) d_Markup_readTail_30 0 8 rfl rfl (by decide) in_Markup k_327 rfl ?_
        refine pb_icmp_ne (pc := 33) (tgt := 38) d_Markup_readTail_33 (by decide) (fun w44 => ?_) (fun w44 => ?_)
        · have tw44 : ¬ at_38.toInt = en.toInt := fun z9 => w44 ((ti_eq rfl rfl).mpr z9)
          refine pb_aload_n (pc := 38) d_Markup_readTail_38 0 rfl rfl ?_
          refine pb_aload_n (pc := 39) d_Markup_readTail_39 0 rfl rfl ?_
          refine pb_iconst (pc := 40) (v := 0) d_Markup_readTail_40 (by decide) ?_
          refine pb_callV (pc := 41) (I := i_Markup_readTail) (qb := 0) (ci := 8) (nA := 1) (rest := [.ref h]) (wr := []) d_Markup_readTail_41 (g_Mu_next hl G h ui ug uv ur ct f_39 bg at_38 en vs io hi ht uf 0 (by first | (with_reducible assumption) | omega (splitDisjunctions := false) | assumption | omega | decide) (by first | (with_reducible assumption) | omega (splitDisjunctions := false) | assumption | omega | decide) (by first | (with_reducible assumption) | omega (splitDisjunctions := false) | assumption | omega | decide) (by first | (with_reducible assumption) | omega (splitDisjunctions := false) | assumption | omega | decide) (by first | (with_reducible assumption) | omega (splitDisjunctions := false) | assumption | omega | decide) F_uf) rfl rfl [0, 1] [] (by decide) rfl rfl rfl (by decide) (by decide) k_813 rfl k_125 k_810 k_812 k_33 ⟨rfl, hy_Markup_next⟩ (by decide) rfl rfl (Nat.le_of_ble_eq_true rfl) (by decide) (fun v9 u46 ch45 => ?_)
          obtain ⟨r_47, rfl⟩ : ∃ z9, z9 = u46 := ⟨_, rfl⟩
          obtain ⟨ech45, ch45⟩ := ch45
          have ech45 : v9 = some (.int r_47) := ech45
          subst ech45
          obtain ⟨fh48, fh49, fh50⟩ : (-1 ≤ r_47.toInt) ∧ (r_47.toInt ≤ 255) ∧ (0 ≤ r_47.toInt → at_38.toInt + (0 : Int32).toInt < en.toInt) := ch45
          refine pb_eq (pc' := 44) (lo' := [(0, .ref h)]) (rest' := [.int r_47, .ref h]) (ws' := [(h, .inr (8, [.ref ui, .ref ug, .ref uv, .ref ur, .int ct, .int f_39, .int bg, .int at_38, .int en, .int vs, .int io, .int hi, .int ht])), (ur, .inl (G.2.1, 12000, .inl uf))]) ?_
          refine pb_bipush (pc := 44) (v := 60) d_Markup_readTail_44 (by decide) ?_
          refine pb_icmp_ne (pc := 46) (tgt := 58) d_Markup_readTail_46 (by decide) (fun w51 => ?_) (fun w51 => ?_)
          · have tw51 : ¬ r_47.toInt = 60 := fun z9 => w51 ((ti_eq rfl (by decide)).mpr z9)
            refine pb_aload_n (pc := 58) d_Markup_readTail_58 0 rfl rfl ?_
            refine pb_get (pc := 59) d_Markup_readTail_59 0 7 rfl rfl (by decide) in_Markup k_326 rfl ?_
            refine pb_callV (pc := 62) (I := i_Markup_readTail) (qb := 0) (ci := 8) (nA := 1) (rest := []) (wr := [(ur, .inl (G.2.1, 12000, .inl uf))]) d_Markup_readTail_62 (g_Mu_fail hl G h ui ug uv ur ct f_39 bg at_38 en vs io hi ht at_38) rfl rfl [0] [1] (by decide) rfl rfl rfl (by decide) (by decide) k_831 rfl k_125 k_828 k_830 k_36 ⟨rfl, hy_Markup_fail⟩ (by decide) rfl rfl (Nat.le_of_ble_eq_true rfl) (by decide) (fun v9 u53 ch52 => ?_)
            obtain ⟨f_54, rfl⟩ : ∃ z9, z9 = u53 := ⟨_, rfl⟩
            have ech52 := ch52
            have ech52 : v9 = some (.int 0) := ech52
            subst ech52
            refine pb_eq (pc' := 65) (lo' := [(0, .ref h)]) (rest' := [.int 0]) (ws' := [(ur, .inl (G.2.1, 12000, .inl uf)), (h, .inr (8, [.ref ui, .ref ug, .ref uv, .ref ur, .int ct, .int f_54, .int bg, .int at_38, .int en, .int vs, .int io, .int hi, .int ht]))]) ?_
            exact pb_iret (pc := 65) hQ d_Markup_readTail_65 rfl rfl (0, at_38, f_54) ⟨rfl, (by (try dsimp only); first | done | (with_reducible assumption) | omega (splitDisjunctions := false) | assumption | (clear fh50; first | omega (splitDisjunctions := false) | omega) | omega | decide), (by (try dsimp only); first | done | (with_reducible assumption) | omega (splitDisjunctions := false) | assumption | (clear fh50; first | omega (splitDisjunctions := false) | omega) | omega | decide), (by (try dsimp only); first | done | (with_reducible assumption) | omega (splitDisjunctions := false) | assumption | (clear fh50; first | omega (splitDisjunctions := false) | omega) | omega | decide)⟩ [1, 0] (by decide) rfl rfl (by decide) (by decide)
          · have tw51 : r_47.toInt = 60 := (ti_eq rfl (by decide)).mp w51
            refine pb_aload_n (pc := 49) d_Markup_readTail_49 0 rfl rfl ?_
            refine pb_get (pc := 50) d_Markup_readTail_50 0 7 rfl rfl (by decide) in_Markup k_326 rfl ?_
            refine pb_iconst (pc := 53) (v := 1) d_Markup_readTail_53 (by decide) ?_
            refine pb_iadd (pc := 54) d_Markup_readTail_54 ?_
            refine pb_topi (fun i55 ei55 => ?_)
            try have ti55 : i55.toInt = at_38.toInt + 1 := t2_add ei55 rfl (by decide) (by omega)
            refine pb_goto (pc := 55) (tgt := 62) d_Markup_readTail_55 (by decide) ?_
            refine pb_callV (pc := 62) (I := i_Markup_readTail) (qb := 0) (ci := 8) (nA := 1) (rest := []) (wr := [(ur, .inl (G.2.1, 12000, .inl uf))]) d_Markup_readTail_62 (g_Mu_fail hl G h ui ug uv ur ct f_39 bg at_38 en vs io hi ht i55) rfl rfl [0] [1] (by decide) rfl rfl rfl (by decide) (by decide) k_831 rfl k_125 k_828 k_830 k_36 ⟨rfl, hy_Markup_fail⟩ (by decide) rfl rfl (Nat.le_of_ble_eq_true rfl) (by decide) (fun v9 u57 ch56 => ?_)
            obtain ⟨f_58, rfl⟩ : ∃ z9, z9 = u57 := ⟨_, rfl⟩
            have ech56 := ch56
            have ech56 : v9 = some (.int 0) := ech56
            subst ech56
            refine pb_eq (pc' := 65) (lo' := [(0, .ref h)]) (rest' := [.int 0]) (ws' := [(ur, .inl (G.2.1, 12000, .inl uf)), (h, .inr (8, [.ref ui, .ref ug, .ref uv, .ref ur, .int ct, .int f_58, .int bg, .int at_38, .int en, .int vs, .int io, .int hi, .int ht]))]) ?_
            exact pb_iret (pc := 65) hQ d_Markup_readTail_65 rfl rfl (0, at_38, f_58) ⟨rfl, (by (try dsimp only); first | done | (with_reducible assumption) | omega (splitDisjunctions := false) | assumption | (clear fh50; first | omega (splitDisjunctions := false) | omega) | omega | decide), (by (try dsimp only); first | done | (with_reducible assumption) | omega (splitDisjunctions := false) | assumption | (clear fh50; first | omega (splitDisjunctions := false) | omega) | omega | decide), (by (try dsimp only); first | done | (with_reducible assumption) | omega (splitDisjunctions := false) | assumption | (clear fh50; first | omega (splitDisjunctions := false) | omega) | omega | decide)⟩ [1, 0] (by decide) rfl rfl (by decide) (by decide)
        · have tw44 : at_38.toInt = en.toInt := (ti_eq rfl rfl).mp w44
          refine pb_iconst (pc := 36) (v := 1) d_Markup_readTail_36 (by decide) ?_
          exact pb_iret (pc := 37) hQ d_Markup_readTail_37 rfl rfl (1, at_38, f_39) ⟨rfl, (by (try dsimp only); first | done | (with_reducible assumption) | omega (splitDisjunctions := false) | assumption | omega | decide), (by (try dsimp only); first | done | (with_reducible assumption) | omega (splitDisjunctions := false) | assumption | omega | decide), (by (try dsimp only); first | done | (with_reducible assumption) | omega (splitDisjunctions := false) | assumption | omega | decide)⟩ [0, 1] (by decide) rfl rfl (by decide) (by decide)
      · have tw43 : r_37.toInt = 0 := (ti_eq rfl (by decide)).mp w43
        refine pb_iconst (pc := 23) (v := 0) d_Markup_readTail_23 (by decide) ?_
        exact pb_iret (pc := 24) hQ d_Markup_readTail_24 rfl rfl (0, at_38, f_39) ⟨rfl, (by (try dsimp only); first | done | (with_reducible assumption) | omega (splitDisjunctions := false) | assumption | omega | decide), (by (try dsimp only); first | done | (with_reducible assumption) | omega (splitDisjunctions := false) | assumption | omega | decide), (by (try dsimp only); first | done | (with_reducible assumption) | omega (splitDisjunctions := false) | assumption | omega | decide)⟩ [0, 1] (by decide) rfl rfl (by decide) (by decide)
