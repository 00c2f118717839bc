theorem d_Law_type_0 : decode method_3_code 0 = .ok (.aload 4, 2) := by decide +kernel
theorem d_Law_type_2 : decode method_3_code 2 = .ok (.iconst 0, 1) := by decide +kernel
theorem d_Law_type_3 : decode method_3_code 3 = .ok (.aload_n 0, 1) := by decide +kernel
theorem d_Law_type_4 : decode method_3_code 4 = .ok (.lload_n 1, 1) := by decide +kernel
theorem d_Law_type_5 : decode method_3_code 5 = .ok (.iload_n 3, 1) := by decide +kernel
theorem d_Law_type_6 : decode method_3_code 6 = .ok (.invokevirtual 7, 3) := by decide +kernel
theorem k_936 : (Jvm.Cond.methodLink "PackageBookLaw" (7 : Nat) ({ cls := "PackageBook", name := "type", desc := "(JI)I" } : Jvm.MethodName)) ∈ uW := uW_of 936 (by decide +kernel) (by decide +kernel)
theorem k_939 : (Jvm.Cond.code ({ cls := "PackageBook", name := "type", desc := "(JI)I" } : Jvm.MethodName) prog_1_method_2_code (5 : Nat) (Option.some Jvm.ClassFile.FieldType.int)) ∈ uW := uW_of 939 (by decide +kernel) (by decide +kernel)
theorem k_937 : (Jvm.Cond.instanceMethod ({ cls := "PackageBook", name := "type", desc := "(JI)I" } : Jvm.MethodName)) ∈ uW := uW_of 937 (by decide +kernel) (by decide +kernel)
theorem k_938 : (Jvm.Cond.selects "PackageBook" ({ cls := "PackageBook", name := "type", desc := "(JI)I" } : Jvm.MethodName) ({ cls := "PackageBook", name := "type", desc := "(JI)I" } : Jvm.MethodName)) ∈ uW := uW_of 938 (by decide +kernel) (by decide +kernel)
theorem hy_Book_type : (y_Book_type).cls ≠ "java/lang/invoke/MethodHandle" ∧ (y_Book_type).cls ≠ "java/lang/invoke/VarHandle" ∧ (parseMethodDescriptor (y_Book_type).desc).map (fun d => d.parameters.length) = some 2 := by decide +kernel
theorem k_934 : (Jvm.Cond.classLink "PackageBookLaw" (13 : Nat) "java/lang/IllegalArgumentException") ∈ uW := uW_of 934 (by decide +kernel) (by decide +kernel)
theorem k_942 : (Jvm.Cond.castable "java/lang/IllegalArgumentException" "java/lang/IllegalArgumentException") ∈ uN := uN_of 942 (by decide +kernel) (by decide +kernel)
theorem d_Law_type_14 : decode method_3_code 14 = .ok (.astore 5, 2) := by decide +kernel
theorem d_Law_type_16 : decode method_3_code 16 = .ok (.iconst 1, 1) := by decide +kernel
theorem d_Law_type_17 : decode method_3_code 17 = .ok (.ireturn, 1) := by decide +kernel
theorem k_935 : (Jvm.Cond.classLink "PackageBookLaw" (15 : Nat) "java/lang/UnsupportedOperationException") ∈ uW := uW_of 935 (by decide +kernel) (by decide +kernel)
theorem k_1009 : (Jvm.Cond.castable "java/lang/UnsupportedOperationException" "java/lang/UnsupportedOperationException") ∈ uN := uN_of 1009 (by decide +kernel) (by decide +kernel)
theorem d_Law_type_18 : decode method_3_code 18 = .ok (.astore 5, 2) := by decide +kernel
theorem d_Law_type_20 : decode method_3_code 20 = .ok (.iconst 2, 1) := by decide +kernel
theorem d_Law_type_21 : decode method_3_code 21 = .ok (.ireturn, 1) := by decide +kernel
theorem d_Law_type_9 : decode method_3_code 9 = .ok (.i2l, 1) := by decide +kernel
theorem d_Law_type_10 : decode method_3_code 10 = .ok (.lastore, 1) := by decide +kernel
theorem d_Law_type_11 : decode method_3_code 11 = .ok (.goto 11, 3) := by decide +kernel
theorem d_Law_type_22 : decode method_3_code 22 = .ok (.iconst 0, 1) := by decide +kernel
theorem d_Law_type_23 : decode method_3_code 23 = .ok (.ireturn, 1) := by decide +kernel
abbrev y_Law_type : MethodName := ⟨"PackageBookLaw", "type", "(LPackageBook;JI[J)I"⟩
abbrev i_Law_type : pb_I := (y_Law_type, method_3_code, 6, (some Jvm.ClassFile.FieldType.int), [(0, 11, 14, 13), (0, 11, 18, 15)], { frames := 7, cells := 1, slots := 6, locals := 114 })
set_option maxRecDepth 100000 in
set_option maxHeartbeats 4000000 in
theorem g_Law_type {l : Launch} (hl : l.stackTraces = false) (G : pb_G) (h : Nat) (ta : Nat) (ca : Nat) (ps : Nat) (xe : Nat) (mk : Nat) (rd : Nat) (mu : Nat) (fi : Nat) (go : Nat) (sp : Nat) (ss : Nat) (tab : Nat) (taf : Nat → Int32) (tas : Int32) (w : Int64) (n : Int32) (o : Nat) (ofn : Nat → Int64) (t0 : 0 ≤ tas.toInt) (t1 : tas.toInt ≤ 8000) (F_taf : sb_Fit taf) : Cn l G i_Law_type [.ref h, .long w, .int n, .ref o] [(h, .inr (9, [.ref ta, .ref ca, .ref ps, .ref xe, .ref mk, .ref rd, .ref mu, .ref fi, .ref go, .ref sp, .ref ss])), (ta, .inr (0, [.ref tab, .int tas])), (tab, .inl (G.2.1, 8000, .inl taf)), (o, .inl (G.2.2.2.1, 1, .inr (.inl ofn)))] (S := Int32 × Int32 × (Nat → Int32) × (Nat → Int64)) (fun rv_ u => rv_ = some (.int u.1) ∧ (u.1.toInt = 0 ∨ u.1.toInt = 1 ∨ u.1.toInt = 2) ∧ (u.1.toInt = 1 → ¬ (1 ≤ n.toInt ∧ n.toInt ≤ 8) ∧ u.2.1.toInt = tas.toInt) ∧ (u.1.toInt = 2 → (1 ≤ n.toInt ∧ n.toInt ≤ 8) ∧ 8000 < tas.toInt + n.toInt ∧ u.2.1.toInt = tas.toInt) ∧ (u.1.toInt = 0 → (1 ≤ n.toInt ∧ n.toInt ≤ 8) ∧ tas.toInt + n.toInt ≤ 8000 ∧ u.2.1.toInt = tas.toInt + n.toInt) ∧ (u.1.toInt = 0 → (u.2.2.2 0).toInt = u.2.1.toInt) ∧ (tp_T taf u.2.2.1 tas.toInt u.2.1.toInt w) ∧ (sb_Fit u.2.2.1)) (fun u => [(h, .inr (9, [.ref ta, .ref ca, .ref ps, .ref xe, .ref mk, .ref rd, .ref mu, .ref fi, .ref go, .ref sp, .ref ss])), (ta, .inr (0, [.ref tab, .int u.2.1])), (tab, .inl (G.2.1, 8000, .inl u.2.2.1)), (o, .inl (G.2.2.2.1, 1, .inr (.inl u.2.2.2)))]) := by
  refine Cn.ofW hl (by decide +kernel) rfl (Nat.le_of_ble_eq_true rfl) (fun M hQ hT => ?_)
  refine pb_eq (pc' := 0) (lo' := [(0, .ref h), (1, .long w), (3, .int n), (4, .ref o)]) (rest' := []) (ws' := [(h, .inr (9, [.ref ta, .ref ca, .ref ps, .ref xe, .ref mk, .ref rd, .ref mu, .ref fi, .ref go, .ref sp, .ref ss])), (ta, .inr (0, [.ref tab, .int tas])), (tab, .inl (G.2.1, 8000, .inl taf)), (o, .inl (G.2.2.2.1, 1, .inr (.inl ofn)))]) ?_
  have zl0 : (0 : Int32).toInt = 0 := by decide
  have zl1 : (1 : Int32).toInt = 1 := by decide
  have zl2 : (2 : Int32).toInt = 2 := by decide
  refine pb_aload (pc := 0) d_Law_type_0 3 rfl ?_
  refine pb_iconst (pc := 2) (v := 0) d_Law_type_2 (by decide) ?_
  refine pb_aload_n (pc := 3) d_Law_type_3 0 rfl rfl ?_
  refine pb_lload_n (pc := 4) d_Law_type_4 1 rfl rfl ?_
  refine pb_iload_n (pc := 5) d_Law_type_5 2 rfl rfl ?_
  refine pb_callVX (pc := 6) (I := i_Law_type) (qb := 0) (ci := 9) (nA := 2) (rest := [.int 0, .ref o]) (wr := [(o, .inl (G.2.2.2.1, 1, .inr (.inl ofn)))]) d_Law_type_6 (g_Book_type hl G h ta ca ps xe mk rd mu fi go sp ss tab taf tas w n (by first | (with_reducible assumption) | omega (splitDisjunctions := false) | assumption | omega | decide) (by first | (with_reducible assumption) | omega (splitDisjunctions := false) | assumption | omega | decide) F_taf) rfl rfl [0, 1, 2] [3] (by decide) rfl rfl rfl (by decide) (by decide) k_939 rfl k_118 k_936 k_937 k_938 hy_Book_type (by decide) rfl rfl (Nat.le_of_ble_eq_true rfl) (by decide) (fun E0 u9 hx9 => ?_) (fun v9 ux2 ch1 => ?_)
  · rcases hx9 with ⟨rfl, xf0⟩ | ⟨rfl, xf0, xf1⟩
    · have fx3 : ¬ (1 ≤ n.toInt ∧ n.toInt ≤ 8) := xf0
      refine pb_catch (pc := 6) (name := "java/lang/IllegalArgumentException") (x := ⟨0, 11, 14, 13⟩) (suf := [⟨0, 11, 18, 15⟩]) hT (by decide) (by decide) k_934 k_942 (fun q9 => ?_)
      refine pb_eq (pc' := 14) (lo' := [(0, .ref h), (1, .long w), (3, .int n), (4, .ref o)]) (rest' := [.ref q9]) (ws' := [(o, .inl (G.2.2.2.1, 1, .inr (.inl ofn))), (h, .inr (9, [.ref ta, .ref ca, .ref ps, .ref xe, .ref mk, .ref rd, .ref mu, .ref fi, .ref go, .ref sp, .ref ss])), (ta, .inr (0, [.ref tab, .int tas])), (tab, .inl (G.2.1, 8000, .inl taf))]) ?_
      refine pb_astore (pc := 14) (lo' := [(5, .ref q9), (0, .ref h), (1, .long w), (3, .int n), (4, .ref o)]) d_Law_type_14 (by decide) rfl ?_
      refine pb_iconst (pc := 16) (v := 1) d_Law_type_16 (by decide) ?_
      exact pb_iret (pc := 17) hQ d_Law_type_17 rfl rfl (1, tas, taf, ofn) ⟨rfl, (by (try dsimp only); first | done | (with_reducible assumption) | omega (splitDisjunctions := false) | assumption | omega | decide), (by (try dsimp only); first | done | (with_reducible assumption) | omega (splitDisjunctions := false) | assumption | omega | decide), (by (try dsimp only); first | done | (with_reducible assumption) | omega (splitDisjunctions := false) | assumption | omega | decide), (by (try dsimp only); first | done | (with_reducible assumption) | omega (splitDisjunctions := false) | assumption | omega | decide), (show (1 : Int32).toInt = 0 → (ofn 0).toInt = tas.toInt from (by (try dsimp only); exact fun h9 => by first | exact absurd h9 (by omega) | (show (vp_updL ofn ((0 : Int32).toNatClampNeg) _ 0).toInt = _; rw [show (0 : Int32).toNatClampNeg = 0 by decide, pk_uLs]; omega))), (show tp_T taf taf tas.toInt tas.toInt w from (by (try dsimp only); first | assumption | exact tp_T0 (by omega))), F_taf⟩ [1, 2, 3, 0] (by decide) rfl rfl (by decide) (by decide)
    · have fx4 : 1 ≤ n.toInt ∧ n.toInt ≤ 8 := xf0
      have fx5 : 8000 < tas.toInt + n.toInt := xf1
      refine pb_catch2 (pc := 6) (name := "java/lang/UnsupportedOperationException") (nm1 := "java/lang/IllegalArgumentException") (y := ⟨0, 11, 14, 13⟩) (x := ⟨0, 11, 18, 15⟩) (suf := []) hT (by decide) (by decide) k_935 k_1009 (by decide) k_934 (by decide) (fun q9 => ?_)
      refine pb_eq (pc' := 18) (lo' := [(0, .ref h), (1, .long w), (3, .int n), (4, .ref o)]) (rest' := [.ref q9]) (ws' := [(o, .inl (G.2.2.2.1, 1, .inr (.inl ofn))), (h, .inr (9, [.ref ta, .ref ca, .ref ps, .ref xe, .ref mk, .ref rd, .ref mu, .ref fi, .ref go, .ref sp, .ref ss])), (ta, .inr (0, [.ref tab, .int tas])), (tab, .inl (G.2.1, 8000, .inl taf))]) ?_
      refine pb_astore (pc := 18) (lo' := [(5, .ref q9), (0, .ref h), (1, .long w), (3, .int n), (4, .ref o)]) d_Law_type_18 (by decide) rfl ?_
      refine pb_iconst (pc := 20) (v := 2) d_Law_type_20 (by decide) ?_
      exact pb_iret (pc := 21) hQ d_Law_type_21 rfl rfl (2, tas, taf, ofn) ⟨rfl, (by (try dsimp only); first | done | (with_reducible assumption) | omega (splitDisjunctions := false) | assumption | omega | decide), (by (try dsimp only); first | done | (with_reducible assumption) | omega (splitDisjunctions := false) | assumption | omega | decide), (by (try dsimp only); first | done | (with_reducible assumption) | omega (splitDisjunctions := false) | assumption | omega | decide), (by (try dsimp only); first | done | (with_reducible assumption) | omega (splitDisjunctions := false) | assumption | omega | decide), (show (2 : Int32).toInt = 0 → (ofn 0).toInt = tas.toInt from (by (try dsimp only); exact fun h9 => by first | exact absurd h9 (by omega) | (show (vp_updL ofn ((0 : Int32).toNatClampNeg) _ 0).toInt = _; rw [show (0 : Int32).toNatClampNeg = 0 by decide, pk_uLs]; omega))), (show tp_T taf taf tas.toInt tas.toInt w from (by (try dsimp only); first | assumption | exact tp_T0 (by omega))), F_taf⟩ [1, 2, 3, 0] (by decide) rfl rfl (by decide) (by decide)
  · obtain ⟨r_6, ts_7, tf_8⟩ := ux2
    obtain ⟨ech1, ch1⟩ := ch1
    have ech1 : v9 = some (.int r_6) := ech1
    subst ech1
    obtain ⟨fh9, fh10, fh11, fh12, fh13, fh14⟩ : (1 ≤ n.toInt ∧ n.toInt ≤ 8) ∧ (ts_7.toInt = tas.toInt + n.toInt) ∧ (r_6.toInt = ts_7.toInt) ∧ (ts_7.toInt ≤ 8000) ∧ (tp_T taf tf_8 tas.toInt ts_7.toInt w) ∧ (sb_Fit tf_8) := ch1
    refine pb_eq (pc' := 9) (lo' := [(0, .ref h), (1, .long w), (3, .int n), (4, .ref o)]) (rest' := [.int r_6, .int 0, .ref o]) (ws' := [(o, .inl (G.2.2.2.1, 1, .inr (.inl ofn))), (h, .inr (9, [.ref ta, .ref ca, .ref ps, .ref xe, .ref mk, .ref rd, .ref mu, .ref fi, .ref go, .ref sp, .ref ss])), (ta, .inr (0, [.ref tab, .int ts_7])), (tab, .inl (G.2.1, 8000, .inl tf_8))]) ?_
    refine pb_i2l (pc := 9) d_Law_type_9 rfl ?_
    refine pb_topl (fun jx15 ejx15 => ?_)
    have tjx15 : jx15.toInt = r_6.toInt := tl_i2l ejx15 rfl
    refine pb_last (pc := 10) (ws' := [(o, .inl (G.2.2.2.1, 1, .inr (.inl (vp_updL ofn ((0 : Int32).toNatClampNeg) jx15)))), (h, .inr (9, [.ref ta, .ref ca, .ref ps, .ref xe, .ref mk, .ref rd, .ref mu, .ref fi, .ref go, .ref sp, .ref ss])), (ta, .inr (0, [.ref tab, .int ts_7])), (tab, .inl (G.2.1, 8000, .inl tf_8))]) d_Law_type_10 0 rfl (by unfold vp_in; decide) rfl ?_
    refine pb_goto (pc := 11) (tgt := 22) d_Law_type_11 (by decide) ?_
    refine pb_iconst (pc := 22) (v := 0) d_Law_type_22 (by decide) ?_
    exact pb_iret (pc := 23) hQ d_Law_type_23 rfl rfl (0, ts_7, tf_8, (vp_updL ofn ((0 : Int32).toNatClampNeg) jx15)) ⟨rfl, (by (try dsimp only); first | done | (with_reducible assumption) | omega (splitDisjunctions := false) | assumption | omega | decide), (by (try dsimp only); first | done | (with_reducible assumption) | omega (splitDisjunctions := false) | assumption | omega | decide), (by (try dsimp only); first | done | (with_reducible assumption) | omega (splitDisjunctions := false) | assumption | omega | decide), (by (try dsimp only); first | done | (with_reducible assumption) | omega (splitDisjunctions := false) | assumption | omega | decide), (show (0 : Int32).toInt = 0 → ((vp_updL ofn ((0 : Int32).toNatClampNeg) jx15) 0).toInt = ts_7.toInt from (by (try dsimp only); exact fun h9 => by first | exact absurd h9 (by omega) | (show (vp_updL ofn ((0 : Int32).toNatClampNeg) _ 0).toInt = _; rw [show (0 : Int32).toNatClampNeg = 0 by decide, pk_uLs]; omega))), (show tp_T taf tf_8 tas.toInt ts_7.toInt w from (by (try dsimp only); first | assumption | exact tp_T0 (by omega))), fh14⟩ [1, 2, 3, 0] (by decide) rfl rfl (by decide) (by decide)

theorem d_Law_again_0 : decode method_4_code 0 = .ok (.aload_n 2, 1) := by decide +kernel
theorem d_Law_again_1 : decode method_4_code 1 = .ok (.iconst 0, 1) := by decide +kernel
theorem d_Law_again_2 : decode method_4_code 2 = .ok (.aload_n 0, 1) := by decide +kernel
theorem d_Law_again_3 : decode method_4_code 3 = .ok (.iload_n 1, 1) := by decide +kernel
theorem d_Law_again_4 : decode method_4_code 4 = .ok (.invokevirtual 17, 3) := by decide +kernel
theorem k_1027 : (Jvm.Cond.methodLink "PackageBookLaw" (17 : Nat) ({ cls := "PackageBook", name := "again", desc := "(I)I" } : Jvm.MethodName)) ∈ uW := uW_of 1027 (by decide +kernel) (by decide +kernel)
theorem k_1030 : (Jvm.Cond.code ({ cls := "PackageBook", name := "again", desc := "(I)I" } : Jvm.MethodName) prog_1_method_3_code (2 : Nat) (Option.some Jvm.ClassFile.FieldType.int)) ∈ uW := uW_of 1030 (by decide +kernel) (by decide +kernel)
theorem k_1028 : (Jvm.Cond.instanceMethod ({ cls := "PackageBook", name := "again", desc := "(I)I" } : Jvm.MethodName)) ∈ uW := uW_of 1028 (by decide +kernel) (by decide +kernel)
theorem k_1029 : (Jvm.Cond.selects "PackageBook" ({ cls := "PackageBook", name := "again", desc := "(I)I" } : Jvm.MethodName) ({ cls := "PackageBook", name := "again", desc := "(I)I" } : Jvm.MethodName)) ∈ uW := uW_of 1029 (by decide +kernel) (by decide +kernel)
theorem hy_Book_again : (y_Book_again).cls ≠ "java/lang/invoke/MethodHandle" ∧ (y_Book_again).cls ≠ "java/lang/invoke/VarHandle" ∧ (parseMethodDescriptor (y_Book_again).desc).map (fun d => d.parameters.length) = some 1 := by decide +kernel
theorem d_Law_again_12 : decode method_4_code 12 = .ok (.astore_n 3, 1) := by decide +kernel
theorem d_Law_again_13 : decode method_4_code 13 = .ok (.iconst 1, 1) := by decide +kernel
theorem d_Law_again_14 : decode method_4_code 14 = .ok (.ireturn, 1) := by decide +kernel
theorem d_Law_again_15 : decode method_4_code 15 = .ok (.astore_n 3, 1) := by decide +kernel
theorem d_Law_again_16 : decode method_4_code 16 = .ok (.iconst 2, 1) := by decide +kernel
theorem d_Law_again_17 : decode method_4_code 17 = .ok (.ireturn, 1) := by decide +kernel
theorem d_Law_again_7 : decode method_4_code 7 = .ok (.i2l, 1) := by decide +kernel
theorem d_Law_again_8 : decode method_4_code 8 = .ok (.lastore, 1) := by decide +kernel
theorem d_Law_again_9 : decode method_4_code 9 = .ok (.goto 9, 3) := by decide +kernel
theorem d_Law_again_18 : decode method_4_code 18 = .ok (.iconst 0, 1) := by decide +kernel
theorem d_Law_again_19 : decode method_4_code 19 = .ok (.ireturn, 1) := by decide +kernel
abbrev y_Law_again : MethodName := ⟨"PackageBookLaw", "again", "(LPackageBook;I[J)I"⟩
abbrev i_Law_again : pb_I := (y_Law_again, method_4_code, 4, (some Jvm.ClassFile.FieldType.int), [(0, 9, 12, 13), (0, 9, 15, 15)], { frames := 7, cells := 1, slots := 6, locals := 111 })
set_option maxRecDepth 100000 in
set_option maxHeartbeats 4000000 in
theorem g_Law_again {l : Launch} (hl : l.stackTraces = false) (G : pb_G) (h : Nat) (ta : Nat) (ca : Nat) (ps : Nat) (xe : Nat) (mk : Nat) (rd : Nat) (mu : Nat) (fi : Nat) (go : Nat) (sp : Nat) (ss : Nat) (tab : Nat) (taf : Nat → Int32) (tas : Int32) (n : Int32) (o : Nat) (ofn : Nat → Int64) (t0 : 0 ≤ tas.toInt) (t1 : tas.toInt ≤ 8000) (F_taf : sb_Fit taf) : Cn l G i_Law_again [.ref h, .int n, .ref o] [(h, .inr (9, [.ref ta, .ref ca, .ref ps, .ref xe, .ref mk, .ref rd, .ref mu, .ref fi, .ref go, .ref sp, .ref ss])), (ta, .inr (0, [.ref tab, .int tas])), (tab, .inl (G.2.1, 8000, .inl taf)), (o, .inl (G.2.2.2.1, 1, .inr (.inl ofn)))] (S := Int32 × Int32 × (Nat → Int32) × (Nat → Int64)) (fun rv_ u => rv_ = some (.int u.1) ∧ (u.1.toInt = 0 ∨ u.1.toInt = 1 ∨ u.1.toInt = 2) ∧ (u.1.toInt = 1 → ¬ (0 ≤ n.toInt ∧ n.toInt ≤ tas.toInt) ∧ u.2.1.toInt = tas.toInt) ∧ (u.1.toInt = 2 → (0 ≤ n.toInt ∧ n.toInt ≤ tas.toInt) ∧ 8000 < tas.toInt + n.toInt ∧ u.2.1.toInt = tas.toInt) ∧ (u.1.toInt = 0 → (0 ≤ n.toInt ∧ n.toInt ≤ tas.toInt) ∧ tas.toInt + n.toInt ≤ 8000 ∧ u.2.1.toInt = tas.toInt + n.toInt) ∧ (u.1.toInt = 0 → (u.2.2.2 0).toInt = u.2.1.toInt) ∧ (tp_G taf u.2.2.1 tas.toInt u.2.1.toInt n.toInt) ∧ (sb_Fit u.2.2.1)) (fun u => [(h, .inr (9, [.ref ta, .ref ca, .ref ps, .ref xe, .ref mk, .ref rd, .ref mu, .ref fi, .ref go, .ref sp, .ref ss])), (ta, .inr (0, [.ref tab, .int u.2.1])), (tab, .inl (G.2.1, 8000, .inl u.2.2.1)), (o, .inl (G.2.2.2.1, 1, .inr (.inl u.2.2.2)))]) := by
  refine Cn.ofW hl (by decide +kernel) rfl (Nat.le_of_ble_eq_true rfl) (fun M hQ hT => ?_)
  refine pb_eq (pc' := 0) (lo' := [(0, .ref h), (1, .int n), (2, .ref o)]) (rest' := []) (ws' := [(h, .inr (9, [.ref ta, .ref ca, .ref ps, .ref xe, .ref mk, .ref rd, .ref mu, .ref fi, .ref go, .ref sp, .ref ss])), (ta, .inr (0, [.ref tab, .int tas])), (tab, .inl (G.2.1, 8000, .inl taf)), (o, .inl (G.2.2.2.1, 1, .inr (.inl ofn)))]) ?_
  have zl0 : (0 : Int32).toInt = 0 := by decide
  have zl1 : (1 : Int32).toInt = 1 := by decide
  have zl2 : (2 : Int32).toInt = 2 := by decide
  refine pb_aload_n (pc := 0) d_Law_again_0 2 rfl rfl ?_
  refine pb_iconst (pc := 1) (v := 0) d_Law_again_1 (by decide) ?_
  refine pb_aload_n (pc := 2) d_Law_again_2 0 rfl rfl ?_
  refine pb_iload_n (pc := 3) d_Law_again_3 1 rfl rfl ?_
  refine pb_callVX (pc := 4) (I := i_Law_again) (qb := 0) (ci := 9) (nA := 1) (rest := [.int 0, .ref o]) (wr := [(o, .inl (G.2.2.2.1, 1, .inr (.inl ofn)))]) d_Law_again_4 (g_Book_again hl G h ta ca ps xe mk rd mu fi go sp ss tab taf tas n (by first | (with_reducible assumption) | omega (splitDisjunctions := false) | assumption | omega | decide) (by first | (with_reducible assumption) | omega (splitDisjunctions := false) | assumption | omega | decide) F_taf) rfl rfl [0, 1, 2] [3] (by decide) rfl rfl rfl (by decide) (by decide) k_1030 rfl k_118 k_1027 k_1028 k_1029 hy_Book_again (by decide) rfl rfl (Nat.le_of_ble_eq_true rfl) (by decide) (fun E0 u9 hx9 => ?_) (fun v9 ux2 ch1 => ?_)
  · rcases hx9 with ⟨rfl, xf0⟩ | ⟨rfl, xf0, xf1⟩
    · have fx3 : ¬ (0 ≤ n.toInt ∧ n.toInt ≤ tas.toInt) := xf0
      refine pb_catch (pc := 4) (name := "java/lang/IllegalArgumentException") (x := ⟨0, 9, 12, 13⟩) (suf := [⟨0, 9, 15, 15⟩]) hT (by decide) (by decide) k_934 k_942 (fun q9 => ?_)
      refine pb_eq (pc' := 12) (lo' := [(0, .ref h), (1, .int n), (2, .ref o)]) (rest' := [.ref q9]) (ws' := [(o, .inl (G.2.2.2.1, 1, .inr (.inl ofn))), (h, .inr (9, [.ref ta, .ref ca, .ref ps, .ref xe, .ref mk, .ref rd, .ref mu, .ref fi, .ref go, .ref sp, .ref ss])), (ta, .inr (0, [.ref tab, .int tas])), (tab, .inl (G.2.1, 8000, .inl taf))]) ?_
      refine pb_astore_n (pc := 12) (lo' := [(3, .ref q9), (0, .ref h), (1, .int n), (2, .ref o)]) d_Law_again_12 rfl (by decide) rfl ?_
      refine pb_iconst (pc := 13) (v := 1) d_Law_again_13 (by decide) ?_
      exact pb_iret (pc := 14) hQ d_Law_again_14 rfl rfl (1, tas, taf, ofn) ⟨rfl, (by (try dsimp only); first | done | (with_reducible assumption) | omega (splitDisjunctions := false) | assumption | omega | decide), (by (try dsimp only); first | done | (with_reducible assumption) | omega (splitDisjunctions := false) | assumption | omega | decide), (by (try dsimp only); first | done | (with_reducible assumption) | omega (splitDisjunctions := false) | assumption | omega | decide), (by (try dsimp only); first | done | (with_reducible assumption) | omega (splitDisjunctions := false) | assumption | omega | decide), (show (1 : Int32).toInt = 0 → (ofn 0).toInt = tas.toInt from (by (try dsimp only); exact fun h9 => by first | exact absurd h9 (by omega) | (show (vp_updL ofn ((0 : Int32).toNatClampNeg) _ 0).toInt = _; rw [show (0 : Int32).toNatClampNeg = 0 by decide, pk_uLs]; omega))), (show tp_G taf taf tas.toInt tas.toInt n.toInt from (by (try dsimp only); first | assumption | exact tp_G0 (by omega))), F_taf⟩ [1, 2, 3, 0] (by decide) rfl rfl (by decide) (by decide)
    · have fx4 : 0 ≤ n.toInt ∧ n.toInt ≤ tas.toInt := xf0
      have fx5 : 8000 < tas.toInt + n.toInt := xf1
      refine pb_catch2 (pc := 4) (name := "java/lang/UnsupportedOperationException") (nm1 := "java/lang/IllegalArgumentException") (y := ⟨0, 9, 12, 13⟩) (x := ⟨0, 9, 15, 15⟩) (suf := []) hT (by decide) (by decide) k_935 k_1009 (by decide) k_934 (by decide) (fun q9 => ?_)
      refine pb_eq (pc' := 15) (lo' := [(0, .ref h), (1, .int n), (2, .ref o)]) (rest' := [.ref q9]) (ws' := [(o, .inl (G.2.2.2.1, 1, .inr (.inl ofn))), (h, .inr (9, [.ref ta, .ref ca, .ref ps, .ref xe, .ref mk, .ref rd, .ref mu, .ref fi, .ref go, .ref sp, .ref ss])), (ta, .inr (0, [.ref tab, .int tas])), (tab, .inl (G.2.1, 8000, .inl taf))]) ?_
      refine pb_astore_n (pc := 15) (lo' := [(3, .ref q9), (0, .ref h), (1, .int n), (2, .ref o)]) d_Law_again_15 rfl (by decide) rfl ?_
      refine pb_iconst (pc := 16) (v := 2) d_Law_again_16 (by decide) ?_
      exact pb_iret (pc := 17) hQ d_Law_again_17 rfl rfl (2, tas, taf, ofn) ⟨rfl, (by (try dsimp only); first | done | (with_reducible assumption) | omega (splitDisjunctions := false) | assumption | omega | decide), (by (try dsimp only); first | done | (with_reducible assumption) | omega (splitDisjunctions := false) | assumption | omega | decide), (by (try dsimp only); first | done | (with_reducible assumption) | omega (splitDisjunctions := false) | assumption | omega | decide), (by (try dsimp only); first | done | (with_reducible assumption) | omega (splitDisjunctions := false) | assumption | omega | decide), (show (2 : Int32).toInt = 0 → (ofn 0).toInt = tas.toInt from (by (try dsimp only); exact fun h9 => by first | exact absurd h9 (by omega) | (show (vp_updL ofn ((0 : Int32).toNatClampNeg) _ 0).toInt = _; rw [show (0 : Int32).toNatClampNeg = 0 by decide, pk_uLs]; omega))), (show tp_G taf taf tas.toInt tas.toInt n.toInt from (by (try dsimp only); first | assumption | exact tp_G0 (by omega))), F_taf⟩ [1, 2, 3, 0] (by decide) rfl rfl (by decide) (by decide)
  · obtain ⟨r_6, ts_7, tf_8⟩ := ux2
    obtain ⟨ech1, ch1⟩ := ch1
    have ech1 : v9 = some (.int r_6) := ech1
    subst ech1
    obtain ⟨fh9, fh10, fh11, fh12, fh13, fh14⟩ : (0 ≤ n.toInt ∧ n.toInt ≤ tas.toInt) ∧ (ts_7.toInt = tas.toInt + n.toInt) ∧ (r_6.toInt = ts_7.toInt) ∧ (ts_7.toInt ≤ 8000) ∧ (tp_G taf tf_8 tas.toInt ts_7.toInt n.toInt) ∧ (sb_Fit tf_8) := ch1
    refine pb_eq (pc' := 7) (lo' := [(0, .ref h), (1, .int n), (2, .ref o)]) (rest' := [.int r_6, .int 0, .ref o]) (ws' := [(o, .inl (G.2.2.2.1, 1, .inr (.inl ofn))), (h, .inr (9, [.ref ta, .ref ca, .ref ps, .ref xe, .ref mk, .ref rd, .ref mu, .ref fi, .ref go, .ref sp, .ref ss])), (ta, .inr (0, [.ref tab, .int ts_7])), (tab, .inl (G.2.1, 8000, .inl tf_8))]) ?_
    refine pb_i2l (pc := 7) d_Law_again_7 rfl ?_
    refine pb_topl (fun jx15 ejx15 => ?_)
    have tjx15 : jx15.toInt = r_6.toInt := tl_i2l ejx15 rfl
    refine pb_last (pc := 8) (ws' := [(o, .inl (G.2.2.2.1, 1, .inr (.inl (vp_updL ofn ((0 : Int32).toNatClampNeg) jx15)))), (h, .inr (9, [.ref ta, .ref ca, .ref ps, .ref xe, .ref mk, .ref rd, .ref mu, .ref fi, .ref go, .ref sp, .ref ss])), (ta, .inr (0, [.ref tab, .int ts_7])), (tab, .inl (G.2.1, 8000, .inl tf_8))]) d_Law_again_8 0 rfl (by unfold vp_in; decide) rfl ?_
    refine pb_goto (pc := 9) (tgt := 18) d_Law_again_9 (by decide) ?_
    refine pb_iconst (pc := 18) (v := 0) d_Law_again_18 (by decide) ?_
    exact pb_iret (pc := 19) hQ d_Law_again_19 rfl rfl (0, ts_7, tf_8, (vp_updL ofn ((0 : Int32).toNatClampNeg) jx15)) ⟨rfl, (by (try dsimp only); first | done | (with_reducible assumption) | omega (splitDisjunctions := false) | assumption | omega | decide), (by (try dsimp only); first | done | (with_reducible assumption) | omega (splitDisjunctions := false) | assumption | omega | decide), (by (try dsimp only); first | done | (with_reducible assumption) | omega (splitDisjunctions := false) | assumption | omega | decide), (by (try dsimp only); first | done | (with_reducible assumption) | omega (splitDisjunctions := false) | assumption | omega | decide), (show (0 : Int32).toInt = 0 → ((vp_updL ofn ((0 : Int32).toNatClampNeg) jx15) 0).toInt = ts_7.toInt from (by (try dsimp only); exact fun h9 => by first | exact absurd h9 (by omega) | (show (vp_updL ofn ((0 : Int32).toNatClampNeg) _ 0).toInt = _; rw [show (0 : Int32).toNatClampNeg = 0 by decide, pk_uLs]; omega))), (show tp_G taf tf_8 tas.toInt ts_7.toInt n.toInt from (by (try dsimp only); first | assumption | exact tp_G0 (by omega))), fh14⟩ [1, 2, 3, 0] (by decide) rfl rfl (by decide) (by decide)

theorem d_Law_add_0 : decode method_5_code 0 = .ok (.aload_n 2, 1) := by decide +kernel
theorem d_Law_add_1 : decode method_5_code 1 = .ok (.iconst 0, 1) := by decide +kernel
theorem d_Law_add_2 : decode method_5_code 2 = .ok (.aload_n 0, 1) := by decide +kernel
theorem d_Law_add_3 : decode method_5_code 3 = .ok (.iload_n 1, 1) := by decide +kernel
theorem d_Law_add_4 : decode method_5_code 4 = .ok (.invokevirtual 21, 3) := by decide +kernel
theorem k_1036 : (Jvm.Cond.methodLink "PackageBookLaw" (21 : Nat) ({ cls := "PackageBook", name := "add", desc := "(I)I" } : Jvm.MethodName)) ∈ uW := uW_of 1036 (by decide +kernel) (by decide +kernel)
theorem k_1039 : (Jvm.Cond.code ({ cls := "PackageBook", name := "add", desc := "(I)I" } : Jvm.MethodName) prog_1_method_4_code (4 : Nat) (Option.some Jvm.ClassFile.FieldType.int)) ∈ uW := uW_of 1039 (by decide +kernel) (by decide +kernel)
theorem k_1037 : (Jvm.Cond.instanceMethod ({ cls := "PackageBook", name := "add", desc := "(I)I" } : Jvm.MethodName)) ∈ uW := uW_of 1037 (by decide +kernel) (by decide +kernel)
theorem k_1038 : (Jvm.Cond.selects "PackageBook" ({ cls := "PackageBook", name := "add", desc := "(I)I" } : Jvm.MethodName) ({ cls := "PackageBook", name := "add", desc := "(I)I" } : Jvm.MethodName)) ∈ uW := uW_of 1038 (by decide +kernel) (by decide +kernel)
theorem hy_Book_add : (y_Book_add).cls ≠ "java/lang/invoke/MethodHandle" ∧ (y_Book_add).cls ≠ "java/lang/invoke/VarHandle" ∧ (parseMethodDescriptor (y_Book_add).desc).map (fun d => d.parameters.length) = some 1 := by decide +kernel
theorem d_Law_add_12 : decode method_5_code 12 = .ok (.astore_n 3, 1) := by decide +kernel
theorem d_Law_add_13 : decode method_5_code 13 = .ok (.iconst 1, 1) := by decide +kernel
theorem d_Law_add_14 : decode method_5_code 14 = .ok (.ireturn, 1) := by decide +kernel
theorem d_Law_add_15 : decode method_5_code 15 = .ok (.astore_n 3, 1) := by decide +kernel
theorem d_Law_add_16 : decode method_5_code 16 = .ok (.iconst 2, 1) := by decide +kernel
theorem d_Law_add_17 : decode method_5_code 17 = .ok (.ireturn, 1) := by decide +kernel
theorem d_Law_add_7 : decode method_5_code 7 = .ok (.i2l, 1) := by decide +kernel
theorem d_Law_add_8 : decode method_5_code 8 = .ok (.lastore, 1) := by decide +kernel
theorem d_Law_add_9 : decode method_5_code 9 = .ok (.goto 9, 3) := by decide +kernel
theorem d_Law_add_18 : decode method_5_code 18 = .ok (.iconst 0, 1) := by decide +kernel
theorem d_Law_add_19 : decode method_5_code 19 = .ok (.ireturn, 1) := by decide +kernel
abbrev y_Law_add : MethodName := ⟨"PackageBookLaw", "add", "(LPackageBook;I[J)I"⟩
abbrev i_Law_add : pb_I := (y_Law_add, method_5_code, 4, (some Jvm.ClassFile.FieldType.int), [(0, 9, 12, 13), (0, 9, 15, 15)], { frames := 7, cells := 1, slots := 6, locals := 113 })
set_option maxRecDepth 100000 in
set_option maxHeartbeats 4000000 in
theorem g_Law_add {l : Launch} (hl : l.stackTraces = false) (G : pb_G) (h : Nat) (ta : Nat) (ca : Nat) (ps : Nat) (xe : Nat) (mk : Nat) (rd : Nat) (mu : Nat) (fi : Nat) (go : Nat) (sp : Nat) (ss : Nat) (tab : Nat) (taf : Nat → Int32) (tas : Int32) (tn : Nat) (tz : Nat) (tb : Nat) (tg : Nat) (c : Int32) (tfn : Nat → Int32) (tfz : Nat → Int32) (tfb : Nat → Int32) (tfg : Nat → Int32) (n : Int32) (V : VW_) (o : Nat) (ofn : Nat → Int64) (t0 : 0 ≤ tas.toInt) (t1 : tas.toInt ≤ 8000) (I : sh_I c.toInt tfz tfg) (R : rC_ c.toInt tfn tfz tfb tfg V) (hsV : srt_ V) (F_taf : sb_Fit taf) (F_tfn : sb_Fit tfn) (F_tfb : sb_Fit tfb) : Cn l G i_Law_add [.ref h, .int n, .ref o] [(h, .inr (9, [.ref ta, .ref ca, .ref ps, .ref xe, .ref mk, .ref rd, .ref mu, .ref fi, .ref go, .ref sp, .ref ss])), (ta, .inr (0, [.ref tab, .int tas])), (tab, .inl (G.2.1, 8000, .inl taf)), (sp, .inr (3, [.ref tn, .ref tz, .ref tb, .ref tg, .int c])), (tn, .inl (G.2.1, 384, .inl tfn)), (tz, .inl (G.2.2.1, 16, .inl tfz)), (tb, .inl (G.2.1, 12000, .inl tfb)), (tg, .inl (G.2.2.1, 17, .inl tfg)), (o, .inl (G.2.2.2.1, 1, .inr (.inl ofn)))] (S := Int32 × Int32 × (Nat → Int32) × (Nat → Int32) × (Nat → Int32) × (Nat → Int32) × (Nat → Int64)) (fun rv_ u => rv_ = some (.int u.1) ∧ (sh_I u.2.1.toInt u.2.2.2.1 u.2.2.2.2.2.1) ∧ (u.1.toInt = 0 ∨ u.1.toInt = 1 ∨ u.1.toInt = 2) ∧ (u.1.toInt = 1 → ¬ (0 ≤ n.toInt ∧ n.toInt ≤ tas.toInt ∧ iA_ (gx taf) 0 n.toInt)) ∧ (u.1.toInt = 2 → (0 ≤ n.toInt ∧ n.toInt ≤ tas.toInt ∧ iA_ (gx taf) 0 n.toInt) ∧ ¬ RM_ V (gx taf) n.toInt (tas.toInt - n.toInt)) ∧ (u.1.toInt = 0 → (0 ≤ n.toInt ∧ n.toInt ≤ tas.toInt ∧ iA_ (gx taf) 0 n.toInt) ∧ RM_ V (gx taf) n.toInt (tas.toInt - n.toInt) ∧ hid_ (∃ W : VW_, AD_ V (gx taf) n.toInt (tas.toInt - n.toInt) (fun k => gr taf (n.toInt + k)) W ∧ rC_ u.2.1.toInt u.2.2.1 u.2.2.2.1 u.2.2.2.2.1 u.2.2.2.2.2.1 W ∧ (u.2.2.2.2.2.2 0).toInt = vC W)) ∧ (¬ u.1.toInt = 0 → rC_ u.2.1.toInt u.2.2.1 u.2.2.2.1 u.2.2.2.2.1 u.2.2.2.2.2.1 V) ∧ (sb_Fit u.2.2.1) ∧ (sb_Fit u.2.2.2.2.1)) (fun u => [(h, .inr (9, [.ref ta, .ref ca, .ref ps, .ref xe, .ref mk, .ref rd, .ref mu, .ref fi, .ref go, .ref sp, .ref ss])), (ta, .inr (0, [.ref tab, .int 0])), (tab, .inl (G.2.1, 8000, .inl taf)), (sp, .inr (3, [.ref tn, .ref tz, .ref tb, .ref tg, .int u.2.1])), (tn, .inl (G.2.1, 384, .inl u.2.2.1)), (tz, .inl (G.2.2.1, 16, .inl u.2.2.2.1)), (tb, .inl (G.2.1, 12000, .inl u.2.2.2.2.1)), (tg, .inl (G.2.2.1, 17, .inl u.2.2.2.2.2.1)), (o, .inl (G.2.2.2.1, 1, .inr (.inl u.2.2.2.2.2.2)))]) := by
  refine Cn.ofW hl (by decide +kernel) rfl (Nat.le_of_ble_eq_true rfl) (fun M hQ hT => ?_)
  refine pb_eq (pc' := 0) (lo' := [(0, .ref h), (1, .int n), (2, .ref o)]) (rest' := []) (ws' := [(h, .inr (9, [.ref ta, .ref ca, .ref ps, .ref xe, .ref mk, .ref rd, .ref mu, .ref fi, .ref go, .ref sp, .ref ss])), (ta, .inr (0, [.ref tab, .int tas])), (tab, .inl (G.2.1, 8000, .inl taf)), (sp, .inr (3, [.ref tn, .ref tz, .ref tb, .ref tg, .int c])), (tn, .inl (G.2.1, 384, .inl tfn)), (tz, .inl (G.2.2.1, 16, .inl tfz)), (tb, .inl (G.2.1, 12000, .inl tfb)), (tg, .inl (G.2.2.1, 17, .inl tfg)), (o, .inl (G.2.2.2.1, 1, .inr (.inl ofn)))]) ?_
  have zl0 : (0 : Int32).toInt = 0 := by decide
  have zl1 : (1 : Int32).toInt = 1 := by decide
  have zl2 : (2 : Int32).toInt = 2 := by decide
  refine pb_aload_n (pc := 0) d_Law_add_0 2 rfl rfl ?_
  refine pb_iconst (pc := 1) (v := 0) d_Law_add_1 (by decide) ?_
  refine pb_aload_n (pc := 2) d_Law_add_2 0 rfl rfl ?_
  refine pb_iload_n (pc := 3) d_Law_add_3 1 rfl rfl ?_
  refine pb_callVX (pc := 4) (I := i_Law_add) (qb := 0) (ci := 9) (nA := 1) (rest := [.int 0, .ref o]) (wr := [(o, .inl (G.2.2.2.1, 1, .inr (.inl ofn)))]) d_Law_add_4 (g_Book_add hl G h ta ca ps xe mk rd mu fi go sp ss tab taf tas tn tz tb tg c tfn tfz tfb tfg n V (by first | (with_reducible assumption) | omega (splitDisjunctions := false) | assumption | omega | decide) (by first | (with_reducible assumption) | omega (splitDisjunctions := false) | assumption | omega | decide) (by first | assumption | decide | omega) (by first | (with_reducible assumption) | omega (splitDisjunctions := false) | assumption | omega | decide) (by first | (with_reducible assumption) | omega (splitDisjunctions := false) | assumption | omega | decide) F_taf F_tfn F_tfb) rfl rfl [0, 1, 2, 3, 4, 5, 6, 7] [8] (by decide) rfl rfl rfl (by decide) (by decide) k_1039 rfl k_118 k_1036 k_1037 k_1038 hy_Book_add (by decide) rfl rfl (Nat.le_of_ble_eq_true rfl) (by decide) (fun E0 u9 hx9 => ?_) (fun v9 ux2 ch1 => ?_)
  · rcases hx9 with ⟨rfl, xf0⟩ | ⟨rfl, xf0, xf1⟩
    · have fx3 : ¬ (0 ≤ n.toInt ∧ n.toInt ≤ tas.toInt ∧ iA_ (gx taf) 0 n.toInt) := xf0
      refine pb_catch (pc := 4) (name := "java/lang/IllegalArgumentException") (x := ⟨0, 9, 12, 13⟩) (suf := [⟨0, 9, 15, 15⟩]) hT (by decide) (by decide) k_934 k_942 (fun q9 => ?_)
      refine pb_eq (pc' := 12) (lo' := [(0, .ref h), (1, .int n), (2, .ref o)]) (rest' := [.ref q9]) (ws' := [(o, .inl (G.2.2.2.1, 1, .inr (.inl ofn))), (h, .inr (9, [.ref ta, .ref ca, .ref ps, .ref xe, .ref mk, .ref rd, .ref mu, .ref fi, .ref go, .ref sp, .ref ss])), (ta, .inr (0, [.ref tab, .int 0])), (tab, .inl (G.2.1, 8000, .inl taf)), (sp, .inr (3, [.ref tn, .ref tz, .ref tb, .ref tg, .int c])), (tn, .inl (G.2.1, 384, .inl tfn)), (tz, .inl (G.2.2.1, 16, .inl tfz)), (tb, .inl (G.2.1, 12000, .inl tfb)), (tg, .inl (G.2.2.1, 17, .inl tfg))]) ?_
      refine pb_astore_n (pc := 12) (lo' := [(3, .ref q9), (0, .ref h), (1, .int n), (2, .ref o)]) d_Law_add_12 rfl (by decide) rfl ?_
      refine pb_iconst (pc := 13) (v := 1) d_Law_add_13 (by decide) ?_
      exact pb_iret (pc := 14) hQ d_Law_add_14 rfl rfl (1, c, tfn, tfz, tfb, tfg, ofn) ⟨rfl, (by (try dsimp only); first | done | assumption | decide | omega), (by (try dsimp only); first | done | (with_reducible assumption) | omega (splitDisjunctions := false) | assumption | omega | decide), (show (1 : Int32).toInt = 1 → ¬ (0 ≤ n.toInt ∧ n.toInt ≤ tas.toInt ∧ iA_ (gx taf) 0 n.toInt) from (by (try dsimp only); first | exact fun q9 => absurd q9 (by decide) | exact fun _ => (by assumption))), (show (1 : Int32).toInt = 2 → (0 ≤ n.toInt ∧ n.toInt ≤ tas.toInt ∧ iA_ (gx taf) 0 n.toInt) ∧ ¬ RM_ V (gx taf) n.toInt (tas.toInt - n.toInt) from (by (try dsimp only); first | exact fun q9 => absurd q9 (by decide) | exact fun _ => ⟨by assumption, by assumption⟩)), (show (1 : Int32).toInt = 0 → (0 ≤ n.toInt ∧ n.toInt ≤ tas.toInt ∧ iA_ (gx taf) 0 n.toInt) ∧ RM_ V (gx taf) n.toInt (tas.toInt - n.toInt) ∧ hid_ (∃ W : VW_, AD_ V (gx taf) n.toInt (tas.toInt - n.toInt) (fun k => gr taf (n.toInt + k)) W ∧ rC_ c.toInt tfn tfz tfb tfg W ∧ (ofn 0).toInt = vC W) from (by have e9 : ∀ z : Int64, (vp_updL ofn ((0 : Int32).toNatClampNeg) z 0) = z := fun z => (by rw [show (0 : Int32).toNatClampNeg = 0 by decide, pk_uLs]); (try dsimp only); first | exact fun q9 => absurd q9 (by decide) | exact fun _ => (by rw [e9]; exact ⟨ba0, ba3.1, hid_i (by obtain ⟨W, w1, w2, w3⟩ := hid_o ba3.2; exact ⟨W, w1, w2, by omega⟩)⟩))), (show ¬ (1 : Int32).toInt = 0 → rC_ c.toInt tfn tfz tfb tfg V from (by (try dsimp only); first | exact fun q9 => absurd (by decide) q9 | exact fun _ => R)), F_tfn, F_tfb⟩ [1, 2, 3, 4, 5, 6, 7, 8, 0] (by decide) rfl rfl (by decide) (by decide)
    · have fx4 : 0 ≤ n.toInt ∧ n.toInt ≤ tas.toInt ∧ iA_ (gx taf) 0 n.toInt := xf0
      have fx5 : ¬ RM_ V (gx taf) n.toInt (tas.toInt - n.toInt) := xf1
      refine pb_catch2 (pc := 4) (name := "java/lang/UnsupportedOperationException") (nm1 := "java/lang/IllegalArgumentException") (y := ⟨0, 9, 12, 13⟩) (x := ⟨0, 9, 15, 15⟩) (suf := []) hT (by decide) (by decide) k_935 k_1009 (by decide) k_934 (by decide) (fun q9 => ?_)
      refine pb_eq (pc' := 15) (lo' := [(0, .ref h), (1, .int n), (2, .ref o)]) (rest' := [.ref q9]) (ws' := [(o, .inl (G.2.2.2.1, 1, .inr (.inl ofn))), (h, .inr (9, [.ref ta, .ref ca, .ref ps, .ref xe, .ref mk, .ref rd, .ref mu, .ref fi, .ref go, .ref sp, .ref ss])), (ta, .inr (0, [.ref tab, .int 0])), (tab, .inl (G.2.1, 8000, .inl taf)), (sp, .inr (3, [.ref tn, .ref tz, .ref tb, .ref tg, .int c])), (tn, .inl (G.2.1, 384, .inl tfn)), (tz, .inl (G.2.2.1, 16, .inl tfz)), (tb, .inl (G.2.1, 12000, .inl tfb)), (tg, .inl (G.2.2.1, 17, .inl tfg))]) ?_
      refine pb_astore_n (pc := 15) (lo' := [(3, .ref q9), (0, .ref h), (1, .int n), (2, .ref o)]) d_Law_add_15 rfl (by decide) rfl ?_
      refine pb_iconst (pc := 16) (v := 2) d_Law_add_16 (by decide) ?_
      exact pb_iret (pc := 17) hQ d_Law_add_17 rfl rfl (2, c, tfn, tfz, tfb, tfg, ofn) ⟨rfl, (by (try dsimp only); first | done | assumption | decide | omega), (by (try dsimp only); first | done | (with_reducible assumption) | omega (splitDisjunctions := false) | assumption | omega | decide), (show (2 : Int32).toInt = 1 → ¬ (0 ≤ n.toInt ∧ n.toInt ≤ tas.toInt ∧ iA_ (gx taf) 0 n.toInt) from (by (try dsimp only); first | exact fun q9 => absurd q9 (by decide) | exact fun _ => (by assumption))), (show (2 : Int32).toInt = 2 → (0 ≤ n.toInt ∧ n.toInt ≤ tas.toInt ∧ iA_ (gx taf) 0 n.toInt) ∧ ¬ RM_ V (gx taf) n.toInt (tas.toInt - n.toInt) from (by (try dsimp only); first | exact fun q9 => absurd q9 (by decide) | exact fun _ => ⟨by assumption, by assumption⟩)), (show (2 : Int32).toInt = 0 → (0 ≤ n.toInt ∧ n.toInt ≤ tas.toInt ∧ iA_ (gx taf) 0 n.toInt) ∧ RM_ V (gx taf) n.toInt (tas.toInt - n.toInt) ∧ hid_ (∃ W : VW_, AD_ V (gx taf) n.toInt (tas.toInt - n.toInt) (fun k => gr taf (n.toInt + k)) W ∧ rC_ c.toInt tfn tfz tfb tfg W ∧ (ofn 0).toInt = vC W) from (by have e9 : ∀ z : Int64, (vp_updL ofn ((0 : Int32).toNatClampNeg) z 0) = z := fun z => (by rw [show (0 : Int32).toNatClampNeg = 0 by decide, pk_uLs]); (try dsimp only); first | exact fun q9 => absurd q9 (by decide) | exact fun _ => (by rw [e9]; exact ⟨ba0, ba3.1, hid_i (by obtain ⟨W, w1, w2, w3⟩ := hid_o ba3.2; exact ⟨W, w1, w2, by omega⟩)⟩))), (show ¬ (2 : Int32).toInt = 0 → rC_ c.toInt tfn tfz tfb tfg V from (by (try dsimp only); first | exact fun q9 => absurd (by decide) q9 | exact fun _ => R)), F_tfn, F_tfb⟩ [1, 2, 3, 4, 5, 6, 7, 8, 0] (by decide) rfl rfl (by decide) (by decide)
  · obtain ⟨r_6, c_7, fn_8, fz_9, fb_10, fg_11⟩ := ux2
    obtain ⟨ech1, ch1⟩ := ch1
    have ech1 : v9 = some (.int r_6) := ech1
    subst ech1
    obtain ⟨fh12, fh13, fh14, fh15, fh16⟩ : (sh_I c_7.toInt fz_9 fg_11) ∧ (0 ≤ n.toInt ∧ n.toInt ≤ tas.toInt ∧ iA_ (gx taf) 0 n.toInt) ∧ (RM_ V (gx taf) n.toInt (tas.toInt - n.toInt) ∧ hid_ (∃ W : VW_, AD_ V (gx taf) n.toInt (tas.toInt - n.toInt) (fun k => gr taf (n.toInt + k)) W ∧ rC_ c_7.toInt fn_8 fz_9 fb_10 fg_11 W ∧ r_6.toInt = vC W)) ∧ (sb_Fit fn_8) ∧ (sb_Fit fb_10) := ch1
    have ba0 := fh13
    have ba3 := fh14
    refine pb_eq (pc' := 7) (lo' := [(0, .ref h), (1, .int n), (2, .ref o)]) (rest' := [.int r_6, .int 0, .ref o]) (ws' := [(o, .inl (G.2.2.2.1, 1, .inr (.inl ofn))), (h, .inr (9, [.ref ta, .ref ca, .ref ps, .ref xe, .ref mk, .ref rd, .ref mu, .ref fi, .ref go, .ref sp, .ref ss])), (ta, .inr (0, [.ref tab, .int 0])), (tab, .inl (G.2.1, 8000, .inl taf)), (sp, .inr (3, [.ref tn, .ref tz, .ref tb, .ref tg, .int c_7])), (tn, .inl (G.2.1, 384, .inl fn_8)), (tz, .inl (G.2.2.1, 16, .inl fz_9)), (tb, .inl (G.2.1, 12000, .inl fb_10)), (tg, .inl (G.2.2.1, 17, .inl fg_11))]) ?_
    refine pb_i2l (pc := 7) d_Law_add_7 rfl ?_
    refine pb_topl (fun jx17 ejx17 => ?_)
    have tjx17 : jx17.toInt = r_6.toInt := tl_i2l ejx17 rfl
    refine pb_last (pc := 8) (ws' := [(o, .inl (G.2.2.2.1, 1, .inr (.inl (vp_updL ofn ((0 : Int32).toNatClampNeg) jx17)))), (h, .inr (9, [.ref ta, .ref ca, .ref ps, .ref xe, .ref mk, .ref rd, .ref mu, .ref fi, .ref go, .ref sp, .ref ss])), (ta, .inr (0, [.ref tab, .int 0])), (tab, .inl (G.2.1, 8000, .inl taf)), (sp, .inr (3, [.ref tn, .ref tz, .ref tb, .ref tg, .int c_7])), (tn, .inl (G.2.1, 384, .inl fn_8)), (tz, .inl (G.2.2.1, 16, .inl fz_9)), (tb, .inl (G.2.1, 12000, .inl fb_10)), (tg, .inl (G.2.2.1, 17, .inl fg_11))]) d_Law_add_8 0 rfl (by unfold vp_in; decide) rfl ?_
    refine pb_goto (pc := 9) (tgt := 18) d_Law_add_9 (by decide) ?_
    refine pb_iconst (pc := 18) (v := 0) d_Law_add_18 (by decide) ?_
    exact pb_iret (pc := 19) hQ d_Law_add_19 rfl rfl (0, c_7, fn_8, fz_9, fb_10, fg_11, (vp_updL ofn ((0 : Int32).toNatClampNeg) jx17)) ⟨rfl, (by (try dsimp only); first | done | assumption | decide | omega), (by (try dsimp only); first | done | (with_reducible assumption) | omega (splitDisjunctions := false) | assumption | omega | decide), (show (0 : Int32).toInt = 1 → ¬ (0 ≤ n.toInt ∧ n.toInt ≤ tas.toInt ∧ iA_ (gx taf) 0 n.toInt) from (by (try dsimp only); first | exact fun q9 => absurd q9 (by decide) | exact fun _ => (by assumption))), (show (0 : Int32).toInt = 2 → (0 ≤ n.toInt ∧ n.toInt ≤ tas.toInt ∧ iA_ (gx taf) 0 n.toInt) ∧ ¬ RM_ V (gx taf) n.toInt (tas.toInt - n.toInt) from (by (try dsimp only); first | exact fun q9 => absurd q9 (by decide) | exact fun _ => ⟨by assumption, by assumption⟩)), (show (0 : Int32).toInt = 0 → (0 ≤ n.toInt ∧ n.toInt ≤ tas.toInt ∧ iA_ (gx taf) 0 n.toInt) ∧ RM_ V (gx taf) n.toInt (tas.toInt - n.toInt) ∧ hid_ (∃ W : VW_, AD_ V (gx taf) n.toInt (tas.toInt - n.toInt) (fun k => gr taf (n.toInt + k)) W ∧ rC_ c_7.toInt fn_8 fz_9 fb_10 fg_11 W ∧ ((vp_updL ofn ((0 : Int32).toNatClampNeg) jx17) 0).toInt = vC W) from (by have e9 : ∀ z : Int64, (vp_updL ofn ((0 : Int32).toNatClampNeg) z 0) = z := fun z => (by rw [show (0 : Int32).toNatClampNeg = 0 by decide, pk_uLs]); (try dsimp only); first | exact fun q9 => absurd q9 (by decide) | exact fun _ => (by rw [e9]; exact ⟨ba0, ba3.1, hid_i (by obtain ⟨W, w1, w2, w3⟩ := hid_o ba3.2; exact ⟨W, w1, w2, by omega⟩)⟩))), (show ¬ (0 : Int32).toInt = 0 → rC_ c_7.toInt fn_8 fz_9 fb_10 fg_11 V from (by (try dsimp only); first | exact fun q9 => absurd (by decide) q9 | exact fun _ => R)), fh15, fh16⟩ [1, 2, 3, 4, 5, 6, 7, 8, 0] (by decide) rfl rfl (by decide) (by decide)

theorem d_Law_about_0 : decode method_6_code 0 = .ok (.aload_n 3, 1) := by decide +kernel
theorem d_Law_about_1 : decode method_6_code 1 = .ok (.iconst 0, 1) := by decide +kernel
theorem d_Law_about_2 : decode method_6_code 2 = .ok (.aload_n 0, 1) := by decide +kernel
theorem d_Law_about_3 : decode method_6_code 3 = .ok (.iload_n 1, 1) := by decide +kernel
theorem d_Law_about_4 : decode method_6_code 4 = .ok (.iload_n 2, 1) := by decide +kernel
theorem d_Law_about_5 : decode method_6_code 5 = .ok (.invokevirtual 24, 3) := by decide +kernel
theorem k_1049 : (Jvm.Cond.methodLink "PackageBookLaw" (24 : Nat) ({ cls := "PackageBook", name := "about", desc := "(II)I" } : Jvm.MethodName)) ∈ uW := uW_of 1049 (by decide +kernel) (by decide +kernel)
theorem k_1052 : (Jvm.Cond.code ({ cls := "PackageBook", name := "about", desc := "(II)I" } : Jvm.MethodName) prog_1_method_6_code (3 : Nat) (Option.some Jvm.ClassFile.FieldType.int)) ∈ uW := uW_of 1052 (by decide +kernel) (by decide +kernel)
theorem k_1050 : (Jvm.Cond.instanceMethod ({ cls := "PackageBook", name := "about", desc := "(II)I" } : Jvm.MethodName)) ∈ uW := uW_of 1050 (by decide +kernel) (by decide +kernel)
theorem k_1051 : (Jvm.Cond.selects "PackageBook" ({ cls := "PackageBook", name := "about", desc := "(II)I" } : Jvm.MethodName) ({ cls := "PackageBook", name := "about", desc := "(II)I" } : Jvm.MethodName)) ∈ uW := uW_of 1051 (by decide +kernel) (by decide +kernel)
theorem hy_Book_about : (y_Book_about).cls ≠ "java/lang/invoke/MethodHandle" ∧ (y_Book_about).cls ≠ "java/lang/invoke/VarHandle" ∧ (parseMethodDescriptor (y_Book_about).desc).map (fun d => d.parameters.length) = some 2 := by decide +kernel
theorem k_1048 : (Jvm.Cond.classLink "PackageBookLaw" (28 : Nat) "java/lang/IndexOutOfBoundsException") ∈ uW := uW_of 1048 (by decide +kernel) (by decide +kernel)
theorem k_1057 : (Jvm.Cond.castable "java/lang/IndexOutOfBoundsException" "java/lang/IndexOutOfBoundsException") ∈ uN := uN_of 1057 (by decide +kernel) (by decide +kernel)
theorem d_Law_about_13 : decode method_6_code 13 = .ok (.astore 4, 2) := by decide +kernel
theorem d_Law_about_15 : decode method_6_code 15 = .ok (.iconst 1, 1) := by decide +kernel
theorem d_Law_about_16 : decode method_6_code 16 = .ok (.ireturn, 1) := by decide +kernel
theorem d_Law_about_8 : decode method_6_code 8 = .ok (.i2l, 1) := by decide +kernel
theorem d_Law_about_9 : decode method_6_code 9 = .ok (.lastore, 1) := by decide +kernel
theorem d_Law_about_10 : decode method_6_code 10 = .ok (.goto 7, 3) := by decide +kernel
theorem d_Law_about_17 : decode method_6_code 17 = .ok (.iconst 0, 1) := by decide +kernel
theorem d_Law_about_18 : decode method_6_code 18 = .ok (.ireturn, 1) := by decide +kernel
abbrev y_Law_about : MethodName := ⟨"PackageBookLaw", "about", "(LPackageBook;II[J)I"⟩
abbrev i_Law_about : pb_I := (y_Law_about, method_6_code, 5, (some Jvm.ClassFile.FieldType.int), [(0, 10, 13, 28)], { frames := 7, cells := 1, slots := 6, locals := 112 })
set_option maxRecDepth 100000 in
set_option maxHeartbeats 4000000 in
theorem g_Law_about {l : Launch} (hl : l.stackTraces = false) (G : pb_G) (h : Nat) (ta : Nat) (ca : Nat) (ps : Nat) (xe : Nat) (mk : Nat) (rd : Nat) (mu : Nat) (fi : Nat) (go : Nat) (sp : Nat) (ss : Nat) (tn : Nat) (tz : Nat) (tb : Nat) (tg : Nat) (c : Int32) (tfn : Nat → Int32) (tfz : Nat → Int32) (tfb : Nat → Int32) (tfg : Nat → Int32) (w : Int32) (i : Int32) (V : VW_) (o : Nat) (ofn : Nat → Int64) (I : sh_I c.toInt tfz tfg) (R : rC_ c.toInt tfn tfz tfb tfg V) (F_tfn : sb_Fit tfn) (F_tfb : sb_Fit tfb) : Cn l G i_Law_about [.ref h, .int w, .int i, .ref o] [(h, .inr (9, [.ref ta, .ref ca, .ref ps, .ref xe, .ref mk, .ref rd, .ref mu, .ref fi, .ref go, .ref sp, .ref ss])), (sp, .inr (3, [.ref tn, .ref tz, .ref tb, .ref tg, .int c])), (tn, .inl (G.2.1, 384, .inl tfn)), (tz, .inl (G.2.2.1, 16, .inl tfz)), (tb, .inl (G.2.1, 12000, .inl tfb)), (tg, .inl (G.2.2.1, 17, .inl tfg)), (o, .inl (G.2.2.2.1, 1, .inr (.inl ofn)))] (S := Int32 × (Nat → Int64)) (fun rv_ u => rv_ = some (.int u.1) ∧ (u.1.toInt = 0 ∨ u.1.toInt = 1) ∧ (u.1.toInt = 1 → ¬ (w.toInt = 0 ∨ w.toInt = 3 ∨ (w.toInt = 1 ∨ w.toInt = 2) ∧ 0 ≤ i.toInt ∧ i.toInt < vC V)) ∧ (u.1.toInt = 0 → (w.toInt = 0 ∨ w.toInt = 3 ∨ (w.toInt = 1 ∨ w.toInt = 2) ∧ 0 ≤ i.toInt ∧ i.toInt < vC V) ∧ (w.toInt = 0 → (u.2 0).toInt = vC V) ∧ (w.toInt = 1 → (u.2 0).toInt = vZ V i.toInt) ∧ (w.toInt = 2 → (u.2 0).toInt = vS V i.toInt) ∧ (w.toInt = 3 → (u.2 0).toInt = vT V))) (fun u => [(h, .inr (9, [.ref ta, .ref ca, .ref ps, .ref xe, .ref mk, .ref rd, .ref mu, .ref fi, .ref go, .ref sp, .ref ss])), (sp, .inr (3, [.ref tn, .ref tz, .ref tb, .ref tg, .int c])), (tn, .inl (G.2.1, 384, .inl tfn)), (tz, .inl (G.2.2.1, 16, .inl tfz)), (tb, .inl (G.2.1, 12000, .inl tfb)), (tg, .inl (G.2.2.1, 17, .inl tfg)), (o, .inl (G.2.2.2.1, 1, .inr (.inl u.2)))]) := by
  refine Cn.ofW hl (by decide +kernel) rfl (Nat.le_of_ble_eq_true rfl) (fun M hQ hT => ?_)
  refine pb_eq (pc' := 0) (lo' := [(0, .ref h), (1, .int w), (2, .int i), (3, .ref o)]) (rest' := []) (ws' := [(h, .inr (9, [.ref ta, .ref ca, .ref ps, .ref xe, .ref mk, .ref rd, .ref mu, .ref fi, .ref go, .ref sp, .ref ss])), (sp, .inr (3, [.ref tn, .ref tz, .ref tb, .ref tg, .int c])), (tn, .inl (G.2.1, 384, .inl tfn)), (tz, .inl (G.2.2.1, 16, .inl tfz)), (tb, .inl (G.2.1, 12000, .inl tfb)), (tg, .inl (G.2.2.1, 17, .inl tfg)), (o, .inl (G.2.2.2.1, 1, .inr (.inl ofn)))]) ?_
  have zl0 : (0 : Int32).toInt = 0 := by decide
  have zl1 : (1 : Int32).toInt = 1 := by decide
  refine pb_aload_n (pc := 0) d_Law_about_0 3 rfl rfl ?_
  refine pb_iconst (pc := 1) (v := 0) d_Law_about_1 (by decide) ?_
  refine pb_aload_n (pc := 2) d_Law_about_2 0 rfl rfl ?_
  refine pb_iload_n (pc := 3) d_Law_about_3 1 rfl rfl ?_
  refine pb_iload_n (pc := 4) d_Law_about_4 2 rfl rfl ?_
  refine pb_callVX (pc := 5) (I := i_Law_about) (qb := 0) (ci := 9) (nA := 2) (rest := [.int 0, .ref o]) (wr := [(o, .inl (G.2.2.2.1, 1, .inr (.inl ofn)))]) d_Law_about_5 (g_Book_about hl G h ta ca ps xe mk rd mu fi go sp ss tn tz tb tg c tfn tfz tfb tfg w i V (by first | assumption | decide | omega) (by first | (with_reducible assumption) | omega (splitDisjunctions := false) | assumption | omega | decide) F_tfn F_tfb) rfl rfl [0, 1, 2, 3, 4, 5] [6] (by decide) rfl rfl rfl (by decide) (by decide) k_1052 rfl k_118 k_1049 k_1050 k_1051 hy_Book_about (by decide) rfl rfl (Nat.le_of_ble_eq_true rfl) (by decide) (fun E0 u9 hx9 => ?_) (fun v9 ux2 ch1 => ?_)
  · rcases hx9 with ⟨rfl, xf0⟩
    have fx3 : ¬ (w.toInt = 0 ∨ w.toInt = 3 ∨ (w.toInt = 1 ∨ w.toInt = 2) ∧ 0 ≤ i.toInt ∧ i.toInt < vC V) := xf0
    refine pb_catch (pc := 5) (name := "java/lang/IndexOutOfBoundsException") (x := ⟨0, 10, 13, 28⟩) (suf := []) hT (by decide) (by decide) k_1048 k_1057 (fun q9 => ?_)
    refine pb_eq (pc' := 13) (lo' := [(0, .ref h), (1, .int w), (2, .int i), (3, .ref o)]) (rest' := [.ref q9]) (ws' := [(o, .inl (G.2.2.2.1, 1, .inr (.inl ofn))), (h, .inr (9, [.ref ta, .ref ca, .ref ps, .ref xe, .ref mk, .ref rd, .ref mu, .ref fi, .ref go, .ref sp, .ref ss])), (sp, .inr (3, [.ref tn, .ref tz, .ref tb, .ref tg, .int c])), (tn, .inl (G.2.1, 384, .inl tfn)), (tz, .inl (G.2.2.1, 16, .inl tfz)), (tb, .inl (G.2.1, 12000, .inl tfb)), (tg, .inl (G.2.2.1, 17, .inl tfg))]) ?_
    refine pb_astore (pc := 13) (lo' := [(4, .ref q9), (0, .ref h), (1, .int w), (2, .int i), (3, .ref o)]) d_Law_about_13 (by decide) rfl ?_
    refine pb_iconst (pc := 15) (v := 1) d_Law_about_15 (by decide) ?_
    exact pb_iret (pc := 16) hQ d_Law_about_16 rfl rfl (1, ofn) ⟨rfl, (by (try dsimp only); first | done | (with_reducible assumption) | omega (splitDisjunctions := false) | assumption | omega | decide), (show (1 : Int32).toInt = 1 → ¬ (w.toInt = 0 ∨ w.toInt = 3 ∨ (w.toInt = 1 ∨ w.toInt = 2) ∧ 0 ≤ i.toInt ∧ i.toInt < vC V) from (by (try dsimp only); first | exact fun q9 => absurd q9 (by decide) | exact fun _ => (by assumption))), (show (1 : Int32).toInt = 0 → (w.toInt = 0 ∨ w.toInt = 3 ∨ (w.toInt = 1 ∨ w.toInt = 2) ∧ 0 ≤ i.toInt ∧ i.toInt < vC V) ∧ (w.toInt = 0 → (ofn 0).toInt = vC V) ∧ (w.toInt = 1 → (ofn 0).toInt = vZ V i.toInt) ∧ (w.toInt = 2 → (ofn 0).toInt = vS V i.toInt) ∧ (w.toInt = 3 → (ofn 0).toInt = vT V) from (by have e9 : ∀ z : Int64, (vp_updL ofn ((0 : Int32).toNatClampNeg) z 0) = z := fun z => (by rw [show (0 : Int32).toNatClampNeg = 0 by decide, pk_uLs]); (try dsimp only); first | exact fun q9 => absurd q9 (by decide) | exact fun _ => (by rw [e9]; exact ⟨ba1, (by obtain ⟨c1, c2, c3, c4⟩ := ba2; refine ⟨fun q => ?_, fun q => ?_, fun q => ?_, fun q => ?_⟩ <;> omega)⟩)))⟩ [1, 2, 3, 4, 5, 6, 0] (by decide) rfl rfl (by decide) (by decide)
  · obtain ⟨r_4, rfl⟩ : ∃ z9, z9 = ux2 := ⟨_, rfl⟩
    obtain ⟨ech1, ch1⟩ := ch1
    have ech1 : v9 = some (.int r_4) := ech1
    subst ech1
    obtain ⟨fh5, fh6⟩ : ((w.toInt = 0 ∨ w.toInt = 3 ∨ (w.toInt = 1 ∨ w.toInt = 2) ∧ 0 ≤ i.toInt ∧ i.toInt < vC V)) ∧ ((w.toInt = 0 → r_4.toInt = vC V) ∧ (w.toInt = 1 → r_4.toInt = vZ V i.toInt) ∧ (w.toInt = 2 → r_4.toInt = vS V i.toInt) ∧ (w.toInt = 3 → r_4.toInt = vT V)) := ch1
    have ba1 := fh5
    have ba2 := fh6
    refine pb_eq (pc' := 8) (lo' := [(0, .ref h), (1, .int w), (2, .int i), (3, .ref o)]) (rest' := [.int r_4, .int 0, .ref o]) (ws' := [(o, .inl (G.2.2.2.1, 1, .inr (.inl ofn))), (h, .inr (9, [.ref ta, .ref ca, .ref ps, .ref xe, .ref mk, .ref rd, .ref mu, .ref fi, .ref go, .ref sp, .ref ss])), (sp, .inr (3, [.ref tn, .ref tz, .ref tb, .ref tg, .int c])), (tn, .inl (G.2.1, 384, .inl tfn)), (tz, .inl (G.2.2.1, 16, .inl tfz)), (tb, .inl (G.2.1, 12000, .inl tfb)), (tg, .inl (G.2.2.1, 17, .inl tfg))]) ?_
    refine pb_i2l (pc := 8) d_Law_about_8 rfl ?_
    refine pb_topl (fun jx7 ejx7 => ?_)
    have tjx7 : jx7.toInt = r_4.toInt := tl_i2l ejx7 rfl
    refine pb_last (pc := 9) (ws' := [(o, .inl (G.2.2.2.1, 1, .inr (.inl (vp_updL ofn ((0 : Int32).toNatClampNeg) jx7)))), (h, .inr (9, [.ref ta, .ref ca, .ref ps, .ref xe, .ref mk, .ref rd, .ref mu, .ref fi, .ref go, .ref sp, .ref ss])), (sp, .inr (3, [.ref tn, .ref tz, .ref tb, .ref tg, .int c])), (tn, .inl (G.2.1, 384, .inl tfn)), (tz, .inl (G.2.2.1, 16, .inl tfz)), (tb, .inl (G.2.1, 12000, .inl tfb)), (tg, .inl (G.2.2.1, 17, .inl tfg))]) d_Law_about_9 0 rfl (by unfold vp_in; decide) rfl ?_
    refine pb_goto (pc := 10) (tgt := 17) d_Law_about_10 (by decide) ?_
    refine pb_iconst (pc := 17) (v := 0) d_Law_about_17 (by decide) ?_
    exact pb_iret (pc := 18) hQ d_Law_about_18 rfl rfl (0, (vp_updL ofn ((0 : Int32).toNatClampNeg) jx7)) ⟨rfl, (by (try dsimp only); first | done | (with_reducible assumption) | omega (splitDisjunctions := false) | assumption | omega | decide), (show (0 : Int32).toInt = 1 → ¬ (w.toInt = 0 ∨ w.toInt = 3 ∨ (w.toInt = 1 ∨ w.toInt = 2) ∧ 0 ≤ i.toInt ∧ i.toInt < vC V) from (by (try dsimp only); first | exact fun q9 => absurd q9 (by decide) | exact fun _ => (by assumption))), (show (0 : Int32).toInt = 0 → (w.toInt = 0 ∨ w.toInt = 3 ∨ (w.toInt = 1 ∨ w.toInt = 2) ∧ 0 ≤ i.toInt ∧ i.toInt < vC V) ∧ (w.toInt = 0 → ((vp_updL ofn ((0 : Int32).toNatClampNeg) jx7) 0).toInt = vC V) ∧ (w.toInt = 1 → ((vp_updL ofn ((0 : Int32).toNatClampNeg) jx7) 0).toInt = vZ V i.toInt) ∧ (w.toInt = 2 → ((vp_updL ofn ((0 : Int32).toNatClampNeg) jx7) 0).toInt = vS V i.toInt) ∧ (w.toInt = 3 → ((vp_updL ofn ((0 : Int32).toNatClampNeg) jx7) 0).toInt = vT V) from (by have e9 : ∀ z : Int64, (vp_updL ofn ((0 : Int32).toNatClampNeg) z 0) = z := fun z => (by rw [show (0 : Int32).toNatClampNeg = 0 by decide, pk_uLs]); (try dsimp only); first | exact fun q9 => absurd q9 (by decide) | exact fun _ => (by rw [e9]; exact ⟨ba1, (by obtain ⟨c1, c2, c3, c4⟩ := ba2; refine ⟨fun q => ?_, fun q => ?_, fun q => ?_, fun q => ?_⟩ <;> omega)⟩)))⟩ [1, 2, 3, 4, 5, 6, 0] (by decide) rfl rfl (by decide) (by decide)

theorem d_Law_byteOf_0 : decode method_7_code 0 = .ok (.aload_n 3, 1) := by decide +kernel
theorem d_Law_byteOf_1 : decode method_7_code 1 = .ok (.iconst 0, 1) := by decide +kernel
theorem d_Law_byteOf_2 : decode method_7_code 2 = .ok (.aload_n 0, 1) := by decide +kernel
theorem d_Law_byteOf_3 : decode method_7_code 3 = .ok (.iload_n 1, 1) := by decide +kernel
theorem d_Law_byteOf_4 : decode method_7_code 4 = .ok (.iload_n 2, 1) := by decide +kernel
theorem d_Law_byteOf_5 : decode method_7_code 5 = .ok (.invokevirtual 30, 3) := by decide +kernel
theorem k_1075 : (Jvm.Cond.methodLink "PackageBookLaw" (30 : Nat) ({ cls := "PackageBook", name := "byteOf", desc := "(II)I" } : Jvm.MethodName)) ∈ uW := uW_of 1075 (by decide +kernel) (by decide +kernel)
theorem k_1078 : (Jvm.Cond.code ({ cls := "PackageBook", name := "byteOf", desc := "(II)I" } : Jvm.MethodName) prog_1_method_7_code (4 : Nat) (Option.some Jvm.ClassFile.FieldType.int)) ∈ uW := uW_of 1078 (by decide +kernel) (by decide +kernel)
theorem k_1076 : (Jvm.Cond.instanceMethod ({ cls := "PackageBook", name := "byteOf", desc := "(II)I" } : Jvm.MethodName)) ∈ uW := uW_of 1076 (by decide +kernel) (by decide +kernel)
theorem k_1077 : (Jvm.Cond.selects "PackageBook" ({ cls := "PackageBook", name := "byteOf", desc := "(II)I" } : Jvm.MethodName) ({ cls := "PackageBook", name := "byteOf", desc := "(II)I" } : Jvm.MethodName)) ∈ uW := uW_of 1077 (by decide +kernel) (by decide +kernel)
theorem hy_Book_byteOf : (y_Book_byteOf).cls ≠ "java/lang/invoke/MethodHandle" ∧ (y_Book_byteOf).cls ≠ "java/lang/invoke/VarHandle" ∧ (parseMethodDescriptor (y_Book_byteOf).desc).map (fun d => d.parameters.length) = some 2 := by decide +kernel
theorem d_Law_byteOf_13 : decode method_7_code 13 = .ok (.astore 4, 2) := by decide +kernel
theorem d_Law_byteOf_15 : decode method_7_code 15 = .ok (.iconst 1, 1) := by decide +kernel
theorem d_Law_byteOf_16 : decode method_7_code 16 = .ok (.ireturn, 1) := by decide +kernel
theorem d_Law_byteOf_8 : decode method_7_code 8 = .ok (.i2l, 1) := by decide +kernel
theorem d_Law_byteOf_9 : decode method_7_code 9 = .ok (.lastore, 1) := by decide +kernel
theorem d_Law_byteOf_10 : decode method_7_code 10 = .ok (.goto 7, 3) := by decide +kernel
theorem d_Law_byteOf_17 : decode method_7_code 17 = .ok (.iconst 0, 1) := by decide +kernel
theorem d_Law_byteOf_18 : decode method_7_code 18 = .ok (.ireturn, 1) := by decide +kernel
abbrev y_Law_byteOf : MethodName := ⟨"PackageBookLaw", "byteOf", "(LPackageBook;II[J)I"⟩
abbrev i_Law_byteOf : pb_I := (y_Law_byteOf, method_7_code, 5, (some Jvm.ClassFile.FieldType.int), [(0, 10, 13, 28)], { frames := 7, cells := 1, slots := 6, locals := 113 })
set_option maxRecDepth 100000 in
set_option maxHeartbeats 4000000 in
theorem g_Law_byteOf {l : Launch} (hl : l.stackTraces = false) (G : pb_G) (h : Nat) (ta : Nat) (ca : Nat) (ps : Nat) (xe : Nat) (mk : Nat) (rd : Nat) (mu : Nat) (fi : Nat) (go : Nat) (sp : Nat) (ss : Nat) (tn : Nat) (tz : Nat) (tb : Nat) (tg : Nat) (c : Int32) (tfn : Nat → Int32) (tfz : Nat → Int32) (tfb : Nat → Int32) (tfg : Nat → Int32) (i : Int32) (k : Int32) (V : VW_) (o : Nat) (ofn : Nat → Int64) (I : sh_I c.toInt tfz tfg) (R : rC_ c.toInt tfn tfz tfb tfg V) (F_tfn : sb_Fit tfn) (F_tfb : sb_Fit tfb) : Cn l G i_Law_byteOf [.ref h, .int i, .int k, .ref o] [(h, .inr (9, [.ref ta, .ref ca, .ref ps, .ref xe, .ref mk, .ref rd, .ref mu, .ref fi, .ref go, .ref sp, .ref ss])), (sp, .inr (3, [.ref tn, .ref tz, .ref tb, .ref tg, .int c])), (tn, .inl (G.2.1, 384, .inl tfn)), (tz, .inl (G.2.2.1, 16, .inl tfz)), (tb, .inl (G.2.1, 12000, .inl tfb)), (tg, .inl (G.2.2.1, 17, .inl tfg)), (o, .inl (G.2.2.2.1, 1, .inr (.inl ofn)))] (S := Int32 × (Nat → Int64)) (fun rv_ u => rv_ = some (.int u.1) ∧ (u.1.toInt = 0 ∨ u.1.toInt = 1) ∧ (u.1.toInt = 1 → ¬ (0 ≤ i.toInt ∧ i.toInt < vC V ∧ 0 ≤ k.toInt ∧ k.toInt < vZ V i.toInt + vS V i.toInt)) ∧ (u.1.toInt = 0 → (0 ≤ i.toInt ∧ i.toInt < vC V ∧ 0 ≤ k.toInt ∧ k.toInt < vZ V i.toInt + vS V i.toInt) ∧ (u.2 0).toInt = bo_ V i.toInt k.toInt)) (fun u => [(h, .inr (9, [.ref ta, .ref ca, .ref ps, .ref xe, .ref mk, .ref rd, .ref mu, .ref fi, .ref go, .ref sp, .ref ss])), (sp, .inr (3, [.ref tn, .ref tz, .ref tb, .ref tg, .int c])), (tn, .inl (G.2.1, 384, .inl tfn)), (tz, .inl (G.2.2.1, 16, .inl tfz)), (tb, .inl (G.2.1, 12000, .inl tfb)), (tg, .inl (G.2.2.1, 17, .inl tfg)), (o, .inl (G.2.2.2.1, 1, .inr (.inl u.2)))]) := by
  refine Cn.ofW hl (by decide +kernel) rfl (Nat.le_of_ble_eq_true rfl) (fun M hQ hT => ?_)
  refine pb_eq (pc' := 0) (lo' := [(0, .ref h), (1, .int i), (2, .int k), (3, .ref o)]) (rest' := []) (ws' := [(h, .inr (9, [.ref ta, .ref ca, .ref ps, .ref xe, .ref mk, .ref rd, .ref mu, .ref fi, .ref go, .ref sp, .ref ss])), (sp, .inr (3, [.ref tn, .ref tz, .ref tb, .ref tg, .int c])), (tn, .inl (G.2.1, 384, .inl tfn)), (tz, .inl (G.2.2.1, 16, .inl tfz)), (tb, .inl (G.2.1, 12000, .inl tfb)), (tg, .inl (G.2.2.1, 17, .inl tfg)), (o, .inl (G.2.2.2.1, 1, .inr (.inl ofn)))]) ?_
  have zl0 : (0 : Int32).toInt = 0 := by decide
  have zl1 : (1 : Int32).toInt = 1 := by decide
  refine pb_aload_n (pc := 0) d_Law_byteOf_0 3 rfl rfl ?_
  refine pb_iconst (pc := 1) (v := 0) d_Law_byteOf_1 (by decide) ?_
  refine pb_aload_n (pc := 2) d_Law_byteOf_2 0 rfl rfl ?_
  refine pb_iload_n (pc := 3) d_Law_byteOf_3 1 rfl rfl ?_
  refine pb_iload_n (pc := 4) d_Law_byteOf_4 2 rfl rfl ?_
  refine pb_callVX (pc := 5) (I := i_Law_byteOf) (qb := 0) (ci := 9) (nA := 2) (rest := [.int 0, .ref o]) (wr := [(o, .inl (G.2.2.2.1, 1, .inr (.inl ofn)))]) d_Law_byteOf_5 (g_Book_byteOf hl G h ta ca ps xe mk rd mu fi go sp ss tn tz tb tg c tfn tfz tfb tfg i k V (by first | assumption | decide | omega) (by first | (with_reducible assumption) | omega (splitDisjunctions := false) | assumption | omega | decide) F_tfn F_tfb) rfl rfl [0, 1, 2, 3, 4, 5] [6] (by decide) rfl rfl rfl (by decide) (by decide) k_1078 rfl k_118 k_1075 k_1076 k_1077 hy_Book_byteOf (by decide) rfl rfl (Nat.le_of_ble_eq_true rfl) (by decide) (fun E0 u9 hx9 => ?_) (fun v9 ux2 ch1 => ?_)
  · rcases hx9 with ⟨rfl, xf0⟩
    have fx3 : ¬ (0 ≤ i.toInt ∧ i.toInt < vC V ∧ 0 ≤ k.toInt ∧ k.toInt < vZ V i.toInt + vS V i.toInt) := xf0
    refine pb_catch (pc := 5) (name := "java/lang/IndexOutOfBoundsException") (x := ⟨0, 10, 13, 28⟩) (suf := []) hT (by decide) (by decide) k_1048 k_1057 (fun q9 => ?_)
    refine pb_eq (pc' := 13) (lo' := [(0, .ref h), (1, .int i), (2, .int k), (3, .ref o)]) (rest' := [.ref q9]) (ws' := [(o, .inl (G.2.2.2.1, 1, .inr (.inl ofn))), (h, .inr (9, [.ref ta, .ref ca, .ref ps, .ref xe, .ref mk, .ref rd, .ref mu, .ref fi, .ref go, .ref sp, .ref ss])), (sp, .inr (3, [.ref tn, .ref tz, .ref tb, .ref tg, .int c])), (tn, .inl (G.2.1, 384, .inl tfn)), (tz, .inl (G.2.2.1, 16, .inl tfz)), (tb, .inl (G.2.1, 12000, .inl tfb)), (tg, .inl (G.2.2.1, 17, .inl tfg))]) ?_
    refine pb_astore (pc := 13) (lo' := [(4, .ref q9), (0, .ref h), (1, .int i), (2, .int k), (3, .ref o)]) d_Law_byteOf_13 (by decide) rfl ?_
    refine pb_iconst (pc := 15) (v := 1) d_Law_byteOf_15 (by decide) ?_
    exact pb_iret (pc := 16) hQ d_Law_byteOf_16 rfl rfl (1, ofn) ⟨rfl, (by (try dsimp only); first | done | (with_reducible assumption) | omega (splitDisjunctions := false) | assumption | omega | decide), (show (1 : Int32).toInt = 1 → ¬ (0 ≤ i.toInt ∧ i.toInt < vC V ∧ 0 ≤ k.toInt ∧ k.toInt < vZ V i.toInt + vS V i.toInt) from (by (try dsimp only); first | exact fun q9 => absurd q9 (by decide) | exact fun _ => (by assumption))), (show (1 : Int32).toInt = 0 → (0 ≤ i.toInt ∧ i.toInt < vC V ∧ 0 ≤ k.toInt ∧ k.toInt < vZ V i.toInt + vS V i.toInt) ∧ (ofn 0).toInt = bo_ V i.toInt k.toInt from (by have e9 : ∀ z : Int64, (vp_updL ofn ((0 : Int32).toNatClampNeg) z 0) = z := fun z => (by rw [show (0 : Int32).toNatClampNeg = 0 by decide, pk_uLs]); (try dsimp only); first | exact fun q9 => absurd q9 (by decide) | exact fun _ => (by rw [e9]; exact ⟨ba1, by omega⟩)))⟩ [1, 2, 3, 4, 5, 6, 0] (by decide) rfl rfl (by decide) (by decide)
  · obtain ⟨r_4, rfl⟩ : ∃ z9, z9 = ux2 := ⟨_, rfl⟩
    obtain ⟨ech1, ch1⟩ := ch1
    have ech1 : v9 = some (.int r_4) := ech1
    subst ech1
    obtain ⟨fh5, fh6⟩ : (0 ≤ i.toInt ∧ i.toInt < vC V ∧ 0 ≤ k.toInt ∧ k.toInt < vZ V i.toInt + vS V i.toInt) ∧ (r_4.toInt = bo_ V i.toInt k.toInt) := ch1
    have ba1 := fh5
    have ba2 := fh6
    refine pb_eq (pc' := 8) (lo' := [(0, .ref h), (1, .int i), (2, .int k), (3, .ref o)]) (rest' := [.int r_4, .int 0, .ref o]) (ws' := [(o, .inl (G.2.2.2.1, 1, .inr (.inl ofn))), (h, .inr (9, [.ref ta, .ref ca, .ref ps, .ref xe, .ref mk, .ref rd, .ref mu, .ref fi, .ref go, .ref sp, .ref ss])), (sp, .inr (3, [.ref tn, .ref tz, .ref tb, .ref tg, .int c])), (tn, .inl (G.2.1, 384, .inl tfn)), (tz, .inl (G.2.2.1, 16, .inl tfz)), (tb, .inl (G.2.1, 12000, .inl tfb)), (tg, .inl (G.2.2.1, 17, .inl tfg))]) ?_
    refine pb_i2l (pc := 8) d_Law_byteOf_8 rfl ?_
    refine pb_topl (fun jx7 ejx7 => ?_)
    have tjx7 : jx7.toInt = r_4.toInt := tl_i2l ejx7 rfl
    refine pb_last (pc := 9) (ws' := [(o, .inl (G.2.2.2.1, 1, .inr (.inl (vp_updL ofn ((0 : Int32).toNatClampNeg) jx7)))), (h, .inr (9, [.ref ta, .ref ca, .ref ps, .ref xe, .ref mk, .ref rd, .ref mu, .ref fi, .ref go, .ref sp, .ref ss])), (sp, .inr (3, [.ref tn, .ref tz, .ref tb, .ref tg, .int c])), (tn, .inl (G.2.1, 384, .inl tfn)), (tz, .inl (G.2.2.1, 16, .inl tfz)), (tb, .inl (G.2.1, 12000, .inl tfb)), (tg, .inl (G.2.2.1, 17, .inl tfg))]) d_Law_byteOf_9 0 rfl (by unfold vp_in; decide) rfl ?_
    refine pb_goto (pc := 10) (tgt := 17) d_Law_byteOf_10 (by decide) ?_
    refine pb_iconst (pc := 17) (v := 0) d_Law_byteOf_17 (by decide) ?_
    exact pb_iret (pc := 18) hQ d_Law_byteOf_18 rfl rfl (0, (vp_updL ofn ((0 : Int32).toNatClampNeg) jx7)) ⟨rfl, (by (try dsimp only); first | done | (with_reducible assumption) | omega (splitDisjunctions := false) | assumption | omega | decide), (show (0 : Int32).toInt = 1 → ¬ (0 ≤ i.toInt ∧ i.toInt < vC V ∧ 0 ≤ k.toInt ∧ k.toInt < vZ V i.toInt + vS V i.toInt) from (by (try dsimp only); first | exact fun q9 => absurd q9 (by decide) | exact fun _ => (by assumption))), (show (0 : Int32).toInt = 0 → (0 ≤ i.toInt ∧ i.toInt < vC V ∧ 0 ≤ k.toInt ∧ k.toInt < vZ V i.toInt + vS V i.toInt) ∧ ((vp_updL ofn ((0 : Int32).toNatClampNeg) jx7) 0).toInt = bo_ V i.toInt k.toInt from (by have e9 : ∀ z : Int64, (vp_updL ofn ((0 : Int32).toNatClampNeg) z 0) = z := fun z => (by rw [show (0 : Int32).toNatClampNeg = 0 by decide, pk_uLs]); (try dsimp only); first | exact fun q9 => absurd q9 (by decide) | exact fun _ => (by rw [e9]; exact ⟨ba1, by omega⟩)))⟩ [1, 2, 3, 4, 5, 6, 0] (by decide) rfl rfl (by decide) (by decide)

theorem d_Law_file_0 : decode method_8_code 0 = .ok (.aload_n 2, 1) := by decide +kernel
theorem d_Law_file_1 : decode method_8_code 1 = .ok (.iconst 0, 1) := by decide +kernel
theorem d_Law_file_2 : decode method_8_code 2 = .ok (.aload_n 0, 1) := by decide +kernel
theorem d_Law_file_3 : decode method_8_code 3 = .ok (.iload_n 1, 1) := by decide +kernel
theorem d_Law_file_4 : decode method_8_code 4 = .ok (.invokevirtual 33, 3) := by decide +kernel
theorem k_1083 : (Jvm.Cond.methodLink "PackageBookLaw" (33 : Nat) ({ cls := "PackageBook", name := "file", desc := "(I)I" } : Jvm.MethodName)) ∈ uW := uW_of 1083 (by decide +kernel) (by decide +kernel)
theorem k_1086 : (Jvm.Cond.code ({ cls := "PackageBook", name := "file", desc := "(I)I" } : Jvm.MethodName) prog_1_method_9_code (2 : Nat) (Option.some Jvm.ClassFile.FieldType.int)) ∈ uW := uW_of 1086 (by decide +kernel) (by decide +kernel)
theorem k_1084 : (Jvm.Cond.instanceMethod ({ cls := "PackageBook", name := "file", desc := "(I)I" } : Jvm.MethodName)) ∈ uW := uW_of 1084 (by decide +kernel) (by decide +kernel)
theorem k_1085 : (Jvm.Cond.selects "PackageBook" ({ cls := "PackageBook", name := "file", desc := "(I)I" } : Jvm.MethodName) ({ cls := "PackageBook", name := "file", desc := "(I)I" } : Jvm.MethodName)) ∈ uW := uW_of 1085 (by decide +kernel) (by decide +kernel)
theorem hy_Book_file : (y_Book_file).cls ≠ "java/lang/invoke/MethodHandle" ∧ (y_Book_file).cls ≠ "java/lang/invoke/VarHandle" ∧ (parseMethodDescriptor (y_Book_file).desc).map (fun d => d.parameters.length) = some 1 := by decide +kernel
theorem d_Law_file_12 : decode method_8_code 12 = .ok (.astore_n 3, 1) := by decide +kernel
theorem d_Law_file_13 : decode method_8_code 13 = .ok (.iconst 1, 1) := by decide +kernel
theorem d_Law_file_14 : decode method_8_code 14 = .ok (.ireturn, 1) := by decide +kernel
theorem d_Law_file_7 : decode method_8_code 7 = .ok (.i2l, 1) := by decide +kernel
theorem d_Law_file_8 : decode method_8_code 8 = .ok (.lastore, 1) := by decide +kernel
theorem d_Law_file_9 : decode method_8_code 9 = .ok (.goto 6, 3) := by decide +kernel
theorem d_Law_file_15 : decode method_8_code 15 = .ok (.iconst 0, 1) := by decide +kernel
theorem d_Law_file_16 : decode method_8_code 16 = .ok (.ireturn, 1) := by decide +kernel
abbrev y_Law_file : MethodName := ⟨"PackageBookLaw", "file", "(LPackageBook;I[J)I"⟩
abbrev i_Law_file : pb_I := (y_Law_file, method_8_code, 4, (some Jvm.ClassFile.FieldType.int), [(0, 9, 12, 28)], { frames := 8, cells := 1, slots := 6, locals := 132 })
set_option maxRecDepth 100000 in
set_option maxHeartbeats 4000000 in
theorem g_Law_file {l : Launch} (hl : l.stackTraces = false) (G : pb_G) (h : Nat) (ta : Nat) (ca : Nat) (ps : Nat) (xe : Nat) (mk : Nat) (rd : Nat) (mu : Nat) (fi : Nat) (go : Nat) (sp : Nat) (ss : Nat) (mm : Nat) (mr : Nat) (mb : Nat) (mf : Nat → Int32) (ms : Int32) (i : Int32) (o : Nat) (ofn : Nat → Int64) (m1 : ms.toInt ≤ 14006) (F_mf : sb_Fit mf) : Cn l G i_Law_file [.ref h, .int i, .ref o] [(h, .inr (9, [.ref ta, .ref ca, .ref ps, .ref xe, .ref mk, .ref rd, .ref mu, .ref fi, .ref go, .ref sp, .ref ss])), (mk, .inr (6, [.ref mm, .ref mr])), (mm, .inr (0, [.ref mb, .int ms])), (mb, .inl (G.2.1, 14006, .inl mf)), (o, .inl (G.2.2.2.1, 1, .inr (.inl ofn)))] (S := Int32 × (Nat → Int64)) (fun rv_ u => rv_ = some (.int u.1) ∧ (u.1.toInt = 0 ∨ u.1.toInt = 1) ∧ (u.1.toInt = 0 → 0 ≤ i.toInt ∧ i.toInt < ms.toInt ∧ (u.2 0).toInt = (gr mf i.toInt &&& 255).toInt) ∧ (u.1.toInt = 1 → ¬ (0 ≤ i.toInt ∧ i.toInt < ms.toInt))) (fun u => [(h, .inr (9, [.ref ta, .ref ca, .ref ps, .ref xe, .ref mk, .ref rd, .ref mu, .ref fi, .ref go, .ref sp, .ref ss])), (mk, .inr (6, [.ref mm, .ref mr])), (mm, .inr (0, [.ref mb, .int ms])), (mb, .inl (G.2.1, 14006, .inl mf)), (o, .inl (G.2.2.2.1, 1, .inr (.inl u.2)))]) := by
  refine Cn.ofW hl (by decide +kernel) rfl (Nat.le_of_ble_eq_true rfl) (fun M hQ hT => ?_)
  refine pb_eq (pc' := 0) (lo' := [(0, .ref h), (1, .int i), (2, .ref o)]) (rest' := []) (ws' := [(h, .inr (9, [.ref ta, .ref ca, .ref ps, .ref xe, .ref mk, .ref rd, .ref mu, .ref fi, .ref go, .ref sp, .ref ss])), (mk, .inr (6, [.ref mm, .ref mr])), (mm, .inr (0, [.ref mb, .int ms])), (mb, .inl (G.2.1, 14006, .inl mf)), (o, .inl (G.2.2.2.1, 1, .inr (.inl ofn)))]) ?_
  have zl0 : (0 : Int32).toInt = 0 := by decide
  have zl1 : (1 : Int32).toInt = 1 := by decide
  refine pb_aload_n (pc := 0) d_Law_file_0 2 rfl rfl ?_
  refine pb_iconst (pc := 1) (v := 0) d_Law_file_1 (by decide) ?_
  refine pb_aload_n (pc := 2) d_Law_file_2 0 rfl rfl ?_
  refine pb_iload_n (pc := 3) d_Law_file_3 1 rfl rfl ?_
  refine pb_callVX (pc := 4) (I := i_Law_file) (qb := 0) (ci := 9) (nA := 1) (rest := [.int 0, .ref o]) (wr := [(o, .inl (G.2.2.2.1, 1, .inr (.inl ofn)))]) d_Law_file_4 (g_Book_file hl G h ta ca ps xe mk rd mu fi go sp ss mm mr mb mf ms i (by first | (with_reducible assumption) | omega (splitDisjunctions := false) | assumption | omega | decide) F_mf) rfl rfl [0, 1, 2, 3] [4] (by decide) rfl rfl rfl (by decide) (by decide) k_1086 rfl k_118 k_1083 k_1084 k_1085 hy_Book_file (by decide) rfl rfl (Nat.le_of_ble_eq_true rfl) (by decide) (fun E0 u9 hx9 => ?_) (fun v9 ux2 ch1 => ?_)
  · rcases hx9 with ⟨rfl, xf0⟩
    have fx3 : ¬ (0 ≤ i.toInt ∧ i.toInt < ms.toInt) := xf0
    refine pb_catch (pc := 4) (name := "java/lang/IndexOutOfBoundsException") (x := ⟨0, 9, 12, 28⟩) (suf := []) hT (by decide) (by decide) k_1048 k_1057 (fun q9 => ?_)
    refine pb_eq (pc' := 12) (lo' := [(0, .ref h), (1, .int i), (2, .ref o)]) (rest' := [.ref q9]) (ws' := [(o, .inl (G.2.2.2.1, 1, .inr (.inl ofn))), (h, .inr (9, [.ref ta, .ref ca, .ref ps, .ref xe, .ref mk, .ref rd, .ref mu, .ref fi, .ref go, .ref sp, .ref ss])), (mk, .inr (6, [.ref mm, .ref mr])), (mm, .inr (0, [.ref mb, .int ms])), (mb, .inl (G.2.1, 14006, .inl mf))]) ?_
    refine pb_astore_n (pc := 12) (lo' := [(3, .ref q9), (0, .ref h), (1, .int i), (2, .ref o)]) d_Law_file_12 rfl (by decide) rfl ?_
    refine pb_iconst (pc := 13) (v := 1) d_Law_file_13 (by decide) ?_
    exact pb_iret (pc := 14) hQ d_Law_file_14 rfl rfl (1, ofn) ⟨rfl, (by (try dsimp only); first | done | (with_reducible assumption) | omega (splitDisjunctions := false) | assumption | omega | decide), (show (1 : Int32).toInt = 0 → 0 ≤ i.toInt ∧ i.toInt < ms.toInt ∧ (ofn 0).toInt = (gr mf i.toInt &&& 255).toInt from (by have e9 : ∀ z : Int64, (vp_updL ofn ((0 : Int32).toNatClampNeg) z 0) = z := fun z => (by rw [show (0 : Int32).toNatClampNeg = 0 by decide, pk_uLs]); (try dsimp only); first | exact fun q9 => absurd q9 (by decide) | exact fun _ => (by rw [e9]; rw [← bo1]; exact ⟨bo0.1, bo0.2, by omega⟩))), (show (1 : Int32).toInt = 1 → ¬ (0 ≤ i.toInt ∧ i.toInt < ms.toInt) from (by (try dsimp only); first | exact fun q9 => absurd q9 (by decide) | exact fun _ => (by assumption)))⟩ [1, 2, 3, 4, 0] (by decide) rfl rfl (by decide) (by decide)
  · obtain ⟨r_4, rfl⟩ : ∃ z9, z9 = ux2 := ⟨_, rfl⟩
    obtain ⟨ech1, ch1⟩ := ch1
    have ech1 : v9 = some (.int r_4) := ech1
    subst ech1
    obtain ⟨fh5, fh6⟩ : (0 ≤ i.toInt ∧ i.toInt < ms.toInt) ∧ (r_4 = gr mf i.toInt &&& 255) := ch1
    have bo0 := fh5
    have bo1 := fh6
    refine pb_eq (pc' := 7) (lo' := [(0, .ref h), (1, .int i), (2, .ref o)]) (rest' := [.int r_4, .int 0, .ref o]) (ws' := [(o, .inl (G.2.2.2.1, 1, .inr (.inl ofn))), (h, .inr (9, [.ref ta, .ref ca, .ref ps, .ref xe, .ref mk, .ref rd, .ref mu, .ref fi, .ref go, .ref sp, .ref ss])), (mk, .inr (6, [.ref mm, .ref mr])), (mm, .inr (0, [.ref mb, .int ms])), (mb, .inl (G.2.1, 14006, .inl mf))]) ?_
    refine pb_i2l (pc := 7) d_Law_file_7 rfl ?_
    refine pb_topl (fun jx7 ejx7 => ?_)
    have tjx7 : jx7.toInt = r_4.toInt := tl_i2l ejx7 rfl
    refine pb_last (pc := 8) (ws' := [(o, .inl (G.2.2.2.1, 1, .inr (.inl (vp_updL ofn ((0 : Int32).toNatClampNeg) jx7)))), (h, .inr (9, [.ref ta, .ref ca, .ref ps, .ref xe, .ref mk, .ref rd, .ref mu, .ref fi, .ref go, .ref sp, .ref ss])), (mk, .inr (6, [.ref mm, .ref mr])), (mm, .inr (0, [.ref mb, .int ms])), (mb, .inl (G.2.1, 14006, .inl mf))]) d_Law_file_8 0 rfl (by unfold vp_in; decide) rfl ?_
    refine pb_goto (pc := 9) (tgt := 15) d_Law_file_9 (by decide) ?_
    refine pb_iconst (pc := 15) (v := 0) d_Law_file_15 (by decide) ?_
    exact pb_iret (pc := 16) hQ d_Law_file_16 rfl rfl (0, (vp_updL ofn ((0 : Int32).toNatClampNeg) jx7)) ⟨rfl, (by (try dsimp only); first | done | (with_reducible assumption) | omega (splitDisjunctions := false) | assumption | omega | decide), (show (0 : Int32).toInt = 0 → 0 ≤ i.toInt ∧ i.toInt < ms.toInt ∧ ((vp_updL ofn ((0 : Int32).toNatClampNeg) jx7) 0).toInt = (gr mf i.toInt &&& 255).toInt from (by have e9 : ∀ z : Int64, (vp_updL ofn ((0 : Int32).toNatClampNeg) z 0) = z := fun z => (by rw [show (0 : Int32).toNatClampNeg = 0 by decide, pk_uLs]); (try dsimp only); first | exact fun q9 => absurd q9 (by decide) | exact fun _ => (by rw [e9]; rw [← bo1]; exact ⟨bo0.1, bo0.2, by omega⟩))), (show (0 : Int32).toInt = 1 → ¬ (0 ≤ i.toInt ∧ i.toInt < ms.toInt) from (by (try dsimp only); first | exact fun q9 => absurd q9 (by decide) | exact fun _ => (by assumption)))⟩ [1, 2, 3, 4, 0] (by decide) rfl rfl (by decide) (by decide)

theorem d_Law_fault_0 : decode method_12_code 0 = .ok (.aload_n 3, 1) := by decide +kernel
theorem d_Law_fault_1 : decode method_12_code 1 = .ok (.iconst 0, 1) := by decide +kernel
theorem d_Law_fault_2 : decode method_12_code 2 = .ok (.aload_n 0, 1) := by decide +kernel
theorem d_Law_fault_3 : decode method_12_code 3 = .ok (.iload_n 1, 1) := by decide +kernel
theorem d_Law_fault_4 : decode method_12_code 4 = .ok (.iload_n 2, 1) := by decide +kernel
theorem d_Law_fault_5 : decode method_12_code 5 = .ok (.invokevirtual 46, 3) := by decide +kernel
theorem k_1118 : (Jvm.Cond.methodLink "PackageBookLaw" (46 : Nat) ({ cls := "PackageBook", name := "fault", desc := "(II)I" } : Jvm.MethodName)) ∈ uW := uW_of 1118 (by decide +kernel) (by decide +kernel)
theorem k_1121 : (Jvm.Cond.code ({ cls := "PackageBook", name := "fault", desc := "(II)I" } : Jvm.MethodName) prog_1_method_17_code (3 : Nat) (Option.some Jvm.ClassFile.FieldType.int)) ∈ uW := uW_of 1121 (by decide +kernel) (by decide +kernel)
theorem k_1119 : (Jvm.Cond.instanceMethod ({ cls := "PackageBook", name := "fault", desc := "(II)I" } : Jvm.MethodName)) ∈ uW := uW_of 1119 (by decide +kernel) (by decide +kernel)
theorem k_1120 : (Jvm.Cond.selects "PackageBook" ({ cls := "PackageBook", name := "fault", desc := "(II)I" } : Jvm.MethodName) ({ cls := "PackageBook", name := "fault", desc := "(II)I" } : Jvm.MethodName)) ∈ uW := uW_of 1120 (by decide +kernel) (by decide +kernel)
theorem hy_Book_fault : (y_Book_fault).cls ≠ "java/lang/invoke/MethodHandle" ∧ (y_Book_fault).cls ≠ "java/lang/invoke/VarHandle" ∧ (parseMethodDescriptor (y_Book_fault).desc).map (fun d => d.parameters.length) = some 2 := by decide +kernel
theorem d_Law_fault_13 : decode method_12_code 13 = .ok (.astore 4, 2) := by decide +kernel
theorem d_Law_fault_15 : decode method_12_code 15 = .ok (.iconst 1, 1) := by decide +kernel
theorem d_Law_fault_16 : decode method_12_code 16 = .ok (.ireturn, 1) := by decide +kernel
theorem d_Law_fault_8 : decode method_12_code 8 = .ok (.i2l, 1) := by decide +kernel
theorem d_Law_fault_9 : decode method_12_code 9 = .ok (.lastore, 1) := by decide +kernel
theorem d_Law_fault_10 : decode method_12_code 10 = .ok (.goto 7, 3) := by decide +kernel
theorem d_Law_fault_17 : decode method_12_code 17 = .ok (.iconst 0, 1) := by decide +kernel
theorem d_Law_fault_18 : decode method_12_code 18 = .ok (.ireturn, 1) := by decide +kernel
abbrev y_Law_fault : MethodName := ⟨"PackageBookLaw", "fault", "(LPackageBook;II[J)I"⟩
abbrev i_Law_fault : pb_I := (y_Law_fault, method_12_code, 5, (some Jvm.ClassFile.FieldType.int), [(0, 10, 13, 28)], { frames := 7, cells := 1, slots := 6, locals := 112 })
set_option maxRecDepth 100000 in
set_option maxHeartbeats 4000000 in
theorem g_Law_fault {l : Launch} (hl : l.stackTraces = false) (G : pb_G) (h : Nat) (ta : Nat) (ca : Nat) (ps : Nat) (xe : Nat) (mk : Nat) (rd : Nat) (mu : Nat) (fi : Nat) (go : Nat) (sp : Nat) (ss : Nat) (fk : Nat) (fo : Nat) (fp : Nat) (fn : Int32) (ff1 : Nat → Int32) (ff2 : Nat → Int32) (ff3 : Nat → Int32) (k : Int32) (w : Int32) (o : Nat) (ofn : Nat → Int64) (n0 : 0 ≤ fn.toInt) (n1 : fn.toInt ≤ 1232) : Cn l G i_Law_fault [.ref h, .int k, .int w, .ref o] [(h, .inr (9, [.ref ta, .ref ca, .ref ps, .ref xe, .ref mk, .ref rd, .ref mu, .ref fi, .ref go, .ref sp, .ref ss])), (fi, .inr (2, [.ref fk, .ref fo, .ref fp, .int fn])), (fk, .inl (G.2.2.1, 1232, .inl ff1)), (fo, .inl (G.2.2.1, 1232, .inl ff2)), (fp, .inl (G.2.2.1, 1232, .inl ff3)), (o, .inl (G.2.2.2.1, 1, .inr (.inl ofn)))] (S := Int32 × (Nat → Int64)) (fun rv_ u => rv_ = some (.int u.1)) (fun u => [(h, .inr (9, [.ref ta, .ref ca, .ref ps, .ref xe, .ref mk, .ref rd, .ref mu, .ref fi, .ref go, .ref sp, .ref ss])), (fi, .inr (2, [.ref fk, .ref fo, .ref fp, .int fn])), (fk, .inl (G.2.2.1, 1232, .inl ff1)), (fo, .inl (G.2.2.1, 1232, .inl ff2)), (fp, .inl (G.2.2.1, 1232, .inl ff3)), (o, .inl (G.2.2.2.1, 1, .inr (.inl u.2)))]) := by
  refine Cn.ofW hl (by decide +kernel) rfl (Nat.le_of_ble_eq_true rfl) (fun M hQ hT => ?_)
  refine pb_eq (pc' := 0) (lo' := [(0, .ref h), (1, .int k), (2, .int w), (3, .ref o)]) (rest' := []) (ws' := [(h, .inr (9, [.ref ta, .ref ca, .ref ps, .ref xe, .ref mk, .ref rd, .ref mu, .ref fi, .ref go, .ref sp, .ref ss])), (fi, .inr (2, [.ref fk, .ref fo, .ref fp, .int fn])), (fk, .inl (G.2.2.1, 1232, .inl ff1)), (fo, .inl (G.2.2.1, 1232, .inl ff2)), (fp, .inl (G.2.2.1, 1232, .inl ff3)), (o, .inl (G.2.2.2.1, 1, .inr (.inl ofn)))]) ?_
  have zl0 : (0 : Int32).toInt = 0 := by decide
  have zl1 : (1 : Int32).toInt = 1 := by decide
  refine pb_aload_n (pc := 0) d_Law_fault_0 3 rfl rfl ?_
  refine pb_iconst (pc := 1) (v := 0) d_Law_fault_1 (by decide) ?_
  refine pb_aload_n (pc := 2) d_Law_fault_2 0 rfl rfl ?_
  refine pb_iload_n (pc := 3) d_Law_fault_3 1 rfl rfl ?_
  refine pb_iload_n (pc := 4) d_Law_fault_4 2 rfl rfl ?_
  refine pb_callVX (pc := 5) (I := i_Law_fault) (qb := 0) (ci := 9) (nA := 2) (rest := [.int 0, .ref o]) (wr := [(o, .inl (G.2.2.2.1, 1, .inr (.inl ofn)))]) d_Law_fault_5 (g_Book_fault hl G h ta ca ps xe mk rd mu fi go sp ss fk fo fp fn ff1 ff2 ff3 k w (by first | (with_reducible assumption) | omega (splitDisjunctions := false) | assumption | omega | decide) (by first | (with_reducible assumption) | omega (splitDisjunctions := false) | assumption | omega | decide)) rfl rfl [0, 1, 2, 3, 4] [5] (by decide) rfl rfl rfl (by decide) (by decide) k_1121 rfl k_118 k_1118 k_1119 k_1120 hy_Book_fault (by decide) rfl rfl (Nat.le_of_ble_eq_true rfl) (by decide) (fun E0 u9 hx9 => ?_) (fun v9 ux2 ch1 => ?_)
  · rcases hx9 with rfl
    refine pb_catch (pc := 5) (name := "java/lang/IndexOutOfBoundsException") (x := ⟨0, 10, 13, 28⟩) (suf := []) hT (by decide) (by decide) k_1048 k_1057 (fun q9 => ?_)
    refine pb_eq (pc' := 13) (lo' := [(0, .ref h), (1, .int k), (2, .int w), (3, .ref o)]) (rest' := [.ref q9]) (ws' := [(o, .inl (G.2.2.2.1, 1, .inr (.inl ofn))), (h, .inr (9, [.ref ta, .ref ca, .ref ps, .ref xe, .ref mk, .ref rd, .ref mu, .ref fi, .ref go, .ref sp, .ref ss])), (fi, .inr (2, [.ref fk, .ref fo, .ref fp, .int fn])), (fk, .inl (G.2.2.1, 1232, .inl ff1)), (fo, .inl (G.2.2.1, 1232, .inl ff2)), (fp, .inl (G.2.2.1, 1232, .inl ff3))]) ?_
    refine pb_astore (pc := 13) (lo' := [(4, .ref q9), (0, .ref h), (1, .int k), (2, .int w), (3, .ref o)]) d_Law_fault_13 (by decide) rfl ?_
    refine pb_iconst (pc := 15) (v := 1) d_Law_fault_15 (by decide) ?_
    exact pb_iret (pc := 16) hQ d_Law_fault_16 rfl rfl (1, ofn) rfl [1, 2, 3, 4, 5, 0] (by decide) rfl rfl (by decide) (by decide)
  · obtain ⟨r_3, rfl⟩ : ∃ z9, z9 = ux2 := ⟨_, rfl⟩
    have ech1 := ch1
    have ech1 : v9 = some (.int r_3) := ech1
    subst ech1
    refine pb_eq (pc' := 8) (lo' := [(0, .ref h), (1, .int k), (2, .int w), (3, .ref o)]) (rest' := [.int r_3, .int 0, .ref o]) (ws' := [(o, .inl (G.2.2.2.1, 1, .inr (.inl ofn))), (h, .inr (9, [.ref ta, .ref ca, .ref ps, .ref xe, .ref mk, .ref rd, .ref mu, .ref fi, .ref go, .ref sp, .ref ss])), (fi, .inr (2, [.ref fk, .ref fo, .ref fp, .int fn])), (fk, .inl (G.2.2.1, 1232, .inl ff1)), (fo, .inl (G.2.2.1, 1232, .inl ff2)), (fp, .inl (G.2.2.1, 1232, .inl ff3))]) ?_
    refine pb_i2l (pc := 8) d_Law_fault_8 rfl ?_
    refine pb_topl (fun jx4 ejx4 => ?_)
    have tjx4 : jx4.toInt = r_3.toInt := tl_i2l ejx4 rfl
    refine pb_last (pc := 9) (ws' := [(o, .inl (G.2.2.2.1, 1, .inr (.inl (vp_updL ofn ((0 : Int32).toNatClampNeg) jx4)))), (h, .inr (9, [.ref ta, .ref ca, .ref ps, .ref xe, .ref mk, .ref rd, .ref mu, .ref fi, .ref go, .ref sp, .ref ss])), (fi, .inr (2, [.ref fk, .ref fo, .ref fp, .int fn])), (fk, .inl (G.2.2.1, 1232, .inl ff1)), (fo, .inl (G.2.2.1, 1232, .inl ff2)), (fp, .inl (G.2.2.1, 1232, .inl ff3))]) d_Law_fault_9 0 rfl (by unfold vp_in; decide) rfl ?_
    refine pb_goto (pc := 10) (tgt := 17) d_Law_fault_10 (by decide) ?_
    refine pb_iconst (pc := 17) (v := 0) d_Law_fault_17 (by decide) ?_
    exact pb_iret (pc := 18) hQ d_Law_fault_18 rfl rfl (0, (vp_updL ofn ((0 : Int32).toNatClampNeg) jx4)) rfl [1, 2, 3, 4, 5, 0] (by decide) rfl rfl (by decide) (by decide)

theorem d_Law_out_0 : decode method_11_code 0 = .ok (.aload_n 2, 1) := by decide +kernel
theorem d_Law_out_1 : decode method_11_code 1 = .ok (.iconst 0, 1) := by decide +kernel
theorem d_Law_out_2 : decode method_11_code 2 = .ok (.aload_n 0, 1) := by decide +kernel
theorem d_Law_out_3 : decode method_11_code 3 = .ok (.iload_n 1, 1) := by decide +kernel
theorem d_Law_out_4 : decode method_11_code 4 = .ok (.invokevirtual 43, 3) := by decide +kernel
theorem k_1111 : (Jvm.Cond.methodLink "PackageBookLaw" (43 : Nat) ({ cls := "PackageBook", name := "out", desc := "(I)I" } : Jvm.MethodName)) ∈ uW := uW_of 1111 (by decide +kernel) (by decide +kernel)
theorem k_1114 : (Jvm.Cond.code ({ cls := "PackageBook", name := "out", desc := "(I)I" } : Jvm.MethodName) prog_1_method_15_code (2 : Nat) (Option.some Jvm.ClassFile.FieldType.int)) ∈ uW := uW_of 1114 (by decide +kernel) (by decide +kernel)
theorem k_1112 : (Jvm.Cond.instanceMethod ({ cls := "PackageBook", name := "out", desc := "(I)I" } : Jvm.MethodName)) ∈ uW := uW_of 1112 (by decide +kernel) (by decide +kernel)
theorem k_1113 : (Jvm.Cond.selects "PackageBook" ({ cls := "PackageBook", name := "out", desc := "(I)I" } : Jvm.MethodName) ({ cls := "PackageBook", name := "out", desc := "(I)I" } : Jvm.MethodName)) ∈ uW := uW_of 1113 (by decide +kernel) (by decide +kernel)
theorem hy_Book_out : (y_Book_out).cls ≠ "java/lang/invoke/MethodHandle" ∧ (y_Book_out).cls ≠ "java/lang/invoke/VarHandle" ∧ (parseMethodDescriptor (y_Book_out).desc).map (fun d => d.parameters.length) = some 1 := by decide +kernel
theorem d_Law_out_12 : decode method_11_code 12 = .ok (.astore_n 3, 1) := by decide +kernel
theorem d_Law_out_13 : decode method_11_code 13 = .ok (.iconst 1, 1) := by decide +kernel
theorem d_Law_out_14 : decode method_11_code 14 = .ok (.ireturn, 1) := by decide +kernel
theorem d_Law_out_7 : decode method_11_code 7 = .ok (.i2l, 1) := by decide +kernel
theorem d_Law_out_8 : decode method_11_code 8 = .ok (.lastore, 1) := by decide +kernel
theorem d_Law_out_9 : decode method_11_code 9 = .ok (.goto 6, 3) := by decide +kernel
theorem d_Law_out_15 : decode method_11_code 15 = .ok (.iconst 0, 1) := by decide +kernel
theorem d_Law_out_16 : decode method_11_code 16 = .ok (.ireturn, 1) := by decide +kernel
abbrev y_Law_out : MethodName := ⟨"PackageBookLaw", "out", "(LPackageBook;I[J)I"⟩
abbrev i_Law_out : pb_I := (y_Law_out, method_11_code, 4, (some Jvm.ClassFile.FieldType.int), [(0, 9, 12, 28)], { frames := 8, cells := 1, slots := 6, locals := 132 })
set_option maxRecDepth 100000 in
set_option maxHeartbeats 4000000 in
theorem g_Law_out {l : Launch} (hl : l.stackTraces = false) (G : pb_G) (h : Nat) (ta : Nat) (ca : Nat) (ps : Nat) (xe : Nat) (mk : Nat) (rd : Nat) (mu : Nat) (fi : Nat) (go : Nat) (sp : Nat) (ss : Nat) (cab : Nat) (caf : Nat → Int32) (cas : Int32) (i : Int32) (o : Nat) (ofn : Nat → Int64) (m1 : cas.toInt ≤ 4502) (F_caf : sb_Fit caf) : Cn l G i_Law_out [.ref h, .int i, .ref o] [(h, .inr (9, [.ref ta, .ref ca, .ref ps, .ref xe, .ref mk, .ref rd, .ref mu, .ref fi, .ref go, .ref sp, .ref ss])), (ca, .inr (0, [.ref cab, .int cas])), (cab, .inl (G.2.1, 4502, .inl caf)), (o, .inl (G.2.2.2.1, 1, .inr (.inl ofn)))] (S := Int32 × (Nat → Int64)) (fun rv_ u => rv_ = some (.int u.1) ∧ (u.1.toInt = 0 ∨ u.1.toInt = 1) ∧ (u.1.toInt = 0 → 0 ≤ i.toInt ∧ i.toInt < cas.toInt ∧ (u.2 0).toInt = (gr caf i.toInt &&& 255).toInt) ∧ (u.1.toInt = 1 → ¬ (0 ≤ i.toInt ∧ i.toInt < cas.toInt))) (fun u => [(h, .inr (9, [.ref ta, .ref ca, .ref ps, .ref xe, .ref mk, .ref rd, .ref mu, .ref fi, .ref go, .ref sp, .ref ss])), (ca, .inr (0, [.ref cab, .int cas])), (cab, .inl (G.2.1, 4502, .inl caf)), (o, .inl (G.2.2.2.1, 1, .inr (.inl u.2)))]) := by
  refine Cn.ofW hl (by decide +kernel) rfl (Nat.le_of_ble_eq_true rfl) (fun M hQ hT => ?_)
  refine pb_eq (pc' := 0) (lo' := [(0, .ref h), (1, .int i), (2, .ref o)]) (rest' := []) (ws' := [(h, .inr (9, [.ref ta, .ref ca, .ref ps, .ref xe, .ref mk, .ref rd, .ref mu, .ref fi, .ref go, .ref sp, .ref ss])), (ca, .inr (0, [.ref cab, .int cas])), (cab, .inl (G.2.1, 4502, .inl caf)), (o, .inl (G.2.2.2.1, 1, .inr (.inl ofn)))]) ?_
  have zl0 : (0 : Int32).toInt = 0 := by decide
  have zl1 : (1 : Int32).toInt = 1 := by decide
  refine pb_aload_n (pc := 0) d_Law_out_0 2 rfl rfl ?_
  refine pb_iconst (pc := 1) (v := 0) d_Law_out_1 (by decide) ?_
  refine pb_aload_n (pc := 2) d_Law_out_2 0 rfl rfl ?_
  refine pb_iload_n (pc := 3) d_Law_out_3 1 rfl rfl ?_
  refine pb_callVX (pc := 4) (I := i_Law_out) (qb := 0) (ci := 9) (nA := 1) (rest := [.int 0, .ref o]) (wr := [(o, .inl (G.2.2.2.1, 1, .inr (.inl ofn)))]) d_Law_out_4 (g_Book_out hl G h ta ca ps xe mk rd mu fi go sp ss cab caf cas i (by first | (with_reducible assumption) | omega (splitDisjunctions := false) | assumption | omega | decide) F_caf) rfl rfl [0, 1, 2] [3] (by decide) rfl rfl rfl (by decide) (by decide) k_1114 rfl k_118 k_1111 k_1112 k_1113 hy_Book_out (by decide) rfl rfl (Nat.le_of_ble_eq_true rfl) (by decide) (fun E0 u9 hx9 => ?_) (fun v9 ux2 ch1 => ?_)
  · rcases hx9 with ⟨rfl, xf0⟩
    have fx3 : ¬ (0 ≤ i.toInt ∧ i.toInt < cas.toInt) := xf0
    refine pb_catch (pc := 4) (name := "java/lang/IndexOutOfBoundsException") (x := ⟨0, 9, 12, 28⟩) (suf := []) hT (by decide) (by decide) k_1048 k_1057 (fun q9 => ?_)
    refine pb_eq (pc' := 12) (lo' := [(0, .ref h), (1, .int i), (2, .ref o)]) (rest' := [.ref q9]) (ws' := [(o, .inl (G.2.2.2.1, 1, .inr (.inl ofn))), (h, .inr (9, [.ref ta, .ref ca, .ref ps, .ref xe, .ref mk, .ref rd, .ref mu, .ref fi, .ref go, .ref sp, .ref ss])), (ca, .inr (0, [.ref cab, .int cas])), (cab, .inl (G.2.1, 4502, .inl caf))]) ?_
    refine pb_astore_n (pc := 12) (lo' := [(3, .ref q9), (0, .ref h), (1, .int i), (2, .ref o)]) d_Law_out_12 rfl (by decide) rfl ?_
    refine pb_iconst (pc := 13) (v := 1) d_Law_out_13 (by decide) ?_
    exact pb_iret (pc := 14) hQ d_Law_out_14 rfl rfl (1, ofn) ⟨rfl, (by (try dsimp only); first | done | (with_reducible assumption) | omega (splitDisjunctions := false) | assumption | omega | decide), (show (1 : Int32).toInt = 0 → 0 ≤ i.toInt ∧ i.toInt < cas.toInt ∧ (ofn 0).toInt = (gr caf i.toInt &&& 255).toInt from (by (try dsimp only); exact fun h9 => by first | exact absurd h9 (by omega) | exact ⟨bo0.1, bo0.2, by show (vp_updL ofn ((0 : Int32).toNatClampNeg) _ 0).toInt = _; rw [show (0 : Int32).toNatClampNeg = 0 by decide, pk_uLs, ← bo1]; omega⟩)), (by (try dsimp only); first | done | (with_reducible assumption) | omega (splitDisjunctions := false) | assumption | omega | decide)⟩ [1, 2, 3, 0] (by decide) rfl rfl (by decide) (by decide)
  · obtain ⟨r_4, rfl⟩ : ∃ z9, z9 = ux2 := ⟨_, rfl⟩
    obtain ⟨ech1, ch1⟩ := ch1
    have ech1 : v9 = some (.int r_4) := ech1
    subst ech1
    obtain ⟨fh5, fh6⟩ : (0 ≤ i.toInt ∧ i.toInt < cas.toInt) ∧ (r_4 = gr caf i.toInt &&& 255) := ch1
    have bo0 := fh5
    have bo1 := fh6
    refine pb_eq (pc' := 7) (lo' := [(0, .ref h), (1, .int i), (2, .ref o)]) (rest' := [.int r_4, .int 0, .ref o]) (ws' := [(o, .inl (G.2.2.2.1, 1, .inr (.inl ofn))), (h, .inr (9, [.ref ta, .ref ca, .ref ps, .ref xe, .ref mk, .ref rd, .ref mu, .ref fi, .ref go, .ref sp, .ref ss])), (ca, .inr (0, [.ref cab, .int cas])), (cab, .inl (G.2.1, 4502, .inl caf))]) ?_
    refine pb_i2l (pc := 7) d_Law_out_7 rfl ?_
    refine pb_topl (fun jx7 ejx7 => ?_)
    have tjx7 : jx7.toInt = r_4.toInt := tl_i2l ejx7 rfl
    refine pb_last (pc := 8) (ws' := [(o, .inl (G.2.2.2.1, 1, .inr (.inl (vp_updL ofn ((0 : Int32).toNatClampNeg) jx7)))), (h, .inr (9, [.ref ta, .ref ca, .ref ps, .ref xe, .ref mk, .ref rd, .ref mu, .ref fi, .ref go, .ref sp, .ref ss])), (ca, .inr (0, [.ref cab, .int cas])), (cab, .inl (G.2.1, 4502, .inl caf))]) d_Law_out_8 0 rfl (by unfold vp_in; decide) rfl ?_
    refine pb_goto (pc := 9) (tgt := 15) d_Law_out_9 (by decide) ?_
    refine pb_iconst (pc := 15) (v := 0) d_Law_out_15 (by decide) ?_
    exact pb_iret (pc := 16) hQ d_Law_out_16 rfl rfl (0, (vp_updL ofn ((0 : Int32).toNatClampNeg) jx7)) ⟨rfl, (by (try dsimp only); first | done | (with_reducible assumption) | omega (splitDisjunctions := false) | assumption | omega | decide), (show (0 : Int32).toInt = 0 → 0 ≤ i.toInt ∧ i.toInt < cas.toInt ∧ ((vp_updL ofn ((0 : Int32).toNatClampNeg) jx7) 0).toInt = (gr caf i.toInt &&& 255).toInt from (by (try dsimp only); exact fun h9 => by first | exact absurd h9 (by omega) | exact ⟨bo0.1, bo0.2, by show (vp_updL ofn ((0 : Int32).toNatClampNeg) _ 0).toInt = _; rw [show (0 : Int32).toNatClampNeg = 0 by decide, pk_uLs, ← bo1]; omega⟩)), (by (try dsimp only); first | done | (with_reducible assumption) | omega (splitDisjunctions := false) | assumption | omega | decide)⟩ [1, 2, 3, 0] (by decide) rfl rfl (by decide) (by decide)
