theorem d_Book_takeTape_0 : decode prog_1_method_20_code 0 = .ok (.aload_n 0, 1) := by decide +kernel
theorem d_Book_takeTape_1 : decode prog_1_method_20_code 1 = .ok (.getfield 14, 3) := by decide +kernel
theorem d_Book_takeTape_4 : decode prog_1_method_20_code 4 = .ok (.getfield 84, 3) := by decide +kernel
theorem k_165 : (Jvm.Cond.fieldLinkNest "PackageBook" (84 : Nat) "PackageBook$Row" "size" "I" "PackageBook") ∈ uN := uN_of 165 (by decide +kernel) (by decide +kernel)
theorem d_Book_takeTape_7 : decode prog_1_method_20_code 7 = .ok (.istore_n 1, 1) := by decide +kernel
theorem d_Book_takeTape_8 : decode prog_1_method_20_code 8 = .ok (.aload_n 0, 1) := by decide +kernel
theorem d_Book_takeTape_9 : decode prog_1_method_20_code 9 = .ok (.getfield 14, 3) := by decide +kernel
theorem d_Book_takeTape_12 : decode prog_1_method_20_code 12 = .ok (.iconst 0, 1) := by decide +kernel
theorem d_Book_takeTape_13 : decode prog_1_method_20_code 13 = .ok (.putfield 84, 3) := by decide +kernel
theorem d_Book_takeTape_16 : decode prog_1_method_20_code 16 = .ok (.iload_n 1, 1) := by decide +kernel
theorem d_Book_takeTape_17 : decode prog_1_method_20_code 17 = .ok (.ireturn, 1) := by decide +kernel
abbrev y_Book_takeTape : MethodName := ⟨"PackageBook", "takeTape", "()I"⟩
abbrev i_Book_takeTape : pb_I := (y_Book_takeTape, prog_1_method_20_code, 2, (some Jvm.ClassFile.FieldType.int), [], { frames := 0, cells := 0, slots := 0, locals := 0 })
set_option maxRecDepth 100000 in
set_option maxHeartbeats 4000000 in
theorem g_Book_takeTape {l : Launch} (hl : l.stackTraces = false) (G : pb_G) (h : Nat) (ta : Nat) (ca : Nat) (ps : Nat) (xe : Nat) (mk : Nat) (rd : Nat) (mu : Nat) (fi : Nat) (go : Nat) (sp : Nat) (ss : Nat) (tab : Nat) (tas : Int32) : Cn l G i_Book_takeTape [.ref h] [(h, .inr (9, [.ref ta, .ref ca, .ref ps, .ref xe, .ref mk, .ref rd, .ref mu, .ref fi, .ref go, .ref sp, .ref ss])), (ta, .inr (0, [.ref tab, .int tas]))] (S := Unit) (fun rv_ u => rv_ = some (.int tas)) (fun u => [(h, .inr (9, [.ref ta, .ref ca, .ref ps, .ref xe, .ref mk, .ref rd, .ref mu, .ref fi, .ref go, .ref sp, .ref ss])), (ta, .inr (0, [.ref tab, .int 0]))]) := by
  refine Cn.of hl (by decide +kernel) rfl (Nat.le_of_ble_eq_true rfl) (fun M hQ => ?_)
  refine pb_eq (pc' := 0) (lo' := [(0, .ref h)]) (rest' := []) (ws' := [(h, .inr (9, [.ref ta, .ref ca, .ref ps, .ref xe, .ref mk, .ref rd, .ref mu, .ref fi, .ref go, .ref sp, .ref ss])), (ta, .inr (0, [.ref tab, .int tas]))]) ?_
  have zl0 : (0 : Int32).toInt = 0 := by decide
  have zl1 : (1 : Int32).toInt = 1 := by decide
  refine pb_aload_n (pc := 0) d_Book_takeTape_0 0 rfl rfl ?_
  refine pb_get (pc := 1) d_Book_takeTape_1 0 0 rfl rfl (by decide) in_Book k_417 rfl ?_
  refine pb_getN (pc := 4) d_Book_takeTape_4 1 1 rfl rfl (by decide) in_Row k_165 rfl ?_
  refine pb_istore_n (pc := 7) (lo' := [(1, .int tas), (0, .ref h)]) d_Book_takeTape_7 rfl (by decide) rfl ?_
  refine pb_aload_n (pc := 8) d_Book_takeTape_8 1 rfl rfl ?_
  refine pb_get (pc := 9) d_Book_takeTape_9 0 0 rfl rfl (by decide) in_Book k_417 rfl ?_
  refine pb_iconst (pc := 12) (v := 0) d_Book_takeTape_12 (by decide) ?_
  refine pb_putN (pc := 13) (ty := .int) (ws' := [(h, .inr (9, [.ref ta, .ref ca, .ref ps, .ref xe, .ref mk, .ref rd, .ref mu, .ref fi, .ref go, .ref sp, .ref ss])), (ta, .inr (0, [.ref tab, .int 0]))]) d_Book_takeTape_13 1 1 t_Row t_Row_ok n_Row rfl rfl (by decide) in_Row k_165 rfl (by decide +kernel) rfl rfl (Nat.le_of_ble_eq_true rfl) rfl ?_
  refine pb_iload_n (pc := 16) d_Book_takeTape_16 0 rfl rfl ?_
  exact pb_iret (pc := 17) hQ d_Book_takeTape_17 rfl rfl () rfl [0, 1] (by decide) rfl rfl (by decide) (by decide)

theorem d_Book_type_0 : decode prog_1_method_2_code 0 = .ok (.iload_n 3, 1) := by decide +kernel
theorem d_Book_type_1 : decode prog_1_method_2_code 1 = .ok (.iconst 1, 1) := by decide +kernel
theorem d_Book_type_2 : decode prog_1_method_2_code 2 = .ok (.if_icmp .lt 9, 3) := by decide +kernel
theorem d_Book_type_11 : decode prog_1_method_2_code 11 = .ok (.new 77, 3) := by decide +kernel
theorem tx_Book_77_81 : px_in (.classLink "PackageBook" 77 "java/lang/IllegalArgumentException" :: .initialized "java/lang/IllegalArgumentException" :: Bundle.ownAtoms "PackageBook" 81 "java/lang/IllegalArgumentException" ["java/lang/RuntimeException", "java/lang/Exception"]) = true := px_own px_base0 (by decide +kernel)
theorem d_Book_type_14 : decode prog_1_method_2_code 14 = .ok (.dup, 1) := by decide +kernel
theorem d_Book_type_15 : decode prog_1_method_2_code 15 = .ok (.ldc 79, 2) := by decide +kernel
theorem d_Book_type_17 : decode prog_1_method_2_code 17 = .ok (.invokespecial 81, 3) := by decide +kernel
theorem d_Book_type_20 : decode prog_1_method_2_code 20 = .ok (.athrow, 1) := by decide +kernel
theorem d_Book_type_5 : decode prog_1_method_2_code 5 = .ok (.iload_n 3, 1) := by decide +kernel
theorem d_Book_type_6 : decode prog_1_method_2_code 6 = .ok (.bipush 8, 2) := by decide +kernel
theorem d_Book_type_8 : decode prog_1_method_2_code 8 = .ok (.if_icmp .le 13, 3) := by decide +kernel
theorem d_Book_type_21 : decode prog_1_method_2_code 21 = .ok (.aload_n 0, 1) := by decide +kernel
theorem d_Book_type_22 : decode prog_1_method_2_code 22 = .ok (.getfield 14, 3) := by decide +kernel
theorem d_Book_type_25 : decode prog_1_method_2_code 25 = .ok (.getfield 84, 3) := by decide +kernel
theorem d_Book_type_28 : decode prog_1_method_2_code 28 = .ok (.iload_n 3, 1) := by decide +kernel
theorem d_Book_type_29 : decode prog_1_method_2_code 29 = .ok (.iadd, 1) := by decide +kernel
theorem d_Book_type_30 : decode prog_1_method_2_code 30 = .ok (.sipush 8000, 3) := by decide +kernel
theorem d_Book_type_33 : decode prog_1_method_2_code 33 = .ok (.if_icmp .le 13, 3) := by decide +kernel
theorem d_Book_type_46 : decode prog_1_method_2_code 46 = .ok (.iconst 0, 1) := by decide +kernel
theorem d_Book_type_47 : decode prog_1_method_2_code 47 = .ok (.istore 4, 2) := by decide +kernel
theorem d_Book_type_49 : decode prog_1_method_2_code 49 = .ok (.iload 4, 2) := by decide +kernel
theorem d_Book_type_51 : decode prog_1_method_2_code 51 = .ok (.iload_n 3, 1) := by decide +kernel
theorem d_Book_type_52 : decode prog_1_method_2_code 52 = .ok (.if_icmp .ge 24, 3) := by decide +kernel
theorem d_Book_type_76 : decode prog_1_method_2_code 76 = .ok (.aload_n 0, 1) := by decide +kernel
theorem d_Book_type_77 : decode prog_1_method_2_code 77 = .ok (.getfield 14, 3) := by decide +kernel
theorem d_Book_type_80 : decode prog_1_method_2_code 80 = .ok (.getfield 84, 3) := by decide +kernel
theorem d_Book_type_83 : decode prog_1_method_2_code 83 = .ok (.ireturn, 1) := by decide +kernel
theorem d_Book_type_55 : decode prog_1_method_2_code 55 = .ok (.aload_n 0, 1) := by decide +kernel
theorem d_Book_type_56 : decode prog_1_method_2_code 56 = .ok (.getfield 14, 3) := by decide +kernel
theorem d_Book_type_59 : decode prog_1_method_2_code 59 = .ok (.lload_n 1, 1) := by decide +kernel
theorem d_Book_type_60 : decode prog_1_method_2_code 60 = .ok (.bipush 8, 2) := by decide +kernel
theorem d_Book_type_62 : decode prog_1_method_2_code 62 = .ok (.iload 4, 2) := by decide +kernel
theorem d_Book_type_64 : decode prog_1_method_2_code 64 = .ok (.imul, 1) := by decide +kernel
theorem d_Book_type_65 : decode prog_1_method_2_code 65 = .ok (.lushr, 1) := by decide +kernel
theorem d_Book_type_66 : decode prog_1_method_2_code 66 = .ok (.l2i, 1) := by decide +kernel
theorem d_Book_type_67 : decode prog_1_method_2_code 67 = .ok (.invokevirtual 93, 3) := by decide +kernel
theorem k_1023 : (Jvm.Cond.methodLink "PackageBook" (93 : Nat) ({ cls := "PackageBook$Row", name := "putByte", desc := "(I)V" } : Jvm.MethodName)) ∈ uW := uW_of 1023 (by decide +kernel) (by decide +kernel)
theorem d_Book_type_70 : decode prog_1_method_2_code 70 = .ok (.iinc 4 1, 3) := by decide +kernel
theorem d_Book_type_73 : decode prog_1_method_2_code 73 = .ok (.goto (-24), 3) := by decide +kernel
theorem d_Book_type_36 : decode prog_1_method_2_code 36 = .ok (.new 88, 3) := by decide +kernel
theorem tx_Book_88_92 : px_in (.classLink "PackageBook" 88 "java/lang/UnsupportedOperationException" :: .initialized "java/lang/UnsupportedOperationException" :: Bundle.ownAtoms "PackageBook" 92 "java/lang/UnsupportedOperationException" ["java/lang/RuntimeException", "java/lang/Exception"]) = true := px_own px_base0 (by decide +kernel)
theorem d_Book_type_39 : decode prog_1_method_2_code 39 = .ok (.dup, 1) := by decide +kernel
theorem d_Book_type_40 : decode prog_1_method_2_code 40 = .ok (.ldc 90, 2) := by decide +kernel
theorem d_Book_type_42 : decode prog_1_method_2_code 42 = .ok (.invokespecial 92, 3) := by decide +kernel
theorem d_Book_type_45 : decode prog_1_method_2_code 45 = .ok (.athrow, 1) := by decide +kernel
abbrev y_Book_type : MethodName := ⟨"PackageBook", "type", "(JI)I"⟩
abbrev i_Book_type : pb_I := (y_Book_type, prog_1_method_2_code, 5, (some Jvm.ClassFile.FieldType.int), [], { frames := 6, cells := 1, slots := 6, locals := 90 })
set_option maxRecDepth 100000 in
set_option maxHeartbeats 4000000 in
theorem g_Book_type {l : Launch} (hl : l.stackTraces = false) (G : pb_G) (h : Nat) (ta : Nat) (ca : Nat) (ps : Nat) (xe : Nat) (mk : Nat) (rd : Nat) (mu : Nat) (fi : Nat) (go : Nat) (sp : Nat) (ss : Nat) (tab : Nat) (taf : Nat → Int32) (tas : Int32) (w : Int64) (n : Int32) (t0 : 0 ≤ tas.toInt) (t1 : tas.toInt ≤ 8000) (F_taf : sb_Fit taf) : Cx l G i_Book_type [.ref h, .long w, .int n] [(h, .inr (9, [.ref ta, .ref ca, .ref ps, .ref xe, .ref mk, .ref rd, .ref mu, .ref fi, .ref go, .ref sp, .ref ss])), (ta, .inr (0, [.ref tab, .int tas])), (tab, .inl (G.2.1, 8000, .inl taf))] (S := Int32 × Int32 × (Nat → Int32)) (SX := Unit) (fun rv_ u => rv_ = some (.int u.1) ∧ (1 ≤ n.toInt ∧ n.toInt ≤ 8) ∧ (u.2.1.toInt = tas.toInt + n.toInt) ∧ (u.1.toInt = u.2.1.toInt) ∧ (u.2.1.toInt ≤ 8000) ∧ (tp_T taf u.2.2 tas.toInt u.2.1.toInt w) ∧ (sb_Fit u.2.2)) (fun u => [(h, .inr (9, [.ref ta, .ref ca, .ref ps, .ref xe, .ref mk, .ref rd, .ref mu, .ref fi, .ref go, .ref sp, .ref ss])), (ta, .inr (0, [.ref tab, .int u.2.1])), (tab, .inl (G.2.1, 8000, .inl u.2.2))]) (fun E u => (E = "java/lang/IllegalArgumentException" ∧ (¬ (1 ≤ n.toInt ∧ n.toInt ≤ 8))) ∨ (E = "java/lang/UnsupportedOperationException" ∧ (1 ≤ n.toInt ∧ n.toInt ≤ 8) ∧ (8000 < tas.toInt + n.toInt))) (fun u => [(h, .inr (9, [.ref ta, .ref ca, .ref ps, .ref xe, .ref mk, .ref rd, .ref mu, .ref fi, .ref go, .ref sp, .ref ss])), (ta, .inr (0, [.ref tab, .int tas])), (tab, .inl (G.2.1, 8000, .inl taf))]) := by
  refine Cx.of hl (by decide +kernel) rfl (Nat.le_of_ble_eq_true rfl) (fun M hQ => ?_)
  refine pb_eq (pc' := 0) (lo' := [(0, .ref h), (1, .long w), (3, .int n)]) (rest' := []) (ws' := [(h, .inr (9, [.ref ta, .ref ca, .ref ps, .ref xe, .ref mk, .ref rd, .ref mu, .ref fi, .ref go, .ref sp, .ref ss])), (ta, .inr (0, [.ref tab, .int tas])), (tab, .inl (G.2.1, 8000, .inl taf))]) ?_
  have zl0 : (0 : Int32).toInt = 0 := by decide
  have zl1 : (1 : Int32).toInt = 1 := by decide
  have zl8 : (8 : Int32).toInt = 8 := by decide
  refine pb_iload_n (pc := 0) d_Book_type_0 2 rfl rfl ?_
  refine pb_iconst (pc := 1) (v := 1) d_Book_type_1 (by decide) ?_
  refine pb_icmp_lt (pc := 2) (tgt := 11) d_Book_type_2 (by decide) (fun wx1 => ?_) (fun wx1 => ?_)
  · have twx1 : n.toInt < 1 := (ti_lt rfl (by decide)).mp wx1
    exact pb_throwS (pc := 11) (cls := "java/lang/IllegalArgumentException") (text := "one to eight bytes can be typed") (names := ["java/lang/RuntimeException", "java/lang/Exception"]) hQ d_Book_type_11 d_Book_type_14 d_Book_type_15 d_Book_type_17 d_Book_type_20 (by decide +kernel) (by decide +kernel) tx_Book_77_81 (by decide +kernel) (by decide) (Nat.le_of_ble_eq_true rfl) (by decide) (by decide) () (Or.inl ⟨rfl, (by (try dsimp only); first | done | (with_reducible assumption) | omega (splitDisjunctions := false) | assumption | omega | decide)⟩) [0, 1, 2] (by decide) rfl rfl
  · have twx1 : ¬ n.toInt < 1 := fun z9 => wx1 ((ti_lt rfl (by decide)).mpr z9)
    refine pb_iload_n (pc := 5) d_Book_type_5 2 rfl rfl ?_
    refine pb_bipush (pc := 6) (v := 8) d_Book_type_6 (by decide) ?_
    refine pb_icmp_le (pc := 8) (tgt := 21) d_Book_type_8 (by decide) (fun wx2 => ?_) (fun wx2 => ?_)
    · have twx2 : n.toInt ≤ 8 := (ti_le rfl (by decide)).mp wx2
      refine pb_aload_n (pc := 21) d_Book_type_21 0 rfl rfl ?_
      refine pb_get (pc := 22) d_Book_type_22 0 0 rfl rfl (by decide) in_Book k_417 rfl ?_
      refine pb_getN (pc := 25) d_Book_type_25 1 1 rfl rfl (by decide) in_Row k_165 rfl ?_
      refine pb_iload_n (pc := 28) d_Book_type_28 2 rfl rfl ?_
      refine pb_iadd (pc := 29) d_Book_type_29 ?_
      refine pb_topi (fun ix3 eix3 => ?_)
      try have tix3 : ix3.toInt = tas.toInt + n.toInt := t2_add eix3 rfl rfl (by omega)
      refine pb_sipush (pc := 30) (v := 8000) d_Book_type_30 (by decide) ?_
      refine pb_icmp_le (pc := 33) (tgt := 46) d_Book_type_33 (by decide) (fun wx4 => ?_) (fun wx4 => ?_)
      · have twx4 : ix3.toInt ≤ 8000 := (ti_le rfl (by decide)).mp wx4
        refine pb_iconst (pc := 46) (v := 0) d_Book_type_46 (by decide) ?_
        refine pb_istore (pc := 47) (lo' := [(4, .int 0), (0, .ref h), (1, .long w), (3, .int n)]) d_Book_type_47 (by decide) rfl ?_
        have hL49_5 : ∀ (N9 : Nat) (k : Int32) (t : Int32) (g : Nat → Int32), (sb_Fit g) → (0 ≤ k.toInt) → (k.toInt ≤ n.toInt) → (t.toInt = tas.toInt + k.toInt) → (tp_T taf g tas.toInt t.toInt w) → ((n.toInt - k.toInt).toNat) < N9 → pb_P l G M i_Book_type 49 [(4, .int k), (0, .ref h), (1, .long w), (3, .int n)] [] [(h, .inr (9, [.ref ta, .ref ca, .ref ps, .ref xe, .ref mk, .ref rd, .ref mu, .ref fi, .ref go, .ref sp, .ref ss])), (ta, .inr (0, [.ref tab, .int t])), (tab, .inl (G.2.1, 8000, .inl g))] 0 0 := by
          intro N9
          induction N9 with
          | zero => intro k t g F_g k0 k1 k2 kt hm9; exact absurd hm9 (Nat.not_lt_zero _)
          | succ N9 ih49 =>
            intro k t g F_g k0 k1 k2 kt hm9
            refine pb_iload (pc := 49) d_Book_type_49 0 rfl ?_
            refine pb_iload_n (pc := 51) d_Book_type_51 3 rfl rfl ?_
            refine pb_icmp_ge (pc := 52) (tgt := 76) d_Book_type_52 (by decide) (fun wx6 => ?_) (fun wx6 => ?_)
            · have twx6 : n.toInt ≤ k.toInt := (ti_le rfl rfl).mp wx6
              refine pb_aload_n (pc := 76) d_Book_type_76 1 rfl rfl ?_
              refine pb_get (pc := 77) d_Book_type_77 0 0 rfl rfl (by decide) in_Book k_417 rfl ?_
              refine pb_getN (pc := 80) d_Book_type_80 1 1 rfl rfl (by decide) in_Row k_165 rfl ?_
              exact pb_iretx (pc := 83) hQ d_Book_type_83 rfl rfl (t, t, g) ⟨rfl, (by (try dsimp only); first | done | (with_reducible assumption) | omega (splitDisjunctions := false) | assumption | omega | decide), (by (try dsimp only); first | done | (with_reducible assumption) | omega (splitDisjunctions := false) | assumption | omega | decide), (by (try dsimp only); first | done | (with_reducible assumption) | omega (splitDisjunctions := false) | assumption | omega | decide), (by (try dsimp only); first | done | (with_reducible assumption) | omega (splitDisjunctions := false) | assumption | omega | decide), (by (try dsimp only); first | done | assumption | decide | omega), F_g⟩ [0, 1, 2] (by decide) rfl rfl (by decide) (by decide)
            · have twx6 : ¬ n.toInt ≤ k.toInt := fun z9 => wx6 ((ti_le rfl rfl).mpr z9)
              refine pb_aload_n (pc := 55) d_Book_type_55 1 rfl rfl ?_
              refine pb_get (pc := 56) d_Book_type_56 0 0 rfl rfl (by decide) in_Book k_417 rfl ?_
              refine pb_lload_n (pc := 59) d_Book_type_59 2 rfl rfl ?_
              refine pb_bipush (pc := 60) (v := 8) d_Book_type_60 (by decide) ?_
              refine pb_iload (pc := 62) d_Book_type_62 0 rfl ?_
              refine pb_imul (pc := 64) d_Book_type_64 ?_
              refine pb_topi (fun ix7 eix7 => ?_)
              try have tix7 : ix7.toInt = 8 * k.toInt := ti_mul eix7 (by decide) rfl (by omega) (by omega)
              refine pb_lushr (pc := 65) d_Book_type_65 rfl ?_
              refine pb_topl (fun jx8 ejx8 => ?_)
              refine pb_l2i (pc := 66) d_Book_type_66 rfl ?_
              refine pb_topi (fun ix9 eix9 => ?_)
              try have tix9 : ix9.toInt = jx8.toInt := ti_l2i eix9 rfl (by omega) (by omega)
              refine pb_callV (pc := 67) (I := i_Book_type) (qb := 1) (ci := 0) (nA := 1) (rest := []) (wr := [(h, .inr (9, [.ref ta, .ref ca, .ref ps, .ref xe, .ref mk, .ref rd, .ref mu, .ref fi, .ref go, .ref sp, .ref ss]))]) d_Book_type_67 (g_Row_putByte hl G ta tab 8000 g t ix9 (by first | (with_reducible assumption) | omega (splitDisjunctions := false) | assumption | omega | decide) (by first | (with_reducible assumption) | omega (splitDisjunctions := false) | assumption | omega | decide) (by first | (with_reducible assumption) | omega (splitDisjunctions := false) | assumption | omega | decide) F_g) rfl rfl [1, 2] [0] (by decide) rfl rfl rfl (by decide) (by decide) k_555 rfl k_119 k_1023 k_553 k_554 ⟨rfl, hy_Row_putByte⟩ (by decide) rfl rfl (Nat.le_of_ble_eq_true rfl) (by decide) (fun v9 ux11 ch10 => ?_)
              obtain ⟨s_12, f_13⟩ := ux11
              obtain ⟨ech10, ch10⟩ := ch10
              have ech10 : v9 = none := ech10
              subst ech10
              obtain ⟨fh14, fh15, fh16⟩ : (s_12.toInt = t.toInt + 1) ∧ (∀ j : Int, 0 ≤ j → gr f_13 j = if j = t.toInt then ix9.toInt8.toInt32 else gr g j) ∧ (sb_Fit f_13) := ch10
              have kt2 : tp_T taf f_13 tas.toInt s_12.toInt w := tp_step kt fh15 (by omega) (by omega) (tp_c2 (u := ix9) (by assumption) (by assumption) (by omega) (by omega) (by omega))
              refine pb_eq (pc' := 70) (lo' := [(4, .int k), (0, .ref h), (1, .long w), (3, .int n)]) (rest' := []) (ws' := [(h, .inr (9, [.ref ta, .ref ca, .ref ps, .ref xe, .ref mk, .ref rd, .ref mu, .ref fi, .ref go, .ref sp, .ref ss])), (ta, .inr (0, [.ref tab, .int s_12])), (tab, .inl (G.2.1, 8000, .inl f_13))]) ?_
              refine pb_iincN (pc := 70) (c := 1) d_Book_type_70 0 rfl (by decide) (by decide) (fun ix17 eix17 => ?_)
              have tix17 : ix17.toInt = k.toInt + 1 := t2_add eix17 rfl (by decide) (by first | (exact omg_1d140a567a twx2 k0 twx6) | (have r90 := ti_rng k; have r91 := ti_rng ix17; have r92 := ti_rng n; omega))
              refine pb_eq (pc' := 73) (lo' := [(4, .int ix17), (0, .ref h), (1, .long w), (3, .int n)]) (rest' := []) (ws' := [(h, .inr (9, [.ref ta, .ref ca, .ref ps, .ref xe, .ref mk, .ref rd, .ref mu, .ref fi, .ref go, .ref sp, .ref ss])), (ta, .inr (0, [.ref tab, .int s_12])), (tab, .inl (G.2.1, 8000, .inl f_13))]) ?_
              refine pb_goto (pc := 73) (tgt := 49) d_Book_type_73 (by decide) ?_
              exact ih49 ix17 s_12 f_13 fh16 (by first | (with_reducible assumption) | omega (splitDisjunctions := false) | assumption | omega | decide) (by first | (with_reducible assumption) | (exact omg_1d77bbf042 twx6 tix17) | assumption | omega | decide) (by first | (with_reducible assumption) | omega (splitDisjunctions := false) | assumption | omega | decide) kt2 (by (exact omg_7c8a06b1f5 hm9 twx6 tix17))
        exact hL49_5 _ 0 tas taf F_taf (by first | (with_reducible assumption) | omega (splitDisjunctions := false) | assumption | omega | decide) (by first | (with_reducible assumption) | omega (splitDisjunctions := false) | assumption | omega | decide) (by first | (with_reducible assumption) | omega (splitDisjunctions := false) | assumption | omega | decide) (tp_T0 (by omega)) (Nat.lt_succ_self _)
      · have twx4 : ¬ ix3.toInt ≤ 8000 := fun z9 => wx4 ((ti_le rfl (by decide)).mpr z9)
        exact pb_throwS (pc := 36) (cls := "java/lang/UnsupportedOperationException") (text := "the tape is full") (names := ["java/lang/RuntimeException", "java/lang/Exception"]) hQ d_Book_type_36 d_Book_type_39 d_Book_type_40 d_Book_type_42 d_Book_type_45 (by decide +kernel) (by decide +kernel) tx_Book_88_92 (by decide +kernel) (by decide) (Nat.le_of_ble_eq_true rfl) (by decide) (by decide) () (Or.inr (⟨rfl, (by (try dsimp only); first | done | (with_reducible assumption) | omega (splitDisjunctions := false) | assumption | omega | decide), (by (try dsimp only); first | done | (with_reducible assumption) | omega (splitDisjunctions := false) | assumption | omega | decide)⟩)) [0, 1, 2] (by decide) rfl rfl
    · have twx2 : ¬ n.toInt ≤ 8 := fun z9 => wx2 ((ti_le rfl (by decide)).mpr z9)
      exact pb_throwS (pc := 11) (cls := "java/lang/IllegalArgumentException") (text := "one to eight bytes can be typed") (names := ["java/lang/RuntimeException", "java/lang/Exception"]) hQ d_Book_type_11 d_Book_type_14 d_Book_type_15 d_Book_type_17 d_Book_type_20 (by decide +kernel) (by decide +kernel) tx_Book_77_81 (by decide +kernel) (by decide) (Nat.le_of_ble_eq_true rfl) (by decide) (by decide) () (Or.inl ⟨rfl, (by (try dsimp only); first | done | (with_reducible assumption) | omega (splitDisjunctions := false) | assumption | omega | decide)⟩) [0, 1, 2] (by decide) rfl rfl

theorem d_Book_again_0 : decode prog_1_method_3_code 0 = .ok (.iload_n 1, 1) := by decide +kernel
theorem d_Book_again_1 : decode prog_1_method_3_code 1 = .ok (.ifCond .lt 14, 3) := by decide +kernel
theorem d_Book_again_15 : decode prog_1_method_3_code 15 = .ok (.new 77, 3) := by decide +kernel
theorem d_Book_again_18 : decode prog_1_method_3_code 18 = .ok (.dup, 1) := by decide +kernel
theorem d_Book_again_19 : decode prog_1_method_3_code 19 = .ok (.ldc 96, 2) := by decide +kernel
theorem d_Book_again_21 : decode prog_1_method_3_code 21 = .ok (.invokespecial 81, 3) := by decide +kernel
theorem d_Book_again_24 : decode prog_1_method_3_code 24 = .ok (.athrow, 1) := by decide +kernel
theorem d_Book_again_4 : decode prog_1_method_3_code 4 = .ok (.iload_n 1, 1) := by decide +kernel
theorem d_Book_again_5 : decode prog_1_method_3_code 5 = .ok (.aload_n 0, 1) := by decide +kernel
theorem d_Book_again_6 : decode prog_1_method_3_code 6 = .ok (.getfield 14, 3) := by decide +kernel
theorem d_Book_again_9 : decode prog_1_method_3_code 9 = .ok (.getfield 84, 3) := by decide +kernel
theorem d_Book_again_12 : decode prog_1_method_3_code 12 = .ok (.if_icmp .le 13, 3) := by decide +kernel
theorem d_Book_again_25 : decode prog_1_method_3_code 25 = .ok (.aload_n 0, 1) := by decide +kernel
theorem d_Book_again_26 : decode prog_1_method_3_code 26 = .ok (.getfield 14, 3) := by decide +kernel
theorem d_Book_again_29 : decode prog_1_method_3_code 29 = .ok (.getfield 84, 3) := by decide +kernel
theorem d_Book_again_32 : decode prog_1_method_3_code 32 = .ok (.iload_n 1, 1) := by decide +kernel
theorem d_Book_again_33 : decode prog_1_method_3_code 33 = .ok (.iadd, 1) := by decide +kernel
theorem d_Book_again_34 : decode prog_1_method_3_code 34 = .ok (.sipush 8000, 3) := by decide +kernel
theorem d_Book_again_37 : decode prog_1_method_3_code 37 = .ok (.if_icmp .le 13, 3) := by decide +kernel
theorem d_Book_again_50 : decode prog_1_method_3_code 50 = .ok (.aload_n 0, 1) := by decide +kernel
theorem d_Book_again_51 : decode prog_1_method_3_code 51 = .ok (.getfield 14, 3) := by decide +kernel
theorem d_Book_again_54 : decode prog_1_method_3_code 54 = .ok (.aload_n 0, 1) := by decide +kernel
theorem d_Book_again_55 : decode prog_1_method_3_code 55 = .ok (.getfield 14, 3) := by decide +kernel
theorem d_Book_again_58 : decode prog_1_method_3_code 58 = .ok (.getfield 98, 3) := by decide +kernel
theorem k_157 : (Jvm.Cond.fieldLinkNest "PackageBook" (98 : Nat) "PackageBook$Row" "bytes" "[B" "PackageBook") ∈ uN := uN_of 157 (by decide +kernel) (by decide +kernel)
theorem d_Book_again_61 : decode prog_1_method_3_code 61 = .ok (.aload_n 0, 1) := by decide +kernel
theorem d_Book_again_62 : decode prog_1_method_3_code 62 = .ok (.getfield 14, 3) := by decide +kernel
theorem d_Book_again_65 : decode prog_1_method_3_code 65 = .ok (.getfield 84, 3) := by decide +kernel
theorem d_Book_again_68 : decode prog_1_method_3_code 68 = .ok (.iload_n 1, 1) := by decide +kernel
theorem d_Book_again_69 : decode prog_1_method_3_code 69 = .ok (.isub, 1) := by decide +kernel
theorem d_Book_again_70 : decode prog_1_method_3_code 70 = .ok (.iload_n 1, 1) := by decide +kernel
theorem d_Book_again_71 : decode prog_1_method_3_code 71 = .ok (.invokevirtual 102, 3) := by decide +kernel
theorem k_1032 : (Jvm.Cond.methodLink "PackageBook" (102 : Nat) ({ cls := "PackageBook$Row", name := "putBytes", desc := "([BII)V" } : Jvm.MethodName)) ∈ uW := uW_of 1032 (by decide +kernel) (by decide +kernel)
theorem d_Book_again_74 : decode prog_1_method_3_code 74 = .ok (.aload_n 0, 1) := by decide +kernel
theorem d_Book_again_75 : decode prog_1_method_3_code 75 = .ok (.getfield 14, 3) := by decide +kernel
theorem d_Book_again_78 : decode prog_1_method_3_code 78 = .ok (.getfield 84, 3) := by decide +kernel
theorem d_Book_again_81 : decode prog_1_method_3_code 81 = .ok (.ireturn, 1) := by decide +kernel
theorem d_Book_again_40 : decode prog_1_method_3_code 40 = .ok (.new 88, 3) := by decide +kernel
theorem d_Book_again_43 : decode prog_1_method_3_code 43 = .ok (.dup, 1) := by decide +kernel
theorem d_Book_again_44 : decode prog_1_method_3_code 44 = .ok (.ldc 90, 2) := by decide +kernel
theorem d_Book_again_46 : decode prog_1_method_3_code 46 = .ok (.invokespecial 92, 3) := by decide +kernel
theorem d_Book_again_49 : decode prog_1_method_3_code 49 = .ok (.athrow, 1) := by decide +kernel
abbrev y_Book_again : MethodName := ⟨"PackageBook", "again", "(I)I"⟩
abbrev i_Book_again : pb_I := (y_Book_again, prog_1_method_3_code, 2, (some Jvm.ClassFile.FieldType.int), [], { frames := 6, cells := 1, slots := 6, locals := 90 })
set_option maxRecDepth 100000 in
set_option maxHeartbeats 4000000 in
theorem g_Book_again {l : Launch} (hl : l.stackTraces = false) (G : pb_G) (h : Nat) (ta : Nat) (ca : Nat) (ps : Nat) (xe : Nat) (mk : Nat) (rd : Nat) (mu : Nat) (fi : Nat) (go : Nat) (sp : Nat) (ss : Nat) (tab : Nat) (taf : Nat → Int32) (tas : Int32) (n : Int32) (t0 : 0 ≤ tas.toInt) (t1 : tas.toInt ≤ 8000) (F_taf : sb_Fit taf) : Cx l G i_Book_again [.ref h, .int n] [(h, .inr (9, [.ref ta, .ref ca, .ref ps, .ref xe, .ref mk, .ref rd, .ref mu, .ref fi, .ref go, .ref sp, .ref ss])), (ta, .inr (0, [.ref tab, .int tas])), (tab, .inl (G.2.1, 8000, .inl taf))] (S := Int32 × Int32 × (Nat → Int32)) (SX := Unit) (fun rv_ u => rv_ = some (.int u.1) ∧ (0 ≤ n.toInt ∧ n.toInt ≤ tas.toInt) ∧ (u.2.1.toInt = tas.toInt + n.toInt) ∧ (u.1.toInt = u.2.1.toInt) ∧ (u.2.1.toInt ≤ 8000) ∧ (tp_G taf u.2.2 tas.toInt u.2.1.toInt n.toInt) ∧ (sb_Fit u.2.2)) (fun u => [(h, .inr (9, [.ref ta, .ref ca, .ref ps, .ref xe, .ref mk, .ref rd, .ref mu, .ref fi, .ref go, .ref sp, .ref ss])), (ta, .inr (0, [.ref tab, .int u.2.1])), (tab, .inl (G.2.1, 8000, .inl u.2.2))]) (fun E u => (E = "java/lang/IllegalArgumentException" ∧ (¬ (0 ≤ n.toInt ∧ n.toInt ≤ tas.toInt))) ∨ (E = "java/lang/UnsupportedOperationException" ∧ (0 ≤ n.toInt ∧ n.toInt ≤ tas.toInt) ∧ (8000 < tas.toInt + n.toInt))) (fun u => [(h, .inr (9, [.ref ta, .ref ca, .ref ps, .ref xe, .ref mk, .ref rd, .ref mu, .ref fi, .ref go, .ref sp, .ref ss])), (ta, .inr (0, [.ref tab, .int tas])), (tab, .inl (G.2.1, 8000, .inl taf))]) := by
  refine Cx.of hl (by decide +kernel) rfl (Nat.le_of_ble_eq_true rfl) (fun M hQ => ?_)
  refine pb_eq (pc' := 0) (lo' := [(0, .ref h), (1, .int n)]) (rest' := []) (ws' := [(h, .inr (9, [.ref ta, .ref ca, .ref ps, .ref xe, .ref mk, .ref rd, .ref mu, .ref fi, .ref go, .ref sp, .ref ss])), (ta, .inr (0, [.ref tab, .int tas])), (tab, .inl (G.2.1, 8000, .inl taf))]) ?_
  have zl0 : (0 : Int32).toInt = 0 := by decide
  have zl1 : (1 : Int32).toInt = 1 := by decide
  refine pb_iload_n (pc := 0) d_Book_again_0 1 rfl rfl ?_
  refine pb_if_lt (pc := 1) (tgt := 15) d_Book_again_1 (by decide) (fun wx1 => ?_) (fun wx1 => ?_)
  · have twx1 : n.toInt < 0 := (ti_lt rfl (by decide)).mp wx1
    exact pb_throwS (pc := 15) (cls := "java/lang/IllegalArgumentException") (text := "the tape has not so many bytes") (names := ["java/lang/RuntimeException", "java/lang/Exception"]) hQ d_Book_again_15 d_Book_again_18 d_Book_again_19 d_Book_again_21 d_Book_again_24 (by decide +kernel) (by decide +kernel) tx_Book_77_81 (by decide +kernel) (by decide) (Nat.le_of_ble_eq_true rfl) (by decide) (by decide) () (Or.inl ⟨rfl, (by (try dsimp only); first | done | (with_reducible assumption) | omega (splitDisjunctions := false) | assumption | omega | decide)⟩) [0, 1, 2] (by decide) rfl rfl
  · have twx1 : ¬ n.toInt < 0 := fun z9 => wx1 ((ti_lt rfl (by decide)).mpr z9)
    refine pb_iload_n (pc := 4) d_Book_again_4 1 rfl rfl ?_
    refine pb_aload_n (pc := 5) d_Book_again_5 0 rfl rfl ?_
    refine pb_get (pc := 6) d_Book_again_6 0 0 rfl rfl (by decide) in_Book k_417 rfl ?_
    refine pb_getN (pc := 9) d_Book_again_9 1 1 rfl rfl (by decide) in_Row k_165 rfl ?_
    refine pb_icmp_le (pc := 12) (tgt := 25) d_Book_again_12 (by decide) (fun wx2 => ?_) (fun wx2 => ?_)
    · have twx2 : n.toInt ≤ tas.toInt := (ti_le rfl rfl).mp wx2
      refine pb_aload_n (pc := 25) d_Book_again_25 0 rfl rfl ?_
      refine pb_get (pc := 26) d_Book_again_26 0 0 rfl rfl (by decide) in_Book k_417 rfl ?_
      refine pb_getN (pc := 29) d_Book_again_29 1 1 rfl rfl (by decide) in_Row k_165 rfl ?_
      refine pb_iload_n (pc := 32) d_Book_again_32 1 rfl rfl ?_
      refine pb_iadd (pc := 33) d_Book_again_33 ?_
      refine pb_topi (fun ix3 eix3 => ?_)
      try have tix3 : ix3.toInt = tas.toInt + n.toInt := t2_add eix3 rfl rfl (by omega)
      refine pb_sipush (pc := 34) (v := 8000) d_Book_again_34 (by decide) ?_
      refine pb_icmp_le (pc := 37) (tgt := 50) d_Book_again_37 (by decide) (fun wx4 => ?_) (fun wx4 => ?_)
      · have twx4 : ix3.toInt ≤ 8000 := (ti_le rfl (by decide)).mp wx4
        refine pb_aload_n (pc := 50) d_Book_again_50 0 rfl rfl ?_
        refine pb_get (pc := 51) d_Book_again_51 0 0 rfl rfl (by decide) in_Book k_417 rfl ?_
        refine pb_aload_n (pc := 54) d_Book_again_54 0 rfl rfl ?_
        refine pb_get (pc := 55) d_Book_again_55 0 0 rfl rfl (by decide) in_Book k_417 rfl ?_
        refine pb_getN (pc := 58) d_Book_again_58 1 0 rfl rfl (by decide) in_Row k_157 rfl ?_
        refine pb_aload_n (pc := 61) d_Book_again_61 0 rfl rfl ?_
        refine pb_get (pc := 62) d_Book_again_62 0 0 rfl rfl (by decide) in_Book k_417 rfl ?_
        refine pb_getN (pc := 65) d_Book_again_65 1 1 rfl rfl (by decide) in_Row k_165 rfl ?_
        refine pb_iload_n (pc := 68) d_Book_again_68 1 rfl rfl ?_
        refine pb_isub (pc := 69) d_Book_again_69 ?_
        refine pb_topi (fun ix5 eix5 => ?_)
        try have tix5 : ix5.toInt = tas.toInt - n.toInt := t2_sub eix5 rfl rfl (by omega)
        refine pb_iload_n (pc := 70) d_Book_again_70 1 rfl rfl ?_
        refine pb_callV (pc := 71) (I := i_Book_again) (qb := 1) (ci := 0) (nA := 3) (rest := []) (wr := [(h, .inr (9, [.ref ta, .ref ca, .ref ps, .ref xe, .ref mk, .ref rd, .ref mu, .ref fi, .ref go, .ref sp, .ref ss]))]) d_Book_again_71 (g_Row_putBytes1 hl G ta tab 8000 taf tas ix5 n (by first | (with_reducible assumption) | omega (splitDisjunctions := false) | assumption | omega | decide) (by first | (with_reducible assumption) | omega (splitDisjunctions := false) | assumption | omega | decide) (by first | (with_reducible assumption) | omega (splitDisjunctions := false) | assumption | omega | decide) (by first | (with_reducible assumption) | omega (splitDisjunctions := false) | assumption | omega | decide) (by first | (with_reducible assumption) | omega (splitDisjunctions := false) | assumption | omega | decide) (by first | (with_reducible assumption) | omega (splitDisjunctions := false) | assumption | omega | decide) F_taf) rfl rfl [1, 2] [0] (by decide) rfl rfl rfl (by decide) (by decide) k_564 rfl k_119 k_1032 k_562 k_563 ⟨rfl, hy_Row_putBytes⟩ (by decide) rfl rfl (Nat.le_of_ble_eq_true rfl) (by decide) (fun v9 ux7 ch6 => ?_)
        obtain ⟨s_8, f_9⟩ := ux7
        obtain ⟨ech6, ch6⟩ := ch6
        have ech6 : v9 = none := ech6
        subst ech6
        obtain ⟨fh10, fh11, fh12, fh13⟩ : (s_8.toInt = tas.toInt + n.toInt) ∧ (∀ j : Int, 0 ≤ j → gr f_9 j = if tas.toInt ≤ j ∧ j < tas.toInt + n.toInt then gr taf (ix5.toInt + (j - tas.toInt)) else gr taf j) ∧ (ap_ taf tas.toInt f_9 s_8.toInt (bl_ taf ix5.toInt n.toInt)) ∧ (sb_Fit f_9) := ch6
        have kt2 : tp_G taf f_9 tas.toInt s_8.toInt n.toInt := tg_cpy fh11 (by omega) (by omega)
        refine pb_eq (pc' := 74) (lo' := [(0, .ref h), (1, .int n)]) (rest' := []) (ws' := [(h, .inr (9, [.ref ta, .ref ca, .ref ps, .ref xe, .ref mk, .ref rd, .ref mu, .ref fi, .ref go, .ref sp, .ref ss])), (ta, .inr (0, [.ref tab, .int s_8])), (tab, .inl (G.2.1, 8000, .inl f_9))]) ?_
        refine pb_aload_n (pc := 74) d_Book_again_74 0 rfl rfl ?_
        refine pb_get (pc := 75) d_Book_again_75 0 0 rfl rfl (by decide) in_Book k_417 rfl ?_
        refine pb_getN (pc := 78) d_Book_again_78 1 1 rfl rfl (by decide) in_Row k_165 rfl ?_
        exact pb_iretx (pc := 81) hQ d_Book_again_81 rfl rfl (s_8, s_8, f_9) ⟨rfl, (by (try dsimp only); first | done | (with_reducible assumption) | omega (splitDisjunctions := false) | assumption | omega | decide), (by (try dsimp only); first | done | (with_reducible assumption) | omega (splitDisjunctions := false) | assumption | omega | decide), (by (try dsimp only); first | done | (with_reducible assumption) | omega (splitDisjunctions := false) | assumption | omega | decide), (by (try dsimp only); first | done | (with_reducible assumption) | omega (splitDisjunctions := false) | assumption | omega | decide), (by (try dsimp only); first | done | assumption | decide | omega), fh13⟩ [0, 1, 2] (by decide) rfl rfl (by decide) (by decide)
      · have twx4 : ¬ ix3.toInt ≤ 8000 := fun z9 => wx4 ((ti_le rfl (by decide)).mpr z9)
        exact pb_throwS (pc := 40) (cls := "java/lang/UnsupportedOperationException") (text := "the tape is full") (names := ["java/lang/RuntimeException", "java/lang/Exception"]) hQ d_Book_again_40 d_Book_again_43 d_Book_again_44 d_Book_again_46 d_Book_again_49 (by decide +kernel) (by decide +kernel) tx_Book_88_92 (by decide +kernel) (by decide) (Nat.le_of_ble_eq_true rfl) (by decide) (by decide) () (Or.inr (⟨rfl, (by (try dsimp only); first | done | (with_reducible assumption) | omega (splitDisjunctions := false) | assumption | omega | decide), (by (try dsimp only); first | done | (with_reducible assumption) | omega (splitDisjunctions := false) | assumption | omega | decide)⟩)) [0, 1, 2] (by decide) rfl rfl
    · have twx2 : ¬ n.toInt ≤ tas.toInt := fun z9 => wx2 ((ti_le rfl rfl).mpr z9)
      exact pb_throwS (pc := 15) (cls := "java/lang/IllegalArgumentException") (text := "the tape has not so many bytes") (names := ["java/lang/RuntimeException", "java/lang/Exception"]) hQ d_Book_again_15 d_Book_again_18 d_Book_again_19 d_Book_again_21 d_Book_again_24 (by decide +kernel) (by decide +kernel) tx_Book_77_81 (by decide +kernel) (by decide) (Nat.le_of_ble_eq_true rfl) (by decide) (by decide) () (Or.inl ⟨rfl, (by (try dsimp only); first | done | (with_reducible assumption) | omega (splitDisjunctions := false) | assumption | omega | decide)⟩) [0, 1, 2] (by decide) rfl rfl

theorem d_Book_add_0 : decode prog_1_method_4_code 0 = .ok (.aload_n 0, 1) := by decide +kernel
theorem d_Book_add_1 : decode prog_1_method_4_code 1 = .ok (.invokevirtual 106, 3) := by decide +kernel
theorem k_455 : (Jvm.Cond.methodLink "PackageBook" (106 : Nat) ({ cls := "PackageBook", name := "takeTape", desc := "()I" } : Jvm.MethodName)) ∈ uW := uW_of 455 (by decide +kernel) (by decide +kernel)
theorem k_458 : (Jvm.Cond.code ({ cls := "PackageBook", name := "takeTape", desc := "()I" } : Jvm.MethodName) prog_1_method_20_code (2 : Nat) (Option.some Jvm.ClassFile.FieldType.int)) ∈ uW := uW_of 458 (by decide +kernel) (by decide +kernel)
theorem k_457 : (Jvm.Cond.instanceMethod ({ cls := "PackageBook", name := "takeTape", desc := "()I" } : Jvm.MethodName)) ∈ uW := uW_of 457 (by decide +kernel) (by decide +kernel)
theorem k_0 : Cond.selects "PackageBook" ⟨"PackageBook", "takeTape", "()I"⟩ ⟨"PackageBook", "takeTape", "()I"⟩ ∈ uW := uW_of 0 (by decide +kernel) (by decide +kernel)
theorem hy_Book_takeTape : (y_Book_takeTape).cls ≠ "java/lang/invoke/MethodHandle" ∧ (y_Book_takeTape).cls ≠ "java/lang/invoke/VarHandle" ∧ (parseMethodDescriptor (y_Book_takeTape).desc).map (fun d => d.parameters.length) = some 0 := by decide +kernel
theorem d_Book_add_4 : decode prog_1_method_4_code 4 = .ok (.istore_n 2, 1) := by decide +kernel
theorem d_Book_add_5 : decode prog_1_method_4_code 5 = .ok (.iload_n 1, 1) := by decide +kernel
theorem d_Book_add_6 : decode prog_1_method_4_code 6 = .ok (.ifCond .lt 23, 3) := by decide +kernel
theorem d_Book_add_29 : decode prog_1_method_4_code 29 = .ok (.new 77, 3) := by decide +kernel
theorem d_Book_add_32 : decode prog_1_method_4_code 32 = .ok (.dup, 1) := by decide +kernel
theorem d_Book_add_33 : decode prog_1_method_4_code 33 = .ok (.ldc 114, 2) := by decide +kernel
theorem d_Book_add_35 : decode prog_1_method_4_code 35 = .ok (.invokespecial 81, 3) := by decide +kernel
theorem d_Book_add_38 : decode prog_1_method_4_code 38 = .ok (.athrow, 1) := by decide +kernel
theorem d_Book_add_9 : decode prog_1_method_4_code 9 = .ok (.iload_n 1, 1) := by decide +kernel
theorem d_Book_add_10 : decode prog_1_method_4_code 10 = .ok (.iload_n 2, 1) := by decide +kernel
theorem d_Book_add_11 : decode prog_1_method_4_code 11 = .ok (.if_icmp .gt 18, 3) := by decide +kernel
theorem d_Book_add_14 : decode prog_1_method_4_code 14 = .ok (.aload_n 0, 1) := by decide +kernel
theorem d_Book_add_15 : decode prog_1_method_4_code 15 = .ok (.getfield 14, 3) := by decide +kernel
theorem d_Book_add_18 : decode prog_1_method_4_code 18 = .ok (.getfield 98, 3) := by decide +kernel
theorem d_Book_add_21 : decode prog_1_method_4_code 21 = .ok (.iconst 0, 1) := by decide +kernel
theorem d_Book_add_22 : decode prog_1_method_4_code 22 = .ok (.iload_n 1, 1) := by decide +kernel
theorem d_Book_add_23 : decode prog_1_method_4_code 23 = .ok (.invokestatic 110, 3) := by decide +kernel
theorem k_1040 : (Jvm.Cond.methodLink "PackageBook" (110 : Nat) ({ cls := "PackageBook", name := "isName", desc := "([BII)Z" } : Jvm.MethodName)) ∈ uW := uW_of 1040 (by decide +kernel) (by decide +kernel)
theorem d_Book_add_26 : decode prog_1_method_4_code 26 = .ok (.ifCond .ne 13, 3) := by decide +kernel
theorem d_Book_add_39 : decode prog_1_method_4_code 39 = .ok (.aload_n 0, 1) := by decide +kernel
theorem d_Book_add_40 : decode prog_1_method_4_code 40 = .ok (.getfield 70, 3) := by decide +kernel
theorem d_Book_add_43 : decode prog_1_method_4_code 43 = .ok (.aload_n 0, 1) := by decide +kernel
theorem d_Book_add_44 : decode prog_1_method_4_code 44 = .ok (.getfield 14, 3) := by decide +kernel
theorem d_Book_add_47 : decode prog_1_method_4_code 47 = .ok (.getfield 98, 3) := by decide +kernel
theorem d_Book_add_50 : decode prog_1_method_4_code 50 = .ok (.iconst 0, 1) := by decide +kernel
theorem d_Book_add_51 : decode prog_1_method_4_code 51 = .ok (.iload_n 1, 1) := by decide +kernel
theorem d_Book_add_52 : decode prog_1_method_4_code 52 = .ok (.invokevirtual 116, 3) := by decide +kernel
theorem k_459 : (Jvm.Cond.methodLink "PackageBook" (116 : Nat) ({ cls := "PackageBook$Shelf", name := "find", desc := "([BII)I" } : Jvm.MethodName)) ∈ uW := uW_of 459 (by decide +kernel) (by decide +kernel)
theorem d_Book_add_55 : decode prog_1_method_4_code 55 = .ok (.istore_n 3, 1) := by decide +kernel
theorem d_Book_add_56 : decode prog_1_method_4_code 56 = .ok (.aload_n 0, 1) := by decide +kernel
theorem d_Book_add_57 : decode prog_1_method_4_code 57 = .ok (.getfield 70, 3) := by decide +kernel
theorem d_Book_add_60 : decode prog_1_method_4_code 60 = .ok (.iload_n 3, 1) := by decide +kernel
theorem d_Book_add_61 : decode prog_1_method_4_code 61 = .ok (.iload_n 2, 1) := by decide +kernel
theorem d_Book_add_62 : decode prog_1_method_4_code 62 = .ok (.iload_n 1, 1) := by decide +kernel
theorem d_Book_add_63 : decode prog_1_method_4_code 63 = .ok (.isub, 1) := by decide +kernel
theorem d_Book_add_64 : decode prog_1_method_4_code 64 = .ok (.invokevirtual 120, 3) := by decide +kernel
theorem k_1042 : (Jvm.Cond.methodLink "PackageBook" (120 : Nat) ({ cls := "PackageBook$Shelf", name := "hasRoom", desc := "(II)Z" } : Jvm.MethodName)) ∈ uW := uW_of 1042 (by decide +kernel) (by decide +kernel)
theorem d_Book_add_67 : decode prog_1_method_4_code 67 = .ok (.ifCond .ne 13, 3) := by decide +kernel
theorem d_Book_add_80 : decode prog_1_method_4_code 80 = .ok (.aload_n 0, 1) := by decide +kernel
theorem d_Book_add_81 : decode prog_1_method_4_code 81 = .ok (.getfield 70, 3) := by decide +kernel
theorem d_Book_add_84 : decode prog_1_method_4_code 84 = .ok (.iload_n 3, 1) := by decide +kernel
theorem d_Book_add_85 : decode prog_1_method_4_code 85 = .ok (.invokevirtual 126, 3) := by decide +kernel
theorem k_466 : (Jvm.Cond.methodLink "PackageBook" (126 : Nat) ({ cls := "PackageBook$Shelf", name := "takeOut", desc := "(I)V" } : Jvm.MethodName)) ∈ uW := uW_of 466 (by decide +kernel) (by decide +kernel)
theorem k_469 : (Jvm.Cond.code ({ cls := "PackageBook$Shelf", name := "takeOut", desc := "(I)V" } : Jvm.MethodName) prog_10_method_8_code (5 : Nat) (Option.none : Option Jvm.ClassFile.FieldType)) ∈ uW := uW_of 469 (by decide +kernel) (by decide +kernel)
theorem k_467 : (Jvm.Cond.instanceMethod ({ cls := "PackageBook$Shelf", name := "takeOut", desc := "(I)V" } : Jvm.MethodName)) ∈ uW := uW_of 467 (by decide +kernel) (by decide +kernel)
theorem k_468 : (Jvm.Cond.selects "PackageBook$Shelf" ({ cls := "PackageBook$Shelf", name := "takeOut", desc := "(I)V" } : Jvm.MethodName) ({ cls := "PackageBook$Shelf", name := "takeOut", desc := "(I)V" } : Jvm.MethodName)) ∈ uW := uW_of 468 (by decide +kernel) (by decide +kernel)
theorem hy_Shelf_takeOut : (y_Shelf_takeOut).cls ≠ "java/lang/invoke/MethodHandle" ∧ (y_Shelf_takeOut).cls ≠ "java/lang/invoke/VarHandle" ∧ (parseMethodDescriptor (y_Shelf_takeOut).desc).map (fun d => d.parameters.length) = some 1 := by decide +kernel
theorem d_Book_add_88 : decode prog_1_method_4_code 88 = .ok (.aload_n 0, 1) := by decide +kernel
theorem d_Book_add_89 : decode prog_1_method_4_code 89 = .ok (.getfield 70, 3) := by decide +kernel
theorem d_Book_add_92 : decode prog_1_method_4_code 92 = .ok (.aload_n 0, 1) := by decide +kernel
theorem d_Book_add_93 : decode prog_1_method_4_code 93 = .ok (.getfield 14, 3) := by decide +kernel
theorem d_Book_add_96 : decode prog_1_method_4_code 96 = .ok (.getfield 98, 3) := by decide +kernel
theorem d_Book_add_99 : decode prog_1_method_4_code 99 = .ok (.iconst 0, 1) := by decide +kernel
theorem d_Book_add_100 : decode prog_1_method_4_code 100 = .ok (.iload_n 1, 1) := by decide +kernel
theorem d_Book_add_101 : decode prog_1_method_4_code 101 = .ok (.aload_n 0, 1) := by decide +kernel
theorem d_Book_add_102 : decode prog_1_method_4_code 102 = .ok (.getfield 14, 3) := by decide +kernel
theorem d_Book_add_105 : decode prog_1_method_4_code 105 = .ok (.getfield 98, 3) := by decide +kernel
theorem d_Book_add_108 : decode prog_1_method_4_code 108 = .ok (.iload_n 1, 1) := by decide +kernel
theorem d_Book_add_109 : decode prog_1_method_4_code 109 = .ok (.iload_n 2, 1) := by decide +kernel
theorem d_Book_add_110 : decode prog_1_method_4_code 110 = .ok (.iload_n 1, 1) := by decide +kernel
theorem d_Book_add_111 : decode prog_1_method_4_code 111 = .ok (.isub, 1) := by decide +kernel
theorem d_Book_add_112 : decode prog_1_method_4_code 112 = .ok (.invokevirtual 129, 3) := by decide +kernel
theorem k_1044 : (Jvm.Cond.methodLink "PackageBook" (129 : Nat) ({ cls := "PackageBook$Shelf", name := "bringIn", desc := "([BII[BII)V" } : Jvm.MethodName)) ∈ uW := uW_of 1044 (by decide +kernel) (by decide +kernel)
theorem d_Book_add_115 : decode prog_1_method_4_code 115 = .ok (.aload_n 0, 1) := by decide +kernel
theorem d_Book_add_116 : decode prog_1_method_4_code 116 = .ok (.getfield 70, 3) := by decide +kernel
theorem d_Book_add_119 : decode prog_1_method_4_code 119 = .ok (.getfield 133, 3) := by decide +kernel
theorem k_405 : (Jvm.Cond.fieldLinkNest "PackageBook" (133 : Nat) "PackageBook$Shelf" "count" "I" "PackageBook") ∈ uN := uN_of 405 (by decide +kernel) (by decide +kernel)
theorem d_Book_add_122 : decode prog_1_method_4_code 122 = .ok (.ireturn, 1) := by decide +kernel
theorem d_Book_add_70 : decode prog_1_method_4_code 70 = .ok (.new 88, 3) := by decide +kernel
theorem d_Book_add_73 : decode prog_1_method_4_code 73 = .ok (.dup, 1) := by decide +kernel
theorem d_Book_add_74 : decode prog_1_method_4_code 74 = .ok (.ldc 124, 2) := by decide +kernel
theorem d_Book_add_76 : decode prog_1_method_4_code 76 = .ok (.invokespecial 92, 3) := by decide +kernel
theorem d_Book_add_79 : decode prog_1_method_4_code 79 = .ok (.athrow, 1) := by decide +kernel
abbrev y_Book_add : MethodName := ⟨"PackageBook", "add", "(I)I"⟩
abbrev i_Book_add : pb_I := (y_Book_add, prog_1_method_4_code, 4, (some Jvm.ClassFile.FieldType.int), [], { frames := 6, cells := 1, slots := 6, locals := 90 })
set_option maxRecDepth 100000 in
set_option maxHeartbeats 4000000 in
theorem g_Book_add {l : Launch} (hl : l.stackTraces = false) (G : pb_G) (h : Nat) (ta : Nat) (ca : Nat) (ps : Nat) (xe : Nat) (mk : Nat) (rd : Nat) (mu : Nat) (fi : Nat) (go : Nat) (sp : Nat) (ss : Nat) (tab : Nat) (taf : Nat → Int32) (tas : Int32) (tn : Nat) (tz : Nat) (tb : Nat) (tg : Nat) (c : Int32) (tfn : Nat → Int32) (tfz : Nat → Int32) (tfb : Nat → Int32) (tfg : Nat → Int32) (n : Int32) (V : VW_) (t0 : 0 ≤ tas.toInt) (t1 : tas.toInt ≤ 8000) (I : sh_I c.toInt tfz tfg) (R : rC_ c.toInt tfn tfz tfb tfg V) (hsV : srt_ V) (F_taf : sb_Fit taf) (F_tfn : sb_Fit tfn) (F_tfb : sb_Fit tfb) : Cx l G i_Book_add [.ref h, .int n] [(h, .inr (9, [.ref ta, .ref ca, .ref ps, .ref xe, .ref mk, .ref rd, .ref mu, .ref fi, .ref go, .ref sp, .ref ss])), (ta, .inr (0, [.ref tab, .int tas])), (tab, .inl (G.2.1, 8000, .inl taf)), (sp, .inr (3, [.ref tn, .ref tz, .ref tb, .ref tg, .int c])), (tn, .inl (G.2.1, 384, .inl tfn)), (tz, .inl (G.2.2.1, 16, .inl tfz)), (tb, .inl (G.2.1, 12000, .inl tfb)), (tg, .inl (G.2.2.1, 17, .inl tfg))] (S := Int32 × Int32 × (Nat → Int32) × (Nat → Int32) × (Nat → Int32) × (Nat → Int32)) (SX := Unit) (fun rv_ u => rv_ = some (.int u.1) ∧ (sh_I u.2.1.toInt u.2.2.2.1 u.2.2.2.2.2) ∧ (0 ≤ n.toInt ∧ n.toInt ≤ tas.toInt ∧ iA_ (gx taf) 0 n.toInt) ∧ (RM_ V (gx taf) n.toInt (tas.toInt - n.toInt) ∧ hid_ (∃ W : VW_, AD_ V (gx taf) n.toInt (tas.toInt - n.toInt) (fun k => gr taf (n.toInt + k)) W ∧ rC_ u.2.1.toInt u.2.2.1 u.2.2.2.1 u.2.2.2.2.1 u.2.2.2.2.2 W ∧ u.1.toInt = vC W)) ∧ (sb_Fit u.2.2.1) ∧ (sb_Fit u.2.2.2.2.1)) (fun u => [(h, .inr (9, [.ref ta, .ref ca, .ref ps, .ref xe, .ref mk, .ref rd, .ref mu, .ref fi, .ref go, .ref sp, .ref ss])), (ta, .inr (0, [.ref tab, .int 0])), (tab, .inl (G.2.1, 8000, .inl taf)), (sp, .inr (3, [.ref tn, .ref tz, .ref tb, .ref tg, .int u.2.1])), (tn, .inl (G.2.1, 384, .inl u.2.2.1)), (tz, .inl (G.2.2.1, 16, .inl u.2.2.2.1)), (tb, .inl (G.2.1, 12000, .inl u.2.2.2.2.1)), (tg, .inl (G.2.2.1, 17, .inl u.2.2.2.2.2))]) (fun E u => (E = "java/lang/IllegalArgumentException" ∧ (¬ (0 ≤ n.toInt ∧ n.toInt ≤ tas.toInt ∧ iA_ (gx taf) 0 n.toInt))) ∨ (E = "java/lang/UnsupportedOperationException" ∧ (0 ≤ n.toInt ∧ n.toInt ≤ tas.toInt ∧ iA_ (gx taf) 0 n.toInt) ∧ (¬ RM_ V (gx taf) n.toInt (tas.toInt - n.toInt)))) (fun u => [(h, .inr (9, [.ref ta, .ref ca, .ref ps, .ref xe, .ref mk, .ref rd, .ref mu, .ref fi, .ref go, .ref sp, .ref ss])), (ta, .inr (0, [.ref tab, .int 0])), (tab, .inl (G.2.1, 8000, .inl taf)), (sp, .inr (3, [.ref tn, .ref tz, .ref tb, .ref tg, .int c])), (tn, .inl (G.2.1, 384, .inl tfn)), (tz, .inl (G.2.2.1, 16, .inl tfz)), (tb, .inl (G.2.1, 12000, .inl tfb)), (tg, .inl (G.2.2.1, 17, .inl tfg))]) := by
  refine Cx.of hl (by decide +kernel) rfl (Nat.le_of_ble_eq_true rfl) (fun M hQ => ?_)
  refine pb_eq (pc' := 0) (lo' := [(0, .ref h), (1, .int n)]) (rest' := []) (ws' := [(h, .inr (9, [.ref ta, .ref ca, .ref ps, .ref xe, .ref mk, .ref rd, .ref mu, .ref fi, .ref go, .ref sp, .ref ss])), (ta, .inr (0, [.ref tab, .int tas])), (tab, .inl (G.2.1, 8000, .inl taf)), (sp, .inr (3, [.ref tn, .ref tz, .ref tb, .ref tg, .int c])), (tn, .inl (G.2.1, 384, .inl tfn)), (tz, .inl (G.2.2.1, 16, .inl tfz)), (tb, .inl (G.2.1, 12000, .inl tfb)), (tg, .inl (G.2.2.1, 17, .inl tfg))]) ?_
  have zl0 : (0 : Int32).toInt = 0 := by decide
  have zl1 : (1 : Int32).toInt = 1 := by decide
  have p1 := I.1
  have p2_ := I.2.1
  refine pb_aload_n (pc := 0) d_Book_add_0 0 rfl rfl ?_
  refine pb_callV (pc := 1) (I := i_Book_add) (qb := 0) (ci := 9) (nA := 0) (rest := []) (wr := [(tab, .inl (G.2.1, 8000, .inl taf)), (sp, .inr (3, [.ref tn, .ref tz, .ref tb, .ref tg, .int c])), (tn, .inl (G.2.1, 384, .inl tfn)), (tz, .inl (G.2.2.1, 16, .inl tfz)), (tb, .inl (G.2.1, 12000, .inl tfb)), (tg, .inl (G.2.2.1, 17, .inl tfg))]) d_Book_add_1 (g_Book_takeTape hl G h ta ca ps xe mk rd mu fi go sp ss tab tas) rfl rfl [0, 1] [2, 3, 4, 5, 6, 7] (by decide) rfl rfl rfl (by decide) (by decide) k_458 rfl k_118 k_455 k_457 k_0 ⟨rfl, hy_Book_takeTape⟩ (by decide) rfl rfl (Nat.le_of_ble_eq_true rfl) (by decide) (fun v9 ux2 ch1 => ?_)
  have ech1 := ch1
  have ech1 : v9 = some (.int tas) := ech1
  subst ech1
  refine pb_eq (pc' := 4) (lo' := [(0, .ref h), (1, .int n)]) (rest' := [.int tas]) (ws' := [(tab, .inl (G.2.1, 8000, .inl taf)), (sp, .inr (3, [.ref tn, .ref tz, .ref tb, .ref tg, .int c])), (tn, .inl (G.2.1, 384, .inl tfn)), (tz, .inl (G.2.2.1, 16, .inl tfz)), (tb, .inl (G.2.1, 12000, .inl tfb)), (tg, .inl (G.2.2.1, 17, .inl tfg)), (h, .inr (9, [.ref ta, .ref ca, .ref ps, .ref xe, .ref mk, .ref rd, .ref mu, .ref fi, .ref go, .ref sp, .ref ss])), (ta, .inr (0, [.ref tab, .int 0]))]) ?_
  refine pb_istore_n (pc := 4) (lo' := [(2, .int tas), (0, .ref h), (1, .int n)]) d_Book_add_4 rfl (by decide) rfl ?_
  refine pb_iload_n (pc := 5) d_Book_add_5 2 rfl rfl ?_
  refine pb_if_lt (pc := 6) (tgt := 29) d_Book_add_6 (by decide) (fun wx3 => ?_) (fun wx3 => ?_)
  · have twx3 : n.toInt < 0 := (ti_lt rfl (by decide)).mp wx3
    exact pb_throwS (pc := 29) (cls := "java/lang/IllegalArgumentException") (text := "the tape does not begin with such a name") (names := ["java/lang/RuntimeException", "java/lang/Exception"]) hQ d_Book_add_29 d_Book_add_32 d_Book_add_33 d_Book_add_35 d_Book_add_38 (by decide +kernel) (by decide +kernel) tx_Book_77_81 (by decide +kernel) (by decide) (Nat.le_of_ble_eq_true rfl) (by decide) (by decide) () (Or.inl ⟨rfl, (show ¬ (0 ≤ n.toInt ∧ n.toInt ≤ tas.toInt ∧ iA_ (gx taf) 0 n.toInt) from (by first | exact fun q9 => hid_o nF0 (by omega) q9.2.2 | exact fun q9 => (by have q8 := q9.1; have q7 := q9.2.1; omega)))⟩) [6, 7, 0, 1, 2, 3, 4, 5] (by decide) rfl rfl
  · have twx3 : ¬ n.toInt < 0 := fun z9 => wx3 ((ti_lt rfl (by decide)).mpr z9)
    refine pb_iload_n (pc := 9) d_Book_add_9 2 rfl rfl ?_
    refine pb_iload_n (pc := 10) d_Book_add_10 0 rfl rfl ?_
    refine pb_icmp_gt (pc := 11) (tgt := 29) d_Book_add_11 (by decide) (fun wx4 => ?_) (fun wx4 => ?_)
    · have twx4 : tas.toInt < n.toInt := (ti_lt rfl rfl).mp wx4
      exact pb_throwS (pc := 29) (cls := "java/lang/IllegalArgumentException") (text := "the tape does not begin with such a name") (names := ["java/lang/RuntimeException", "java/lang/Exception"]) hQ d_Book_add_29 d_Book_add_32 d_Book_add_33 d_Book_add_35 d_Book_add_38 (by decide +kernel) (by decide +kernel) tx_Book_77_81 (by decide +kernel) (by decide) (Nat.le_of_ble_eq_true rfl) (by decide) (by decide) () (Or.inl ⟨rfl, (show ¬ (0 ≤ n.toInt ∧ n.toInt ≤ tas.toInt ∧ iA_ (gx taf) 0 n.toInt) from (by first | exact fun q9 => hid_o nF0 (by omega) q9.2.2 | exact fun q9 => (by have q8 := q9.1; have q7 := q9.2.1; omega)))⟩) [6, 7, 0, 1, 2, 3, 4, 5] (by decide) rfl rfl
    · have twx4 : ¬ tas.toInt < n.toInt := fun z9 => wx4 ((ti_lt rfl rfl).mpr z9)
      refine pb_aload_n (pc := 14) d_Book_add_14 1 rfl rfl ?_
      refine pb_get (pc := 15) d_Book_add_15 6 0 rfl rfl (by decide) in_Book k_417 rfl ?_
      refine pb_getN (pc := 18) d_Book_add_18 7 0 rfl rfl (by decide) in_Row k_157 rfl ?_
      refine pb_iconst (pc := 21) (v := 0) d_Book_add_21 (by decide) ?_
      refine pb_iload_n (pc := 22) d_Book_add_22 2 rfl rfl ?_
      refine pb_callS (pc := 23) (I := i_Book_add) (nA := 3) (rest := []) (wr := [(sp, .inr (3, [.ref tn, .ref tz, .ref tb, .ref tg, .int c])), (tn, .inl (G.2.1, 384, .inl tfn)), (tz, .inl (G.2.2.1, 16, .inl tfz)), (tb, .inl (G.2.1, 12000, .inl tfb)), (tg, .inl (G.2.2.1, 17, .inl tfg)), (h, .inr (9, [.ref ta, .ref ca, .ref ps, .ref xe, .ref mk, .ref rd, .ref mu, .ref fi, .ref go, .ref sp, .ref ss])), (ta, .inr (0, [.ref tab, .int 0]))]) d_Book_add_23 (g_isName hl G tab 8000 taf 0 n (by first | (with_reducible assumption) | omega (splitDisjunctions := false) | assumption | omega | decide) (by first | (with_reducible assumption) | omega (splitDisjunctions := false) | assumption | omega | decide) (by first | (with_reducible assumption) | omega (splitDisjunctions := false) | assumption | omega | decide) (by first | (with_reducible assumption) | omega (splitDisjunctions := false) | assumption | omega | decide) F_taf) [0] [1, 2, 3, 4, 5, 6, 7] (by decide) rfl rfl rfl (by decide) (by decide) k_622 rfl k_118 k_1040 k_621 hy_Book_isName (by decide) rfl rfl (Nat.le_of_ble_eq_true rfl) (by decide) (fun v9 ux6 ch5 => ?_)
      obtain ⟨r_7, rfl⟩ : ∃ z9, z9 = ux6 := ⟨_, rfl⟩
      obtain ⟨ech5, ch5⟩ := ch5
      have ech5 : v9 = some (.int r_7) := ech5
      subst ech5
      obtain ⟨fh8, fh9, fh10, fh11⟩ : (r_7.toInt = 0 ∨ r_7.toInt = 1) ∧ (r_7.toInt = 1 → 1 ≤ n.toInt ∧ n.toInt ≤ 24) ∧ (r_7.toInt = 1 → iA_ (gx taf) (0 : Int32).toInt n.toInt) ∧ (r_7.toInt = 0 → ¬ iA_ (gx taf) (0 : Int32).toInt n.toInt) := ch5
      have nF1 := hid_i fh10
      have nF0 := hid_i fh11
      have nFn := hid_i fh9
      have nFb := fh8
      clear fh8 fh9 fh10 fh11
      rw [zl0] at nF1 nF0
      refine pb_eq (pc' := 26) (lo' := [(2, .int tas), (0, .ref h), (1, .int n)]) (rest' := [.int r_7]) (ws' := [(sp, .inr (3, [.ref tn, .ref tz, .ref tb, .ref tg, .int c])), (tn, .inl (G.2.1, 384, .inl tfn)), (tz, .inl (G.2.2.1, 16, .inl tfz)), (tb, .inl (G.2.1, 12000, .inl tfb)), (tg, .inl (G.2.2.1, 17, .inl tfg)), (h, .inr (9, [.ref ta, .ref ca, .ref ps, .ref xe, .ref mk, .ref rd, .ref mu, .ref fi, .ref go, .ref sp, .ref ss])), (ta, .inr (0, [.ref tab, .int 0])), (tab, .inl (G.2.1, 8000, .inl taf))]) ?_
      refine pb_if_ne (pc := 26) (tgt := 39) d_Book_add_26 (by decide) (fun wx12 => ?_) (fun wx12 => ?_)
      · have twx12 : ¬ r_7.toInt = 0 := fun z9 => wx12 ((ti_eq rfl (by decide)).mpr z9)
        rename ¬ (_ : Int) = 0 => zq
        have nFm := hid_o nFn (by omega)
        have nmA := hid_o nF1 (by omega)
        clear zq nFb nF1 nF0 nFn
        refine pb_aload_n (pc := 39) d_Book_add_39 1 rfl rfl ?_
        refine pb_get (pc := 40) d_Book_add_40 5 9 rfl rfl (by decide) in_Book k_426 rfl ?_
        refine pb_aload_n (pc := 43) d_Book_add_43 1 rfl rfl ?_
        refine pb_get (pc := 44) d_Book_add_44 5 0 rfl rfl (by decide) in_Book k_417 rfl ?_
        refine pb_getN (pc := 47) d_Book_add_47 6 0 rfl rfl (by decide) in_Row k_157 rfl ?_
        refine pb_iconst (pc := 50) (v := 0) d_Book_add_50 (by decide) ?_
        refine pb_iload_n (pc := 51) d_Book_add_51 2 rfl rfl ?_
        refine pb_callV (pc := 52) (I := i_Book_add) (qb := 0) (ci := 3) (nA := 3) (rest := []) (wr := [(tb, .inl (G.2.1, 12000, .inl tfb)), (tg, .inl (G.2.2.1, 17, .inl tfg)), (h, .inr (9, [.ref ta, .ref ca, .ref ps, .ref xe, .ref mk, .ref rd, .ref mu, .ref fi, .ref go, .ref sp, .ref ss])), (ta, .inr (0, [.ref tab, .int 0]))]) d_Book_add_52 (g_Shelf_find hl G sp tn tz tb tg c tfn tfz tab 8000 taf tfg 0 n V (rC_N R) (by first | assumption | decide | omega) (by first | (with_reducible assumption) | omega (splitDisjunctions := false) | assumption | omega | decide) (by first | (with_reducible assumption) | omega (splitDisjunctions := false) | assumption | omega | decide) (by first | (with_reducible assumption) | omega (splitDisjunctions := false) | assumption | omega | decide) F_tfn F_taf) rfl rfl [0, 1, 2, 7] [3, 4, 5, 6] (by decide) rfl rfl rfl (by decide) (by decide) k_462 rfl k_127 k_459 k_460 k_461 ⟨rfl, hy_Shelf_find⟩ (by decide) rfl rfl (Nat.le_of_ble_eq_true rfl) (by decide) (fun v9 ux14 ch13 => ?_)
        obtain ⟨r_15, rfl⟩ : ∃ z9, z9 = ux14 := ⟨_, rfl⟩
        obtain ⟨ech13, ch13⟩ := ch13
        have ech13 : v9 = some (.int r_15) := ech13
        subst ech13
        obtain ⟨fh16, fh17, fh18⟩ : (-1 ≤ r_15.toInt) ∧ (r_15.toInt < c.toInt) ∧ (isF_ V n.toInt (fun k => gx taf ((0 : Int32).toInt + k)) r_15.toInt) := ch13
        have fdF := isF_cg fh18 (fun k k0 k1 => by show gx taf ((0 : Int32).toInt + k) = gx taf k; rw [zl0, Int.zero_add])
        refine pb_eq (pc' := 55) (lo' := [(2, .int tas), (0, .ref h), (1, .int n)]) (rest' := [.int r_15]) (ws' := [(tb, .inl (G.2.1, 12000, .inl tfb)), (tg, .inl (G.2.2.1, 17, .inl tfg)), (h, .inr (9, [.ref ta, .ref ca, .ref ps, .ref xe, .ref mk, .ref rd, .ref mu, .ref fi, .ref go, .ref sp, .ref ss])), (ta, .inr (0, [.ref tab, .int 0])), (sp, .inr (3, [.ref tn, .ref tz, .ref tb, .ref tg, .int c])), (tn, .inl (G.2.1, 384, .inl tfn)), (tz, .inl (G.2.2.1, 16, .inl tfz)), (tab, .inl (G.2.1, 8000, .inl taf))]) ?_
        refine pb_istore_n (pc := 55) (lo' := [(3, .int r_15), (2, .int tas), (0, .ref h), (1, .int n)]) d_Book_add_55 rfl (by decide) rfl ?_
        refine pb_aload_n (pc := 56) d_Book_add_56 2 rfl rfl ?_
        refine pb_get (pc := 57) d_Book_add_57 2 9 rfl rfl (by decide) in_Book k_426 rfl ?_
        refine pb_iload_n (pc := 60) d_Book_add_60 0 rfl rfl ?_
        refine pb_iload_n (pc := 61) d_Book_add_61 1 rfl rfl ?_
        refine pb_iload_n (pc := 62) d_Book_add_62 3 rfl rfl ?_
        refine pb_isub (pc := 63) d_Book_add_63 ?_
        refine pb_topi (fun ix19 eix19 => ?_)
        try have tix19 : ix19.toInt = tas.toInt - n.toInt := t2_sub eix19 rfl rfl (by omega)
        refine pb_callV (pc := 64) (I := i_Book_add) (qb := 4) (ci := 3) (nA := 2) (rest := []) (wr := [(tb, .inl (G.2.1, 12000, .inl tfb)), (h, .inr (9, [.ref ta, .ref ca, .ref ps, .ref xe, .ref mk, .ref rd, .ref mu, .ref fi, .ref go, .ref sp, .ref ss])), (ta, .inr (0, [.ref tab, .int 0])), (tn, .inl (G.2.1, 384, .inl tfn)), (tz, .inl (G.2.2.1, 16, .inl tfz)), (tab, .inl (G.2.1, 8000, .inl taf))]) d_Book_add_64 (g_Shelf_hasRoom hl G sp tn tz tb tg c tfz tfg r_15 ix19 (by first | assumption | decide | omega) (by first | (with_reducible assumption) | omega (splitDisjunctions := false) | assumption | omega | decide)) rfl rfl [4, 1] [0, 2, 3, 5, 6, 7] (by decide) rfl rfl rfl (by decide) (by decide) k_696 rfl k_127 k_1042 k_694 k_695 ⟨rfl, hy_Shelf_hasRoom⟩ (by decide) rfl rfl (Nat.le_of_ble_eq_true rfl) (by decide) (fun v9 ux21 ch20 => ?_)
        obtain ⟨r_22, rfl⟩ : ∃ z9, z9 = ux21 := ⟨_, rfl⟩
        obtain ⟨ech20, ch20⟩ := ch20
        have ech20 : v9 = some (.int r_22) := ech20
        subst ech20
        obtain ⟨fh23, fh24, fh25⟩ : (r_22.toInt = 0 ∨ r_22.toInt = 1) ∧ (r_22.toInt = 1 → ix19.toInt ≤ 4000 ∧ ((0 ≤ r_15.toInt ∧ r_15.toInt < c.toInt ∧ gx tfg c.toInt - (gx tfg (r_15.toInt + 1) - gx tfg r_15.toInt) + ix19.toInt ≤ 12000) ∨ (¬ (0 ≤ r_15.toInt ∧ r_15.toInt < c.toInt) ∧ c.toInt < 16 ∧ gx tfg c.toInt + ix19.toInt ≤ 12000))) ∧ (r_22.toInt = 0 → ¬ (ix19.toInt ≤ 4000 ∧ ((0 ≤ r_15.toInt ∧ r_15.toInt < c.toInt ∧ gx tfg c.toInt - (gx tfg (r_15.toInt + 1) - gx tfg r_15.toInt) + ix19.toInt ≤ 12000) ∨ (¬ (0 ≤ r_15.toInt ∧ r_15.toInt < c.toInt) ∧ c.toInt < 16 ∧ gx tfg c.toInt + ix19.toInt ≤ 12000)))) := ch20
        have rm1 := hid_i fh24
        have rn1 := hid_i fh25
        have rmb := fh23
        clear fh23 fh24 fh25
        rw [show ix19.toInt = tas.toInt - n.toInt by omega] at rm1 rn1
        have rmE := hid_i (RM_C (m := tas.toInt - n.toInt) R I hsV fdF)
        refine pb_eq (pc' := 67) (lo' := [(3, .int r_15), (2, .int tas), (0, .ref h), (1, .int n)]) (rest' := [.int r_22]) (ws' := [(tb, .inl (G.2.1, 12000, .inl tfb)), (h, .inr (9, [.ref ta, .ref ca, .ref ps, .ref xe, .ref mk, .ref rd, .ref mu, .ref fi, .ref go, .ref sp, .ref ss])), (ta, .inr (0, [.ref tab, .int 0])), (tn, .inl (G.2.1, 384, .inl tfn)), (tz, .inl (G.2.2.1, 16, .inl tfz)), (tab, .inl (G.2.1, 8000, .inl taf)), (sp, .inr (3, [.ref tn, .ref tz, .ref tb, .ref tg, .int c])), (tg, .inl (G.2.2.1, 17, .inl tfg))]) ?_
        refine pb_if_ne (pc := 67) (tgt := 80) d_Book_add_67 (by decide) (fun wx26 => ?_) (fun wx26 => ?_)
        · have twx26 : ¬ r_22.toInt = 0 := fun z9 => wx26 ((ti_eq rfl (by decide)).mpr z9)
          rename ¬ (_ : Int) = 0 => zq
          have rm2 := hid_o rm1 (by omega)
          clear zq rmb rm1 rn1
          refine pb_aload_n (pc := 80) d_Book_add_80 2 rfl rfl ?_
          refine pb_get (pc := 81) d_Book_add_81 1 9 rfl rfl (by decide) in_Book k_426 rfl ?_
          refine pb_iload_n (pc := 84) d_Book_add_84 0 rfl rfl ?_
          refine pb_callV (pc := 85) (I := i_Book_add) (qb := 6) (ci := 3) (nA := 1) (rest := []) (wr := [(h, .inr (9, [.ref ta, .ref ca, .ref ps, .ref xe, .ref mk, .ref rd, .ref mu, .ref fi, .ref go, .ref sp, .ref ss])), (ta, .inr (0, [.ref tab, .int 0])), (tab, .inl (G.2.1, 8000, .inl taf))]) d_Book_add_85 (g_Shelf_takeOut hl G sp tn tz tb tg c tfn tfz tfb tfg r_15 V (by first | assumption | decide | omega) (by first | (with_reducible assumption) | omega (splitDisjunctions := false) | assumption | omega | decide) F_tfn F_tfb) rfl rfl [6, 3, 4, 0, 7] [1, 2, 5] (by decide) rfl rfl rfl (by decide) (by decide) k_469 rfl k_127 k_466 k_467 k_468 ⟨rfl, hy_Shelf_takeOut⟩ (by decide) rfl rfl (Nat.le_of_ble_eq_true rfl) (by decide) (fun v9 ux28 ch27 => ?_)
          obtain ⟨c_29, fn_30, fz_31, fb_32, fg_33⟩ := ux28
          obtain ⟨ech27, ch27⟩ := ch27
          have ech27 : v9 = none := ech27
          subst ech27
          obtain ⟨fh34, fh35, fh36, fh37, fh38⟩ : (sh_I c_29.toInt fz_31 fg_33) ∧ ((0 ≤ r_15.toInt ∧ r_15.toInt < c.toInt ∧ c_29.toInt = c.toInt - 1 ∧ gx fg_33 c_29.toInt = gx tfg c.toInt - (gx tfg (r_15.toInt + 1) - gx tfg r_15.toInt)) ∨ (¬ (0 ≤ r_15.toInt ∧ r_15.toInt < c.toInt) ∧ c_29.toInt = c.toInt ∧ gx fg_33 c_29.toInt = gx tfg c.toInt)) ∧ ((0 ≤ r_15.toInt ∧ r_15.toInt < c.toInt → rC_ c_29.toInt fn_30 fz_31 fb_32 fg_33 (vou_ V r_15.toInt)) ∧ (¬ (0 ≤ r_15.toInt ∧ r_15.toInt < c.toInt) → rC_ c_29.toInt fn_30 fz_31 fb_32 fg_33 V)) ∧ (sb_Fit fn_30) ∧ (sb_Fit fb_32) := ch27
          have I2 := fh34
          have toF := hid_i fh36
          clear fh36
          have rm3 := hid_i rm2
          have tk9 : c_29.toInt < 16 ∧ gx fg_33 c_29.toInt + (tas.toInt - n.toInt) ≤ 12000 ∧ tas.toInt - n.toInt ≤ 4000 := by omega
          clear rm2 fh35
          obtain ⟨W1, hW1, rW1⟩ : ∃ W1 : VW_, hid_ (0 ≤ r_15.toInt ∧ W1 = vou_ V r_15.toInt ∨ r_15.toInt = -1 ∧ W1 = V) ∧ rC_ c_29.toInt fn_30 fz_31 fb_32 fg_33 W1 := by
            have q5 := R.1
            rcases fdF with ⟨q0, q1, q2⟩ | ⟨q0, q1⟩
            · exact ⟨_, hid_i (Or.inl ⟨q0, rfl⟩), (hid_o toF).1 ⟨q0, by omega⟩⟩
            · exact ⟨V, hid_i (Or.inr ⟨q0, rfl⟩), (hid_o toF).2 (by omega)⟩
          refine pb_eq (pc' := 88) (lo' := [(3, .int r_15), (2, .int tas), (0, .ref h), (1, .int n)]) (rest' := []) (ws' := [(h, .inr (9, [.ref ta, .ref ca, .ref ps, .ref xe, .ref mk, .ref rd, .ref mu, .ref fi, .ref go, .ref sp, .ref ss])), (ta, .inr (0, [.ref tab, .int 0])), (tab, .inl (G.2.1, 8000, .inl taf)), (sp, .inr (3, [.ref tn, .ref tz, .ref tb, .ref tg, .int c_29])), (tn, .inl (G.2.1, 384, .inl fn_30)), (tz, .inl (G.2.2.1, 16, .inl fz_31)), (tb, .inl (G.2.1, 12000, .inl fb_32)), (tg, .inl (G.2.2.1, 17, .inl fg_33))]) ?_
          refine pb_aload_n (pc := 88) d_Book_add_88 2 rfl rfl ?_
          refine pb_get (pc := 89) d_Book_add_89 0 9 rfl rfl (by decide) in_Book k_426 rfl ?_
          refine pb_aload_n (pc := 92) d_Book_add_92 2 rfl rfl ?_
          refine pb_get (pc := 93) d_Book_add_93 0 0 rfl rfl (by decide) in_Book k_417 rfl ?_
          refine pb_getN (pc := 96) d_Book_add_96 1 0 rfl rfl (by decide) in_Row k_157 rfl ?_
          refine pb_iconst (pc := 99) (v := 0) d_Book_add_99 (by decide) ?_
          refine pb_iload_n (pc := 100) d_Book_add_100 3 rfl rfl ?_
          refine pb_aload_n (pc := 101) d_Book_add_101 2 rfl rfl ?_
          refine pb_get (pc := 102) d_Book_add_102 0 0 rfl rfl (by decide) in_Book k_417 rfl ?_
          refine pb_getN (pc := 105) d_Book_add_105 1 0 rfl rfl (by decide) in_Row k_157 rfl ?_
          refine pb_iload_n (pc := 108) d_Book_add_108 3 rfl rfl ?_
          refine pb_iload_n (pc := 109) d_Book_add_109 1 rfl rfl ?_
          refine pb_iload_n (pc := 110) d_Book_add_110 3 rfl rfl ?_
          refine pb_isub (pc := 111) d_Book_add_111 ?_
          refine pb_topi (fun ix39 eix39 => ?_)
          try have tix39 : ix39.toInt = tas.toInt - n.toInt := t2_sub eix39 rfl rfl (by omega)
          refine pb_callV (pc := 112) (I := i_Book_add) (qb := 3) (ci := 3) (nA := 6) (rest := []) (wr := [(h, .inr (9, [.ref ta, .ref ca, .ref ps, .ref xe, .ref mk, .ref rd, .ref mu, .ref fi, .ref go, .ref sp, .ref ss])), (ta, .inr (0, [.ref tab, .int 0]))]) d_Book_add_112 (g_Shelf_bringIn1 hl G sp tn tz tb tg c_29 fn_30 fz_31 fb_32 fg_33 tab 8000 taf 0 n n ix39 W1 rW1 (by first | assumption | decide | omega) (by first | (with_reducible assumption) | omega (splitDisjunctions := false) | assumption | omega | decide) (by first | (with_reducible assumption) | omega (splitDisjunctions := false) | assumption | omega | decide) (by first | (with_reducible assumption) | omega (splitDisjunctions := false) | assumption | omega | decide) (by first | (with_reducible assumption) | omega (splitDisjunctions := false) | assumption | omega | decide) (by first | (with_reducible assumption) | omega (splitDisjunctions := false) | assumption | omega | decide) (by first | (with_reducible assumption) | omega (splitDisjunctions := false) | assumption | omega | decide) (by first | (with_reducible assumption) | omega (splitDisjunctions := false) | assumption | omega | decide) (by first | (with_reducible assumption) | omega (splitDisjunctions := false) | assumption | omega | decide) (by first | (with_reducible assumption) | omega (splitDisjunctions := false) | assumption | omega | decide) (by first | (with_reducible assumption) | omega (splitDisjunctions := false) | assumption | omega | decide) (by first | (with_reducible assumption) | omega (splitDisjunctions := false) | assumption | omega | decide) (by first | (with_reducible assumption) | omega (splitDisjunctions := false) | assumption | omega | decide) fh37 fh38 F_taf) rfl rfl [3, 4, 5, 6, 7, 2] [0, 1] (by decide) rfl rfl rfl (by decide) (by decide) k_700 rfl k_127 k_1044 k_698 k_699 ⟨rfl, hy_Shelf_bringIn⟩ (by decide) rfl rfl (Nat.le_of_ble_eq_true rfl) (by decide) (fun v9 ux41 ch40 => ?_)
          obtain ⟨c_42, fn_43, fz_44, fb_45, fg_46⟩ := ux41
          obtain ⟨ech40, ch40⟩ := ch40
          have ech40 : v9 = none := ech40
          subst ech40
          obtain ⟨fh47, fh48, fh49, fh50, fh51, fh52⟩ : (sh_I c_42.toInt fz_44 fg_46) ∧ (c_42.toInt = c_29.toInt + 1) ∧ (gx fg_46 c_42.toInt = gx fg_33 c_29.toInt + ix39.toInt) ∧ (hid_ (∃ r : Int, 0 ≤ r ∧ r ≤ c_29.toInt ∧ (∀ j : Int, 0 ≤ j → j < r → lx_ (vN W1 j) (vZ W1 j) (fun k => gx taf ((0 : Int32).toInt + k)) n.toInt) ∧ (r < c_29.toInt → ¬ lx_ (vN W1 r) (vZ W1 r) (fun k => gx taf ((0 : Int32).toInt + k)) n.toInt) ∧ rC_ c_42.toInt fn_43 fz_44 fb_45 fg_46 (vin_ W1 r n.toInt (fun k => gx taf ((0 : Int32).toInt + k)) ix39.toInt (fun k => gr taf (n.toInt + k))))) ∧ (sb_Fit fn_43) ∧ (sb_Fit fb_45) := ch40
          have brF := fh50
          rw [show ix39.toInt = tas.toInt - n.toInt by omega] at brF
          refine pb_eq (pc' := 115) (lo' := [(3, .int r_15), (2, .int tas), (0, .ref h), (1, .int n)]) (rest' := []) (ws' := [(h, .inr (9, [.ref ta, .ref ca, .ref ps, .ref xe, .ref mk, .ref rd, .ref mu, .ref fi, .ref go, .ref sp, .ref ss])), (ta, .inr (0, [.ref tab, .int 0])), (sp, .inr (3, [.ref tn, .ref tz, .ref tb, .ref tg, .int c_42])), (tn, .inl (G.2.1, 384, .inl fn_43)), (tz, .inl (G.2.2.1, 16, .inl fz_44)), (tb, .inl (G.2.1, 12000, .inl fb_45)), (tg, .inl (G.2.2.1, 17, .inl fg_46)), (tab, .inl (G.2.1, 8000, .inl taf))]) ?_
          refine pb_aload_n (pc := 115) d_Book_add_115 2 rfl rfl ?_
          refine pb_get (pc := 116) d_Book_add_116 0 9 rfl rfl (by decide) in_Book k_426 rfl ?_
          refine pb_getN (pc := 119) d_Book_add_119 2 4 rfl rfl (by decide) in_Shelf k_405 rfl ?_
          exact pb_iretx (pc := 122) hQ d_Book_add_122 rfl rfl (c_42, c_42, fn_43, fz_44, fb_45, fg_46) ⟨rfl, (by (try dsimp only); first | done | assumption | decide | omega), (show 0 ≤ n.toInt ∧ n.toInt ≤ tas.toInt ∧ iA_ (gx taf) 0 n.toInt from (⟨by omega, by omega, nmA⟩)), (show RM_ V (gx taf) n.toInt (tas.toInt - n.toInt) ∧ hid_ (∃ W : VW_, AD_ V (gx taf) n.toInt (tas.toInt - n.toInt) (fun k => gr taf (n.toInt + k)) W ∧ rC_ c_42.toInt fn_43 fz_44 fb_45 fg_46 W ∧ c_42.toInt = vC W) from (⟨(hid_o rmE).mpr (hid_o rm3), hid_i (by obtain ⟨r9, z0, z1, z2, z3, z4⟩ := hid_o brF; have q5 := rW1.1; exact ⟨_, AD_C hsV (rC_hz R I) (by omega) fdF W1 (hid_o hW1) z0 (by omega) (fun i9 y0 y1 => lx_r (z2 i9 y0 y1) rfl (fun k k0 k1 => by show gx taf ((0 : Int32).toInt + k) = gx taf k; rw [zl0, Int.zero_add])) (fun y0 y1 => z3 (by omega) (lx_r y1 rfl (fun k k0 k1 => by show gx taf k = gx taf ((0 : Int32).toInt + k); rw [zl0, Int.zero_add]))), vin_cC z4 (fun k k0 k1 => by show gx taf ((0 : Int32).toInt + k) = gx taf k; rw [zl0, Int.zero_add]), (vin_cC z4 (fun k k0 k1 => by show gx taf ((0 : Int32).toInt + k) = gx taf k; rw [zl0, Int.zero_add])).1⟩)⟩)), fh51, fh52⟩ [0, 1, 7, 2, 3, 4, 5, 6] (by decide) rfl rfl (by decide) (by decide)
        · have twx26 : r_22.toInt = 0 := (ti_eq rfl (by decide)).mp wx26
          exact pb_throwS (pc := 70) (cls := "java/lang/UnsupportedOperationException") (text := "too many parts or bytes") (names := ["java/lang/RuntimeException", "java/lang/Exception"]) hQ d_Book_add_70 d_Book_add_73 d_Book_add_74 d_Book_add_76 d_Book_add_79 (by decide +kernel) (by decide +kernel) tx_Book_88_92 (by decide +kernel) (by decide) (Nat.le_of_ble_eq_true rfl) (by decide) (by decide) () (Or.inr (⟨rfl, (show 0 ≤ n.toInt ∧ n.toInt ≤ tas.toInt ∧ iA_ (gx taf) 0 n.toInt from (⟨by omega, by omega, nmA⟩)), (show ¬ RM_ V (gx taf) n.toInt (tas.toInt - n.toInt) from (fun q9 => hid_o rn1 (by omega) ((hid_o rmE).mp q9)))⟩)) [1, 2, 5, 6, 3, 4, 0, 7] (by decide) rfl rfl
      · have twx12 : r_7.toInt = 0 := (ti_eq rfl (by decide)).mp wx12
        exact pb_throwS (pc := 29) (cls := "java/lang/IllegalArgumentException") (text := "the tape does not begin with such a name") (names := ["java/lang/RuntimeException", "java/lang/Exception"]) hQ d_Book_add_29 d_Book_add_32 d_Book_add_33 d_Book_add_35 d_Book_add_38 (by decide +kernel) (by decide +kernel) tx_Book_77_81 (by decide +kernel) (by decide) (Nat.le_of_ble_eq_true rfl) (by decide) (by decide) () (Or.inl ⟨rfl, (show ¬ (0 ≤ n.toInt ∧ n.toInt ≤ tas.toInt ∧ iA_ (gx taf) 0 n.toInt) from (by first | exact fun q9 => hid_o nF0 (by omega) q9.2.2 | exact fun q9 => (by have q8 := q9.1; have q7 := q9.2.1; omega)))⟩) [5, 6, 7, 0, 1, 2, 3, 4] (by decide) rfl rfl

theorem d_Book_remove_0 : decode prog_1_method_5_code 0 = .ok (.aload_n 0, 1) := by decide +kernel
theorem d_Book_remove_1 : decode prog_1_method_5_code 1 = .ok (.invokevirtual 106, 3) := by decide +kernel
theorem d_Book_remove_4 : decode prog_1_method_5_code 4 = .ok (.istore_n 1, 1) := by decide +kernel
theorem d_Book_remove_5 : decode prog_1_method_5_code 5 = .ok (.aload_n 0, 1) := by decide +kernel
theorem d_Book_remove_6 : decode prog_1_method_5_code 6 = .ok (.getfield 70, 3) := by decide +kernel
theorem d_Book_remove_9 : decode prog_1_method_5_code 9 = .ok (.aload_n 0, 1) := by decide +kernel
theorem d_Book_remove_10 : decode prog_1_method_5_code 10 = .ok (.getfield 14, 3) := by decide +kernel
theorem d_Book_remove_13 : decode prog_1_method_5_code 13 = .ok (.getfield 98, 3) := by decide +kernel
theorem d_Book_remove_16 : decode prog_1_method_5_code 16 = .ok (.iconst 0, 1) := by decide +kernel
theorem d_Book_remove_17 : decode prog_1_method_5_code 17 = .ok (.iload_n 1, 1) := by decide +kernel
theorem d_Book_remove_18 : decode prog_1_method_5_code 18 = .ok (.invokevirtual 116, 3) := by decide +kernel
theorem d_Book_remove_21 : decode prog_1_method_5_code 21 = .ok (.istore_n 2, 1) := by decide +kernel
theorem d_Book_remove_22 : decode prog_1_method_5_code 22 = .ok (.aload_n 0, 1) := by decide +kernel
theorem d_Book_remove_23 : decode prog_1_method_5_code 23 = .ok (.getfield 70, 3) := by decide +kernel
theorem d_Book_remove_26 : decode prog_1_method_5_code 26 = .ok (.iload_n 2, 1) := by decide +kernel
theorem d_Book_remove_27 : decode prog_1_method_5_code 27 = .ok (.invokevirtual 126, 3) := by decide +kernel
theorem d_Book_remove_30 : decode prog_1_method_5_code 30 = .ok (.iload_n 2, 1) := by decide +kernel
theorem d_Book_remove_31 : decode prog_1_method_5_code 31 = .ok (.ifCond .lt 7, 3) := by decide +kernel
theorem d_Book_remove_38 : decode prog_1_method_5_code 38 = .ok (.iconst 0, 1) := by decide +kernel
theorem d_Book_remove_39 : decode prog_1_method_5_code 39 = .ok (.ireturn, 1) := by decide +kernel
theorem d_Book_remove_34 : decode prog_1_method_5_code 34 = .ok (.iconst 1, 1) := by decide +kernel
theorem d_Book_remove_35 : decode prog_1_method_5_code 35 = .ok (.goto 4, 3) := by decide +kernel
abbrev y_Book_remove : MethodName := ⟨"PackageBook", "remove", "()Z"⟩
abbrev i_Book_remove : pb_I := (y_Book_remove, prog_1_method_5_code, 3, (some Jvm.ClassFile.FieldType.boolean), [], { frames := 2, cells := 0, slots := 0, locals := 84 })
set_option maxRecDepth 100000 in
set_option maxHeartbeats 4000000 in
theorem g_Book_remove {l : Launch} (hl : l.stackTraces = false) (G : pb_G) (h : Nat) (ta : Nat) (ca : Nat) (ps : Nat) (xe : Nat) (mk : Nat) (rd : Nat) (mu : Nat) (fi : Nat) (go : Nat) (sp : Nat) (ss : Nat) (tab : Nat) (taf : Nat → Int32) (tas : Int32) (tn : Nat) (tz : Nat) (tb : Nat) (tg : Nat) (c : Int32) (tfn : Nat → Int32) (tfz : Nat → Int32) (tfb : Nat → Int32) (tfg : Nat → Int32) (V : VW_) (t0 : 0 ≤ tas.toInt) (t1 : tas.toInt ≤ 8000) (I : sh_I c.toInt tfz tfg) (R : rC_ c.toInt tfn tfz tfb tfg V) (hsV : srt_ V) (F_taf : sb_Fit taf) (F_tfn : sb_Fit tfn) (F_tfb : sb_Fit tfb) : Cn l G i_Book_remove [.ref h] [(h, .inr (9, [.ref ta, .ref ca, .ref ps, .ref xe, .ref mk, .ref rd, .ref mu, .ref fi, .ref go, .ref sp, .ref ss])), (ta, .inr (0, [.ref tab, .int tas])), (tab, .inl (G.2.1, 8000, .inl taf)), (sp, .inr (3, [.ref tn, .ref tz, .ref tb, .ref tg, .int c])), (tn, .inl (G.2.1, 384, .inl tfn)), (tz, .inl (G.2.2.1, 16, .inl tfz)), (tb, .inl (G.2.1, 12000, .inl tfb)), (tg, .inl (G.2.2.1, 17, .inl tfg))] (S := Int32 × Int32 × (Nat → Int32) × (Nat → Int32) × (Nat → Int32) × (Nat → Int32)) (fun rv_ u => rv_ = some (.int u.1) ∧ (sh_I u.2.1.toInt u.2.2.2.1 u.2.2.2.2.2) ∧ (hid_ (∃ q : Int, isF_ V tas.toInt (gx taf) q ∧ (0 ≤ q ∧ u.1.toInt = 1 ∧ rC_ u.2.1.toInt u.2.2.1 u.2.2.2.1 u.2.2.2.2.1 u.2.2.2.2.2 (vou_ V q) ∨ q = -1 ∧ u.1.toInt = 0 ∧ rC_ u.2.1.toInt u.2.2.1 u.2.2.2.1 u.2.2.2.2.1 u.2.2.2.2.2 V))) ∧ (sb_Fit u.2.2.1) ∧ (sb_Fit u.2.2.2.2.1)) (fun u => [(h, .inr (9, [.ref ta, .ref ca, .ref ps, .ref xe, .ref mk, .ref rd, .ref mu, .ref fi, .ref go, .ref sp, .ref ss])), (ta, .inr (0, [.ref tab, .int 0])), (tab, .inl (G.2.1, 8000, .inl taf)), (sp, .inr (3, [.ref tn, .ref tz, .ref tb, .ref tg, .int u.2.1])), (tn, .inl (G.2.1, 384, .inl u.2.2.1)), (tz, .inl (G.2.2.1, 16, .inl u.2.2.2.1)), (tb, .inl (G.2.1, 12000, .inl u.2.2.2.2.1)), (tg, .inl (G.2.2.1, 17, .inl u.2.2.2.2.2))]) := by
  refine Cn.of hl (by decide +kernel) rfl (Nat.le_of_ble_eq_true rfl) (fun M hQ => ?_)
  refine pb_eq (pc' := 0) (lo' := [(0, .ref h)]) (rest' := []) (ws' := [(h, .inr (9, [.ref ta, .ref ca, .ref ps, .ref xe, .ref mk, .ref rd, .ref mu, .ref fi, .ref go, .ref sp, .ref ss])), (ta, .inr (0, [.ref tab, .int tas])), (tab, .inl (G.2.1, 8000, .inl taf)), (sp, .inr (3, [.ref tn, .ref tz, .ref tb, .ref tg, .int c])), (tn, .inl (G.2.1, 384, .inl tfn)), (tz, .inl (G.2.2.1, 16, .inl tfz)), (tb, .inl (G.2.1, 12000, .inl tfb)), (tg, .inl (G.2.2.1, 17, .inl tfg))]) ?_
  have zl0 : (0 : Int32).toInt = 0 := by decide
  have zl1 : (1 : Int32).toInt = 1 := by decide
  refine pb_aload_n (pc := 0) d_Book_remove_0 0 rfl rfl ?_
  refine pb_callV (pc := 1) (I := i_Book_remove) (qb := 0) (ci := 9) (nA := 0) (rest := []) (wr := [(tab, .inl (G.2.1, 8000, .inl taf)), (sp, .inr (3, [.ref tn, .ref tz, .ref tb, .ref tg, .int c])), (tn, .inl (G.2.1, 384, .inl tfn)), (tz, .inl (G.2.2.1, 16, .inl tfz)), (tb, .inl (G.2.1, 12000, .inl tfb)), (tg, .inl (G.2.2.1, 17, .inl tfg))]) d_Book_remove_1 (g_Book_takeTape hl G h ta ca ps xe mk rd mu fi go sp ss tab tas) rfl rfl [0, 1] [2, 3, 4, 5, 6, 7] (by decide) rfl rfl rfl (by decide) (by decide) k_458 rfl k_118 k_455 k_457 k_0 ⟨rfl, hy_Book_takeTape⟩ (by decide) rfl rfl (Nat.le_of_ble_eq_true rfl) (by decide) (fun v9 ux2 ch1 => ?_)
  have ech1 := ch1
  have ech1 : v9 = some (.int tas) := ech1
  subst ech1
  refine pb_eq (pc' := 4) (lo' := [(0, .ref h)]) (rest' := [.int tas]) (ws' := [(tab, .inl (G.2.1, 8000, .inl taf)), (sp, .inr (3, [.ref tn, .ref tz, .ref tb, .ref tg, .int c])), (tn, .inl (G.2.1, 384, .inl tfn)), (tz, .inl (G.2.2.1, 16, .inl tfz)), (tb, .inl (G.2.1, 12000, .inl tfb)), (tg, .inl (G.2.2.1, 17, .inl tfg)), (h, .inr (9, [.ref ta, .ref ca, .ref ps, .ref xe, .ref mk, .ref rd, .ref mu, .ref fi, .ref go, .ref sp, .ref ss])), (ta, .inr (0, [.ref tab, .int 0]))]) ?_
  refine pb_istore_n (pc := 4) (lo' := [(1, .int tas), (0, .ref h)]) d_Book_remove_4 rfl (by decide) rfl ?_
  refine pb_aload_n (pc := 5) d_Book_remove_5 1 rfl rfl ?_
  refine pb_get (pc := 6) d_Book_remove_6 6 9 rfl rfl (by decide) in_Book k_426 rfl ?_
  refine pb_aload_n (pc := 9) d_Book_remove_9 1 rfl rfl ?_
  refine pb_get (pc := 10) d_Book_remove_10 6 0 rfl rfl (by decide) in_Book k_417 rfl ?_
  refine pb_getN (pc := 13) d_Book_remove_13 7 0 rfl rfl (by decide) in_Row k_157 rfl ?_
  refine pb_iconst (pc := 16) (v := 0) d_Book_remove_16 (by decide) ?_
  refine pb_iload_n (pc := 17) d_Book_remove_17 0 rfl rfl ?_
  refine pb_callV (pc := 18) (I := i_Book_remove) (qb := 1) (ci := 3) (nA := 3) (rest := []) (wr := [(tb, .inl (G.2.1, 12000, .inl tfb)), (tg, .inl (G.2.2.1, 17, .inl tfg)), (h, .inr (9, [.ref ta, .ref ca, .ref ps, .ref xe, .ref mk, .ref rd, .ref mu, .ref fi, .ref go, .ref sp, .ref ss])), (ta, .inr (0, [.ref tab, .int 0]))]) d_Book_remove_18 (g_Shelf_find hl G sp tn tz tb tg c tfn tfz tab 8000 taf tfg 0 tas V (rC_N R) (by first | assumption | decide | omega) (by first | (with_reducible assumption) | omega (splitDisjunctions := false) | assumption | omega | decide) (by first | (with_reducible assumption) | omega (splitDisjunctions := false) | assumption | omega | decide) (by first | (with_reducible assumption) | omega (splitDisjunctions := false) | assumption | omega | decide) F_tfn F_taf) rfl rfl [1, 2, 3, 0] [4, 5, 6, 7] (by decide) rfl rfl rfl (by decide) (by decide) k_462 rfl k_127 k_459 k_460 k_461 ⟨rfl, hy_Shelf_find⟩ (by decide) rfl rfl (Nat.le_of_ble_eq_true rfl) (by decide) (fun v9 ux4 ch3 => ?_)
  obtain ⟨r_5, rfl⟩ : ∃ z9, z9 = ux4 := ⟨_, rfl⟩
  obtain ⟨ech3, ch3⟩ := ch3
  have ech3 : v9 = some (.int r_5) := ech3
  subst ech3
  obtain ⟨fh6, fh7, fh8⟩ : (-1 ≤ r_5.toInt) ∧ (r_5.toInt < c.toInt) ∧ (isF_ V tas.toInt (fun k => gx taf ((0 : Int32).toInt + k)) r_5.toInt) := ch3
  have fdF := isF_cg fh8 (fun k k0 k1 => by show gx taf ((0 : Int32).toInt + k) = gx taf k; rw [zl0, Int.zero_add])
  refine pb_eq (pc' := 21) (lo' := [(1, .int tas), (0, .ref h)]) (rest' := [.int r_5]) (ws' := [(tb, .inl (G.2.1, 12000, .inl tfb)), (tg, .inl (G.2.2.1, 17, .inl tfg)), (h, .inr (9, [.ref ta, .ref ca, .ref ps, .ref xe, .ref mk, .ref rd, .ref mu, .ref fi, .ref go, .ref sp, .ref ss])), (ta, .inr (0, [.ref tab, .int 0])), (sp, .inr (3, [.ref tn, .ref tz, .ref tb, .ref tg, .int c])), (tn, .inl (G.2.1, 384, .inl tfn)), (tz, .inl (G.2.2.1, 16, .inl tfz)), (tab, .inl (G.2.1, 8000, .inl taf))]) ?_
  refine pb_istore_n (pc := 21) (lo' := [(2, .int r_5), (1, .int tas), (0, .ref h)]) d_Book_remove_21 rfl (by decide) rfl ?_
  refine pb_aload_n (pc := 22) d_Book_remove_22 2 rfl rfl ?_
  refine pb_get (pc := 23) d_Book_remove_23 2 9 rfl rfl (by decide) in_Book k_426 rfl ?_
  refine pb_iload_n (pc := 26) d_Book_remove_26 0 rfl rfl ?_
  refine pb_callV (pc := 27) (I := i_Book_remove) (qb := 4) (ci := 3) (nA := 1) (rest := []) (wr := [(h, .inr (9, [.ref ta, .ref ca, .ref ps, .ref xe, .ref mk, .ref rd, .ref mu, .ref fi, .ref go, .ref sp, .ref ss])), (ta, .inr (0, [.ref tab, .int 0])), (tab, .inl (G.2.1, 8000, .inl taf))]) d_Book_remove_27 (g_Shelf_takeOut hl G sp tn tz tb tg c tfn tfz tfb tfg r_5 V (by first | assumption | decide | omega) (by first | (with_reducible assumption) | omega (splitDisjunctions := false) | assumption | omega | decide) F_tfn F_tfb) rfl rfl [4, 5, 6, 0, 1] [2, 3, 7] (by decide) rfl rfl rfl (by decide) (by decide) k_469 rfl k_127 k_466 k_467 k_468 ⟨rfl, hy_Shelf_takeOut⟩ (by decide) rfl rfl (Nat.le_of_ble_eq_true rfl) (by decide) (fun v9 ux10 ch9 => ?_)
  obtain ⟨c_11, fn_12, fz_13, fb_14, fg_15⟩ := ux10
  obtain ⟨ech9, ch9⟩ := ch9
  have ech9 : v9 = none := ech9
  subst ech9
  obtain ⟨fh16, fh17, fh18, fh19, fh20⟩ : (sh_I c_11.toInt fz_13 fg_15) ∧ ((0 ≤ r_5.toInt ∧ r_5.toInt < c.toInt ∧ c_11.toInt = c.toInt - 1 ∧ gx fg_15 c_11.toInt = gx tfg c.toInt - (gx tfg (r_5.toInt + 1) - gx tfg r_5.toInt)) ∨ (¬ (0 ≤ r_5.toInt ∧ r_5.toInt < c.toInt) ∧ c_11.toInt = c.toInt ∧ gx fg_15 c_11.toInt = gx tfg c.toInt)) ∧ ((0 ≤ r_5.toInt ∧ r_5.toInt < c.toInt → rC_ c_11.toInt fn_12 fz_13 fb_14 fg_15 (vou_ V r_5.toInt)) ∧ (¬ (0 ≤ r_5.toInt ∧ r_5.toInt < c.toInt) → rC_ c_11.toInt fn_12 fz_13 fb_14 fg_15 V)) ∧ (sb_Fit fn_12) ∧ (sb_Fit fb_14) := ch9
  have toF := fh18
  refine pb_eq (pc' := 30) (lo' := [(2, .int r_5), (1, .int tas), (0, .ref h)]) (rest' := []) (ws' := [(h, .inr (9, [.ref ta, .ref ca, .ref ps, .ref xe, .ref mk, .ref rd, .ref mu, .ref fi, .ref go, .ref sp, .ref ss])), (ta, .inr (0, [.ref tab, .int 0])), (tab, .inl (G.2.1, 8000, .inl taf)), (sp, .inr (3, [.ref tn, .ref tz, .ref tb, .ref tg, .int c_11])), (tn, .inl (G.2.1, 384, .inl fn_12)), (tz, .inl (G.2.2.1, 16, .inl fz_13)), (tb, .inl (G.2.1, 12000, .inl fb_14)), (tg, .inl (G.2.2.1, 17, .inl fg_15))]) ?_
  refine pb_iload_n (pc := 30) d_Book_remove_30 0 rfl rfl ?_
  refine pb_if_lt (pc := 31) (tgt := 38) d_Book_remove_31 (by decide) (fun wx21 => ?_) (fun wx21 => ?_)
  · have twx21 : r_5.toInt < 0 := (ti_lt rfl (by decide)).mp wx21
    refine pb_iconst (pc := 38) (v := 0) d_Book_remove_38 (by decide) ?_
    exact pb_iret (pc := 39) hQ d_Book_remove_39 rfl rfl (0, c_11, fn_12, fz_13, fb_14, fg_15) ⟨rfl, (by (try dsimp only); first | done | assumption | decide | omega), (show hid_ (∃ q : Int, isF_ V tas.toInt (gx taf) q ∧ (0 ≤ q ∧ (0 : Int32).toInt = 1 ∧ rC_ c_11.toInt fn_12 fz_13 fb_14 fg_15 (vou_ V q) ∨ q = -1 ∧ (0 : Int32).toInt = 0 ∧ rC_ c_11.toInt fn_12 fz_13 fb_14 fg_15 V)) from (hid_i ⟨_, fdF, by have q5 := R.1; rcases fdF with ⟨q0, q1, q2⟩ | ⟨q0, q1⟩; exact Or.inl ⟨q0, by omega, toF.1 ⟨q0, by omega⟩⟩; exact Or.inr ⟨q0, by omega, toF.2 (by omega)⟩⟩)), fh19, fh20⟩ [0, 1, 2, 3, 4, 5, 6, 7] (by decide) rfl rfl (by decide) (by decide)
  · have twx21 : ¬ r_5.toInt < 0 := fun z9 => wx21 ((ti_lt rfl (by decide)).mpr z9)
    refine pb_iconst (pc := 34) (v := 1) d_Book_remove_34 (by decide) ?_
    refine pb_goto (pc := 35) (tgt := 39) d_Book_remove_35 (by decide) ?_
    exact pb_iret (pc := 39) hQ d_Book_remove_39 rfl rfl (1, c_11, fn_12, fz_13, fb_14, fg_15) ⟨rfl, (by (try dsimp only); first | done | assumption | decide | omega), (show hid_ (∃ q : Int, isF_ V tas.toInt (gx taf) q ∧ (0 ≤ q ∧ (1 : Int32).toInt = 1 ∧ rC_ c_11.toInt fn_12 fz_13 fb_14 fg_15 (vou_ V q) ∨ q = -1 ∧ (1 : Int32).toInt = 0 ∧ rC_ c_11.toInt fn_12 fz_13 fb_14 fg_15 V)) from (hid_i ⟨_, fdF, by have q5 := R.1; rcases fdF with ⟨q0, q1, q2⟩ | ⟨q0, q1⟩; exact Or.inl ⟨q0, by omega, toF.1 ⟨q0, by omega⟩⟩; exact Or.inr ⟨q0, by omega, toF.2 (by omega)⟩⟩)), fh19, fh20⟩ [0, 1, 2, 3, 4, 5, 6, 7] (by decide) rfl rfl (by decide) (by decide)

theorem d_Book_about_0 : decode prog_1_method_6_code 0 = .ok (.iload_n 1, 1) := by decide +kernel
theorem d_Book_about_1 : decode prog_1_method_6_code 1 = .ok (.ifCond .ne 11, 3) := by decide +kernel
theorem d_Book_about_12 : decode prog_1_method_6_code 12 = .ok (.iload_n 1, 1) := by decide +kernel
theorem d_Book_about_13 : decode prog_1_method_6_code 13 = .ok (.iconst 3, 1) := by decide +kernel
theorem d_Book_about_14 : decode prog_1_method_6_code 14 = .ok (.if_icmp .ne 11, 3) := by decide +kernel
theorem d_Book_about_25 : decode prog_1_method_6_code 25 = .ok (.iload_n 1, 1) := by decide +kernel
theorem d_Book_about_26 : decode prog_1_method_6_code 26 = .ok (.iconst 1, 1) := by decide +kernel
theorem d_Book_about_27 : decode prog_1_method_6_code 27 = .ok (.if_icmp .eq 8, 3) := by decide +kernel
theorem d_Book_about_35 : decode prog_1_method_6_code 35 = .ok (.aload_n 0, 1) := by decide +kernel
theorem d_Book_about_36 : decode prog_1_method_6_code 36 = .ok (.getfield 70, 3) := by decide +kernel
theorem d_Book_about_39 : decode prog_1_method_6_code 39 = .ok (.iload_n 2, 1) := by decide +kernel
theorem d_Book_about_40 : decode prog_1_method_6_code 40 = .ok (.invokevirtual 139, 3) := by decide +kernel
theorem k_1054 : (Jvm.Cond.methodLink "PackageBook" (139 : Nat) ({ cls := "PackageBook$Shelf", name := "has", desc := "(I)Z" } : Jvm.MethodName)) ∈ uW := uW_of 1054 (by decide +kernel) (by decide +kernel)
theorem d_Book_about_43 : decode prog_1_method_6_code 43 = .ok (.ifCond .ne 13, 3) := by decide +kernel
theorem d_Book_about_56 : decode prog_1_method_6_code 56 = .ok (.iload_n 1, 1) := by decide +kernel
theorem d_Book_about_57 : decode prog_1_method_6_code 57 = .ok (.iconst 1, 1) := by decide +kernel
theorem d_Book_about_58 : decode prog_1_method_6_code 58 = .ok (.if_icmp .ne 15, 3) := by decide +kernel
theorem d_Book_about_73 : decode prog_1_method_6_code 73 = .ok (.aload_n 0, 1) := by decide +kernel
theorem d_Book_about_74 : decode prog_1_method_6_code 74 = .ok (.getfield 70, 3) := by decide +kernel
theorem d_Book_about_77 : decode prog_1_method_6_code 77 = .ok (.iload_n 2, 1) := by decide +kernel
theorem d_Book_about_78 : decode prog_1_method_6_code 78 = .ok (.invokevirtual 151, 3) := by decide +kernel
theorem k_1071 : (Jvm.Cond.methodLink "PackageBook" (151 : Nat) ({ cls := "PackageBook$Shelf", name := "sizeOf", desc := "(I)I" } : Jvm.MethodName)) ∈ uW := uW_of 1071 (by decide +kernel) (by decide +kernel)
theorem d_Book_about_81 : decode prog_1_method_6_code 81 = .ok (.ireturn, 1) := by decide +kernel
theorem d_Book_about_61 : decode prog_1_method_6_code 61 = .ok (.aload_n 0, 1) := by decide +kernel
theorem d_Book_about_62 : decode prog_1_method_6_code 62 = .ok (.getfield 70, 3) := by decide +kernel
theorem d_Book_about_65 : decode prog_1_method_6_code 65 = .ok (.getfield 148, 3) := by decide +kernel
theorem k_394 : (Jvm.Cond.fieldLinkNest "PackageBook" (148 : Nat) "PackageBook$Shelf" "nameSizes" "[I" "PackageBook") ∈ uN := uN_of 394 (by decide +kernel) (by decide +kernel)
theorem d_Book_about_68 : decode prog_1_method_6_code 68 = .ok (.iload_n 2, 1) := by decide +kernel
theorem d_Book_about_69 : decode prog_1_method_6_code 69 = .ok (.iaload, 1) := by decide +kernel
theorem d_Book_about_70 : decode prog_1_method_6_code 70 = .ok (.goto 11, 3) := by decide +kernel
theorem d_Book_about_46 : decode prog_1_method_6_code 46 = .ok (.new 143, 3) := by decide +kernel
theorem tx_Book_143_147 : px_in (.classLink "PackageBook" 143 "java/lang/IndexOutOfBoundsException" :: .initialized "java/lang/IndexOutOfBoundsException" :: Bundle.ownAtoms "PackageBook" 147 "java/lang/IndexOutOfBoundsException" ["java/lang/RuntimeException", "java/lang/Exception"]) = true := px_own px_base0 (by decide +kernel)
theorem d_Book_about_49 : decode prog_1_method_6_code 49 = .ok (.dup, 1) := by decide +kernel
theorem d_Book_about_50 : decode prog_1_method_6_code 50 = .ok (.ldc 145, 2) := by decide +kernel
theorem d_Book_about_52 : decode prog_1_method_6_code 52 = .ok (.invokespecial 147, 3) := by decide +kernel
theorem d_Book_about_55 : decode prog_1_method_6_code 55 = .ok (.athrow, 1) := by decide +kernel
theorem d_Book_about_30 : decode prog_1_method_6_code 30 = .ok (.iload_n 1, 1) := by decide +kernel
theorem d_Book_about_31 : decode prog_1_method_6_code 31 = .ok (.iconst 2, 1) := by decide +kernel
theorem d_Book_about_32 : decode prog_1_method_6_code 32 = .ok (.if_icmp .ne 14, 3) := by decide +kernel
theorem d_Book_about_17 : decode prog_1_method_6_code 17 = .ok (.aload_n 0, 1) := by decide +kernel
theorem d_Book_about_18 : decode prog_1_method_6_code 18 = .ok (.getfield 70, 3) := by decide +kernel
theorem d_Book_about_21 : decode prog_1_method_6_code 21 = .ok (.invokevirtual 136, 3) := by decide +kernel
theorem k_1053 : (Jvm.Cond.methodLink "PackageBook" (136 : Nat) ({ cls := "PackageBook$Shelf", name := "inAll", desc := "()I" } : Jvm.MethodName)) ∈ uW := uW_of 1053 (by decide +kernel) (by decide +kernel)
theorem d_Book_about_24 : decode prog_1_method_6_code 24 = .ok (.ireturn, 1) := by decide +kernel
theorem d_Book_about_4 : decode prog_1_method_6_code 4 = .ok (.aload_n 0, 1) := by decide +kernel
theorem d_Book_about_5 : decode prog_1_method_6_code 5 = .ok (.getfield 70, 3) := by decide +kernel
theorem d_Book_about_8 : decode prog_1_method_6_code 8 = .ok (.getfield 133, 3) := by decide +kernel
theorem d_Book_about_11 : decode prog_1_method_6_code 11 = .ok (.ireturn, 1) := by decide +kernel
abbrev y_Book_about : MethodName := ⟨"PackageBook", "about", "(II)I"⟩
abbrev i_Book_about : pb_I := (y_Book_about, prog_1_method_6_code, 3, (some Jvm.ClassFile.FieldType.int), [], { frames := 6, cells := 1, slots := 6, locals := 90 })
set_option maxRecDepth 100000 in
set_option maxHeartbeats 4000000 in
theorem g_Book_about {l : Launch} (hl : l.stackTraces = false) (G : pb_G) (h : Nat) (ta : Nat) (ca : Nat) (ps : Nat) (xe : Nat) (mk : Nat) (rd : Nat) (mu : Nat) (fi : Nat) (go : Nat) (sp : Nat) (ss : Nat) (tn : Nat) (tz : Nat) (tb : Nat) (tg : Nat) (c : Int32) (tfn : Nat → Int32) (tfz : Nat → Int32) (tfb : Nat → Int32) (tfg : Nat → Int32) (w : Int32) (i : Int32) (V : VW_) (I : sh_I c.toInt tfz tfg) (R : rC_ c.toInt tfn tfz tfb tfg V) (F_tfn : sb_Fit tfn) (F_tfb : sb_Fit tfb) : Cx l G i_Book_about [.ref h, .int w, .int i] [(h, .inr (9, [.ref ta, .ref ca, .ref ps, .ref xe, .ref mk, .ref rd, .ref mu, .ref fi, .ref go, .ref sp, .ref ss])), (sp, .inr (3, [.ref tn, .ref tz, .ref tb, .ref tg, .int c])), (tn, .inl (G.2.1, 384, .inl tfn)), (tz, .inl (G.2.2.1, 16, .inl tfz)), (tb, .inl (G.2.1, 12000, .inl tfb)), (tg, .inl (G.2.2.1, 17, .inl tfg))] (S := Int32) (SX := Unit) (fun rv_ u => rv_ = some (.int u) ∧ ((w.toInt = 0 ∨ w.toInt = 3 ∨ (w.toInt = 1 ∨ w.toInt = 2) ∧ 0 ≤ i.toInt ∧ i.toInt < vC V)) ∧ ((w.toInt = 0 → u.toInt = vC V) ∧ (w.toInt = 1 → u.toInt = vZ V i.toInt) ∧ (w.toInt = 2 → u.toInt = vS V i.toInt) ∧ (w.toInt = 3 → u.toInt = vT V))) (fun u => [(h, .inr (9, [.ref ta, .ref ca, .ref ps, .ref xe, .ref mk, .ref rd, .ref mu, .ref fi, .ref go, .ref sp, .ref ss])), (sp, .inr (3, [.ref tn, .ref tz, .ref tb, .ref tg, .int c])), (tn, .inl (G.2.1, 384, .inl tfn)), (tz, .inl (G.2.2.1, 16, .inl tfz)), (tb, .inl (G.2.1, 12000, .inl tfb)), (tg, .inl (G.2.2.1, 17, .inl tfg))]) (fun E u => (E = "java/lang/IndexOutOfBoundsException" ∧ (¬ (w.toInt = 0 ∨ w.toInt = 3 ∨ (w.toInt = 1 ∨ w.toInt = 2) ∧ 0 ≤ i.toInt ∧ i.toInt < vC V)))) (fun u => [(h, .inr (9, [.ref ta, .ref ca, .ref ps, .ref xe, .ref mk, .ref rd, .ref mu, .ref fi, .ref go, .ref sp, .ref ss])), (sp, .inr (3, [.ref tn, .ref tz, .ref tb, .ref tg, .int c])), (tn, .inl (G.2.1, 384, .inl tfn)), (tz, .inl (G.2.2.1, 16, .inl tfz)), (tb, .inl (G.2.1, 12000, .inl tfb)), (tg, .inl (G.2.2.1, 17, .inl tfg))]) := by
  refine Cx.of hl (by decide +kernel) rfl (Nat.le_of_ble_eq_true rfl) (fun M hQ => ?_)
  refine pb_eq (pc' := 0) (lo' := [(0, .ref h), (1, .int w), (2, .int i)]) (rest' := []) (ws' := [(h, .inr (9, [.ref ta, .ref ca, .ref ps, .ref xe, .ref mk, .ref rd, .ref mu, .ref fi, .ref go, .ref sp, .ref ss])), (sp, .inr (3, [.ref tn, .ref tz, .ref tb, .ref tg, .int c])), (tn, .inl (G.2.1, 384, .inl tfn)), (tz, .inl (G.2.2.1, 16, .inl tfz)), (tb, .inl (G.2.1, 12000, .inl tfb)), (tg, .inl (G.2.2.1, 17, .inl tfg))]) ?_
  have zl0 : (0 : Int32).toInt = 0 := by decide
  have zl1 : (1 : Int32).toInt = 1 := by decide
  have q2 := I.2.1
  have RC := R.1
  have rT := rC_all R I
  refine pb_iload_n (pc := 0) d_Book_about_0 1 rfl rfl ?_
  refine pb_if_ne (pc := 1) (tgt := 12) d_Book_about_1 (by decide) (fun wx1 => ?_) (fun wx1 => ?_)
  · have twx1 : ¬ w.toInt = 0 := fun z9 => wx1 ((ti_eq rfl (by decide)).mpr z9)
    refine pb_iload_n (pc := 12) d_Book_about_12 1 rfl rfl ?_
    refine pb_iconst (pc := 13) (v := 3) d_Book_about_13 (by decide) ?_
    refine pb_icmp_ne (pc := 14) (tgt := 25) d_Book_about_14 (by decide) (fun wx2 => ?_) (fun wx2 => ?_)
    · have twx2 : ¬ w.toInt = 3 := fun z9 => wx2 ((ti_eq rfl (by decide)).mpr z9)
      refine pb_iload_n (pc := 25) d_Book_about_25 1 rfl rfl ?_
      refine pb_iconst (pc := 26) (v := 1) d_Book_about_26 (by decide) ?_
      refine pb_icmp_eq (pc := 27) (tgt := 35) d_Book_about_27 (by decide) (fun wx3 => ?_) (fun wx3 => ?_)
      · have twx3 : w.toInt = 1 := (ti_eq rfl (by decide)).mp wx3
        refine pb_aload_n (pc := 35) d_Book_about_35 0 rfl rfl ?_
        refine pb_get (pc := 36) d_Book_about_36 0 9 rfl rfl (by decide) in_Book k_426 rfl ?_
        refine pb_iload_n (pc := 39) d_Book_about_39 2 rfl rfl ?_
        refine pb_callV (pc := 40) (I := i_Book_about) (qb := 1) (ci := 3) (nA := 1) (rest := []) (wr := [(h, .inr (9, [.ref ta, .ref ca, .ref ps, .ref xe, .ref mk, .ref rd, .ref mu, .ref fi, .ref go, .ref sp, .ref ss])), (tn, .inl (G.2.1, 384, .inl tfn)), (tz, .inl (G.2.2.1, 16, .inl tfz)), (tb, .inl (G.2.1, 12000, .inl tfb)), (tg, .inl (G.2.2.1, 17, .inl tfg))]) d_Book_about_40 (g_Shelf_has hl G sp tn tz tb tg c i) rfl rfl [1] [0, 2, 3, 4, 5] (by decide) rfl rfl rfl (by decide) (by decide) k_473 rfl k_127 k_1054 k_471 k_472 ⟨rfl, hy_Shelf_has⟩ (by decide) rfl rfl (Nat.le_of_ble_eq_true rfl) (by decide) (fun v9 ux5 ch4 => ?_)
        obtain ⟨r_6, rfl⟩ : ∃ z9, z9 = ux5 := ⟨_, rfl⟩
        obtain ⟨ech4, ch4⟩ := ch4
        have ech4 : v9 = some (.int r_6) := ech4
        subst ech4
        obtain ⟨fh7, fh8⟩ : (r_6.toInt = 0 ∨ r_6.toInt = 1) ∧ (r_6.toInt = 1 ↔ 0 ≤ i.toInt ∧ i.toInt < c.toInt) := ch4
        refine pb_eq (pc' := 43) (lo' := [(0, .ref h), (1, .int w), (2, .int i)]) (rest' := [.int r_6]) (ws' := [(h, .inr (9, [.ref ta, .ref ca, .ref ps, .ref xe, .ref mk, .ref rd, .ref mu, .ref fi, .ref go, .ref sp, .ref ss])), (tn, .inl (G.2.1, 384, .inl tfn)), (tz, .inl (G.2.2.1, 16, .inl tfz)), (tb, .inl (G.2.1, 12000, .inl tfb)), (tg, .inl (G.2.2.1, 17, .inl tfg)), (sp, .inr (3, [.ref tn, .ref tz, .ref tb, .ref tg, .int c]))]) ?_
        refine pb_if_ne (pc := 43) (tgt := 56) d_Book_about_43 (by decide) (fun wx9 => ?_) (fun wx9 => ?_)
        · have twx9 : ¬ r_6.toInt = 0 := fun z9 => wx9 ((ti_eq rfl (by decide)).mpr z9)
          refine pb_iload_n (pc := 56) d_Book_about_56 1 rfl rfl ?_
          refine pb_iconst (pc := 57) (v := 1) d_Book_about_57 (by decide) ?_
          refine pb_icmp_ne (pc := 58) (tgt := 73) d_Book_about_58 (by decide) (fun wx10 => ?_) (fun wx10 => ?_)
          · have twx10 : ¬ w.toInt = 1 := fun z9 => wx10 ((ti_eq rfl (by decide)).mpr z9)
            refine pb_aload_n (pc := 73) d_Book_about_73 0 rfl rfl ?_
            refine pb_get (pc := 74) d_Book_about_74 0 9 rfl rfl (by decide) in_Book k_426 rfl ?_
            refine pb_iload_n (pc := 77) d_Book_about_77 2 rfl rfl ?_
            refine pb_callV (pc := 78) (I := i_Book_about) (qb := 5) (ci := 3) (nA := 1) (rest := []) (wr := [(h, .inr (9, [.ref ta, .ref ca, .ref ps, .ref xe, .ref mk, .ref rd, .ref mu, .ref fi, .ref go, .ref sp, .ref ss])), (tn, .inl (G.2.1, 384, .inl tfn)), (tz, .inl (G.2.2.1, 16, .inl tfz)), (tb, .inl (G.2.1, 12000, .inl tfb))]) d_Book_about_78 (g_Shelf_sizeOf hl G sp tn tz tb tg c tfz tfg i (by first | assumption | decide | omega) (by first | (with_reducible assumption) | omega (splitDisjunctions := false) | assumption | omega | decide) (by first | (with_reducible assumption) | omega (splitDisjunctions := false) | assumption | omega | decide)) rfl rfl [5, 4] [0, 1, 2, 3] (by decide) rfl rfl rfl (by decide) (by decide) k_477 rfl k_127 k_1071 k_475 k_476 ⟨rfl, hy_Shelf_sizeOf⟩ (by decide) rfl rfl (Nat.le_of_ble_eq_true rfl) (by decide) (fun v9 ux12 ch11 => ?_)
            obtain ⟨r_13, rfl⟩ : ∃ z9, z9 = ux12 := ⟨_, rfl⟩
            obtain ⟨ech11, ch11⟩ := ch11
            have ech11 : v9 = some (.int r_13) := ech11
            subst ech11
            obtain ⟨fh14, fh15, fh16⟩ : (r_13.toInt = gx tfg (i.toInt + 1) - gx tfg i.toInt) ∧ (0 ≤ r_13.toInt) ∧ (r_13.toInt ≤ 4000) := ch11
            refine pb_eq (pc' := 81) (lo' := [(0, .ref h), (1, .int w), (2, .int i)]) (rest' := [.int r_13]) (ws' := [(h, .inr (9, [.ref ta, .ref ca, .ref ps, .ref xe, .ref mk, .ref rd, .ref mu, .ref fi, .ref go, .ref sp, .ref ss])), (tn, .inl (G.2.1, 384, .inl tfn)), (tz, .inl (G.2.2.1, 16, .inl tfz)), (tb, .inl (G.2.1, 12000, .inl tfb)), (sp, .inr (3, [.ref tn, .ref tz, .ref tb, .ref tg, .int c])), (tg, .inl (G.2.2.1, 17, .inl tfg))]) ?_
            exact pb_iretx (pc := 81) hQ d_Book_about_81 rfl rfl (r_13) ⟨rfl, (by (try dsimp only); first | done | (with_reducible assumption) | omega (splitDisjunctions := false) | assumption | omega | decide), (show (w.toInt = 0 → r_13.toInt = vC V) ∧ (w.toInt = 1 → r_13.toInt = vZ V i.toInt) ∧ (w.toInt = 2 → r_13.toInt = vS V i.toInt) ∧ (w.toInt = 3 → r_13.toInt = vT V) from (by have q9 : 0 ≤ i.toInt ∧ i.toInt < c.toInt → gx tfz i.toInt = vZ V i.toInt ∧ gx tfg (i.toInt + 1) - gx tfg i.toInt = vS V i.toInt := fun q8 => ⟨(R.2 i.toInt q8.1 q8.2).1, (R.2 i.toInt q8.1 q8.2).2.1⟩; refine ⟨fun _ => ?_, fun _ => ?_, fun _ => ?_, fun _ => ?_⟩ <;> omega))⟩ [0, 4, 1, 2, 3, 5] (by decide) rfl rfl (by decide) (by decide)
          · have twx10 : w.toInt = 1 := (ti_eq rfl (by decide)).mp wx10
            refine pb_aload_n (pc := 61) d_Book_about_61 0 rfl rfl ?_
            refine pb_get (pc := 62) d_Book_about_62 0 9 rfl rfl (by decide) in_Book k_426 rfl ?_
            refine pb_getN (pc := 65) d_Book_about_65 5 1 rfl rfl (by decide) in_Shelf k_394 rfl ?_
            refine pb_iload_n (pc := 68) d_Book_about_68 2 rfl rfl ?_
            refine pb_iald (pc := 69) d_Book_about_69 2 rfl (vp_in_iff.mpr (by omega)) ?_
            refine pb_topi (fun ix17 eix17 => ?_)
            have tix17 : ix17.toInt = gx tfz (i.toInt) := gx_ld eix17 rfl
            refine pb_goto (pc := 70) (tgt := 81) d_Book_about_70 (by decide) ?_
            exact pb_iretx (pc := 81) hQ d_Book_about_81 rfl rfl (ix17) ⟨rfl, (by (try dsimp only); first | done | (with_reducible assumption) | omega (splitDisjunctions := false) | assumption | omega | decide), (show (w.toInt = 0 → ix17.toInt = vC V) ∧ (w.toInt = 1 → ix17.toInt = vZ V i.toInt) ∧ (w.toInt = 2 → ix17.toInt = vS V i.toInt) ∧ (w.toInt = 3 → ix17.toInt = vT V) from (by have q9 : 0 ≤ i.toInt ∧ i.toInt < c.toInt → gx tfz i.toInt = vZ V i.toInt ∧ gx tfg (i.toInt + 1) - gx tfg i.toInt = vS V i.toInt := fun q8 => ⟨(R.2 i.toInt q8.1 q8.2).1, (R.2 i.toInt q8.1 q8.2).2.1⟩; refine ⟨fun _ => ?_, fun _ => ?_, fun _ => ?_, fun _ => ?_⟩ <;> omega))⟩ [0, 5, 1, 2, 3, 4] (by decide) rfl rfl (by decide) (by decide)
        · have twx9 : r_6.toInt = 0 := (ti_eq rfl (by decide)).mp wx9
          exact pb_throwS (pc := 46) (cls := "java/lang/IndexOutOfBoundsException") (text := "no such part or question") (names := ["java/lang/RuntimeException", "java/lang/Exception"]) hQ d_Book_about_46 d_Book_about_49 d_Book_about_50 d_Book_about_52 d_Book_about_55 (by decide +kernel) (by decide +kernel) tx_Book_143_147 (by decide +kernel) (by decide) (Nat.le_of_ble_eq_true rfl) (by decide) (by decide) () ⟨rfl, (by (try dsimp only); first | done | (with_reducible assumption) | omega (splitDisjunctions := false) | assumption | omega | decide)⟩ [0, 5, 1, 2, 3, 4] (by decide) rfl rfl
      · have twx3 : ¬ w.toInt = 1 := fun z9 => wx3 ((ti_eq rfl (by decide)).mpr z9)
        refine pb_iload_n (pc := 30) d_Book_about_30 1 rfl rfl ?_
        refine pb_iconst (pc := 31) (v := 2) d_Book_about_31 (by decide) ?_
        refine pb_icmp_ne (pc := 32) (tgt := 46) d_Book_about_32 (by decide) (fun wx18 => ?_) (fun wx18 => ?_)
        · have twx18 : ¬ w.toInt = 2 := fun z9 => wx18 ((ti_eq rfl (by decide)).mpr z9)
          exact pb_throwS (pc := 46) (cls := "java/lang/IndexOutOfBoundsException") (text := "no such part or question") (names := ["java/lang/RuntimeException", "java/lang/Exception"]) hQ d_Book_about_46 d_Book_about_49 d_Book_about_50 d_Book_about_52 d_Book_about_55 (by decide +kernel) (by decide +kernel) tx_Book_143_147 (by decide +kernel) (by decide) (Nat.le_of_ble_eq_true rfl) (by decide) (by decide) () ⟨rfl, (by (try dsimp only); first | done | (with_reducible assumption) | omega (splitDisjunctions := false) | assumption | omega | decide)⟩ [0, 1, 2, 3, 4, 5] (by decide) rfl rfl
        · have twx18 : w.toInt = 2 := (ti_eq rfl (by decide)).mp wx18
          refine pb_aload_n (pc := 35) d_Book_about_35 0 rfl rfl ?_
          refine pb_get (pc := 36) d_Book_about_36 0 9 rfl rfl (by decide) in_Book k_426 rfl ?_
          refine pb_iload_n (pc := 39) d_Book_about_39 2 rfl rfl ?_
          refine pb_callV (pc := 40) (I := i_Book_about) (qb := 1) (ci := 3) (nA := 1) (rest := []) (wr := [(h, .inr (9, [.ref ta, .ref ca, .ref ps, .ref xe, .ref mk, .ref rd, .ref mu, .ref fi, .ref go, .ref sp, .ref ss])), (tn, .inl (G.2.1, 384, .inl tfn)), (tz, .inl (G.2.2.1, 16, .inl tfz)), (tb, .inl (G.2.1, 12000, .inl tfb)), (tg, .inl (G.2.2.1, 17, .inl tfg))]) d_Book_about_40 (g_Shelf_has hl G sp tn tz tb tg c i) rfl rfl [1] [0, 2, 3, 4, 5] (by decide) rfl rfl rfl (by decide) (by decide) k_473 rfl k_127 k_1054 k_471 k_472 ⟨rfl, hy_Shelf_has⟩ (by decide) rfl rfl (Nat.le_of_ble_eq_true rfl) (by decide) (fun v9 ux20 ch19 => ?_)
          obtain ⟨r_21, rfl⟩ : ∃ z9, z9 = ux20 := ⟨_, rfl⟩
          obtain ⟨ech19, ch19⟩ := ch19
          have ech19 : v9 = some (.int r_21) := ech19
          subst ech19
          obtain ⟨fh22, fh23⟩ : (r_21.toInt = 0 ∨ r_21.toInt = 1) ∧ (r_21.toInt = 1 ↔ 0 ≤ i.toInt ∧ i.toInt < c.toInt) := ch19
          refine pb_eq (pc' := 43) (lo' := [(0, .ref h), (1, .int w), (2, .int i)]) (rest' := [.int r_21]) (ws' := [(h, .inr (9, [.ref ta, .ref ca, .ref ps, .ref xe, .ref mk, .ref rd, .ref mu, .ref fi, .ref go, .ref sp, .ref ss])), (tn, .inl (G.2.1, 384, .inl tfn)), (tz, .inl (G.2.2.1, 16, .inl tfz)), (tb, .inl (G.2.1, 12000, .inl tfb)), (tg, .inl (G.2.2.1, 17, .inl tfg)), (sp, .inr (3, [.ref tn, .ref tz, .ref tb, .ref tg, .int c]))]) ?_
          refine pb_if_ne (pc := 43) (tgt := 56) d_Book_about_43 (by decide) (fun wx24 => ?_) (fun wx24 => ?_)
          · have twx24 : ¬ r_21.toInt = 0 := fun z9 => wx24 ((ti_eq rfl (by decide)).mpr z9)
            refine pb_iload_n (pc := 56) d_Book_about_56 1 rfl rfl ?_
            refine pb_iconst (pc := 57) (v := 1) d_Book_about_57 (by decide) ?_
            refine pb_icmp_ne (pc := 58) (tgt := 73) d_Book_about_58 (by decide) (fun wx25 => ?_) (fun wx25 => ?_)
            · have twx25 : ¬ w.toInt = 1 := fun z9 => wx25 ((ti_eq rfl (by decide)).mpr z9)
              refine pb_aload_n (pc := 73) d_Book_about_73 0 rfl rfl ?_
              refine pb_get (pc := 74) d_Book_about_74 0 9 rfl rfl (by decide) in_Book k_426 rfl ?_
              refine pb_iload_n (pc := 77) d_Book_about_77 2 rfl rfl ?_
              refine pb_callV (pc := 78) (I := i_Book_about) (qb := 5) (ci := 3) (nA := 1) (rest := []) (wr := [(h, .inr (9, [.ref ta, .ref ca, .ref ps, .ref xe, .ref mk, .ref rd, .ref mu, .ref fi, .ref go, .ref sp, .ref ss])), (tn, .inl (G.2.1, 384, .inl tfn)), (tz, .inl (G.2.2.1, 16, .inl tfz)), (tb, .inl (G.2.1, 12000, .inl tfb))]) d_Book_about_78 (g_Shelf_sizeOf hl G sp tn tz tb tg c tfz tfg i (by first | assumption | decide | omega) (by first | (with_reducible assumption) | omega (splitDisjunctions := false) | assumption | omega | decide) (by first | (with_reducible assumption) | omega (splitDisjunctions := false) | assumption | omega | decide)) rfl rfl [5, 4] [0, 1, 2, 3] (by decide) rfl rfl rfl (by decide) (by decide) k_477 rfl k_127 k_1071 k_475 k_476 ⟨rfl, hy_Shelf_sizeOf⟩ (by decide) rfl rfl (Nat.le_of_ble_eq_true rfl) (by decide) (fun v9 ux27 ch26 => ?_)
              obtain ⟨r_28, rfl⟩ : ∃ z9, z9 = ux27 := ⟨_, rfl⟩
              obtain ⟨ech26, ch26⟩ := ch26
              have ech26 : v9 = some (.int r_28) := ech26
              subst ech26
              obtain ⟨fh29, fh30, fh31⟩ : (r_28.toInt = gx tfg (i.toInt + 1) - gx tfg i.toInt) ∧ (0 ≤ r_28.toInt) ∧ (r_28.toInt ≤ 4000) := ch26
              refine pb_eq (pc' := 81) (lo' := [(0, .ref h), (1, .int w), (2, .int i)]) (rest' := [.int r_28]) (ws' := [(h, .inr (9, [.ref ta, .ref ca, .ref ps, .ref xe, .ref mk, .ref rd, .ref mu, .ref fi, .ref go, .ref sp, .ref ss])), (tn, .inl (G.2.1, 384, .inl tfn)), (tz, .inl (G.2.2.1, 16, .inl tfz)), (tb, .inl (G.2.1, 12000, .inl tfb)), (sp, .inr (3, [.ref tn, .ref tz, .ref tb, .ref tg, .int c])), (tg, .inl (G.2.2.1, 17, .inl tfg))]) ?_
              exact pb_iretx (pc := 81) hQ d_Book_about_81 rfl rfl (r_28) ⟨rfl, (by (try dsimp only); first | done | (with_reducible assumption) | omega (splitDisjunctions := false) | assumption | omega | decide), (show (w.toInt = 0 → r_28.toInt = vC V) ∧ (w.toInt = 1 → r_28.toInt = vZ V i.toInt) ∧ (w.toInt = 2 → r_28.toInt = vS V i.toInt) ∧ (w.toInt = 3 → r_28.toInt = vT V) from (by have q9 : 0 ≤ i.toInt ∧ i.toInt < c.toInt → gx tfz i.toInt = vZ V i.toInt ∧ gx tfg (i.toInt + 1) - gx tfg i.toInt = vS V i.toInt := fun q8 => ⟨(R.2 i.toInt q8.1 q8.2).1, (R.2 i.toInt q8.1 q8.2).2.1⟩; refine ⟨fun _ => ?_, fun _ => ?_, fun _ => ?_, fun _ => ?_⟩ <;> omega))⟩ [0, 4, 1, 2, 3, 5] (by decide) rfl rfl (by decide) (by decide)
            · have twx25 : w.toInt = 1 := (ti_eq rfl (by decide)).mp wx25
              refine pb_aload_n (pc := 61) d_Book_about_61 0 rfl rfl ?_
              refine pb_get (pc := 62) d_Book_about_62 0 9 rfl rfl (by decide) in_Book k_426 rfl ?_
              refine pb_getN (pc := 65) d_Book_about_65 5 1 rfl rfl (by decide) in_Shelf k_394 rfl ?_
              refine pb_iload_n (pc := 68) d_Book_about_68 2 rfl rfl ?_
              refine pb_iald (pc := 69) d_Book_about_69 2 rfl (vp_in_iff.mpr (by omega)) ?_
              refine pb_topi (fun ix32 eix32 => ?_)
              have tix32 : ix32.toInt = gx tfz (i.toInt) := gx_ld eix32 rfl
              refine pb_goto (pc := 70) (tgt := 81) d_Book_about_70 (by decide) ?_
              exact pb_iretx (pc := 81) hQ d_Book_about_81 rfl rfl (ix32) ⟨rfl, (by (try dsimp only); first | done | (with_reducible assumption) | omega (splitDisjunctions := false) | assumption | omega | decide), (show (w.toInt = 0 → ix32.toInt = vC V) ∧ (w.toInt = 1 → ix32.toInt = vZ V i.toInt) ∧ (w.toInt = 2 → ix32.toInt = vS V i.toInt) ∧ (w.toInt = 3 → ix32.toInt = vT V) from (by have q9 : 0 ≤ i.toInt ∧ i.toInt < c.toInt → gx tfz i.toInt = vZ V i.toInt ∧ gx tfg (i.toInt + 1) - gx tfg i.toInt = vS V i.toInt := fun q8 => ⟨(R.2 i.toInt q8.1 q8.2).1, (R.2 i.toInt q8.1 q8.2).2.1⟩; refine ⟨fun _ => ?_, fun _ => ?_, fun _ => ?_, fun _ => ?_⟩ <;> omega))⟩ [0, 5, 1, 2, 3, 4] (by decide) rfl rfl (by decide) (by decide)
          · have twx24 : r_21.toInt = 0 := (ti_eq rfl (by decide)).mp wx24
            exact pb_throwS (pc := 46) (cls := "java/lang/IndexOutOfBoundsException") (text := "no such part or question") (names := ["java/lang/RuntimeException", "java/lang/Exception"]) hQ d_Book_about_46 d_Book_about_49 d_Book_about_50 d_Book_about_52 d_Book_about_55 (by decide +kernel) (by decide +kernel) tx_Book_143_147 (by decide +kernel) (by decide) (Nat.le_of_ble_eq_true rfl) (by decide) (by decide) () ⟨rfl, (by (try dsimp only); first | done | (with_reducible assumption) | omega (splitDisjunctions := false) | assumption | omega | decide)⟩ [0, 5, 1, 2, 3, 4] (by decide) rfl rfl
    · have twx2 : w.toInt = 3 := (ti_eq rfl (by decide)).mp wx2
      refine pb_aload_n (pc := 17) d_Book_about_17 0 rfl rfl ?_
      refine pb_get (pc := 18) d_Book_about_18 0 9 rfl rfl (by decide) in_Book k_426 rfl ?_
      refine pb_callV (pc := 21) (I := i_Book_about) (qb := 1) (ci := 3) (nA := 0) (rest := []) (wr := [(h, .inr (9, [.ref ta, .ref ca, .ref ps, .ref xe, .ref mk, .ref rd, .ref mu, .ref fi, .ref go, .ref sp, .ref ss])), (tn, .inl (G.2.1, 384, .inl tfn)), (tz, .inl (G.2.2.1, 16, .inl tfz)), (tb, .inl (G.2.1, 12000, .inl tfb))]) d_Book_about_21 (g_Shelf_inAll hl G sp tn tz tb tg c tfz tfg (by first | assumption | decide | omega)) rfl rfl [1, 5] [0, 2, 3, 4] (by decide) rfl rfl rfl (by decide) (by decide) k_481 rfl k_127 k_1053 k_479 k_480 ⟨rfl, hy_Shelf_inAll⟩ (by decide) rfl rfl (Nat.le_of_ble_eq_true rfl) (by decide) (fun v9 ux34 ch33 => ?_)
      obtain ⟨r_35, rfl⟩ : ∃ z9, z9 = ux34 := ⟨_, rfl⟩
      obtain ⟨ech33, ch33⟩ := ch33
      have ech33 : v9 = some (.int r_35) := ech33
      subst ech33
      obtain ⟨fh36, fh37, fh38⟩ : (r_35.toInt = gx tfg c.toInt) ∧ (0 ≤ r_35.toInt) ∧ (r_35.toInt ≤ 12000) := ch33
      refine pb_eq (pc' := 24) (lo' := [(0, .ref h), (1, .int w), (2, .int i)]) (rest' := [.int r_35]) (ws' := [(h, .inr (9, [.ref ta, .ref ca, .ref ps, .ref xe, .ref mk, .ref rd, .ref mu, .ref fi, .ref go, .ref sp, .ref ss])), (tn, .inl (G.2.1, 384, .inl tfn)), (tz, .inl (G.2.2.1, 16, .inl tfz)), (tb, .inl (G.2.1, 12000, .inl tfb)), (sp, .inr (3, [.ref tn, .ref tz, .ref tb, .ref tg, .int c])), (tg, .inl (G.2.2.1, 17, .inl tfg))]) ?_
      exact pb_iretx (pc := 24) hQ d_Book_about_24 rfl rfl (r_35) ⟨rfl, (by (try dsimp only); first | done | (with_reducible assumption) | omega (splitDisjunctions := false) | assumption | omega | decide), (show (w.toInt = 0 → r_35.toInt = vC V) ∧ (w.toInt = 1 → r_35.toInt = vZ V i.toInt) ∧ (w.toInt = 2 → r_35.toInt = vS V i.toInt) ∧ (w.toInt = 3 → r_35.toInt = vT V) from (by have q9 : 0 ≤ i.toInt ∧ i.toInt < c.toInt → gx tfz i.toInt = vZ V i.toInt ∧ gx tfg (i.toInt + 1) - gx tfg i.toInt = vS V i.toInt := fun q8 => ⟨(R.2 i.toInt q8.1 q8.2).1, (R.2 i.toInt q8.1 q8.2).2.1⟩; refine ⟨fun _ => ?_, fun _ => ?_, fun _ => ?_, fun _ => ?_⟩ <;> omega))⟩ [0, 4, 1, 2, 3, 5] (by decide) rfl rfl (by decide) (by decide)
  · have twx1 : w.toInt = 0 := (ti_eq rfl (by decide)).mp wx1
    refine pb_aload_n (pc := 4) d_Book_about_4 0 rfl rfl ?_
    refine pb_get (pc := 5) d_Book_about_5 0 9 rfl rfl (by decide) in_Book k_426 rfl ?_
    refine pb_getN (pc := 8) d_Book_about_8 1 4 rfl rfl (by decide) in_Shelf k_405 rfl ?_
    exact pb_iretx (pc := 11) hQ d_Book_about_11 rfl rfl (c) ⟨rfl, (by (try dsimp only); first | done | (with_reducible assumption) | omega (splitDisjunctions := false) | assumption | omega | decide), (show (w.toInt = 0 → c.toInt = vC V) ∧ (w.toInt = 1 → c.toInt = vZ V i.toInt) ∧ (w.toInt = 2 → c.toInt = vS V i.toInt) ∧ (w.toInt = 3 → c.toInt = vT V) from (by have q9 : 0 ≤ i.toInt ∧ i.toInt < c.toInt → gx tfz i.toInt = vZ V i.toInt ∧ gx tfg (i.toInt + 1) - gx tfg i.toInt = vS V i.toInt := fun q8 => ⟨(R.2 i.toInt q8.1 q8.2).1, (R.2 i.toInt q8.1 q8.2).2.1⟩; refine ⟨fun _ => ?_, fun _ => ?_, fun _ => ?_, fun _ => ?_⟩ <;> omega))⟩ [0, 1, 2, 3, 4, 5] (by decide) rfl rfl (by decide) (by decide)
