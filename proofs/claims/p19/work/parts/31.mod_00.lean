/-! ROWS OF NUMBERS -/
theorem omg_7b26acebc9 {x0 : Int} {x1 : Int} {x2 : Nat} {x3 : Int} {x4 : Int} (a0 : ((Int.toNat (((8 : Int) * x0) - x1)) < (x2 + (1 : Nat)))) (a1 : (x3 = ((8 : Int) * x0))) (a2 : (¬ (x3 ≤ x1))) (a3 : (x4 = (x1 + (1 : Int)))) : ((Int.toNat (((8 : Int) * x0) - x4)) < x2) := by omega
theorem d_Mod_sumOf_0 : decode prog_12_method_18_code 0 = .ok (.iconst (-1), 1) := by decide +kernel
theorem d_Mod_sumOf_1 : decode prog_12_method_18_code 1 = .ok (.istore_n 3, 1) := by decide +kernel
theorem d_Mod_sumOf_2 : decode prog_12_method_18_code 2 = .ok (.iconst 0, 1) := by decide +kernel
theorem d_Mod_sumOf_3 : decode prog_12_method_18_code 3 = .ok (.istore 4, 2) := by decide +kernel
theorem d_Mod_sumOf_5 : decode prog_12_method_18_code 5 = .ok (.iload 4, 2) := by decide +kernel
theorem d_Mod_sumOf_7 : decode prog_12_method_18_code 7 = .ok (.bipush 8, 2) := by decide +kernel
theorem d_Mod_sumOf_9 : decode prog_12_method_18_code 9 = .ok (.iload_n 2, 1) := by decide +kernel
theorem d_Mod_sumOf_10 : decode prog_12_method_18_code 10 = .ok (.imul, 1) := by decide +kernel
theorem d_Mod_sumOf_11 : decode prog_12_method_18_code 11 = .ok (.if_icmp .ge 61, 3) := by decide +kernel
theorem d_Mod_sumOf_72 : decode prog_12_method_18_code 72 = .ok (.iload_n 3, 1) := by decide +kernel
theorem d_Mod_sumOf_73 : decode prog_12_method_18_code 73 = .ok (.iconst (-1), 1) := by decide +kernel
theorem d_Mod_sumOf_74 : decode prog_12_method_18_code 74 = .ok (.ixor, 1) := by decide +kernel
theorem d_Mod_sumOf_75 : decode prog_12_method_18_code 75 = .ok (.ireturn, 1) := by decide +kernel
theorem d_Mod_sumOf_14 : decode prog_12_method_18_code 14 = .ok (.aload_n 0, 1) := by decide +kernel
theorem d_Mod_sumOf_15 : decode prog_12_method_18_code 15 = .ok (.iload_n 1, 1) := by decide +kernel
theorem d_Mod_sumOf_16 : decode prog_12_method_18_code 16 = .ok (.iload 4, 2) := by decide +kernel
theorem d_Mod_sumOf_18 : decode prog_12_method_18_code 18 = .ok (.bipush 8, 2) := by decide +kernel
theorem d_Mod_sumOf_20 : decode prog_12_method_18_code 20 = .ok (.idiv, 1) := by decide +kernel
theorem d_Mod_sumOf_21 : decode prog_12_method_18_code 21 = .ok (.iadd, 1) := by decide +kernel
theorem d_Mod_sumOf_22 : decode prog_12_method_18_code 22 = .ok (.baload, 1) := by decide +kernel
theorem d_Mod_sumOf_23 : decode prog_12_method_18_code 23 = .ok (.iload 4, 2) := by decide +kernel
theorem d_Mod_sumOf_25 : decode prog_12_method_18_code 25 = .ok (.bipush 8, 2) := by decide +kernel
theorem d_Mod_sumOf_27 : decode prog_12_method_18_code 27 = .ok (.irem, 1) := by decide +kernel
theorem d_Mod_sumOf_28 : decode prog_12_method_18_code 28 = .ok (.ishr, 1) := by decide +kernel
theorem d_Mod_sumOf_29 : decode prog_12_method_18_code 29 = .ok (.iconst 1, 1) := by decide +kernel
theorem d_Mod_sumOf_30 : decode prog_12_method_18_code 30 = .ok (.iand, 1) := by decide +kernel
theorem d_Mod_sumOf_31 : decode prog_12_method_18_code 31 = .ok (.istore 5, 2) := by decide +kernel
theorem d_Mod_sumOf_33 : decode prog_12_method_18_code 33 = .ok (.iload_n 3, 1) := by decide +kernel
theorem d_Mod_sumOf_34 : decode prog_12_method_18_code 34 = .ok (.iconst 1, 1) := by decide +kernel
theorem d_Mod_sumOf_35 : decode prog_12_method_18_code 35 = .ok (.iand, 1) := by decide +kernel
theorem d_Mod_sumOf_36 : decode prog_12_method_18_code 36 = .ok (.iload 5, 2) := by decide +kernel
theorem d_Mod_sumOf_38 : decode prog_12_method_18_code 38 = .ok (.if_icmp .eq 7, 3) := by decide +kernel
theorem d_Mod_sumOf_45 : decode prog_12_method_18_code 45 = .ok (.iconst 0, 1) := by decide +kernel
theorem d_Mod_sumOf_46 : decode prog_12_method_18_code 46 = .ok (.istore 6, 2) := by decide +kernel
theorem d_Mod_sumOf_48 : decode prog_12_method_18_code 48 = .ok (.iload_n 3, 1) := by decide +kernel
theorem d_Mod_sumOf_49 : decode prog_12_method_18_code 49 = .ok (.iconst 1, 1) := by decide +kernel
theorem d_Mod_sumOf_50 : decode prog_12_method_18_code 50 = .ok (.iushr, 1) := by decide +kernel
theorem d_Mod_sumOf_51 : decode prog_12_method_18_code 51 = .ok (.istore_n 3, 1) := by decide +kernel
theorem d_Mod_sumOf_52 : decode prog_12_method_18_code 52 = .ok (.iload 6, 2) := by decide +kernel
theorem d_Mod_sumOf_54 : decode prog_12_method_18_code 54 = .ok (.ifCond .eq 10, 3) := by decide +kernel
theorem d_Mod_sumOf_64 : decode prog_12_method_18_code 64 = .ok (.iload_n 3, 1) := by decide +kernel
theorem d_Mod_sumOf_65 : decode prog_12_method_18_code 65 = .ok (.istore_n 3, 1) := by decide +kernel
theorem d_Mod_sumOf_66 : decode prog_12_method_18_code 66 = .ok (.iinc 4 1, 3) := by decide +kernel
theorem d_Mod_sumOf_69 : decode prog_12_method_18_code 69 = .ok (.goto (-64), 3) := by decide +kernel
theorem d_Mod_sumOf_41 : decode prog_12_method_18_code 41 = .ok (.iconst 1, 1) := by decide +kernel
theorem d_Mod_sumOf_42 : decode prog_12_method_18_code 42 = .ok (.goto 4, 3) := by decide +kernel
theorem d_Mod_sumOf_57 : decode prog_12_method_18_code 57 = .ok (.iload_n 3, 1) := by decide +kernel
theorem d_Mod_sumOf_58 : decode prog_12_method_18_code 58 = .ok (.ldc 148, 2) := by decide +kernel
theorem k_1373 : (Jvm.Cond.constant "PackageBookModel" (148 : Nat) (-306674912 : Int32)) ∈ uW := uW_of 1373 (by decide +kernel) (by decide +kernel)
theorem d_Mod_sumOf_60 : decode prog_12_method_18_code 60 = .ok (.ixor, 1) := by decide +kernel
theorem d_Mod_sumOf_61 : decode prog_12_method_18_code 61 = .ok (.goto 4, 3) := by decide +kernel
abbrev y_Mod_sumOf : MethodName := ⟨"PackageBookModel", "sumOf", "([BII)I"⟩
abbrev i_Mod_sumOf : pb_I := (y_Mod_sumOf, prog_12_method_18_code, 7, (some Jvm.ClassFile.FieldType.int), [], { frames := 0, cells := 0, slots := 0, locals := 0 })
set_option maxRecDepth 100000 in
set_option maxHeartbeats 4000000 in
theorem g_Mod_sumOf {l : Launch} (hl : l.stackTraces = false) (G : pb_G) (a : Nat) (Na : Nat) (f : Nat → Int32) (x : Int32) (n : Int32) (h0 : 0 ≤ x.toInt) (h1 : 0 ≤ n.toInt) (h2 : x.toInt + n.toInt ≤ Na) (h3 : Na ≤ 1000000) (F_f : sb_Fit f) : Cn l G i_Mod_sumOf [.ref a, .int x, .int n] [(a, .inl (G.2.1, Na, .inl f))] (S := Int32) (fun rv_ u => rv_ = some (.int u) ∧ (u = cr_n f x.toInt n.toInt.toNat ^^^ (-1))) (fun u => [(a, .inl (G.2.1, Na, .inl f))]) := by
  refine Cn.of hl (by decide +kernel) rfl (Nat.le_of_ble_eq_true rfl) (fun M hQ => ?_)
  refine pb_eq (pc' := 0) (lo' := [(0, .ref a), (1, .int x), (2, .int n)]) (rest' := []) (ws' := [(a, .inl (G.2.1, Na, .inl f))]) ?_
  have zm1 : ((-1) : Int32).toInt = (-1) := by decide
  have zl0 : (0 : Int32).toInt = 0 := by decide
  have zl1 : (1 : Int32).toInt = 1 := by decide
  have zl8 : (8 : Int32).toInt = 8 := by decide
  refine pb_iconst (pc := 0) (v := (-1)) d_Mod_sumOf_0 (by decide) ?_
  refine pb_istore_n (pc := 1) (lo' := [(3, .int (-1)), (0, .ref a), (1, .int x), (2, .int n)]) d_Mod_sumOf_1 rfl (by decide) rfl ?_
  refine pb_iconst (pc := 2) (v := 0) d_Mod_sumOf_2 (by decide) ?_
  refine pb_istore (pc := 3) (lo' := [(4, .int 0), (3, .int (-1)), (0, .ref a), (1, .int x), (2, .int n)]) d_Mod_sumOf_3 (by decide) rfl ?_
  have hL5_1 : ∀ (N9 : Nat) (k : Int32) (s : Int32), (0 ≤ k.toInt) → (k.toInt ≤ 8 * n.toInt) → (s = cq_n f x.toInt k.toInt.toNat) → ((8 * n.toInt - k.toInt).toNat) < N9 → pb_P l G M i_Mod_sumOf 5 [(4, .int k), (3, .int s), (0, .ref a), (1, .int x), (2, .int n)] [] [(a, .inl (G.2.1, Na, .inl f))] 0 0 := by
    intro N9
    induction N9 with
    | zero => intro k s hk hk2 hs hm9; exact absurd hm9 (Nat.not_lt_zero _)
    | succ N9 ih5 =>
      intro k s hk hk2 hs hm9
      refine pb_iload (pc := 5) d_Mod_sumOf_5 0 rfl ?_
      refine pb_bipush (pc := 7) (v := 8) d_Mod_sumOf_7 (by decide) ?_
      refine pb_iload_n (pc := 9) d_Mod_sumOf_9 4 rfl rfl ?_
      refine pb_imul (pc := 10) d_Mod_sumOf_10 ?_
      refine pb_topi (fun i2 ei2 => ?_)
      try have ti2 : i2.toInt = 8 * n.toInt := ti_mul ei2 (by decide) rfl (by omega) (by omega)
      refine pb_icmp_ge (pc := 11) (tgt := 72) d_Mod_sumOf_11 (by decide) (fun w3 => ?_) (fun w3 => ?_)
      · have tw3 : i2.toInt ≤ k.toInt := (ti_le rfl rfl).mp w3
        refine pb_iload_n (pc := 72) d_Mod_sumOf_72 1 rfl rfl ?_
        refine pb_iconst (pc := 73) (v := (-1)) d_Mod_sumOf_73 (by decide) ?_
        refine pb_ixor (pc := 74) d_Mod_sumOf_74 ?_
        refine pb_topi (fun i4 ei4 => ?_)
        exact pb_iret (pc := 75) hQ d_Mod_sumOf_75 rfl rfl (i4) ⟨rfl, (show i4 = cr_n f x.toInt n.toInt.toNat ^^^ (-1) from (cq_ret hs (by omega) (by omega) (by assumption)))⟩ [0] (by decide) rfl rfl (by decide) (by decide)
      · have tw3 : ¬ i2.toInt ≤ k.toInt := fun z9 => w3 ((ti_le rfl rfl).mpr z9)
        refine pb_aload_n (pc := 14) d_Mod_sumOf_14 2 rfl rfl ?_
        refine pb_iload_n (pc := 15) d_Mod_sumOf_15 3 rfl rfl ?_
        refine pb_iload (pc := 16) d_Mod_sumOf_16 0 rfl ?_
        refine pb_bipush (pc := 18) (v := 8) d_Mod_sumOf_18 (by decide) ?_
        refine pb_idiv (pc := 20) d_Mod_sumOf_20 (by decide) ?_
        refine pb_topi (fun i5 ei5 => ?_)
        try have ti5 : i5.toInt = k.toInt / 8 := ti_div 8 ei5 rfl (by decide) (by omega) (by decide)
        refine pb_iadd (pc := 21) d_Mod_sumOf_21 ?_
        refine pb_topi (fun i6 ei6 => ?_)
        try have ti6 : i6.toInt = x.toInt + i5.toInt := t2_add ei6 rfl rfl (by omega)
        refine pb_bald (pc := 22) d_Mod_sumOf_22 0 rfl (vp_in_iff.mpr (by omega)) ?_
        refine pb_topi (fun i7 ei7 => ?_)
        have xi7 : i7 = gr f (x.toInt + k.toInt / 8) := gr_ld ei7 (by omega)
        have yi7 : i7.toInt = gx f (x.toInt + k.toInt / 8) := congrArg Int32.toInt xi7
        have ti7 : -128 ≤ i7.toInt ∧ i7.toInt ≤ 127 := ti_fit (F_f _) ei7
        refine pb_iload (pc := 23) d_Mod_sumOf_23 0 rfl ?_
        refine pb_bipush (pc := 25) (v := 8) d_Mod_sumOf_25 (by decide) ?_
        refine pb_irem (pc := 27) d_Mod_sumOf_27 (by decide) ?_
        refine pb_topi (fun i8 ei8 => ?_)
        try have ti8 : i8.toInt = k.toInt % 8 := ti_rem 8 ei8 rfl (by decide) (by omega) (by decide)
        refine pb_ishr (pc := 28) d_Mod_sumOf_28 ?_
        refine pb_topi (fun i9 ei9 => ?_)
        refine pb_iconst (pc := 29) (v := 1) d_Mod_sumOf_29 (by decide) ?_
        refine pb_iand (pc := 30) d_Mod_sumOf_30 ?_
        refine pb_topi (fun i10 ei10 => ?_)
        have ti10 : 0 ≤ i10.toInt ∧ i10.toInt ≤ 1 := ti_and 1 ei10 (by decide) (by decide)
        refine pb_istore (pc := 31) (lo' := [(5, .int i10), (4, .int k), (3, .int s), (0, .ref a), (1, .int x), (2, .int n)]) d_Mod_sumOf_31 (by decide) rfl ?_
        refine pb_iload_n (pc := 33) d_Mod_sumOf_33 2 rfl rfl ?_
        refine pb_iconst (pc := 34) (v := 1) d_Mod_sumOf_34 (by decide) ?_
        refine pb_iand (pc := 35) d_Mod_sumOf_35 ?_
        refine pb_topi (fun i11 ei11 => ?_)
        have ti11 : 0 ≤ i11.toInt ∧ i11.toInt ≤ 1 := ti_and 1 ei11 (by decide) (by decide)
        refine pb_iload (pc := 36) d_Mod_sumOf_36 0 rfl ?_
        refine pb_icmp_eq (pc := 38) (tgt := 45) d_Mod_sumOf_38 (by decide) (fun w12 => ?_) (fun w12 => ?_)
        · have tw12 : i11.toInt = i10.toInt := (ti_eq rfl rfl).mp w12
          refine pb_iconst (pc := 45) (v := 0) d_Mod_sumOf_45 (by decide) ?_
          refine pb_istore (pc := 46) (lo' := [(6, .int 0), (5, .int i10), (4, .int k), (3, .int s), (0, .ref a), (1, .int x), (2, .int n)]) d_Mod_sumOf_46 (by decide) rfl ?_
          refine pb_iload_n (pc := 48) d_Mod_sumOf_48 3 rfl rfl ?_
          refine pb_iconst (pc := 49) (v := 1) d_Mod_sumOf_49 (by decide) ?_
          refine pb_iushr (pc := 50) d_Mod_sumOf_50 rfl ?_
          refine pb_topi (fun i13 ei13 => ?_)
          refine pb_istore_n (pc := 51) (lo' := [(3, .int i13), (6, .int 0), (5, .int i10), (4, .int k), (0, .ref a), (1, .int x), (2, .int n)]) d_Mod_sumOf_51 rfl (by decide) rfl ?_
          refine pb_iload (pc := 52) d_Mod_sumOf_52 1 rfl ?_
          refine pb_if_eq (pc := 54) (tgt := 64) d_Mod_sumOf_54 (by decide) (fun _ => ?_) (fun h9 => absurd h9 (by decide))
          refine pb_iload_n (pc := 64) d_Mod_sumOf_64 0 rfl rfl ?_
          refine pb_istore_n (pc := 65) (lo' := [(3, .int i13), (6, .int 0), (5, .int i10), (4, .int k), (0, .ref a), (1, .int x), (2, .int n)]) d_Mod_sumOf_65 rfl (by decide) rfl ?_
          refine pb_iincN (pc := 66) (c := 1) d_Mod_sumOf_66 3 rfl (by decide) (by decide) (fun i15 ei15 => ?_)
          have ti15 : i15.toInt = k.toInt + 1 := t2_add ei15 rfl (by decide) (by first | omega | (have r90 := ti_rng k; have r91 := ti_rng i15; have r92 := ti_rng i13; have r93 := ti_rng i10; have r94 := ti_rng x; have r95 := ti_rng n; omega))
          refine pb_eq (pc' := 69) (lo' := [(4, .int i15), (3, .int i13), (6, .int 0), (5, .int i10), (0, .ref a), (1, .int x), (2, .int n)]) (rest' := []) (ws' := [(a, .inl (G.2.1, Na, .inl f))]) ?_
          refine pb_goto (pc := 69) (tgt := 5) d_Mod_sumOf_69 (by decide) ?_
          refine pb_re (ws' := [(a, .inl (G.2.1, Na, .inl f))]) (lo' := [(4, .int i15), (3, .int i13), (0, .ref a), (1, .int x), (2, .int n)]) [0] [0, 1, 4, 5, 6] (by decide) rfl rfl rfl ?_
          exact ih5 i15 i13 (by first | (with_reducible assumption) | omega (splitDisjunctions := false) | assumption | omega | decide) (by first | (with_reducible assumption) | omega (splitDisjunctions := false) | assumption | omega | decide) (by first | (refine cq_st hs (by omega) (by omega) ?_ (cq_e1 (by assumption) (by assumption) (by assumption) (by assumption)); exact cq_bb (by assumption) (by assumption) (by assumption) (by omega)) | (refine cq_st hs (by omega) (by omega) ?_ (cq_e0 (by assumption) (by assumption) (by assumption)); exact cq_bb (by assumption) (by assumption) (by assumption) (by omega))) (by (exact omg_7b26acebc9 hm9 ti2 tw3 ti15))
        · have tw12 : ¬ i11.toInt = i10.toInt := fun z9 => w12 ((ti_eq rfl rfl).mpr z9)
          refine pb_iconst (pc := 41) (v := 1) d_Mod_sumOf_41 (by decide) ?_
          refine pb_goto (pc := 42) (tgt := 46) d_Mod_sumOf_42 (by decide) ?_
          refine pb_istore (pc := 46) (lo' := [(6, .int 1), (5, .int i10), (4, .int k), (3, .int s), (0, .ref a), (1, .int x), (2, .int n)]) d_Mod_sumOf_46 (by decide) rfl ?_
          refine pb_iload_n (pc := 48) d_Mod_sumOf_48 3 rfl rfl ?_
          refine pb_iconst (pc := 49) (v := 1) d_Mod_sumOf_49 (by decide) ?_
          refine pb_iushr (pc := 50) d_Mod_sumOf_50 rfl ?_
          refine pb_topi (fun i16 ei16 => ?_)
          refine pb_istore_n (pc := 51) (lo' := [(3, .int i16), (6, .int 1), (5, .int i10), (4, .int k), (0, .ref a), (1, .int x), (2, .int n)]) d_Mod_sumOf_51 rfl (by decide) rfl ?_
          refine pb_iload (pc := 52) d_Mod_sumOf_52 1 rfl ?_
          refine pb_if_eq (pc := 54) (tgt := 64) d_Mod_sumOf_54 (by decide) (fun h9 => absurd h9 (by decide)) (fun _ => ?_)
          refine pb_iload_n (pc := 57) d_Mod_sumOf_57 0 rfl rfl ?_
          refine pb_ldc (pc := 58) (v := (-306674912)) d_Mod_sumOf_58 k_1373 ?_
          refine pb_ixor (pc := 60) d_Mod_sumOf_60 ?_
          refine pb_topi (fun i18 ei18 => ?_)
          refine pb_goto (pc := 61) (tgt := 65) d_Mod_sumOf_61 (by decide) ?_
          refine pb_istore_n (pc := 65) (lo' := [(3, .int i18), (6, .int 1), (5, .int i10), (4, .int k), (0, .ref a), (1, .int x), (2, .int n)]) d_Mod_sumOf_65 rfl (by decide) rfl ?_
          refine pb_iincN (pc := 66) (c := 1) d_Mod_sumOf_66 3 rfl (by decide) (by decide) (fun i19 ei19 => ?_)
          have ti19 : i19.toInt = k.toInt + 1 := t2_add ei19 rfl (by decide) (by first | omega | (have r90 := ti_rng k; have r91 := ti_rng i19; have r92 := ti_rng i18; have r93 := ti_rng i10; have r94 := ti_rng x; have r95 := ti_rng n; omega))
          refine pb_eq (pc' := 69) (lo' := [(4, .int i19), (3, .int i18), (6, .int 1), (5, .int i10), (0, .ref a), (1, .int x), (2, .int n)]) (rest' := []) (ws' := [(a, .inl (G.2.1, Na, .inl f))]) ?_
          refine pb_goto (pc := 69) (tgt := 5) d_Mod_sumOf_69 (by decide) ?_
          refine pb_re (ws' := [(a, .inl (G.2.1, Na, .inl f))]) (lo' := [(4, .int i19), (3, .int i18), (0, .ref a), (1, .int x), (2, .int n)]) [0] [0, 1, 4, 5, 6] (by decide) rfl rfl rfl ?_
          exact ih5 i19 i18 (by first | (with_reducible assumption) | omega (splitDisjunctions := false) | assumption | omega | decide) (by first | (with_reducible assumption) | omega (splitDisjunctions := false) | assumption | omega | decide) (by first | (refine cq_st hs (by omega) (by omega) ?_ (cq_e1 (by assumption) (by assumption) (by assumption) (by assumption)); exact cq_bb (by assumption) (by assumption) (by assumption) (by omega)) | (refine cq_st hs (by omega) (by omega) ?_ (cq_e0 (by assumption) (by assumption) (by assumption)); exact cq_bb (by assumption) (by assumption) (by assumption) (by omega))) (by (exact omg_7b26acebc9 hm9 ti2 tw3 ti19))
  exact hL5_1 _ 0 (-1) (by first | (with_reducible assumption) | omega (splitDisjunctions := false) | assumption | omega | decide) (by first | (with_reducible assumption) | omega (splitDisjunctions := false) | assumption | omega | decide) (by rw [zl0]; rfl) (Nat.lt_succ_self _)

theorem d_Mod_sum_0 : decode prog_12_method_19_code 0 = .ok (.aload_n 0, 1) := by decide +kernel
theorem d_Mod_sum_1 : decode prog_12_method_19_code 1 = .ok (.iconst 0, 1) := by decide +kernel
theorem d_Mod_sum_2 : decode prog_12_method_19_code 2 = .ok (.putfield 103, 3) := by decide +kernel
theorem d_Mod_sum_5 : decode prog_12_method_19_code 5 = .ok (.aload_n 0, 1) := by decide +kernel
theorem d_Mod_sum_6 : decode prog_12_method_19_code 6 = .ok (.getfield 107, 3) := by decide +kernel
theorem d_Mod_sum_9 : decode prog_12_method_19_code 9 = .ok (.istore_n 1, 1) := by decide +kernel
theorem d_Mod_sum_10 : decode prog_12_method_19_code 10 = .ok (.aload_n 0, 1) := by decide +kernel
theorem d_Mod_sum_11 : decode prog_12_method_19_code 11 = .ok (.iconst 0, 1) := by decide +kernel
theorem d_Mod_sum_12 : decode prog_12_method_19_code 12 = .ok (.putfield 107, 3) := by decide +kernel
theorem d_Mod_sum_15 : decode prog_12_method_19_code 15 = .ok (.aload_n 0, 1) := by decide +kernel
theorem d_Mod_sum_16 : decode prog_12_method_19_code 16 = .ok (.getfield 34, 3) := by decide +kernel
theorem d_Mod_sum_19 : decode prog_12_method_19_code 19 = .ok (.iconst 0, 1) := by decide +kernel
theorem d_Mod_sum_20 : decode prog_12_method_19_code 20 = .ok (.iload_n 1, 1) := by decide +kernel
theorem d_Mod_sum_21 : decode prog_12_method_19_code 21 = .ok (.invokestatic 149, 3) := by decide +kernel
theorem k_1370 : (Jvm.Cond.methodLink "PackageBookModel" (149 : Nat) ({ cls := "PackageBookModel", name := "sumOf", desc := "([BII)I" } : Jvm.MethodName)) ∈ uW := uW_of 1370 (by decide +kernel) (by decide +kernel)
theorem k_1372 : (Jvm.Cond.code ({ cls := "PackageBookModel", name := "sumOf", desc := "([BII)I" } : Jvm.MethodName) prog_12_method_18_code (7 : Nat) (Option.some Jvm.ClassFile.FieldType.int)) ∈ uW := uW_of 1372 (by decide +kernel) (by decide +kernel)
theorem k_1371 : (Jvm.Cond.static ({ cls := "PackageBookModel", name := "sumOf", desc := "([BII)I" } : Jvm.MethodName)) ∈ uW := uW_of 1371 (by decide +kernel) (by decide +kernel)
theorem hy_Mod_sumOf : (y_Mod_sumOf).cls ≠ "java/lang/invoke/MethodHandle" ∧ (y_Mod_sumOf).cls ≠ "java/lang/invoke/VarHandle" ∧ (parseMethodDescriptor (y_Mod_sumOf).desc).map (fun d => d.parameters.length) = some 3 := by decide +kernel
theorem d_Mod_sum_24 : decode prog_12_method_19_code 24 = .ok (.ireturn, 1) := by decide +kernel
abbrev y_Mod_sum : MethodName := ⟨"PackageBookModel", "sum", "()I"⟩
abbrev i_Mod_sum : pb_I := (y_Mod_sum, prog_12_method_19_code, 2, (some Jvm.ClassFile.FieldType.int), [], { frames := 1, cells := 0, slots := 0, locals := 26 })
set_option maxRecDepth 100000 in
set_option maxHeartbeats 4000000 in
theorem g_Mod_sum {l : Launch} (hl : l.stackTraces = false) (G : pb_G) (h : Nat) (m_rels : Nat) (m_openRels : Nat) (m_closeRels : Nat) (m_openRel : Nat) (m_closeRel : Nat) (m_comment : Nat) (m_ends : Nat) (m_order : Nat) (m_tape : Nat) (m_count : Nat) (m_nameSize : Nat) (m_names : Nat) (m_size : Nat) (m_data : Nat) (m_looked : Nat) (m_file : Nat) (m_directory : Nat) (m_out : Nat) (m_row : Nat) (m_made : Nat) (m_length : Nat) (m_pressed : Nat) (m_mark : Nat) (m_idSize : Nat) (m_ids : Nat) (m_goalSize : Nat) (m_goals : Nat) (m_value : Nat) (m_faults : Nat) (m_reached : Nat) (v_thrown : Int32) (v_taped : Int32) (v_lookedSize : Int32) (v_fileSize : Int32) (v_directorySize : Int32) (v_outSize : Int32) (v_rowSize : Int32) (v_bitAt : Int32) (v_bitEnd : Int32) (v_why : Int32) (v_madeSize : Int32) (v_firstCount : Int32) (v_secondCount : Int32) (v_heldBits : Int32) (v_heldCount : Int32) (v_pressedSize : Int32) (v_at : Int32) (v_bad : Int32) (v_markSize : Int32) (v_relationCount : Int32) (v_valueSize : Int32) (v_faultCount : Int32) (a_tape : Nat → Int32) (t0 : 0 ≤ v_taped.toInt) (t1 : v_taped.toInt ≤ 8000) (F_a_tape : sb_Fit a_tape) : Cn l G i_Mod_sum [.ref h] [(h, .inr (10, [.ref m_rels, .ref m_openRels, .ref m_closeRels, .ref m_openRel, .ref m_closeRel, .ref m_comment, .ref m_ends, .ref m_order, .int v_thrown, .int v_taped, .ref m_tape, .ref m_count, .ref m_nameSize, .ref m_names, .ref m_size, .ref m_data, .int v_lookedSize, .ref m_looked, .int v_fileSize, .ref m_file, .int v_directorySize, .ref m_directory, .int v_outSize, .ref m_out, .int v_rowSize, .ref m_row, .int v_bitAt, .int v_bitEnd, .int v_why, .int v_madeSize, .ref m_made, .ref m_length, .int v_firstCount, .int v_secondCount, .int v_heldBits, .int v_heldCount, .int v_pressedSize, .ref m_pressed, .int v_at, .int v_bad, .int v_markSize, .ref m_mark, .int v_relationCount, .ref m_idSize, .ref m_ids, .ref m_goalSize, .ref m_goals, .int v_valueSize, .ref m_value, .int v_faultCount, .ref m_faults, .ref m_reached])), (m_tape, .inl (G.2.1, 8000, .inl a_tape))] (S := Int32) (fun rv_ u => rv_ = some (.int u) ∧ (u = cr_n a_tape (0 : Int32).toInt v_taped.toInt.toNat ^^^ (-1))) (fun u => [(h, .inr (10, [.ref m_rels, .ref m_openRels, .ref m_closeRels, .ref m_openRel, .ref m_closeRel, .ref m_comment, .ref m_ends, .ref m_order, .int 0, .int 0, .ref m_tape, .ref m_count, .ref m_nameSize, .ref m_names, .ref m_size, .ref m_data, .int v_lookedSize, .ref m_looked, .int v_fileSize, .ref m_file, .int v_directorySize, .ref m_directory, .int v_outSize, .ref m_out, .int v_rowSize, .ref m_row, .int v_bitAt, .int v_bitEnd, .int v_why, .int v_madeSize, .ref m_made, .ref m_length, .int v_firstCount, .int v_secondCount, .int v_heldBits, .int v_heldCount, .int v_pressedSize, .ref m_pressed, .int v_at, .int v_bad, .int v_markSize, .ref m_mark, .int v_relationCount, .ref m_idSize, .ref m_ids, .ref m_goalSize, .ref m_goals, .int v_valueSize, .ref m_value, .int v_faultCount, .ref m_faults, .ref m_reached])), (m_tape, .inl (G.2.1, 8000, .inl a_tape))]) := by
  refine Cn.of hl (by decide +kernel) rfl (Nat.le_of_ble_eq_true rfl) (fun M hQ => ?_)
  refine pb_eq (pc' := 0) (lo' := [(0, .ref h)]) (rest' := []) (ws' := [(h, .inr (10, [.ref m_rels, .ref m_openRels, .ref m_closeRels, .ref m_openRel, .ref m_closeRel, .ref m_comment, .ref m_ends, .ref m_order, .int v_thrown, .int v_taped, .ref m_tape, .ref m_count, .ref m_nameSize, .ref m_names, .ref m_size, .ref m_data, .int v_lookedSize, .ref m_looked, .int v_fileSize, .ref m_file, .int v_directorySize, .ref m_directory, .int v_outSize, .ref m_out, .int v_rowSize, .ref m_row, .int v_bitAt, .int v_bitEnd, .int v_why, .int v_madeSize, .ref m_made, .ref m_length, .int v_firstCount, .int v_secondCount, .int v_heldBits, .int v_heldCount, .int v_pressedSize, .ref m_pressed, .int v_at, .int v_bad, .int v_markSize, .ref m_mark, .int v_relationCount, .ref m_idSize, .ref m_ids, .ref m_goalSize, .ref m_goals, .int v_valueSize, .ref m_value, .int v_faultCount, .ref m_faults, .ref m_reached])), (m_tape, .inl (G.2.1, 8000, .inl a_tape))]) ?_
  have zl0 : (0 : Int32).toInt = 0 := by decide
  have zl1 : (1 : Int32).toInt = 1 := by decide
  refine pb_aload_n (pc := 0) d_Mod_sum_0 0 rfl rfl ?_
  refine pb_iconst (pc := 1) (v := 0) d_Mod_sum_1 (by decide) ?_
  refine pb_put (pc := 2) (ty := .int) (ws' := [(h, .inr (10, [.ref m_rels, .ref m_openRels, .ref m_closeRels, .ref m_openRel, .ref m_closeRel, .ref m_comment, .ref m_ends, .ref m_order, .int 0, .int v_taped, .ref m_tape, .ref m_count, .ref m_nameSize, .ref m_names, .ref m_size, .ref m_data, .int v_lookedSize, .ref m_looked, .int v_fileSize, .ref m_file, .int v_directorySize, .ref m_directory, .int v_outSize, .ref m_out, .int v_rowSize, .ref m_row, .int v_bitAt, .int v_bitEnd, .int v_why, .int v_madeSize, .ref m_made, .ref m_length, .int v_firstCount, .int v_secondCount, .int v_heldBits, .int v_heldCount, .int v_pressedSize, .ref m_pressed, .int v_at, .int v_bad, .int v_markSize, .ref m_mark, .int v_relationCount, .ref m_idSize, .ref m_ids, .ref m_goalSize, .ref m_goals, .int v_valueSize, .ref m_value, .int v_faultCount, .ref m_faults, .ref m_reached])), (m_tape, .inl (G.2.1, 8000, .inl a_tape))]) d_Mod_sum_2 0 8 t_Mod t_Mod_ok n_Mod rfl rfl (by decide) in_Mod k_1154 rfl (by decide +kernel) rfl rfl (Nat.le_of_ble_eq_true rfl) rfl ?_
  refine pb_aload_n (pc := 5) d_Mod_sum_5 0 rfl rfl ?_
  refine pb_get (pc := 6) d_Mod_sum_6 0 9 rfl rfl (by decide) in_Mod k_1155 rfl ?_
  refine pb_istore_n (pc := 9) (lo' := [(1, .int v_taped), (0, .ref h)]) d_Mod_sum_9 rfl (by decide) rfl ?_
  refine pb_aload_n (pc := 10) d_Mod_sum_10 1 rfl rfl ?_
  refine pb_iconst (pc := 11) (v := 0) d_Mod_sum_11 (by decide) ?_
  refine pb_put (pc := 12) (ty := .int) (ws' := [(h, .inr (10, [.ref m_rels, .ref m_openRels, .ref m_closeRels, .ref m_openRel, .ref m_closeRel, .ref m_comment, .ref m_ends, .ref m_order, .int 0, .int 0, .ref m_tape, .ref m_count, .ref m_nameSize, .ref m_names, .ref m_size, .ref m_data, .int v_lookedSize, .ref m_looked, .int v_fileSize, .ref m_file, .int v_directorySize, .ref m_directory, .int v_outSize, .ref m_out, .int v_rowSize, .ref m_row, .int v_bitAt, .int v_bitEnd, .int v_why, .int v_madeSize, .ref m_made, .ref m_length, .int v_firstCount, .int v_secondCount, .int v_heldBits, .int v_heldCount, .int v_pressedSize, .ref m_pressed, .int v_at, .int v_bad, .int v_markSize, .ref m_mark, .int v_relationCount, .ref m_idSize, .ref m_ids, .ref m_goalSize, .ref m_goals, .int v_valueSize, .ref m_value, .int v_faultCount, .ref m_faults, .ref m_reached])), (m_tape, .inl (G.2.1, 8000, .inl a_tape))]) d_Mod_sum_12 0 9 t_Mod t_Mod_ok n_Mod rfl rfl (by decide) in_Mod k_1155 rfl (by decide +kernel) rfl rfl (Nat.le_of_ble_eq_true rfl) rfl ?_
  refine pb_aload_n (pc := 15) d_Mod_sum_15 1 rfl rfl ?_
  refine pb_get (pc := 16) d_Mod_sum_16 0 10 rfl rfl (by decide) in_Mod k_1156 rfl ?_
  refine pb_iconst (pc := 19) (v := 0) d_Mod_sum_19 (by decide) ?_
  refine pb_iload_n (pc := 20) d_Mod_sum_20 0 rfl rfl ?_
  refine pb_callS (pc := 21) (I := i_Mod_sum) (nA := 3) (rest := []) (wr := [(h, .inr (10, [.ref m_rels, .ref m_openRels, .ref m_closeRels, .ref m_openRel, .ref m_closeRel, .ref m_comment, .ref m_ends, .ref m_order, .int 0, .int 0, .ref m_tape, .ref m_count, .ref m_nameSize, .ref m_names, .ref m_size, .ref m_data, .int v_lookedSize, .ref m_looked, .int v_fileSize, .ref m_file, .int v_directorySize, .ref m_directory, .int v_outSize, .ref m_out, .int v_rowSize, .ref m_row, .int v_bitAt, .int v_bitEnd, .int v_why, .int v_madeSize, .ref m_made, .ref m_length, .int v_firstCount, .int v_secondCount, .int v_heldBits, .int v_heldCount, .int v_pressedSize, .ref m_pressed, .int v_at, .int v_bad, .int v_markSize, .ref m_mark, .int v_relationCount, .ref m_idSize, .ref m_ids, .ref m_goalSize, .ref m_goals, .int v_valueSize, .ref m_value, .int v_faultCount, .ref m_faults, .ref m_reached]))]) d_Mod_sum_21 (g_Mod_sumOf hl G m_tape 8000 a_tape 0 v_taped (by first | (with_reducible assumption) | omega (splitDisjunctions := false) | assumption | omega | decide) (by first | (with_reducible assumption) | omega (splitDisjunctions := false) | assumption | omega | decide) (by first | (with_reducible assumption) | omega (splitDisjunctions := false) | assumption | omega | decide) (by first | (with_reducible assumption) | omega (splitDisjunctions := false) | assumption | omega | decide) F_a_tape) [1] [0] (by decide) rfl rfl rfl (by decide) (by decide) k_1372 rfl k_128 k_1370 k_1371 hy_Mod_sumOf (by decide) rfl rfl (Nat.le_of_ble_eq_true rfl) (by decide) (fun v9 u2 ch1 => ?_)
  obtain ⟨r_3, rfl⟩ : ∃ z9, z9 = u2 := ⟨_, rfl⟩
  obtain ⟨ech1, ch1⟩ := ch1
  have ech1 : v9 = some (.int r_3) := ech1
  subst ech1
  have fh4 : r_3 = cr_n a_tape (0 : Int32).toInt v_taped.toInt.toNat ^^^ (-1) := ch1
  refine pb_eq (pc' := 24) (lo' := [(1, .int v_taped), (0, .ref h)]) (rest' := [.int r_3]) (ws' := [(h, .inr (10, [.ref m_rels, .ref m_openRels, .ref m_closeRels, .ref m_openRel, .ref m_closeRel, .ref m_comment, .ref m_ends, .ref m_order, .int 0, .int 0, .ref m_tape, .ref m_count, .ref m_nameSize, .ref m_names, .ref m_size, .ref m_data, .int v_lookedSize, .ref m_looked, .int v_fileSize, .ref m_file, .int v_directorySize, .ref m_directory, .int v_outSize, .ref m_out, .int v_rowSize, .ref m_row, .int v_bitAt, .int v_bitEnd, .int v_why, .int v_madeSize, .ref m_made, .ref m_length, .int v_firstCount, .int v_secondCount, .int v_heldBits, .int v_heldCount, .int v_pressedSize, .ref m_pressed, .int v_at, .int v_bad, .int v_markSize, .ref m_mark, .int v_relationCount, .ref m_idSize, .ref m_ids, .ref m_goalSize, .ref m_goals, .int v_valueSize, .ref m_value, .int v_faultCount, .ref m_faults, .ref m_reached])), (m_tape, .inl (G.2.1, 8000, .inl a_tape))]) ?_
  exact pb_iret (pc := 24) hQ d_Mod_sum_24 rfl rfl (r_3) ⟨rfl, (by (try dsimp only); first | done | (with_reducible assumption) | omega (splitDisjunctions := false) | assumption | omega | decide)⟩ [0, 1] (by decide) rfl rfl (by decide) (by decide)

theorem d_Mod_takeRow_0 : decode prog_12_method_46_code 0 = .ok (.aload_n 0, 1) := by decide +kernel
theorem d_Mod_takeRow_1 : decode prog_12_method_46_code 1 = .ok (.aload_n 0, 1) := by decide +kernel
theorem d_Mod_takeRow_2 : decode prog_12_method_46_code 2 = .ok (.getfield 107, 3) := by decide +kernel
theorem d_Mod_takeRow_5 : decode prog_12_method_46_code 5 = .ok (.putfield 260, 3) := by decide +kernel
theorem k_1170 : (Jvm.Cond.fieldLink "PackageBookModel" (260 : Nat) "PackageBookModel" "rowSize" "I") ∈ uW := uW_of 1170 (by decide +kernel) (by decide +kernel)
theorem d_Mod_takeRow_8 : decode prog_12_method_46_code 8 = .ok (.iconst 0, 1) := by decide +kernel
theorem d_Mod_takeRow_9 : decode prog_12_method_46_code 9 = .ok (.istore_n 1, 1) := by decide +kernel
theorem d_Mod_takeRow_10 : decode prog_12_method_46_code 10 = .ok (.iload_n 1, 1) := by decide +kernel
theorem d_Mod_takeRow_11 : decode prog_12_method_46_code 11 = .ok (.aload_n 0, 1) := by decide +kernel
theorem d_Mod_takeRow_12 : decode prog_12_method_46_code 12 = .ok (.getfield 107, 3) := by decide +kernel
theorem d_Mod_takeRow_15 : decode prog_12_method_46_code 15 = .ok (.if_icmp .ge 21, 3) := by decide +kernel
theorem d_Mod_takeRow_36 : decode prog_12_method_46_code 36 = .ok (.aload_n 0, 1) := by decide +kernel
theorem d_Mod_takeRow_37 : decode prog_12_method_46_code 37 = .ok (.iconst 0, 1) := by decide +kernel
theorem d_Mod_takeRow_38 : decode prog_12_method_46_code 38 = .ok (.putfield 107, 3) := by decide +kernel
theorem d_Mod_takeRow_41 : decode prog_12_method_46_code 41 = .ok (.return_, 1) := by decide +kernel
theorem d_Mod_takeRow_18 : decode prog_12_method_46_code 18 = .ok (.aload_n 0, 1) := by decide +kernel
theorem d_Mod_takeRow_19 : decode prog_12_method_46_code 19 = .ok (.getfield 66, 3) := by decide +kernel
theorem k_1171 : (Jvm.Cond.fieldLink "PackageBookModel" (66 : Nat) "PackageBookModel" "row" "[B") ∈ uW := uW_of 1171 (by decide +kernel) (by decide +kernel)
theorem d_Mod_takeRow_22 : decode prog_12_method_46_code 22 = .ok (.iload_n 1, 1) := by decide +kernel
theorem d_Mod_takeRow_23 : decode prog_12_method_46_code 23 = .ok (.aload_n 0, 1) := by decide +kernel
theorem d_Mod_takeRow_24 : decode prog_12_method_46_code 24 = .ok (.getfield 34, 3) := by decide +kernel
theorem d_Mod_takeRow_27 : decode prog_12_method_46_code 27 = .ok (.iload_n 1, 1) := by decide +kernel
theorem d_Mod_takeRow_28 : decode prog_12_method_46_code 28 = .ok (.baload, 1) := by decide +kernel
theorem d_Mod_takeRow_29 : decode prog_12_method_46_code 29 = .ok (.bastore, 1) := by decide +kernel
theorem d_Mod_takeRow_30 : decode prog_12_method_46_code 30 = .ok (.iinc 1 1, 3) := by decide +kernel
theorem d_Mod_takeRow_33 : decode prog_12_method_46_code 33 = .ok (.goto (-23), 3) := by decide +kernel
abbrev y_Mod_takeRow : MethodName := ⟨"PackageBookModel", "takeRow", "()V"⟩
abbrev i_Mod_takeRow : pb_I := (y_Mod_takeRow, prog_12_method_46_code, 2, (Option.none : Option Jvm.ClassFile.FieldType), [], { frames := 0, cells := 0, slots := 0, locals := 0 })
set_option maxRecDepth 100000 in
set_option maxHeartbeats 4000000 in
theorem g_Mod_takeRow {l : Launch} (hl : l.stackTraces = false) (G : pb_G) (h : Nat) (m_rels : Nat) (m_openRels : Nat) (m_closeRels : Nat) (m_openRel : Nat) (m_closeRel : Nat) (m_comment : Nat) (m_ends : Nat) (m_order : Nat) (m_tape : Nat) (m_count : Nat) (m_nameSize : Nat) (m_names : Nat) (m_size : Nat) (m_data : Nat) (m_looked : Nat) (m_file : Nat) (m_directory : Nat) (m_out : Nat) (m_row : Nat) (m_made : Nat) (m_length : Nat) (m_pressed : Nat) (m_mark : Nat) (m_idSize : Nat) (m_ids : Nat) (m_goalSize : Nat) (m_goals : Nat) (m_value : Nat) (m_faults : Nat) (m_reached : Nat) (v_thrown : Int32) (v_taped : Int32) (v_lookedSize : Int32) (v_fileSize : Int32) (v_directorySize : Int32) (v_outSize : Int32) (v_rowSize : Int32) (v_bitAt : Int32) (v_bitEnd : Int32) (v_why : Int32) (v_madeSize : Int32) (v_firstCount : Int32) (v_secondCount : Int32) (v_heldBits : Int32) (v_heldCount : Int32) (v_pressedSize : Int32) (v_at : Int32) (v_bad : Int32) (v_markSize : Int32) (v_relationCount : Int32) (v_valueSize : Int32) (v_faultCount : Int32) (a_tape : Nat → Int32) (a_row : Nat → Int32) (t0 : 0 ≤ v_taped.toInt) (t1 : v_taped.toInt ≤ 8000) (F_a_tape : sb_Fit a_tape) (F_a_row : sb_Fit a_row) : Cn l G i_Mod_takeRow [.ref h] [(h, .inr (10, [.ref m_rels, .ref m_openRels, .ref m_closeRels, .ref m_openRel, .ref m_closeRel, .ref m_comment, .ref m_ends, .ref m_order, .int v_thrown, .int v_taped, .ref m_tape, .ref m_count, .ref m_nameSize, .ref m_names, .ref m_size, .ref m_data, .int v_lookedSize, .ref m_looked, .int v_fileSize, .ref m_file, .int v_directorySize, .ref m_directory, .int v_outSize, .ref m_out, .int v_rowSize, .ref m_row, .int v_bitAt, .int v_bitEnd, .int v_why, .int v_madeSize, .ref m_made, .ref m_length, .int v_firstCount, .int v_secondCount, .int v_heldBits, .int v_heldCount, .int v_pressedSize, .ref m_pressed, .int v_at, .int v_bad, .int v_markSize, .ref m_mark, .int v_relationCount, .ref m_idSize, .ref m_ids, .ref m_goalSize, .ref m_goals, .int v_valueSize, .ref m_value, .int v_faultCount, .ref m_faults, .ref m_reached])), (m_tape, .inl (G.2.1, 8000, .inl a_tape)), (m_row, .inl (G.2.1, 20000, .inl a_row))] (S := (Nat → Int32)) (fun rv_ u => rv_ = none ∧ (rl_B a_tape u v_taped.toInt) ∧ (sb_Fit u)) (fun u => [(h, .inr (10, [.ref m_rels, .ref m_openRels, .ref m_closeRels, .ref m_openRel, .ref m_closeRel, .ref m_comment, .ref m_ends, .ref m_order, .int v_thrown, .int 0, .ref m_tape, .ref m_count, .ref m_nameSize, .ref m_names, .ref m_size, .ref m_data, .int v_lookedSize, .ref m_looked, .int v_fileSize, .ref m_file, .int v_directorySize, .ref m_directory, .int v_outSize, .ref m_out, .int v_taped, .ref m_row, .int v_bitAt, .int v_bitEnd, .int v_why, .int v_madeSize, .ref m_made, .ref m_length, .int v_firstCount, .int v_secondCount, .int v_heldBits, .int v_heldCount, .int v_pressedSize, .ref m_pressed, .int v_at, .int v_bad, .int v_markSize, .ref m_mark, .int v_relationCount, .ref m_idSize, .ref m_ids, .ref m_goalSize, .ref m_goals, .int v_valueSize, .ref m_value, .int v_faultCount, .ref m_faults, .ref m_reached])), (m_tape, .inl (G.2.1, 8000, .inl a_tape)), (m_row, .inl (G.2.1, 20000, .inl u))]) := by
  refine Cn.of hl (by decide +kernel) rfl (Nat.le_of_ble_eq_true rfl) (fun M hQ => ?_)
  refine pb_eq (pc' := 0) (lo' := [(0, .ref h)]) (rest' := []) (ws' := [(h, .inr (10, [.ref m_rels, .ref m_openRels, .ref m_closeRels, .ref m_openRel, .ref m_closeRel, .ref m_comment, .ref m_ends, .ref m_order, .int v_thrown, .int v_taped, .ref m_tape, .ref m_count, .ref m_nameSize, .ref m_names, .ref m_size, .ref m_data, .int v_lookedSize, .ref m_looked, .int v_fileSize, .ref m_file, .int v_directorySize, .ref m_directory, .int v_outSize, .ref m_out, .int v_rowSize, .ref m_row, .int v_bitAt, .int v_bitEnd, .int v_why, .int v_madeSize, .ref m_made, .ref m_length, .int v_firstCount, .int v_secondCount, .int v_heldBits, .int v_heldCount, .int v_pressedSize, .ref m_pressed, .int v_at, .int v_bad, .int v_markSize, .ref m_mark, .int v_relationCount, .ref m_idSize, .ref m_ids, .ref m_goalSize, .ref m_goals, .int v_valueSize, .ref m_value, .int v_faultCount, .ref m_faults, .ref m_reached])), (m_tape, .inl (G.2.1, 8000, .inl a_tape)), (m_row, .inl (G.2.1, 20000, .inl a_row))]) ?_
  have zl0 : (0 : Int32).toInt = 0 := by decide
  have zl1 : (1 : Int32).toInt = 1 := by decide
  refine pb_aload_n (pc := 0) d_Mod_takeRow_0 0 rfl rfl ?_
  refine pb_aload_n (pc := 1) d_Mod_takeRow_1 0 rfl rfl ?_
  refine pb_get (pc := 2) d_Mod_takeRow_2 0 9 rfl rfl (by decide) in_Mod k_1155 rfl ?_
  refine pb_put (pc := 5) (ty := .int) (ws' := [(h, .inr (10, [.ref m_rels, .ref m_openRels, .ref m_closeRels, .ref m_openRel, .ref m_closeRel, .ref m_comment, .ref m_ends, .ref m_order, .int v_thrown, .int v_taped, .ref m_tape, .ref m_count, .ref m_nameSize, .ref m_names, .ref m_size, .ref m_data, .int v_lookedSize, .ref m_looked, .int v_fileSize, .ref m_file, .int v_directorySize, .ref m_directory, .int v_outSize, .ref m_out, .int v_taped, .ref m_row, .int v_bitAt, .int v_bitEnd, .int v_why, .int v_madeSize, .ref m_made, .ref m_length, .int v_firstCount, .int v_secondCount, .int v_heldBits, .int v_heldCount, .int v_pressedSize, .ref m_pressed, .int v_at, .int v_bad, .int v_markSize, .ref m_mark, .int v_relationCount, .ref m_idSize, .ref m_ids, .ref m_goalSize, .ref m_goals, .int v_valueSize, .ref m_value, .int v_faultCount, .ref m_faults, .ref m_reached])), (m_tape, .inl (G.2.1, 8000, .inl a_tape)), (m_row, .inl (G.2.1, 20000, .inl a_row))]) d_Mod_takeRow_5 0 24 t_Mod t_Mod_ok n_Mod rfl rfl (by decide) in_Mod k_1170 rfl (by decide +kernel) rfl rfl (Nat.le_of_ble_eq_true rfl) rfl ?_
  refine pb_iconst (pc := 8) (v := 0) d_Mod_takeRow_8 (by decide) ?_
  refine pb_istore_n (pc := 9) (lo' := [(1, .int 0), (0, .ref h)]) d_Mod_takeRow_9 rfl (by decide) rfl ?_
  have hL10_1 : ∀ (N9 : Nat) (k : Int32) (g : Nat → Int32), (sb_Fit g) → (0 ≤ k.toInt) → (k.toInt ≤ v_taped.toInt) → (rl_B a_tape g k.toInt) → ((v_taped.toInt - k.toInt).toNat) < N9 → pb_P l G M i_Mod_takeRow 10 [(1, .int k), (0, .ref h)] [] [(h, .inr (10, [.ref m_rels, .ref m_openRels, .ref m_closeRels, .ref m_openRel, .ref m_closeRel, .ref m_comment, .ref m_ends, .ref m_order, .int v_thrown, .int v_taped, .ref m_tape, .ref m_count, .ref m_nameSize, .ref m_names, .ref m_size, .ref m_data, .int v_lookedSize, .ref m_looked, .int v_fileSize, .ref m_file, .int v_directorySize, .ref m_directory, .int v_outSize, .ref m_out, .int v_taped, .ref m_row, .int v_bitAt, .int v_bitEnd, .int v_why, .int v_madeSize, .ref m_made, .ref m_length, .int v_firstCount, .int v_secondCount, .int v_heldBits, .int v_heldCount, .int v_pressedSize, .ref m_pressed, .int v_at, .int v_bad, .int v_markSize, .ref m_mark, .int v_relationCount, .ref m_idSize, .ref m_ids, .ref m_goalSize, .ref m_goals, .int v_valueSize, .ref m_value, .int v_faultCount, .ref m_faults, .ref m_reached])), (m_tape, .inl (G.2.1, 8000, .inl a_tape)), (m_row, .inl (G.2.1, 20000, .inl g))] 0 0 := by
    intro N9
    induction N9 with
    | zero => intro k g F_g hk hk2 ht hm9; exact absurd hm9 (Nat.not_lt_zero _)
    | succ N9 ih10 =>
      intro k g F_g hk hk2 ht hm9
      refine pb_iload_n (pc := 10) d_Mod_takeRow_10 0 rfl rfl ?_
      refine pb_aload_n (pc := 11) d_Mod_takeRow_11 1 rfl rfl ?_
      refine pb_get (pc := 12) d_Mod_takeRow_12 0 9 rfl rfl (by decide) in_Mod k_1155 rfl ?_
      refine pb_icmp_ge (pc := 15) (tgt := 36) d_Mod_takeRow_15 (by decide) (fun w2 => ?_) (fun w2 => ?_)
      · have tw2 : v_taped.toInt ≤ k.toInt := (ti_le rfl rfl).mp w2
        refine pb_aload_n (pc := 36) d_Mod_takeRow_36 1 rfl rfl ?_
        refine pb_iconst (pc := 37) (v := 0) d_Mod_takeRow_37 (by decide) ?_
        refine pb_put (pc := 38) (ty := .int) (ws' := [(h, .inr (10, [.ref m_rels, .ref m_openRels, .ref m_closeRels, .ref m_openRel, .ref m_closeRel, .ref m_comment, .ref m_ends, .ref m_order, .int v_thrown, .int 0, .ref m_tape, .ref m_count, .ref m_nameSize, .ref m_names, .ref m_size, .ref m_data, .int v_lookedSize, .ref m_looked, .int v_fileSize, .ref m_file, .int v_directorySize, .ref m_directory, .int v_outSize, .ref m_out, .int v_taped, .ref m_row, .int v_bitAt, .int v_bitEnd, .int v_why, .int v_madeSize, .ref m_made, .ref m_length, .int v_firstCount, .int v_secondCount, .int v_heldBits, .int v_heldCount, .int v_pressedSize, .ref m_pressed, .int v_at, .int v_bad, .int v_markSize, .ref m_mark, .int v_relationCount, .ref m_idSize, .ref m_ids, .ref m_goalSize, .ref m_goals, .int v_valueSize, .ref m_value, .int v_faultCount, .ref m_faults, .ref m_reached])), (m_tape, .inl (G.2.1, 8000, .inl a_tape)), (m_row, .inl (G.2.1, 20000, .inl g))]) d_Mod_takeRow_38 0 9 t_Mod t_Mod_ok n_Mod rfl rfl (by decide) in_Mod k_1155 rfl (by decide +kernel) rfl rfl (Nat.le_of_ble_eq_true rfl) rfl ?_
        exact pb_vret (pc := 41) hQ d_Mod_takeRow_41 rfl (g) ⟨rfl, (show rl_B a_tape g v_taped.toInt from (by rw [show v_taped.toInt = k.toInt by omega]; exact ht)), F_g⟩ [0, 1, 2] (by decide) rfl rfl (by decide) (by decide)
      · have tw2 : ¬ v_taped.toInt ≤ k.toInt := fun z9 => w2 ((ti_le rfl rfl).mpr z9)
        refine pb_aload_n (pc := 18) d_Mod_takeRow_18 1 rfl rfl ?_
        refine pb_get (pc := 19) d_Mod_takeRow_19 0 25 rfl rfl (by decide) in_Mod k_1171 rfl ?_
        refine pb_iload_n (pc := 22) d_Mod_takeRow_22 0 rfl rfl ?_
        refine pb_aload_n (pc := 23) d_Mod_takeRow_23 1 rfl rfl ?_
        refine pb_get (pc := 24) d_Mod_takeRow_24 0 10 rfl rfl (by decide) in_Mod k_1156 rfl ?_
        refine pb_iload_n (pc := 27) d_Mod_takeRow_27 0 rfl rfl ?_
        refine pb_bald (pc := 28) d_Mod_takeRow_28 1 rfl (vp_in_iff.mpr (by omega)) ?_
        refine pb_topi (fun i3 ei3 => ?_)
        have xi3 : i3 = gr a_tape (k.toInt) := gr_ld ei3 (by omega)
        have yi3 : i3.toInt = gx a_tape (k.toInt) := congrArg Int32.toInt xi3
        have ti3 : -128 ≤ i3.toInt ∧ i3.toInt ≤ 127 := ti_fit (F_a_tape _) ei3
        refine pb_bast (pc := 29) (ws' := [(h, .inr (10, [.ref m_rels, .ref m_openRels, .ref m_closeRels, .ref m_openRel, .ref m_closeRel, .ref m_comment, .ref m_ends, .ref m_order, .int v_thrown, .int v_taped, .ref m_tape, .ref m_count, .ref m_nameSize, .ref m_names, .ref m_size, .ref m_data, .int v_lookedSize, .ref m_looked, .int v_fileSize, .ref m_file, .int v_directorySize, .ref m_directory, .int v_outSize, .ref m_out, .int v_taped, .ref m_row, .int v_bitAt, .int v_bitEnd, .int v_why, .int v_madeSize, .ref m_made, .ref m_length, .int v_firstCount, .int v_secondCount, .int v_heldBits, .int v_heldCount, .int v_pressedSize, .ref m_pressed, .int v_at, .int v_bad, .int v_markSize, .ref m_mark, .int v_relationCount, .ref m_idSize, .ref m_ids, .ref m_goalSize, .ref m_goals, .int v_valueSize, .ref m_value, .int v_faultCount, .ref m_faults, .ref m_reached])), (m_tape, .inl (G.2.1, 8000, .inl a_tape)), (m_row, .inl (G.2.1, 20000, .inl (upd g ((k : Int32).toNatClampNeg) (vp_nar .byte i3))))]) d_Mod_takeRow_29 2 rfl (vp_in_iff.mpr (by omega)) rfl ?_
        refine pb_iincN (pc := 30) (c := 1) d_Mod_takeRow_30 0 rfl (by decide) (by decide) (fun i4 ei4 => ?_)
        have ti4 : i4.toInt = k.toInt + 1 := t2_add ei4 rfl (by decide) (by first | omega | (have r90 := ti_rng k; have r91 := ti_rng i4; omega))
        refine pb_eq (pc' := 33) (lo' := [(1, .int i4), (0, .ref h)]) (rest' := []) (ws' := [(h, .inr (10, [.ref m_rels, .ref m_openRels, .ref m_closeRels, .ref m_openRel, .ref m_closeRel, .ref m_comment, .ref m_ends, .ref m_order, .int v_thrown, .int v_taped, .ref m_tape, .ref m_count, .ref m_nameSize, .ref m_names, .ref m_size, .ref m_data, .int v_lookedSize, .ref m_looked, .int v_fileSize, .ref m_file, .int v_directorySize, .ref m_directory, .int v_outSize, .ref m_out, .int v_taped, .ref m_row, .int v_bitAt, .int v_bitEnd, .int v_why, .int v_madeSize, .ref m_made, .ref m_length, .int v_firstCount, .int v_secondCount, .int v_heldBits, .int v_heldCount, .int v_pressedSize, .ref m_pressed, .int v_at, .int v_bad, .int v_markSize, .ref m_mark, .int v_relationCount, .ref m_idSize, .ref m_ids, .ref m_goalSize, .ref m_goals, .int v_valueSize, .ref m_value, .int v_faultCount, .ref m_faults, .ref m_reached])), (m_tape, .inl (G.2.1, 8000, .inl a_tape)), (m_row, .inl (G.2.1, 20000, .inl (upd g ((k : Int32).toNatClampNeg) (vp_nar .byte i3))))]) ?_
        refine pb_goto (pc := 33) (tgt := 10) d_Mod_takeRow_33 (by decide) ?_
        exact ih10 i4 (upd g ((k : Int32).toNatClampNeg) (vp_nar .byte i3)) (sb_fitU F_g (fit_nar _)) (by first | (with_reducible assumption) | omega (splitDisjunctions := false) | assumption | omega | decide) (by first | (with_reducible assumption) | omega (splitDisjunctions := false) | assumption | omega | decide) (rl_st ht (fun j hj => gr_updb rfl j (by omega) hj) (by omega) (by assumption) (by omega)) (by omega)
  exact hL10_1 _ 0 a_row F_a_row (by first | (with_reducible assumption) | omega (splitDisjunctions := false) | assumption | omega | decide) (by first | (with_reducible assumption) | omega (splitDisjunctions := false) | assumption | omega | decide) (rl_0 (by omega)) (Nat.lt_succ_self _)

theorem d_Mod_out_0 : decode prog_12_method_48_code 0 = .ok (.aload_n 0, 1) := by decide +kernel
theorem d_Mod_out_1 : decode prog_12_method_48_code 1 = .ok (.iload_n 1, 1) := by decide +kernel
theorem d_Mod_out_2 : decode prog_12_method_48_code 2 = .ok (.ifCond .lt 11, 3) := by decide +kernel
theorem d_Mod_out_13 : decode prog_12_method_48_code 13 = .ok (.iconst 1, 1) := by decide +kernel
theorem d_Mod_out_14 : decode prog_12_method_48_code 14 = .ok (.goto 4, 3) := by decide +kernel
theorem d_Mod_out_18 : decode prog_12_method_48_code 18 = .ok (.putfield 103, 3) := by decide +kernel
theorem d_Mod_out_21 : decode prog_12_method_48_code 21 = .ok (.aload_n 0, 1) := by decide +kernel
theorem d_Mod_out_22 : decode prog_12_method_48_code 22 = .ok (.getfield 103, 3) := by decide +kernel
theorem d_Mod_out_25 : decode prog_12_method_48_code 25 = .ok (.ifCond .le 7, 3) := by decide +kernel
theorem d_Mod_out_28 : decode prog_12_method_48_code 28 = .ok (.iconst 0, 1) := by decide +kernel
theorem d_Mod_out_29 : decode prog_12_method_48_code 29 = .ok (.goto 13, 3) := by decide +kernel
theorem d_Mod_out_42 : decode prog_12_method_48_code 42 = .ok (.ireturn, 1) := by decide +kernel
theorem d_Mod_out_5 : decode prog_12_method_48_code 5 = .ok (.iload_n 1, 1) := by decide +kernel
theorem d_Mod_out_6 : decode prog_12_method_48_code 6 = .ok (.aload_n 0, 1) := by decide +kernel
theorem d_Mod_out_7 : decode prog_12_method_48_code 7 = .ok (.getfield 194, 3) := by decide +kernel
theorem k_1168 : (Jvm.Cond.fieldLink "PackageBookModel" (194 : Nat) "PackageBookModel" "outSize" "I") ∈ uW := uW_of 1168 (by decide +kernel) (by decide +kernel)
theorem d_Mod_out_10 : decode prog_12_method_48_code 10 = .ok (.if_icmp .lt 7, 3) := by decide +kernel
theorem d_Mod_out_17 : decode prog_12_method_48_code 17 = .ok (.iconst 0, 1) := by decide +kernel
theorem d_Mod_out_32 : decode prog_12_method_48_code 32 = .ok (.aload_n 0, 1) := by decide +kernel
theorem d_Mod_out_33 : decode prog_12_method_48_code 33 = .ok (.getfield 63, 3) := by decide +kernel
theorem k_1169 : (Jvm.Cond.fieldLink "PackageBookModel" (63 : Nat) "PackageBookModel" "out" "[B") ∈ uW := uW_of 1169 (by decide +kernel) (by decide +kernel)
theorem d_Mod_out_36 : decode prog_12_method_48_code 36 = .ok (.iload_n 1, 1) := by decide +kernel
theorem d_Mod_out_37 : decode prog_12_method_48_code 37 = .ok (.baload, 1) := by decide +kernel
theorem d_Mod_out_38 : decode prog_12_method_48_code 38 = .ok (.sipush 255, 3) := by decide +kernel
theorem d_Mod_out_41 : decode prog_12_method_48_code 41 = .ok (.iand, 1) := by decide +kernel
abbrev y_Mod_out : MethodName := ⟨"PackageBookModel", "out", "(I)I"⟩
abbrev i_Mod_out : pb_I := (y_Mod_out, prog_12_method_48_code, 2, (some Jvm.ClassFile.FieldType.int), [], { frames := 0, cells := 0, slots := 0, locals := 0 })
set_option maxRecDepth 100000 in
set_option maxHeartbeats 4000000 in
theorem g_Mod_out {l : Launch} (hl : l.stackTraces = false) (G : pb_G) (h : Nat) (m_rels : Nat) (m_openRels : Nat) (m_closeRels : Nat) (m_openRel : Nat) (m_closeRel : Nat) (m_comment : Nat) (m_ends : Nat) (m_order : Nat) (m_tape : Nat) (m_count : Nat) (m_nameSize : Nat) (m_names : Nat) (m_size : Nat) (m_data : Nat) (m_looked : Nat) (m_file : Nat) (m_directory : Nat) (m_out : Nat) (m_row : Nat) (m_made : Nat) (m_length : Nat) (m_pressed : Nat) (m_mark : Nat) (m_idSize : Nat) (m_ids : Nat) (m_goalSize : Nat) (m_goals : Nat) (m_value : Nat) (m_faults : Nat) (m_reached : Nat) (v_thrown : Int32) (v_taped : Int32) (v_lookedSize : Int32) (v_fileSize : Int32) (v_directorySize : Int32) (v_outSize : Int32) (v_rowSize : Int32) (v_bitAt : Int32) (v_bitEnd : Int32) (v_why : Int32) (v_madeSize : Int32) (v_firstCount : Int32) (v_secondCount : Int32) (v_heldBits : Int32) (v_heldCount : Int32) (v_pressedSize : Int32) (v_at : Int32) (v_bad : Int32) (v_markSize : Int32) (v_relationCount : Int32) (v_valueSize : Int32) (v_faultCount : Int32) (a_out : Nat → Int32) (i : Int32) (h0 : v_outSize.toInt ≤ 5000) (F_a_out : sb_Fit a_out) : Cn l G i_Mod_out [.ref h, .int i] [(h, .inr (10, [.ref m_rels, .ref m_openRels, .ref m_closeRels, .ref m_openRel, .ref m_closeRel, .ref m_comment, .ref m_ends, .ref m_order, .int v_thrown, .int v_taped, .ref m_tape, .ref m_count, .ref m_nameSize, .ref m_names, .ref m_size, .ref m_data, .int v_lookedSize, .ref m_looked, .int v_fileSize, .ref m_file, .int v_directorySize, .ref m_directory, .int v_outSize, .ref m_out, .int v_rowSize, .ref m_row, .int v_bitAt, .int v_bitEnd, .int v_why, .int v_madeSize, .ref m_made, .ref m_length, .int v_firstCount, .int v_secondCount, .int v_heldBits, .int v_heldCount, .int v_pressedSize, .ref m_pressed, .int v_at, .int v_bad, .int v_markSize, .ref m_mark, .int v_relationCount, .ref m_idSize, .ref m_ids, .ref m_goalSize, .ref m_goals, .int v_valueSize, .ref m_value, .int v_faultCount, .ref m_faults, .ref m_reached])), (m_out, .inl (G.2.1, 5000, .inl a_out))] (S := Int32 × Int32) (fun rv_ u => rv_ = some (.int u.1) ∧ (u.2.toInt = 0 ∧ 0 ≤ i.toInt ∧ i.toInt < v_outSize.toInt ∨ u.2.toInt = 1 ∧ ¬ (0 ≤ i.toInt ∧ i.toInt < v_outSize.toInt)) ∧ (u.2.toInt = 0 → u.1 = gr a_out i.toInt &&& 255)) (fun u => [(h, .inr (10, [.ref m_rels, .ref m_openRels, .ref m_closeRels, .ref m_openRel, .ref m_closeRel, .ref m_comment, .ref m_ends, .ref m_order, .int u.2, .int v_taped, .ref m_tape, .ref m_count, .ref m_nameSize, .ref m_names, .ref m_size, .ref m_data, .int v_lookedSize, .ref m_looked, .int v_fileSize, .ref m_file, .int v_directorySize, .ref m_directory, .int v_outSize, .ref m_out, .int v_rowSize, .ref m_row, .int v_bitAt, .int v_bitEnd, .int v_why, .int v_madeSize, .ref m_made, .ref m_length, .int v_firstCount, .int v_secondCount, .int v_heldBits, .int v_heldCount, .int v_pressedSize, .ref m_pressed, .int v_at, .int v_bad, .int v_markSize, .ref m_mark, .int v_relationCount, .ref m_idSize, .ref m_ids, .ref m_goalSize, .ref m_goals, .int v_valueSize, .ref m_value, .int v_faultCount, .ref m_faults, .ref m_reached])), (m_out, .inl (G.2.1, 5000, .inl a_out))]) := by
  refine Cn.of hl (by decide +kernel) rfl (Nat.le_of_ble_eq_true rfl) (fun M hQ => ?_)
  refine pb_eq (pc' := 0) (lo' := [(0, .ref h), (1, .int i)]) (rest' := []) (ws' := [(h, .inr (10, [.ref m_rels, .ref m_openRels, .ref m_closeRels, .ref m_openRel, .ref m_closeRel, .ref m_comment, .ref m_ends, .ref m_order, .int v_thrown, .int v_taped, .ref m_tape, .ref m_count, .ref m_nameSize, .ref m_names, .ref m_size, .ref m_data, .int v_lookedSize, .ref m_looked, .int v_fileSize, .ref m_file, .int v_directorySize, .ref m_directory, .int v_outSize, .ref m_out, .int v_rowSize, .ref m_row, .int v_bitAt, .int v_bitEnd, .int v_why, .int v_madeSize, .ref m_made, .ref m_length, .int v_firstCount, .int v_secondCount, .int v_heldBits, .int v_heldCount, .int v_pressedSize, .ref m_pressed, .int v_at, .int v_bad, .int v_markSize, .ref m_mark, .int v_relationCount, .ref m_idSize, .ref m_ids, .ref m_goalSize, .ref m_goals, .int v_valueSize, .ref m_value, .int v_faultCount, .ref m_faults, .ref m_reached])), (m_out, .inl (G.2.1, 5000, .inl a_out))]) ?_
  have zl0 : (0 : Int32).toInt = 0 := by decide
  have zl1 : (1 : Int32).toInt = 1 := by decide
  refine pb_aload_n (pc := 0) d_Mod_out_0 0 rfl rfl ?_
  refine pb_iload_n (pc := 1) d_Mod_out_1 1 rfl rfl ?_
  refine pb_if_lt (pc := 2) (tgt := 13) d_Mod_out_2 (by decide) (fun w1 => ?_) (fun w1 => ?_)
  · have tw1 : i.toInt < 0 := (ti_lt rfl (by decide)).mp w1
    refine pb_iconst (pc := 13) (v := 1) d_Mod_out_13 (by decide) ?_
    refine pb_goto (pc := 14) (tgt := 18) d_Mod_out_14 (by decide) ?_
    refine pb_put (pc := 18) (ty := .int) (ws' := [(h, .inr (10, [.ref m_rels, .ref m_openRels, .ref m_closeRels, .ref m_openRel, .ref m_closeRel, .ref m_comment, .ref m_ends, .ref m_order, .int 1, .int v_taped, .ref m_tape, .ref m_count, .ref m_nameSize, .ref m_names, .ref m_size, .ref m_data, .int v_lookedSize, .ref m_looked, .int v_fileSize, .ref m_file, .int v_directorySize, .ref m_directory, .int v_outSize, .ref m_out, .int v_rowSize, .ref m_row, .int v_bitAt, .int v_bitEnd, .int v_why, .int v_madeSize, .ref m_made, .ref m_length, .int v_firstCount, .int v_secondCount, .int v_heldBits, .int v_heldCount, .int v_pressedSize, .ref m_pressed, .int v_at, .int v_bad, .int v_markSize, .ref m_mark, .int v_relationCount, .ref m_idSize, .ref m_ids, .ref m_goalSize, .ref m_goals, .int v_valueSize, .ref m_value, .int v_faultCount, .ref m_faults, .ref m_reached])), (m_out, .inl (G.2.1, 5000, .inl a_out))]) d_Mod_out_18 0 8 t_Mod t_Mod_ok n_Mod rfl rfl (by decide) in_Mod k_1154 rfl (by decide +kernel) rfl rfl (Nat.le_of_ble_eq_true rfl) rfl ?_
    refine pb_aload_n (pc := 21) d_Mod_out_21 0 rfl rfl ?_
    refine pb_get (pc := 22) d_Mod_out_22 0 8 rfl rfl (by decide) in_Mod k_1154 rfl ?_
    refine pb_if_le (pc := 25) (tgt := 32) d_Mod_out_25 (by decide) (fun h9 => absurd h9 (by decide)) (fun _ => ?_)
    refine pb_iconst (pc := 28) (v := 0) d_Mod_out_28 (by decide) ?_
    refine pb_goto (pc := 29) (tgt := 42) d_Mod_out_29 (by decide) ?_
    exact pb_iret (pc := 42) hQ d_Mod_out_42 rfl rfl (0, 1) ⟨rfl, (by (try dsimp only); first | done | (with_reducible assumption) | omega (splitDisjunctions := false) | assumption | omega | decide), (show (1 : Int32).toInt = 0 → (0 : Int32) = gr a_out i.toInt &&& 255 from (by first | exact fun q9 => absurd q9 (by omega) | exact fun _ => by simp only []))⟩ [0, 1] (by decide) rfl rfl (by decide) (by decide)
  · have tw1 : ¬ i.toInt < 0 := fun z9 => w1 ((ti_lt rfl (by decide)).mpr z9)
    refine pb_iload_n (pc := 5) d_Mod_out_5 1 rfl rfl ?_
    refine pb_aload_n (pc := 6) d_Mod_out_6 0 rfl rfl ?_
    refine pb_get (pc := 7) d_Mod_out_7 0 22 rfl rfl (by decide) in_Mod k_1168 rfl ?_
    refine pb_icmp_lt (pc := 10) (tgt := 17) d_Mod_out_10 (by decide) (fun w3 => ?_) (fun w3 => ?_)
    · have tw3 : i.toInt < v_outSize.toInt := (ti_lt rfl rfl).mp w3
      refine pb_iconst (pc := 17) (v := 0) d_Mod_out_17 (by decide) ?_
      refine pb_put (pc := 18) (ty := .int) (ws' := [(h, .inr (10, [.ref m_rels, .ref m_openRels, .ref m_closeRels, .ref m_openRel, .ref m_closeRel, .ref m_comment, .ref m_ends, .ref m_order, .int 0, .int v_taped, .ref m_tape, .ref m_count, .ref m_nameSize, .ref m_names, .ref m_size, .ref m_data, .int v_lookedSize, .ref m_looked, .int v_fileSize, .ref m_file, .int v_directorySize, .ref m_directory, .int v_outSize, .ref m_out, .int v_rowSize, .ref m_row, .int v_bitAt, .int v_bitEnd, .int v_why, .int v_madeSize, .ref m_made, .ref m_length, .int v_firstCount, .int v_secondCount, .int v_heldBits, .int v_heldCount, .int v_pressedSize, .ref m_pressed, .int v_at, .int v_bad, .int v_markSize, .ref m_mark, .int v_relationCount, .ref m_idSize, .ref m_ids, .ref m_goalSize, .ref m_goals, .int v_valueSize, .ref m_value, .int v_faultCount, .ref m_faults, .ref m_reached])), (m_out, .inl (G.2.1, 5000, .inl a_out))]) d_Mod_out_18 0 8 t_Mod t_Mod_ok n_Mod rfl rfl (by decide) in_Mod k_1154 rfl (by decide +kernel) rfl rfl (Nat.le_of_ble_eq_true rfl) rfl ?_
      refine pb_aload_n (pc := 21) d_Mod_out_21 0 rfl rfl ?_
      refine pb_get (pc := 22) d_Mod_out_22 0 8 rfl rfl (by decide) in_Mod k_1154 rfl ?_
      refine pb_if_le (pc := 25) (tgt := 32) d_Mod_out_25 (by decide) (fun _ => ?_) (fun h9 => absurd h9 (by decide))
      refine pb_aload_n (pc := 32) d_Mod_out_32 0 rfl rfl ?_
      refine pb_get (pc := 33) d_Mod_out_33 0 23 rfl rfl (by decide) in_Mod k_1169 rfl ?_
      refine pb_iload_n (pc := 36) d_Mod_out_36 1 rfl rfl ?_
      refine pb_bald (pc := 37) d_Mod_out_37 1 rfl (vp_in_iff.mpr (by omega)) ?_
      refine pb_topi (fun i5 ei5 => ?_)
      have xi5 : i5 = gr a_out (i.toInt) := gr_ld ei5 (by omega)
      have yi5 : i5.toInt = gx a_out (i.toInt) := congrArg Int32.toInt xi5
      have ti5 : -128 ≤ i5.toInt ∧ i5.toInt ≤ 127 := ti_fit (F_a_out _) ei5
      refine pb_sipush (pc := 38) (v := 255) d_Mod_out_38 (by decide) ?_
      refine pb_iand (pc := 41) d_Mod_out_41 ?_
      refine pb_topi (fun i6 ei6 => ?_)
      have ti6 : 0 ≤ i6.toInt ∧ i6.toInt ≤ 255 := ti_and 8 ei6 (by decide) (by decide)
      exact pb_iret (pc := 42) hQ d_Mod_out_42 rfl rfl (i6, 0) ⟨rfl, (by (try dsimp only); first | done | (with_reducible assumption) | omega (splitDisjunctions := false) | assumption | omega | decide), (show (0 : Int32).toInt = 0 → i6 = gr a_out i.toInt &&& 255 from (by first | exact fun q9 => absurd q9 (by omega) | exact fun _ => by simp only [xi5, ei6]))⟩ [0, 1] (by decide) rfl rfl (by decide) (by decide)
    · have tw3 : ¬ i.toInt < v_outSize.toInt := fun z9 => w3 ((ti_lt rfl rfl).mpr z9)
      refine pb_iconst (pc := 13) (v := 1) d_Mod_out_13 (by decide) ?_
      refine pb_goto (pc := 14) (tgt := 18) d_Mod_out_14 (by decide) ?_
      refine pb_put (pc := 18) (ty := .int) (ws' := [(h, .inr (10, [.ref m_rels, .ref m_openRels, .ref m_closeRels, .ref m_openRel, .ref m_closeRel, .ref m_comment, .ref m_ends, .ref m_order, .int 1, .int v_taped, .ref m_tape, .ref m_count, .ref m_nameSize, .ref m_names, .ref m_size, .ref m_data, .int v_lookedSize, .ref m_looked, .int v_fileSize, .ref m_file, .int v_directorySize, .ref m_directory, .int v_outSize, .ref m_out, .int v_rowSize, .ref m_row, .int v_bitAt, .int v_bitEnd, .int v_why, .int v_madeSize, .ref m_made, .ref m_length, .int v_firstCount, .int v_secondCount, .int v_heldBits, .int v_heldCount, .int v_pressedSize, .ref m_pressed, .int v_at, .int v_bad, .int v_markSize, .ref m_mark, .int v_relationCount, .ref m_idSize, .ref m_ids, .ref m_goalSize, .ref m_goals, .int v_valueSize, .ref m_value, .int v_faultCount, .ref m_faults, .ref m_reached])), (m_out, .inl (G.2.1, 5000, .inl a_out))]) d_Mod_out_18 0 8 t_Mod t_Mod_ok n_Mod rfl rfl (by decide) in_Mod k_1154 rfl (by decide +kernel) rfl rfl (Nat.le_of_ble_eq_true rfl) rfl ?_
      refine pb_aload_n (pc := 21) d_Mod_out_21 0 rfl rfl ?_
      refine pb_get (pc := 22) d_Mod_out_22 0 8 rfl rfl (by decide) in_Mod k_1154 rfl ?_
      refine pb_if_le (pc := 25) (tgt := 32) d_Mod_out_25 (by decide) (fun h9 => absurd h9 (by decide)) (fun _ => ?_)
      refine pb_iconst (pc := 28) (v := 0) d_Mod_out_28 (by decide) ?_
      refine pb_goto (pc := 29) (tgt := 42) d_Mod_out_29 (by decide) ?_
      exact pb_iret (pc := 42) hQ d_Mod_out_42 rfl rfl (0, 1) ⟨rfl, (by (try dsimp only); first | done | (with_reducible assumption) | omega (splitDisjunctions := false) | assumption | omega | decide), (show (1 : Int32).toInt = 0 → (0 : Int32) = gr a_out i.toInt &&& 255 from (by first | exact fun q9 => absurd q9 (by omega) | exact fun _ => by simp only []))⟩ [0, 1] (by decide) rfl rfl (by decide) (by decide)

theorem d_Mod_file_0 : decode prog_12_method_53_code 0 = .ok (.aload_n 0, 1) := by decide +kernel
theorem d_Mod_file_1 : decode prog_12_method_53_code 1 = .ok (.iload_n 1, 1) := by decide +kernel
theorem d_Mod_file_2 : decode prog_12_method_53_code 2 = .ok (.ifCond .lt 11, 3) := by decide +kernel
theorem d_Mod_file_13 : decode prog_12_method_53_code 13 = .ok (.iconst 1, 1) := by decide +kernel
theorem d_Mod_file_14 : decode prog_12_method_53_code 14 = .ok (.goto 4, 3) := by decide +kernel
theorem d_Mod_file_18 : decode prog_12_method_53_code 18 = .ok (.putfield 103, 3) := by decide +kernel
theorem d_Mod_file_21 : decode prog_12_method_53_code 21 = .ok (.aload_n 0, 1) := by decide +kernel
theorem d_Mod_file_22 : decode prog_12_method_53_code 22 = .ok (.getfield 103, 3) := by decide +kernel
theorem d_Mod_file_25 : decode prog_12_method_53_code 25 = .ok (.ifCond .le 7, 3) := by decide +kernel
theorem d_Mod_file_28 : decode prog_12_method_53_code 28 = .ok (.iconst 0, 1) := by decide +kernel
theorem d_Mod_file_29 : decode prog_12_method_53_code 29 = .ok (.goto 13, 3) := by decide +kernel
theorem d_Mod_file_42 : decode prog_12_method_53_code 42 = .ok (.ireturn, 1) := by decide +kernel
theorem d_Mod_file_5 : decode prog_12_method_53_code 5 = .ok (.iload_n 1, 1) := by decide +kernel
theorem d_Mod_file_6 : decode prog_12_method_53_code 6 = .ok (.aload_n 0, 1) := by decide +kernel
theorem d_Mod_file_7 : decode prog_12_method_53_code 7 = .ok (.getfield 269, 3) := by decide +kernel
theorem k_1164 : (Jvm.Cond.fieldLink "PackageBookModel" (269 : Nat) "PackageBookModel" "fileSize" "I") ∈ uW := uW_of 1164 (by decide +kernel) (by decide +kernel)
theorem d_Mod_file_10 : decode prog_12_method_53_code 10 = .ok (.if_icmp .lt 7, 3) := by decide +kernel
theorem d_Mod_file_17 : decode prog_12_method_53_code 17 = .ok (.iconst 0, 1) := by decide +kernel
theorem d_Mod_file_32 : decode prog_12_method_53_code 32 = .ok (.aload_n 0, 1) := by decide +kernel
theorem d_Mod_file_33 : decode prog_12_method_53_code 33 = .ok (.getfield 57, 3) := by decide +kernel
theorem k_1165 : (Jvm.Cond.fieldLink "PackageBookModel" (57 : Nat) "PackageBookModel" "file" "[B") ∈ uW := uW_of 1165 (by decide +kernel) (by decide +kernel)
theorem d_Mod_file_36 : decode prog_12_method_53_code 36 = .ok (.iload_n 1, 1) := by decide +kernel
theorem d_Mod_file_37 : decode prog_12_method_53_code 37 = .ok (.baload, 1) := by decide +kernel
theorem d_Mod_file_38 : decode prog_12_method_53_code 38 = .ok (.sipush 255, 3) := by decide +kernel
theorem d_Mod_file_41 : decode prog_12_method_53_code 41 = .ok (.iand, 1) := by decide +kernel
abbrev y_Mod_file : MethodName := ⟨"PackageBookModel", "file", "(I)I"⟩
abbrev i_Mod_file : pb_I := (y_Mod_file, prog_12_method_53_code, 2, (some Jvm.ClassFile.FieldType.int), [], { frames := 0, cells := 0, slots := 0, locals := 0 })
set_option maxRecDepth 100000 in
set_option maxHeartbeats 4000000 in
theorem g_Mod_file {l : Launch} (hl : l.stackTraces = false) (G : pb_G) (h : Nat) (m_rels : Nat) (m_openRels : Nat) (m_closeRels : Nat) (m_openRel : Nat) (m_closeRel : Nat) (m_comment : Nat) (m_ends : Nat) (m_order : Nat) (m_tape : Nat) (m_count : Nat) (m_nameSize : Nat) (m_names : Nat) (m_size : Nat) (m_data : Nat) (m_looked : Nat) (m_file : Nat) (m_directory : Nat) (m_out : Nat) (m_row : Nat) (m_made : Nat) (m_length : Nat) (m_pressed : Nat) (m_mark : Nat) (m_idSize : Nat) (m_ids : Nat) (m_goalSize : Nat) (m_goals : Nat) (m_value : Nat) (m_faults : Nat) (m_reached : Nat) (v_thrown : Int32) (v_taped : Int32) (v_lookedSize : Int32) (v_fileSize : Int32) (v_directorySize : Int32) (v_outSize : Int32) (v_rowSize : Int32) (v_bitAt : Int32) (v_bitEnd : Int32) (v_why : Int32) (v_madeSize : Int32) (v_firstCount : Int32) (v_secondCount : Int32) (v_heldBits : Int32) (v_heldCount : Int32) (v_pressedSize : Int32) (v_at : Int32) (v_bad : Int32) (v_markSize : Int32) (v_relationCount : Int32) (v_valueSize : Int32) (v_faultCount : Int32) (a_file : Nat → Int32) (i : Int32) (h0 : v_fileSize.toInt ≤ 20000) (F_a_file : sb_Fit a_file) : Cn l G i_Mod_file [.ref h, .int i] [(h, .inr (10, [.ref m_rels, .ref m_openRels, .ref m_closeRels, .ref m_openRel, .ref m_closeRel, .ref m_comment, .ref m_ends, .ref m_order, .int v_thrown, .int v_taped, .ref m_tape, .ref m_count, .ref m_nameSize, .ref m_names, .ref m_size, .ref m_data, .int v_lookedSize, .ref m_looked, .int v_fileSize, .ref m_file, .int v_directorySize, .ref m_directory, .int v_outSize, .ref m_out, .int v_rowSize, .ref m_row, .int v_bitAt, .int v_bitEnd, .int v_why, .int v_madeSize, .ref m_made, .ref m_length, .int v_firstCount, .int v_secondCount, .int v_heldBits, .int v_heldCount, .int v_pressedSize, .ref m_pressed, .int v_at, .int v_bad, .int v_markSize, .ref m_mark, .int v_relationCount, .ref m_idSize, .ref m_ids, .ref m_goalSize, .ref m_goals, .int v_valueSize, .ref m_value, .int v_faultCount, .ref m_faults, .ref m_reached])), (m_file, .inl (G.2.1, 20000, .inl a_file))] (S := Int32 × Int32) (fun rv_ u => rv_ = some (.int u.1) ∧ (u.2.toInt = 0 ∧ 0 ≤ i.toInt ∧ i.toInt < v_fileSize.toInt ∨ u.2.toInt = 1 ∧ ¬ (0 ≤ i.toInt ∧ i.toInt < v_fileSize.toInt)) ∧ (u.2.toInt = 0 → u.1 = gr a_file i.toInt &&& 255)) (fun u => [(h, .inr (10, [.ref m_rels, .ref m_openRels, .ref m_closeRels, .ref m_openRel, .ref m_closeRel, .ref m_comment, .ref m_ends, .ref m_order, .int u.2, .int v_taped, .ref m_tape, .ref m_count, .ref m_nameSize, .ref m_names, .ref m_size, .ref m_data, .int v_lookedSize, .ref m_looked, .int v_fileSize, .ref m_file, .int v_directorySize, .ref m_directory, .int v_outSize, .ref m_out, .int v_rowSize, .ref m_row, .int v_bitAt, .int v_bitEnd, .int v_why, .int v_madeSize, .ref m_made, .ref m_length, .int v_firstCount, .int v_secondCount, .int v_heldBits, .int v_heldCount, .int v_pressedSize, .ref m_pressed, .int v_at, .int v_bad, .int v_markSize, .ref m_mark, .int v_relationCount, .ref m_idSize, .ref m_ids, .ref m_goalSize, .ref m_goals, .int v_valueSize, .ref m_value, .int v_faultCount, .ref m_faults, .ref m_reached])), (m_file, .inl (G.2.1, 20000, .inl a_file))]) := by
  refine Cn.of hl (by decide +kernel) rfl (Nat.le_of_ble_eq_true rfl) (fun M hQ => ?_)
  refine pb_eq (pc' := 0) (lo' := [(0, .ref h), (1, .int i)]) (rest' := []) (ws' := [(h, .inr (10, [.ref m_rels, .ref m_openRels, .ref m_closeRels, .ref m_openRel, .ref m_closeRel, .ref m_comment, .ref m_ends, .ref m_order, .int v_thrown, .int v_taped, .ref m_tape, .ref m_count, .ref m_nameSize, .ref m_names, .ref m_size, .ref m_data, .int v_lookedSize, .ref m_looked, .int v_fileSize, .ref m_file, .int v_directorySize, .ref m_directory, .int v_outSize, .ref m_out, .int v_rowSize, .ref m_row, .int v_bitAt, .int v_bitEnd, .int v_why, .int v_madeSize, .ref m_made, .ref m_length, .int v_firstCount, .int v_secondCount, .int v_heldBits, .int v_heldCount, .int v_pressedSize, .ref m_pressed, .int v_at, .int v_bad, .int v_markSize, .ref m_mark, .int v_relationCount, .ref m_idSize, .ref m_ids, .ref m_goalSize, .ref m_goals, .int v_valueSize, .ref m_value, .int v_faultCount, .ref m_faults, .ref m_reached])), (m_file, .inl (G.2.1, 20000, .inl a_file))]) ?_
  have zl0 : (0 : Int32).toInt = 0 := by decide
  have zl1 : (1 : Int32).toInt = 1 := by decide
  refine pb_aload_n (pc := 0) d_Mod_file_0 0 rfl rfl ?_
  refine pb_iload_n (pc := 1) d_Mod_file_1 1 rfl rfl ?_
  refine pb_if_lt (pc := 2) (tgt := 13) d_Mod_file_2 (by decide) (fun w1 => ?_) (fun w1 => ?_)
  · have tw1 : i.toInt < 0 := (ti_lt rfl (by decide)).mp w1
    refine pb_iconst (pc := 13) (v := 1) d_Mod_file_13 (by decide) ?_
    refine pb_goto (pc := 14) (tgt := 18) d_Mod_file_14 (by decide) ?_
    refine pb_put (pc := 18) (ty := .int) (ws' := [(h, .inr (10, [.ref m_rels, .ref m_openRels, .ref m_closeRels, .ref m_openRel, .ref m_closeRel, .ref m_comment, .ref m_ends, .ref m_order, .int 1, .int v_taped, .ref m_tape, .ref m_count, .ref m_nameSize, .ref m_names, .ref m_size, .ref m_data, .int v_lookedSize, .ref m_looked, .int v_fileSize, .ref m_file, .int v_directorySize, .ref m_directory, .int v_outSize, .ref m_out, .int v_rowSize, .ref m_row, .int v_bitAt, .int v_bitEnd, .int v_why, .int v_madeSize, .ref m_made, .ref m_length, .int v_firstCount, .int v_secondCount, .int v_heldBits, .int v_heldCount, .int v_pressedSize, .ref m_pressed, .int v_at, .int v_bad, .int v_markSize, .ref m_mark, .int v_relationCount, .ref m_idSize, .ref m_ids, .ref m_goalSize, .ref m_goals, .int v_valueSize, .ref m_value, .int v_faultCount, .ref m_faults, .ref m_reached])), (m_file, .inl (G.2.1, 20000, .inl a_file))]) d_Mod_file_18 0 8 t_Mod t_Mod_ok n_Mod rfl rfl (by decide) in_Mod k_1154 rfl (by decide +kernel) rfl rfl (Nat.le_of_ble_eq_true rfl) rfl ?_
    refine pb_aload_n (pc := 21) d_Mod_file_21 0 rfl rfl ?_
    refine pb_get (pc := 22) d_Mod_file_22 0 8 rfl rfl (by decide) in_Mod k_1154 rfl ?_
    refine pb_if_le (pc := 25) (tgt := 32) d_Mod_file_25 (by decide) (fun h9 => absurd h9 (by decide)) (fun _ => ?_)
    refine pb_iconst (pc := 28) (v := 0) d_Mod_file_28 (by decide) ?_
    refine pb_goto (pc := 29) (tgt := 42) d_Mod_file_29 (by decide) ?_
    exact pb_iret (pc := 42) hQ d_Mod_file_42 rfl rfl (0, 1) ⟨rfl, (by (try dsimp only); first | done | (with_reducible assumption) | omega (splitDisjunctions := false) | assumption | omega | decide), (show (1 : Int32).toInt = 0 → (0 : Int32) = gr a_file i.toInt &&& 255 from (by first | exact fun q9 => absurd q9 (by omega) | exact fun _ => by simp only []))⟩ [0, 1] (by decide) rfl rfl (by decide) (by decide)
  · have tw1 : ¬ i.toInt < 0 := fun z9 => w1 ((ti_lt rfl (by decide)).mpr z9)
    refine pb_iload_n (pc := 5) d_Mod_file_5 1 rfl rfl ?_
    refine pb_aload_n (pc := 6) d_Mod_file_6 0 rfl rfl ?_
    refine pb_get (pc := 7) d_Mod_file_7 0 18 rfl rfl (by decide) in_Mod k_1164 rfl ?_
    refine pb_icmp_lt (pc := 10) (tgt := 17) d_Mod_file_10 (by decide) (fun w3 => ?_) (fun w3 => ?_)
    · have tw3 : i.toInt < v_fileSize.toInt := (ti_lt rfl rfl).mp w3
      refine pb_iconst (pc := 17) (v := 0) d_Mod_file_17 (by decide) ?_
      refine pb_put (pc := 18) (ty := .int) (ws' := [(h, .inr (10, [.ref m_rels, .ref m_openRels, .ref m_closeRels, .ref m_openRel, .ref m_closeRel, .ref m_comment, .ref m_ends, .ref m_order, .int 0, .int v_taped, .ref m_tape, .ref m_count, .ref m_nameSize, .ref m_names, .ref m_size, .ref m_data, .int v_lookedSize, .ref m_looked, .int v_fileSize, .ref m_file, .int v_directorySize, .ref m_directory, .int v_outSize, .ref m_out, .int v_rowSize, .ref m_row, .int v_bitAt, .int v_bitEnd, .int v_why, .int v_madeSize, .ref m_made, .ref m_length, .int v_firstCount, .int v_secondCount, .int v_heldBits, .int v_heldCount, .int v_pressedSize, .ref m_pressed, .int v_at, .int v_bad, .int v_markSize, .ref m_mark, .int v_relationCount, .ref m_idSize, .ref m_ids, .ref m_goalSize, .ref m_goals, .int v_valueSize, .ref m_value, .int v_faultCount, .ref m_faults, .ref m_reached])), (m_file, .inl (G.2.1, 20000, .inl a_file))]) d_Mod_file_18 0 8 t_Mod t_Mod_ok n_Mod rfl rfl (by decide) in_Mod k_1154 rfl (by decide +kernel) rfl rfl (Nat.le_of_ble_eq_true rfl) rfl ?_
      refine pb_aload_n (pc := 21) d_Mod_file_21 0 rfl rfl ?_
      refine pb_get (pc := 22) d_Mod_file_22 0 8 rfl rfl (by decide) in_Mod k_1154 rfl ?_
      refine pb_if_le (pc := 25) (tgt := 32) d_Mod_file_25 (by decide) (fun _ => ?_) (fun h9 => absurd h9 (by decide))
      refine pb_aload_n (pc := 32) d_Mod_file_32 0 rfl rfl ?_
      refine pb_get (pc := 33) d_Mod_file_33 0 19 rfl rfl (by decide) in_Mod k_1165 rfl ?_
      refine pb_iload_n (pc := 36) d_Mod_file_36 1 rfl rfl ?_
      refine pb_bald (pc := 37) d_Mod_file_37 1 rfl (vp_in_iff.mpr (by omega)) ?_
      refine pb_topi (fun i5 ei5 => ?_)
      have xi5 : i5 = gr a_file (i.toInt) := gr_ld ei5 (by omega)
      have yi5 : i5.toInt = gx a_file (i.toInt) := congrArg Int32.toInt xi5
      have ti5 : -128 ≤ i5.toInt ∧ i5.toInt ≤ 127 := ti_fit (F_a_file _) ei5
      refine pb_sipush (pc := 38) (v := 255) d_Mod_file_38 (by decide) ?_
      refine pb_iand (pc := 41) d_Mod_file_41 ?_
      refine pb_topi (fun i6 ei6 => ?_)
      have ti6 : 0 ≤ i6.toInt ∧ i6.toInt ≤ 255 := ti_and 8 ei6 (by decide) (by decide)
      exact pb_iret (pc := 42) hQ d_Mod_file_42 rfl rfl (i6, 0) ⟨rfl, (by (try dsimp only); first | done | (with_reducible assumption) | omega (splitDisjunctions := false) | assumption | omega | decide), (show (0 : Int32).toInt = 0 → i6 = gr a_file i.toInt &&& 255 from (by first | exact fun q9 => absurd q9 (by omega) | exact fun _ => by simp only [xi5, ei6]))⟩ [0, 1] (by decide) rfl rfl (by decide) (by decide)
    · have tw3 : ¬ i.toInt < v_fileSize.toInt := fun z9 => w3 ((ti_lt rfl rfl).mpr z9)
      refine pb_iconst (pc := 13) (v := 1) d_Mod_file_13 (by decide) ?_
      refine pb_goto (pc := 14) (tgt := 18) d_Mod_file_14 (by decide) ?_
      refine pb_put (pc := 18) (ty := .int) (ws' := [(h, .inr (10, [.ref m_rels, .ref m_openRels, .ref m_closeRels, .ref m_openRel, .ref m_closeRel, .ref m_comment, .ref m_ends, .ref m_order, .int 1, .int v_taped, .ref m_tape, .ref m_count, .ref m_nameSize, .ref m_names, .ref m_size, .ref m_data, .int v_lookedSize, .ref m_looked, .int v_fileSize, .ref m_file, .int v_directorySize, .ref m_directory, .int v_outSize, .ref m_out, .int v_rowSize, .ref m_row, .int v_bitAt, .int v_bitEnd, .int v_why, .int v_madeSize, .ref m_made, .ref m_length, .int v_firstCount, .int v_secondCount, .int v_heldBits, .int v_heldCount, .int v_pressedSize, .ref m_pressed, .int v_at, .int v_bad, .int v_markSize, .ref m_mark, .int v_relationCount, .ref m_idSize, .ref m_ids, .ref m_goalSize, .ref m_goals, .int v_valueSize, .ref m_value, .int v_faultCount, .ref m_faults, .ref m_reached])), (m_file, .inl (G.2.1, 20000, .inl a_file))]) d_Mod_file_18 0 8 t_Mod t_Mod_ok n_Mod rfl rfl (by decide) in_Mod k_1154 rfl (by decide +kernel) rfl rfl (Nat.le_of_ble_eq_true rfl) rfl ?_
      refine pb_aload_n (pc := 21) d_Mod_file_21 0 rfl rfl ?_
      refine pb_get (pc := 22) d_Mod_file_22 0 8 rfl rfl (by decide) in_Mod k_1154 rfl ?_
      refine pb_if_le (pc := 25) (tgt := 32) d_Mod_file_25 (by decide) (fun h9 => absurd h9 (by decide)) (fun _ => ?_)
      refine pb_iconst (pc := 28) (v := 0) d_Mod_file_28 (by decide) ?_
      refine pb_goto (pc := 29) (tgt := 42) d_Mod_file_29 (by decide) ?_
      exact pb_iret (pc := 42) hQ d_Mod_file_42 rfl rfl (0, 1) ⟨rfl, (by (try dsimp only); first | done | (with_reducible assumption) | omega (splitDisjunctions := false) | assumption | omega | decide), (show (1 : Int32).toInt = 0 → (0 : Int32) = gr a_file i.toInt &&& 255 from (by first | exact fun q9 => absurd q9 (by omega) | exact fun _ => by simp only []))⟩ [0, 1] (by decide) rfl rfl (by decide) (by decide)

theorem d_Mod_lay_0 : decode prog_12_method_49_code 0 = .ok (.iconst 0, 1) := by decide +kernel
theorem d_Mod_lay_1 : decode prog_12_method_49_code 1 = .ok (.istore 4, 2) := by decide +kernel
theorem d_Mod_lay_3 : decode prog_12_method_49_code 3 = .ok (.iload 4, 2) := by decide +kernel
theorem d_Mod_lay_5 : decode prog_12_method_49_code 5 = .ok (.iload_n 3, 1) := by decide +kernel
theorem d_Mod_lay_6 : decode prog_12_method_49_code 6 = .ok (.if_icmp .ge 37, 3) := by decide +kernel
theorem d_Mod_lay_43 : decode prog_12_method_49_code 43 = .ok (.return_, 1) := by decide +kernel
theorem d_Mod_lay_9 : decode prog_12_method_49_code 9 = .ok (.aload_n 0, 1) := by decide +kernel
theorem d_Mod_lay_10 : decode prog_12_method_49_code 10 = .ok (.getfield 57, 3) := by decide +kernel
theorem d_Mod_lay_13 : decode prog_12_method_49_code 13 = .ok (.aload_n 0, 1) := by decide +kernel
theorem d_Mod_lay_14 : decode prog_12_method_49_code 14 = .ok (.getfield 269, 3) := by decide +kernel
theorem d_Mod_lay_17 : decode prog_12_method_49_code 17 = .ok (.lload_n 1, 1) := by decide +kernel
theorem d_Mod_lay_18 : decode prog_12_method_49_code 18 = .ok (.bipush 8, 2) := by decide +kernel
theorem d_Mod_lay_20 : decode prog_12_method_49_code 20 = .ok (.iload 4, 2) := by decide +kernel
theorem d_Mod_lay_22 : decode prog_12_method_49_code 22 = .ok (.imul, 1) := by decide +kernel
theorem d_Mod_lay_23 : decode prog_12_method_49_code 23 = .ok (.lshr, 1) := by decide +kernel
theorem d_Mod_lay_24 : decode prog_12_method_49_code 24 = .ok (.l2i, 1) := by decide +kernel
theorem d_Mod_lay_25 : decode prog_12_method_49_code 25 = .ok (.i2b, 1) := by decide +kernel
theorem d_Mod_lay_26 : decode prog_12_method_49_code 26 = .ok (.bastore, 1) := by decide +kernel
theorem d_Mod_lay_27 : decode prog_12_method_49_code 27 = .ok (.aload_n 0, 1) := by decide +kernel
theorem d_Mod_lay_28 : decode prog_12_method_49_code 28 = .ok (.dup, 1) := by decide +kernel
theorem d_Mod_lay_29 : decode prog_12_method_49_code 29 = .ok (.getfield 269, 3) := by decide +kernel
theorem d_Mod_lay_32 : decode prog_12_method_49_code 32 = .ok (.iconst 1, 1) := by decide +kernel
theorem d_Mod_lay_33 : decode prog_12_method_49_code 33 = .ok (.iadd, 1) := by decide +kernel
theorem d_Mod_lay_34 : decode prog_12_method_49_code 34 = .ok (.putfield 269, 3) := by decide +kernel
theorem d_Mod_lay_37 : decode prog_12_method_49_code 37 = .ok (.iinc 4 1, 3) := by decide +kernel
theorem d_Mod_lay_40 : decode prog_12_method_49_code 40 = .ok (.goto (-37), 3) := by decide +kernel
abbrev y_Mod_lay : MethodName := ⟨"PackageBookModel", "lay", "(JI)V"⟩
abbrev i_Mod_lay : pb_I := (y_Mod_lay, prog_12_method_49_code, 5, (Option.none : Option Jvm.ClassFile.FieldType), [], { frames := 0, cells := 0, slots := 0, locals := 0 })
set_option maxRecDepth 100000 in
set_option maxHeartbeats 4000000 in
theorem g_Mod_lay {l : Launch} (hl : l.stackTraces = false) (G : pb_G) (h : Nat) (m_rels : Nat) (m_openRels : Nat) (m_closeRels : Nat) (m_openRel : Nat) (m_closeRel : Nat) (m_comment : Nat) (m_ends : Nat) (m_order : Nat) (m_tape : Nat) (m_count : Nat) (m_nameSize : Nat) (m_names : Nat) (m_size : Nat) (m_data : Nat) (m_looked : Nat) (m_file : Nat) (m_directory : Nat) (m_out : Nat) (m_row : Nat) (m_made : Nat) (m_length : Nat) (m_pressed : Nat) (m_mark : Nat) (m_idSize : Nat) (m_ids : Nat) (m_goalSize : Nat) (m_goals : Nat) (m_value : Nat) (m_faults : Nat) (m_reached : Nat) (v_thrown : Int32) (v_taped : Int32) (v_lookedSize : Int32) (v_fileSize : Int32) (v_directorySize : Int32) (v_outSize : Int32) (v_rowSize : Int32) (v_bitAt : Int32) (v_bitEnd : Int32) (v_why : Int32) (v_madeSize : Int32) (v_firstCount : Int32) (v_secondCount : Int32) (v_heldBits : Int32) (v_heldCount : Int32) (v_pressedSize : Int32) (v_at : Int32) (v_bad : Int32) (v_markSize : Int32) (v_relationCount : Int32) (v_valueSize : Int32) (v_faultCount : Int32) (a_file : Nat → Int32) (w : Int64) (n : Int32) (h0 : 0 ≤ v_fileSize.toInt) (h1 : 0 ≤ n.toInt) (h2 : v_fileSize.toInt + n.toInt ≤ 20000) (h3 : n.toInt ≤ 8) (F_a_file : sb_Fit a_file) : Cn l G i_Mod_lay [.ref h, .long w, .int n] [(h, .inr (10, [.ref m_rels, .ref m_openRels, .ref m_closeRels, .ref m_openRel, .ref m_closeRel, .ref m_comment, .ref m_ends, .ref m_order, .int v_thrown, .int v_taped, .ref m_tape, .ref m_count, .ref m_nameSize, .ref m_names, .ref m_size, .ref m_data, .int v_lookedSize, .ref m_looked, .int v_fileSize, .ref m_file, .int v_directorySize, .ref m_directory, .int v_outSize, .ref m_out, .int v_rowSize, .ref m_row, .int v_bitAt, .int v_bitEnd, .int v_why, .int v_madeSize, .ref m_made, .ref m_length, .int v_firstCount, .int v_secondCount, .int v_heldBits, .int v_heldCount, .int v_pressedSize, .ref m_pressed, .int v_at, .int v_bad, .int v_markSize, .ref m_mark, .int v_relationCount, .ref m_idSize, .ref m_ids, .ref m_goalSize, .ref m_goals, .int v_valueSize, .ref m_value, .int v_faultCount, .ref m_faults, .ref m_reached])), (m_file, .inl (G.2.1, 20000, .inl a_file))] (S := Int32 × (Nat → Int32)) (fun rv_ u => rv_ = none ∧ (u.1.toInt = v_fileSize.toInt + n.toInt) ∧ (ap_ a_file v_fileSize.toInt u.2 u.1.toInt (nk_ w.toInt n.toInt.toNat)) ∧ (sb_Fit u.2)) (fun u => [(h, .inr (10, [.ref m_rels, .ref m_openRels, .ref m_closeRels, .ref m_openRel, .ref m_closeRel, .ref m_comment, .ref m_ends, .ref m_order, .int v_thrown, .int v_taped, .ref m_tape, .ref m_count, .ref m_nameSize, .ref m_names, .ref m_size, .ref m_data, .int v_lookedSize, .ref m_looked, .int u.1, .ref m_file, .int v_directorySize, .ref m_directory, .int v_outSize, .ref m_out, .int v_rowSize, .ref m_row, .int v_bitAt, .int v_bitEnd, .int v_why, .int v_madeSize, .ref m_made, .ref m_length, .int v_firstCount, .int v_secondCount, .int v_heldBits, .int v_heldCount, .int v_pressedSize, .ref m_pressed, .int v_at, .int v_bad, .int v_markSize, .ref m_mark, .int v_relationCount, .ref m_idSize, .ref m_ids, .ref m_goalSize, .ref m_goals, .int v_valueSize, .ref m_value, .int v_faultCount, .ref m_faults, .ref m_reached])), (m_file, .inl (G.2.1, 20000, .inl u.2))]) := by
  refine Cn.of hl (by decide +kernel) rfl (Nat.le_of_ble_eq_true rfl) (fun M hQ => ?_)
  refine pb_eq (pc' := 0) (lo' := [(0, .ref h), (1, .long w), (3, .int n)]) (rest' := []) (ws' := [(h, .inr (10, [.ref m_rels, .ref m_openRels, .ref m_closeRels, .ref m_openRel, .ref m_closeRel, .ref m_comment, .ref m_ends, .ref m_order, .int v_thrown, .int v_taped, .ref m_tape, .ref m_count, .ref m_nameSize, .ref m_names, .ref m_size, .ref m_data, .int v_lookedSize, .ref m_looked, .int v_fileSize, .ref m_file, .int v_directorySize, .ref m_directory, .int v_outSize, .ref m_out, .int v_rowSize, .ref m_row, .int v_bitAt, .int v_bitEnd, .int v_why, .int v_madeSize, .ref m_made, .ref m_length, .int v_firstCount, .int v_secondCount, .int v_heldBits, .int v_heldCount, .int v_pressedSize, .ref m_pressed, .int v_at, .int v_bad, .int v_markSize, .ref m_mark, .int v_relationCount, .ref m_idSize, .ref m_ids, .ref m_goalSize, .ref m_goals, .int v_valueSize, .ref m_value, .int v_faultCount, .ref m_faults, .ref m_reached])), (m_file, .inl (G.2.1, 20000, .inl a_file))]) ?_
  have zl0 : (0 : Int32).toInt = 0 := by decide
  have zl1 : (1 : Int32).toInt = 1 := by decide
  have zl8 : (8 : Int32).toInt = 8 := by decide
  refine pb_iconst (pc := 0) (v := 0) d_Mod_lay_0 (by decide) ?_
  refine pb_istore (pc := 1) (lo' := [(4, .int 0), (0, .ref h), (1, .long w), (3, .int n)]) d_Mod_lay_1 (by decide) rfl ?_
  have hL3_1 : ∀ (N9 : Nat) (k : Int32) (t : Int32) (g : Nat → Int32), (sb_Fit g) → (0 ≤ k.toInt) → (k.toInt ≤ n.toInt) → (t.toInt = v_fileSize.toInt + k.toInt) → (ap_ a_file v_fileSize.toInt g t.toInt (nk_ w.toInt k.toInt.toNat)) → ((n.toInt - k.toInt).toNat) < N9 → pb_P l G M i_Mod_lay 3 [(4, .int k), (0, .ref h), (1, .long w), (3, .int n)] [] [(h, .inr (10, [.ref m_rels, .ref m_openRels, .ref m_closeRels, .ref m_openRel, .ref m_closeRel, .ref m_comment, .ref m_ends, .ref m_order, .int v_thrown, .int v_taped, .ref m_tape, .ref m_count, .ref m_nameSize, .ref m_names, .ref m_size, .ref m_data, .int v_lookedSize, .ref m_looked, .int t, .ref m_file, .int v_directorySize, .ref m_directory, .int v_outSize, .ref m_out, .int v_rowSize, .ref m_row, .int v_bitAt, .int v_bitEnd, .int v_why, .int v_madeSize, .ref m_made, .ref m_length, .int v_firstCount, .int v_secondCount, .int v_heldBits, .int v_heldCount, .int v_pressedSize, .ref m_pressed, .int v_at, .int v_bad, .int v_markSize, .ref m_mark, .int v_relationCount, .ref m_idSize, .ref m_ids, .ref m_goalSize, .ref m_goals, .int v_valueSize, .ref m_value, .int v_faultCount, .ref m_faults, .ref m_reached])), (m_file, .inl (G.2.1, 20000, .inl g))] 0 0 := by
    intro N9
    induction N9 with
    | zero => intro k t g F_g k0 k1 k2 ka hm9; exact absurd hm9 (Nat.not_lt_zero _)
    | succ N9 ih3 =>
      intro k t g F_g k0 k1 k2 ka hm9
      refine pb_iload (pc := 3) d_Mod_lay_3 0 rfl ?_
      refine pb_iload_n (pc := 5) d_Mod_lay_5 3 rfl rfl ?_
      refine pb_icmp_ge (pc := 6) (tgt := 43) d_Mod_lay_6 (by decide) (fun w2 => ?_) (fun w2 => ?_)
      · have tw2 : n.toInt ≤ k.toInt := (ti_le rfl rfl).mp w2
        exact pb_vret (pc := 43) hQ d_Mod_lay_43 rfl (t, g) ⟨rfl, (by (try dsimp only); first | done | (with_reducible assumption) | omega (splitDisjunctions := false) | assumption | omega | decide), (show ap_ a_file v_fileSize.toInt g t.toInt (nk_ w.toInt n.toInt.toNat) from (by rw [show n.toInt = k.toInt by omega]; exact ka)), F_g⟩ [0, 1] (by decide) rfl rfl (by decide) (by decide)
      · have tw2 : ¬ n.toInt ≤ k.toInt := fun z9 => w2 ((ti_le rfl rfl).mpr z9)
        refine pb_aload_n (pc := 9) d_Mod_lay_9 1 rfl rfl ?_
        refine pb_get (pc := 10) d_Mod_lay_10 0 19 rfl rfl (by decide) in_Mod k_1165 rfl ?_
        refine pb_aload_n (pc := 13) d_Mod_lay_13 1 rfl rfl ?_
        refine pb_get (pc := 14) d_Mod_lay_14 0 18 rfl rfl (by decide) in_Mod k_1164 rfl ?_
        refine pb_lload_n (pc := 17) d_Mod_lay_17 2 rfl rfl ?_
        refine pb_bipush (pc := 18) (v := 8) d_Mod_lay_18 (by decide) ?_
        refine pb_iload (pc := 20) d_Mod_lay_20 0 rfl ?_
        refine pb_imul (pc := 22) d_Mod_lay_22 ?_
        refine pb_topi (fun i3 ei3 => ?_)
        try have ti3 : i3.toInt = 8 * k.toInt := ti_mul ei3 (by decide) rfl (by omega) (by omega)
        refine pb_lshr (pc := 23) d_Mod_lay_23 rfl ?_
        refine pb_topl (fun j4 ej4 => ?_)
        refine pb_l2i (pc := 24) d_Mod_lay_24 rfl ?_
        refine pb_topi (fun i5 ei5 => ?_)
        try have ti5 : i5.toInt = j4.toInt := ti_l2i ei5 rfl (by omega) (by omega)
        refine pb_i2b (pc := 25) d_Mod_lay_25 rfl ?_
        refine pb_topi (fun i6 ei6 => ?_)
        have ti6 : -128 ≤ i6.toInt ∧ i6.toInt ≤ 127 := ti_i2b ei6
        refine pb_bast (pc := 26) (ws' := [(h, .inr (10, [.ref m_rels, .ref m_openRels, .ref m_closeRels, .ref m_openRel, .ref m_closeRel, .ref m_comment, .ref m_ends, .ref m_order, .int v_thrown, .int v_taped, .ref m_tape, .ref m_count, .ref m_nameSize, .ref m_names, .ref m_size, .ref m_data, .int v_lookedSize, .ref m_looked, .int t, .ref m_file, .int v_directorySize, .ref m_directory, .int v_outSize, .ref m_out, .int v_rowSize, .ref m_row, .int v_bitAt, .int v_bitEnd, .int v_why, .int v_madeSize, .ref m_made, .ref m_length, .int v_firstCount, .int v_secondCount, .int v_heldBits, .int v_heldCount, .int v_pressedSize, .ref m_pressed, .int v_at, .int v_bad, .int v_markSize, .ref m_mark, .int v_relationCount, .ref m_idSize, .ref m_ids, .ref m_goalSize, .ref m_goals, .int v_valueSize, .ref m_value, .int v_faultCount, .ref m_faults, .ref m_reached])), (m_file, .inl (G.2.1, 20000, .inl (upd g ((t : Int32).toNatClampNeg) (vp_nar .byte i6))))]) d_Mod_lay_26 1 rfl (vp_in_iff.mpr (by omega)) rfl ?_
        refine pb_aload_n (pc := 27) d_Mod_lay_27 1 rfl rfl ?_
        refine pb_dup (pc := 28) d_Mod_lay_28 rfl ?_
        refine pb_get (pc := 29) d_Mod_lay_29 0 18 rfl rfl (by decide) in_Mod k_1164 rfl ?_
        refine pb_iconst (pc := 32) (v := 1) d_Mod_lay_32 (by decide) ?_
        refine pb_iadd (pc := 33) d_Mod_lay_33 ?_
        refine pb_topi (fun i7 ei7 => ?_)
        try have ti7 : i7.toInt = t.toInt + 1 := t2_add ei7 rfl (by decide) (by omega)
        refine pb_put (pc := 34) (ty := .int) (ws' := [(h, .inr (10, [.ref m_rels, .ref m_openRels, .ref m_closeRels, .ref m_openRel, .ref m_closeRel, .ref m_comment, .ref m_ends, .ref m_order, .int v_thrown, .int v_taped, .ref m_tape, .ref m_count, .ref m_nameSize, .ref m_names, .ref m_size, .ref m_data, .int v_lookedSize, .ref m_looked, .int i7, .ref m_file, .int v_directorySize, .ref m_directory, .int v_outSize, .ref m_out, .int v_rowSize, .ref m_row, .int v_bitAt, .int v_bitEnd, .int v_why, .int v_madeSize, .ref m_made, .ref m_length, .int v_firstCount, .int v_secondCount, .int v_heldBits, .int v_heldCount, .int v_pressedSize, .ref m_pressed, .int v_at, .int v_bad, .int v_markSize, .ref m_mark, .int v_relationCount, .ref m_idSize, .ref m_ids, .ref m_goalSize, .ref m_goals, .int v_valueSize, .ref m_value, .int v_faultCount, .ref m_faults, .ref m_reached])), (m_file, .inl (G.2.1, 20000, .inl (upd g ((t : Int32).toNatClampNeg) (vp_nar .byte i6))))]) d_Mod_lay_34 0 18 t_Mod t_Mod_ok n_Mod rfl rfl (by decide) in_Mod k_1164 rfl (by decide +kernel) rfl rfl (Nat.le_of_ble_eq_true rfl) rfl ?_
        refine pb_iincN (pc := 37) (c := 1) d_Mod_lay_37 0 rfl (by decide) (by decide) (fun i8 ei8 => ?_)
        have ti8 : i8.toInt = k.toInt + 1 := t2_add ei8 rfl (by decide) (by first | omega | (have r90 := ti_rng k; have r91 := ti_rng i8; have r92 := ti_rng n; omega))
        refine pb_eq (pc' := 40) (lo' := [(4, .int i8), (0, .ref h), (1, .long w), (3, .int n)]) (rest' := []) (ws' := [(h, .inr (10, [.ref m_rels, .ref m_openRels, .ref m_closeRels, .ref m_openRel, .ref m_closeRel, .ref m_comment, .ref m_ends, .ref m_order, .int v_thrown, .int v_taped, .ref m_tape, .ref m_count, .ref m_nameSize, .ref m_names, .ref m_size, .ref m_data, .int v_lookedSize, .ref m_looked, .int i7, .ref m_file, .int v_directorySize, .ref m_directory, .int v_outSize, .ref m_out, .int v_rowSize, .ref m_row, .int v_bitAt, .int v_bitEnd, .int v_why, .int v_madeSize, .ref m_made, .ref m_length, .int v_firstCount, .int v_secondCount, .int v_heldBits, .int v_heldCount, .int v_pressedSize, .ref m_pressed, .int v_at, .int v_bad, .int v_markSize, .ref m_mark, .int v_relationCount, .ref m_idSize, .ref m_ids, .ref m_goalSize, .ref m_goals, .int v_valueSize, .ref m_value, .int v_faultCount, .ref m_faults, .ref m_reached])), (m_file, .inl (G.2.1, 20000, .inl (upd g ((t : Int32).toNatClampNeg) (vp_nar .byte i6))))]) ?_
        refine pb_goto (pc := 40) (tgt := 3) d_Mod_lay_40 (by decide) ?_
        exact ih3 i8 i7 (upd g ((t : Int32).toNatClampNeg) (vp_nar .byte i6)) (sb_fitU F_g (fit_nar _)) (by first | (with_reducible assumption) | omega (splitDisjunctions := false) | assumption | omega | decide) (by first | (with_reducible assumption) | omega (splitDisjunctions := false) | assumption | omega | decide) (by first | (with_reducible assumption) | omega (splitDisjunctions := false) | assumption | omega | decide) (ap_nk h0 ka k0 (by omega) (fun j hj => gr_updb rfl j (by omega) hj) (tp_m2 (by assumption) (by assumption) (by assumption) (by omega)) (by omega) (by omega)) (by omega)
  exact hL3_1 _ 0 v_fileSize a_file F_a_file (by first | (with_reducible assumption) | omega (splitDisjunctions := false) | assumption | omega | decide) (by first | (with_reducible assumption) | omega (splitDisjunctions := false) | assumption | omega | decide) (by first | (with_reducible assumption) | omega (splitDisjunctions := false) | assumption | omega | decide) (by rw [show (0 : Int32).toInt.toNat = 0 by omega]; exact ap_nil rfl) (Nat.lt_succ_self _)
