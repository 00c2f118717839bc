/-! ROWS OF NUMBERS -/
theorem omg_b113f97746 {x0 : Int} {x1 : Int} {x2 : Int} {x3 : Int} (a0 : (x0 = (x1 - (3 : Int)))) (a1 : ((x2 = (0 : Int)) ∨ (((4 : Int) * x3) ≤ x0))) : ((x2 = (0 : Int)) ∨ (((4 : Int) * x3) ≤ (x1 - (3 : Int)))) := by omega
theorem omg_833592dccf {x0 : Int} {x1 : Int} {x2 : Int} {x3 : Int} {x4 : Int} {x5 : Int} {x6 : Int} (a0 : (x0 = ((4 : Int) * x1))) (a1 : (x2 = ((257 : Int) + x0))) (a2 : (x3 = ((x4 - (3 : Int)) / x5))) (a3 : (x6 = (x2 + x3))) : (x6 = (((257 : Int) + ((4 : Int) * x1)) + ((x4 - (3 : Int)) / x5))) := by omega
theorem omg_166ac5ba6a {x0 : Int} {x1 : Int} {x2 : Int} {x3 : Int} {x4 : Int} (a0 : ((x0 + (14 : Int)) ≤ (36016 : Int))) (a1 : (x1 ≤ (5 : Int))) (a2 : (((257 : Int) ≤ x2) ∧ ((x2 ≤ (285 : Int)) ∧ (((x2 < (280 : Int)) ∧ (x3 = ((7 : Int) + x1))) ∨ (((280 : Int) ≤ x2) ∧ (x3 = ((8 : Int) + x1))))))) (a3 : (((256 : Int) ≤ x2) → ((x2 < (280 : Int)) → (x4 = (x0 + (7 : Int)))))) (a4 : (((280 : Int) ≤ x2) → (x4 = (x0 + (8 : Int))))) : ((x4 + x1) ≤ (36016 : Int)) := by omega
theorem omg_65389cbed0 {x0 : Int} {x1 : Int} {x2 : Int} {x3 : Int} {x4 : Int} {x5 : Int} (a0 : (((257 : Int) ≤ x0) ∧ ((x0 ≤ (285 : Int)) ∧ (((x0 < (280 : Int)) ∧ (x1 = ((7 : Int) + x2))) ∨ (((280 : Int) ≤ x0) ∧ (x1 = ((8 : Int) + x2))))))) (a1 : (((256 : Int) ≤ x0) → ((x0 < (280 : Int)) → (x3 = (x4 + (7 : Int)))))) (a2 : (((280 : Int) ≤ x0) → (x3 = (x4 + (8 : Int))))) (a3 : (x5 = (x3 + x2))) : (x5 = (x4 + x1)) := by omega
theorem omg_4f6aa606d0 {x0 : Int} {x1 : Nat} {x2 : Int} (a0 : ((Int.toNat ((5 : Int) - x0)) < (x1 + (1 : Nat)))) (a1 : (¬ ((5 : Int) ≤ x0))) (a2 : (x2 = (x0 + (1 : Int)))) : ((Int.toNat ((5 : Int) - x2)) < x1) := by omega
theorem d_Presser_putLength_0 : decode prog_8_method_7_code 0 = .ok (.aload_n 0, 1) := by decide +kernel
theorem d_Presser_putLength_1 : decode prog_8_method_7_code 1 = .ok (.getfield 55, 3) := by decide +kernel
theorem k_190 : (Jvm.Cond.fieldLink "PackageBook$Presser" (55 : Nat) "PackageBook$Presser" "length" "I") ∈ uW := uW_of 190 (by decide +kernel) (by decide +kernel)
theorem d_Presser_putLength_4 : decode prog_8_method_7_code 4 = .ok (.sipush 258, 3) := by decide +kernel
theorem d_Presser_putLength_7 : decode prog_8_method_7_code 7 = .ok (.if_icmp .ne 11, 3) := by decide +kernel
theorem d_Presser_putLength_18 : decode prog_8_method_7_code 18 = .ok (.aload_n 0, 1) := by decide +kernel
theorem d_Presser_putLength_19 : decode prog_8_method_7_code 19 = .ok (.getfield 55, 3) := by decide +kernel
theorem d_Presser_putLength_22 : decode prog_8_method_7_code 22 = .ok (.iconst 3, 1) := by decide +kernel
theorem d_Presser_putLength_23 : decode prog_8_method_7_code 23 = .ok (.isub, 1) := by decide +kernel
theorem d_Presser_putLength_24 : decode prog_8_method_7_code 24 = .ok (.istore_n 1, 1) := by decide +kernel
theorem d_Presser_putLength_25 : decode prog_8_method_7_code 25 = .ok (.iconst 0, 1) := by decide +kernel
theorem d_Presser_putLength_26 : decode prog_8_method_7_code 26 = .ok (.istore_n 2, 1) := by decide +kernel
theorem d_Presser_putLength_27 : decode prog_8_method_7_code 27 = .ok (.iload_n 2, 1) := by decide +kernel
theorem d_Presser_putLength_28 : decode prog_8_method_7_code 28 = .ok (.iconst 5, 1) := by decide +kernel
theorem d_Presser_putLength_29 : decode prog_8_method_7_code 29 = .ok (.if_icmp .ge 17, 3) := by decide +kernel
theorem d_Presser_putLength_46 : decode prog_8_method_7_code 46 = .ok (.aload_n 0, 1) := by decide +kernel
theorem d_Presser_putLength_47 : decode prog_8_method_7_code 47 = .ok (.sipush 257, 3) := by decide +kernel
theorem d_Presser_putLength_50 : decode prog_8_method_7_code 50 = .ok (.iconst 4, 1) := by decide +kernel
theorem d_Presser_putLength_51 : decode prog_8_method_7_code 51 = .ok (.iload_n 2, 1) := by decide +kernel
theorem d_Presser_putLength_52 : decode prog_8_method_7_code 52 = .ok (.imul, 1) := by decide +kernel
theorem d_Presser_putLength_53 : decode prog_8_method_7_code 53 = .ok (.iadd, 1) := by decide +kernel
theorem d_Presser_putLength_54 : decode prog_8_method_7_code 54 = .ok (.iload_n 1, 1) := by decide +kernel
theorem d_Presser_putLength_55 : decode prog_8_method_7_code 55 = .ok (.iload_n 2, 1) := by decide +kernel
theorem d_Presser_putLength_56 : decode prog_8_method_7_code 56 = .ok (.ishr, 1) := by decide +kernel
theorem d_Presser_putLength_57 : decode prog_8_method_7_code 57 = .ok (.iadd, 1) := by decide +kernel
theorem d_Presser_putLength_58 : decode prog_8_method_7_code 58 = .ok (.invokevirtual 58, 3) := by decide +kernel
theorem k_524 : (Jvm.Cond.methodLink "PackageBook$Presser" (58 : Nat) ({ cls := "PackageBook$Presser", name := "putSymbol", desc := "(I)V" } : Jvm.MethodName)) ∈ uW := uW_of 524 (by decide +kernel) (by decide +kernel)
theorem k_527 : (Jvm.Cond.code ({ cls := "PackageBook$Presser", name := "putSymbol", desc := "(I)V" } : Jvm.MethodName) prog_8_method_9_code (2 : Nat) (Option.none : Option Jvm.ClassFile.FieldType)) ∈ uW := uW_of 527 (by decide +kernel) (by decide +kernel)
theorem k_526 : (Jvm.Cond.instanceMethod ({ cls := "PackageBook$Presser", name := "putSymbol", desc := "(I)V" } : Jvm.MethodName)) ∈ uW := uW_of 526 (by decide +kernel) (by decide +kernel)
theorem k_6 : Cond.selects "PackageBook$Presser" ⟨"PackageBook$Presser", "putSymbol", "(I)V"⟩ ⟨"PackageBook$Presser", "putSymbol", "(I)V"⟩ ∈ uW := uW_of 6 (by decide +kernel) (by decide +kernel)
theorem hy_Presser_putSymbol : (y_Presser_putSymbol).cls ≠ "java/lang/invoke/MethodHandle" ∧ (y_Presser_putSymbol).cls ≠ "java/lang/invoke/VarHandle" ∧ (parseMethodDescriptor (y_Presser_putSymbol).desc).map (fun d => d.parameters.length) = some 1 := by decide +kernel
theorem d_Presser_putLength_61 : decode prog_8_method_7_code 61 = .ok (.aload_n 0, 1) := by decide +kernel
theorem d_Presser_putLength_62 : decode prog_8_method_7_code 62 = .ok (.iload_n 1, 1) := by decide +kernel
theorem d_Presser_putLength_63 : decode prog_8_method_7_code 63 = .ok (.iload_n 2, 1) := by decide +kernel
theorem d_Presser_putLength_64 : decode prog_8_method_7_code 64 = .ok (.invokevirtual 48, 3) := by decide +kernel
theorem d_Presser_putLength_67 : decode prog_8_method_7_code 67 = .ok (.return_, 1) := by decide +kernel
theorem d_Presser_putLength_32 : decode prog_8_method_7_code 32 = .ok (.iload_n 1, 1) := by decide +kernel
theorem d_Presser_putLength_33 : decode prog_8_method_7_code 33 = .ok (.iload_n 2, 1) := by decide +kernel
theorem d_Presser_putLength_34 : decode prog_8_method_7_code 34 = .ok (.ishr, 1) := by decide +kernel
theorem d_Presser_putLength_35 : decode prog_8_method_7_code 35 = .ok (.bipush 8, 2) := by decide +kernel
theorem d_Presser_putLength_37 : decode prog_8_method_7_code 37 = .ok (.if_icmp .lt 9, 3) := by decide +kernel
theorem d_Presser_putLength_40 : decode prog_8_method_7_code 40 = .ok (.iinc 2 1, 3) := by decide +kernel
theorem d_Presser_putLength_43 : decode prog_8_method_7_code 43 = .ok (.goto (-16), 3) := by decide +kernel
theorem d_Presser_putLength_10 : decode prog_8_method_7_code 10 = .ok (.aload_n 0, 1) := by decide +kernel
theorem d_Presser_putLength_11 : decode prog_8_method_7_code 11 = .ok (.sipush 285, 3) := by decide +kernel
theorem d_Presser_putLength_14 : decode prog_8_method_7_code 14 = .ok (.invokevirtual 58, 3) := by decide +kernel
theorem d_Presser_putLength_17 : decode prog_8_method_7_code 17 = .ok (.return_, 1) := by decide +kernel
abbrev y_Presser_putLength : MethodName := ⟨"PackageBook$Presser", "putLength", "()V"⟩
abbrev i_Presser_putLength : pb_I := (y_Presser_putLength, prog_8_method_7_code, 3, (Option.none : Option Jvm.ClassFile.FieldType), [], { frames := 2, cells := 0, slots := 0, locals := 44 })
set_option maxRecDepth 100000 in
set_option maxHeartbeats 4000000 in
theorem g_Pr_putLength {l : Launch} (hl : l.stackTraces = false) (G : pb_G) (h : Nat) (pp : Nat) (pl : Nat) (pe : Nat) (pr : Nat) (pb : Nat) (bg : Int32) (sz : Int32) (bt : Int32) (ln : Int32) (ds : Int32) (f : Nat → Int32) (ps : Int32) (S : Int × (Int → Int)) (k0 : 0 ≤ bt.toInt) (k1 : bt.toInt + 14 ≤ 36016) (k5 : ps.toInt = (bt.toInt + 7) / 8) (l0 : 3 ≤ ln.toInt) (l1 : ln.toInt ≤ 258) (hS : pC_ f ps.toInt bt.toInt S) (F_f : sb_Fit f) : Cn l G i_Presser_putLength [.ref h] [(h, .inr (4, [.ref pp, .ref pl, .ref pe, .ref pr, .int bg, .int sz, .int bt, .int ln, .int ds])), (pp, .inr (0, [.ref pb, .int ps])), (pb, .inl (G.2.1, 4502, .inl f))] (S := Int32 × Int32 × (Nat → Int32)) (fun rv_ u => rv_ = none ∧ (u.1.toInt = bt.toInt + le_c ln.toInt) ∧ (u.2.1.toInt = (u.1.toInt + 7) / 8) ∧ (pC_ u.2.2 u.2.1.toInt u.1.toInt (lo_ S ln.toInt)) ∧ (sb_Fit u.2.2)) (fun u => [(h, .inr (4, [.ref pp, .ref pl, .ref pe, .ref pr, .int bg, .int sz, .int u.1, .int ln, .int ds])), (pp, .inr (0, [.ref pb, .int u.2.1])), (pb, .inl (G.2.1, 4502, .inl u.2.2))]) := by
  refine Cn.of hl (by decide +kernel) rfl (Nat.le_of_ble_eq_true rfl) (fun M hQ => ?_)
  refine pb_eq (pc' := 0) (lo' := [(0, .ref h)]) (rest' := []) (ws' := [(h, .inr (4, [.ref pp, .ref pl, .ref pe, .ref pr, .int bg, .int sz, .int bt, .int ln, .int ds])), (pp, .inr (0, [.ref pb, .int ps])), (pb, .inl (G.2.1, 4502, .inl f))]) ?_
  have zl0 : (0 : Int32).toInt = 0 := by decide
  have zl1 : (1 : Int32).toInt = 1 := by decide
  have zl3 : (3 : Int32).toInt = 3 := by decide
  have zl4 : (4 : Int32).toInt = 4 := by decide
  have zl5 : (5 : Int32).toInt = 5 := by decide
  have zl8 : (8 : Int32).toInt = 8 := by decide
  have zl257 : (257 : Int32).toInt = 257 := by decide
  have zl258 : (258 : Int32).toInt = 258 := by decide
  have zl285 : (285 : Int32).toInt = 285 := by decide
  refine pb_aload_n (pc := 0) d_Presser_putLength_0 0 rfl rfl ?_
  refine pb_get (pc := 1) d_Presser_putLength_1 0 7 rfl rfl (by decide) in_Presser k_190 rfl ?_
  refine pb_sipush (pc := 4) (v := 258) d_Presser_putLength_4 (by decide) ?_
  refine pb_icmp_ne (pc := 7) (tgt := 18) d_Presser_putLength_7 (by decide) (fun w1 => ?_) (fun w1 => ?_)
  · have tw1 : ¬ ln.toInt = 258 := fun z9 => w1 ((ti_eq rfl (by decide)).mpr z9)
    refine pb_aload_n (pc := 18) d_Presser_putLength_18 0 rfl rfl ?_
    refine pb_get (pc := 19) d_Presser_putLength_19 0 7 rfl rfl (by decide) in_Presser k_190 rfl ?_
    refine pb_iconst (pc := 22) (v := 3) d_Presser_putLength_22 (by decide) ?_
    refine pb_isub (pc := 23) d_Presser_putLength_23 ?_
    refine pb_topi (fun i2 ei2 => ?_)
    try have ti2 : i2.toInt = ln.toInt - 3 := ti_sub ei2 rfl (by decide) (by omega) (by omega)
    refine pb_istore_n (pc := 24) (lo' := [(1, .int i2), (0, .ref h)]) d_Presser_putLength_24 rfl (by decide) rfl ?_
    refine pb_iconst (pc := 25) (v := 0) d_Presser_putLength_25 (by decide) ?_
    refine pb_istore_n (pc := 26) (lo' := [(2, .int 0), (1, .int i2), (0, .ref h)]) d_Presser_putLength_26 rfl (by decide) rfl ?_
    have hL27_3 : ∀ (N9 : Nat) (v : Int32) (m : Int32), (v.toInt = ln.toInt - 3) → (ln.toInt ≤ 257) → (0 ≤ m.toInt) → (m.toInt ≤ 5) → (m.toInt = 0 ∨ 4 * p2 m.toInt ≤ v.toInt) → ((5 - m.toInt).toNat) < N9 → pb_P l G M i_Presser_putLength 27 [(1, .int v), (2, .int m), (0, .ref h)] [] [(h, .inr (4, [.ref pp, .ref pl, .ref pe, .ref pr, .int bg, .int sz, .int bt, .int ln, .int ds])), (pp, .inr (0, [.ref pb, .int ps])), (pb, .inl (G.2.1, 4502, .inl f))] 0 0 := by
      intro N9
      induction N9 with
      | zero => intro v m hv0 hle hm0 hm1 hmp hm9; exact absurd hm9 (Nat.not_lt_zero _)
      | succ N9 ih27 =>
        intro v m hv0 hle hm0 hm1 hmp hm9
        refine pb_iload_n (pc := 27) d_Presser_putLength_27 1 rfl rfl ?_
        refine pb_iconst (pc := 28) (v := 5) d_Presser_putLength_28 (by decide) ?_
        refine pb_icmp_ge (pc := 29) (tgt := 46) d_Presser_putLength_29 (by decide) (fun w4 => ?_) (fun w4 => ?_)
        · have tw4 : 5 ≤ m.toInt := (ti_le (by decide) rfl).mp w4
          have pPn := p2_pos m.toInt
          have mD : m.toInt = lm_ ln.toInt := lm_E hm0 hm1 (by (exact omg_b113f97746 hv0 hmp)) (by first | exact Or.inl (by omega) | exact Or.inr (by have q9 := dv_lt (k := 8) (show v.toInt / p2 m.toInt < 8 by omega) (by omega); omega)) (by omega)
          clear hmp
          refine pb_aload_n (pc := 46) d_Presser_putLength_46 2 rfl rfl ?_
          refine pb_sipush (pc := 47) (v := 257) d_Presser_putLength_47 (by decide) ?_
          refine pb_iconst (pc := 50) (v := 4) d_Presser_putLength_50 (by decide) ?_
          refine pb_iload_n (pc := 51) d_Presser_putLength_51 1 rfl rfl ?_
          refine pb_imul (pc := 52) d_Presser_putLength_52 ?_
          refine pb_topi (fun i5 ei5 => ?_)
          try have ti5 : i5.toInt = 4 * m.toInt := ti_mul ei5 (by decide) rfl (by omega) (by omega)
          refine pb_iadd (pc := 53) d_Presser_putLength_53 ?_
          refine pb_topi (fun i6 ei6 => ?_)
          try have ti6 : i6.toInt = 257 + i5.toInt := ti_add ei6 (by decide) rfl (by omega) (by omega)
          refine pb_iload_n (pc := 54) d_Presser_putLength_54 0 rfl rfl ?_
          refine pb_iload_n (pc := 55) d_Presser_putLength_55 1 rfl rfl ?_
          refine pb_ishr (pc := 56) d_Presser_putLength_56 ?_
          refine pb_topi (fun i7 ei7 => ?_)
          have shF : i7.toInt = v.toInt / p2 m.toInt := ti_shr (b := p2 m.toInt) ei7 rfl m.toInt.toNat (sh_k rfl (by omega) (by omega)) rfl
          have shB1 : 0 ≤ i7.toInt := by rw [shF]; exact Int.ediv_nonneg (by omega) (by omega)
          have shB2 : i7.toInt ≤ 4000 := by rw [shF]; exact Int.le_trans (Int.ediv_le_self _ (by omega)) (by omega)
          rw [hv0] at shF
          refine pb_iadd (pc := 57) d_Presser_putLength_57 ?_
          refine pb_topi (fun i8 ei8 => ?_)
          try have ti8 : i8.toInt = i6.toInt + i7.toInt := ti_add ei8 rfl rfl (by omega) (by omega)
          have sR := le_lm (s := i8.toInt) l0 (by omega) mD (by (exact omg_833592dccf ti5 ti6 shF ti8))
          refine pb_callV (pc := 58) (I := i_Presser_putLength) (qb := 0) (ci := 4) (nA := 1) (rest := []) (wr := []) d_Presser_putLength_58 (g_Pr_putSymbol hl G h pp pl pe pr pb bg sz bt ln ds f ps i8 S (by first | (with_reducible assumption) | omega (splitDisjunctions := false) | assumption | omega | decide) (by first | (with_reducible assumption) | omega (splitDisjunctions := false) | assumption | omega | decide) (by first | (with_reducible assumption) | omega (splitDisjunctions := false) | assumption | omega | decide) (by first | (with_reducible assumption) | omega (splitDisjunctions := false) | assumption | omega | decide) (by first | (with_reducible assumption) | omega (splitDisjunctions := false) | assumption | omega | decide) (by first | (with_reducible assumption) | omega (splitDisjunctions := false) | assumption | omega | decide) F_f) rfl rfl [0, 1, 2] [] (by decide) rfl rfl rfl (by decide) (by decide) k_527 rfl k_120 k_524 k_526 k_6 ⟨rfl, hy_Presser_putSymbol⟩ (by decide) rfl rfl (Nat.le_of_ble_eq_true rfl) (by decide) (fun v9 u10 ch9 => ?_)
          obtain ⟨b_11, p_12, f_13⟩ := u10
          obtain ⟨ech9, ch9⟩ := ch9
          have ech9 : v9 = none := ech9
          subst ech9
          obtain ⟨fh14, fh15, fh16, fh17, fh18, fh19, fh20⟩ : (i8.toInt < 144 → b_11.toInt = bt.toInt + 8) ∧ (144 ≤ i8.toInt → i8.toInt < 256 → b_11.toInt = bt.toInt + 9) ∧ (256 ≤ i8.toInt → i8.toInt < 280 → b_11.toInt = bt.toInt + 7) ∧ (280 ≤ i8.toInt → b_11.toInt = bt.toInt + 8) ∧ (p_12.toInt = (b_11.toInt + 7) / 8) ∧ (pC_ f_13 p_12.toInt b_11.toInt (sb_ S i8.toInt)) ∧ (sb_Fit f_13) := ch9
          have syF := fh19
          have syF := fh19
          obtain ⟨R, eR, rF⟩ : ∃ R : Int × (Int → Int), R = sb_ S i8.toInt ∧ pC_ _ _ _ R := ⟨_, rfl, syF⟩
          refine pb_eq (pc' := 61) (lo' := [(1, .int v), (2, .int m), (0, .ref h)]) (rest' := []) (ws' := [(h, .inr (4, [.ref pp, .ref pl, .ref pe, .ref pr, .int bg, .int sz, .int b_11, .int ln, .int ds])), (pp, .inr (0, [.ref pb, .int p_12])), (pb, .inl (G.2.1, 4502, .inl f_13))]) ?_
          refine pb_aload_n (pc := 61) d_Presser_putLength_61 2 rfl rfl ?_
          refine pb_iload_n (pc := 62) d_Presser_putLength_62 0 rfl rfl ?_
          refine pb_iload_n (pc := 63) d_Presser_putLength_63 1 rfl rfl ?_
          refine pb_callV (pc := 64) (I := i_Presser_putLength) (qb := 0) (ci := 4) (nA := 2) (rest := []) (wr := []) d_Presser_putLength_64 (g_Pr_putNumber hl G h pp pl pe pr pb bg sz b_11 ln ds f_13 p_12 v m R (by first | (with_reducible assumption) | omega (splitDisjunctions := false) | assumption | omega | decide) (by first | (with_reducible assumption) | omega (splitDisjunctions := false) | assumption | (exact omg_166ac5ba6a k1 hm1 sR fh16 fh17) | decide) (by first | (with_reducible assumption) | omega (splitDisjunctions := false) | assumption | omega | decide) (by first | (with_reducible assumption) | omega (splitDisjunctions := false) | assumption | omega | decide) (by first | (with_reducible assumption) | omega (splitDisjunctions := false) | assumption | omega | decide) rF (by first | (with_reducible assumption) | omega (splitDisjunctions := false) | assumption | omega | decide) (by first | (with_reducible assumption) | omega (splitDisjunctions := false) | assumption | omega | decide) fh20) rfl rfl [0, 1, 2] [] (by decide) rfl rfl rfl (by decide) (by decide) k_508 rfl k_120 k_505 k_507 k_2 ⟨rfl, hy_Presser_putNumber⟩ (by decide) rfl rfl (Nat.le_of_ble_eq_true rfl) (by decide) (fun v9 u22 ch21 => ?_)
          obtain ⟨b_23, p_24, f_25⟩ := u22
          obtain ⟨ech21, ch21⟩ := ch21
          have ech21 : v9 = none := ech21
          subst ech21
          obtain ⟨fh26, fh27, fh28, fh29⟩ : (b_23.toInt = b_11.toInt + m.toInt) ∧ (p_24.toInt = (b_23.toInt + 7) / 8) ∧ (pC_ f_25 p_24.toInt b_23.toInt (bn_ R v.toInt m.toInt.toNat)) ∧ (sb_Fit f_25) := ch21
          have nmF := fh28
          refine pb_eq (pc' := 67) (lo' := [(1, .int v), (2, .int m), (0, .ref h)]) (rest' := []) (ws' := [(h, .inr (4, [.ref pp, .ref pl, .ref pe, .ref pr, .int bg, .int sz, .int b_23, .int ln, .int ds])), (pp, .inr (0, [.ref pb, .int p_24])), (pb, .inl (G.2.1, 4502, .inl f_25))]) ?_
          exact pb_vret (pc := 67) hQ d_Presser_putLength_67 rfl (b_23, p_24, f_25) ⟨rfl, (show b_23.toInt = bt.toInt + le_c ln.toInt from (by (exact omg_65389cbed0 sR fh16 fh17 fh26))), (by (try dsimp only); first | done | (with_reducible assumption) | omega (splitDisjunctions := false) | assumption | omega | decide), (show pC_ f_25 p_24.toInt b_23.toInt (lo_ S ln.toInt) from (pC_c nmF rfl rfl (by rw [eR]; exact lo_E (by omega) mD (by (exact omg_833592dccf ti5 ti6 shF ti8)) (by omega)))), fh29⟩ [0, 1, 2] (by decide) rfl rfl (by decide) (by decide)
        · have tw4 : ¬ 5 ≤ m.toInt := fun z9 => w4 ((ti_le (by decide) rfl).mpr z9)
          refine pb_iload_n (pc := 32) d_Presser_putLength_32 0 rfl rfl ?_
          refine pb_iload_n (pc := 33) d_Presser_putLength_33 1 rfl rfl ?_
          refine pb_ishr (pc := 34) d_Presser_putLength_34 ?_
          refine pb_topi (fun i30 ei30 => ?_)
          have shE : i30.toInt = v.toInt / p2 m.toInt := ti_shr (b := p2 m.toInt) ei30 rfl m.toInt.toNat (sh_k rfl (by omega) (by omega)) rfl
          have pPm := p2_pos m.toInt
          refine pb_bipush (pc := 35) (v := 8) d_Presser_putLength_35 (by decide) ?_
          refine pb_icmp_lt (pc := 37) (tgt := 46) d_Presser_putLength_37 (by decide) (fun w31 => ?_) (fun w31 => ?_)
          · have tw31 : i30.toInt < 8 := (ti_lt rfl (by decide)).mp w31
            have pPn := p2_pos m.toInt
            have mD : m.toInt = lm_ ln.toInt := lm_E hm0 hm1 (by (exact omg_b113f97746 hv0 hmp)) (by first | exact Or.inl (by omega) | exact Or.inr (by have q9 := dv_lt (k := 8) (show v.toInt / p2 m.toInt < 8 by omega) (by omega); omega)) (by omega)
            clear hmp
            refine pb_aload_n (pc := 46) d_Presser_putLength_46 2 rfl rfl ?_
            refine pb_sipush (pc := 47) (v := 257) d_Presser_putLength_47 (by decide) ?_
            refine pb_iconst (pc := 50) (v := 4) d_Presser_putLength_50 (by decide) ?_
            refine pb_iload_n (pc := 51) d_Presser_putLength_51 1 rfl rfl ?_
            refine pb_imul (pc := 52) d_Presser_putLength_52 ?_
            refine pb_topi (fun i32 ei32 => ?_)
            try have ti32 : i32.toInt = 4 * m.toInt := ti_mul ei32 (by decide) rfl (by omega) (by omega)
            refine pb_iadd (pc := 53) d_Presser_putLength_53 ?_
            refine pb_topi (fun i33 ei33 => ?_)
            try have ti33 : i33.toInt = 257 + i32.toInt := ti_add ei33 (by decide) rfl (by omega) (by omega)
            refine pb_iload_n (pc := 54) d_Presser_putLength_54 0 rfl rfl ?_
            refine pb_iload_n (pc := 55) d_Presser_putLength_55 1 rfl rfl ?_
            refine pb_ishr (pc := 56) d_Presser_putLength_56 ?_
            refine pb_topi (fun i34 ei34 => ?_)
            have shF : i34.toInt = v.toInt / p2 m.toInt := ti_shr (b := p2 m.toInt) ei34 rfl m.toInt.toNat (sh_k rfl (by omega) (by omega)) rfl
            have shB1 : 0 ≤ i34.toInt := by rw [shF]; exact Int.ediv_nonneg (by omega) (by omega)
            have shB2 : i34.toInt ≤ 4000 := by rw [shF]; exact Int.le_trans (Int.ediv_le_self _ (by omega)) (by omega)
            rw [hv0] at shF
            refine pb_iadd (pc := 57) d_Presser_putLength_57 ?_
            refine pb_topi (fun i35 ei35 => ?_)
            try have ti35 : i35.toInt = i33.toInt + i34.toInt := ti_add ei35 rfl rfl (by omega) (by omega)
            have sR := le_lm (s := i35.toInt) l0 (by omega) mD (by (exact omg_833592dccf ti32 ti33 shF ti35))
            refine pb_callV (pc := 58) (I := i_Presser_putLength) (qb := 0) (ci := 4) (nA := 1) (rest := []) (wr := []) d_Presser_putLength_58 (g_Pr_putSymbol hl G h pp pl pe pr pb bg sz bt ln ds f ps i35 S (by first | (with_reducible assumption) | omega (splitDisjunctions := false) | assumption | omega | decide) (by first | (with_reducible assumption) | omega (splitDisjunctions := false) | assumption | omega | decide) (by first | (with_reducible assumption) | omega (splitDisjunctions := false) | assumption | omega | decide) (by first | (with_reducible assumption) | omega (splitDisjunctions := false) | assumption | omega | decide) (by first | (with_reducible assumption) | omega (splitDisjunctions := false) | assumption | omega | decide) (by first | (with_reducible assumption) | omega (splitDisjunctions := false) | assumption | omega | decide) F_f) rfl rfl [0, 1, 2] [] (by decide) rfl rfl rfl (by decide) (by decide) k_527 rfl k_120 k_524 k_526 k_6 ⟨rfl, hy_Presser_putSymbol⟩ (by decide) rfl rfl (Nat.le_of_ble_eq_true rfl) (by decide) (fun v9 u37 ch36 => ?_)
            obtain ⟨b_38, p_39, f_40⟩ := u37
            obtain ⟨ech36, ch36⟩ := ch36
            have ech36 : v9 = none := ech36
            subst ech36
            obtain ⟨fh41, fh42, fh43, fh44, fh45, fh46, fh47⟩ : (i35.toInt < 144 → b_38.toInt = bt.toInt + 8) ∧ (144 ≤ i35.toInt → i35.toInt < 256 → b_38.toInt = bt.toInt + 9) ∧ (256 ≤ i35.toInt → i35.toInt < 280 → b_38.toInt = bt.toInt + 7) ∧ (280 ≤ i35.toInt → b_38.toInt = bt.toInt + 8) ∧ (p_39.toInt = (b_38.toInt + 7) / 8) ∧ (pC_ f_40 p_39.toInt b_38.toInt (sb_ S i35.toInt)) ∧ (sb_Fit f_40) := ch36
            have syF := fh46
            have syF := fh46
            obtain ⟨R, eR, rF⟩ : ∃ R : Int × (Int → Int), R = sb_ S i35.toInt ∧ pC_ _ _ _ R := ⟨_, rfl, syF⟩
            refine pb_eq (pc' := 61) (lo' := [(1, .int v), (2, .int m), (0, .ref h)]) (rest' := []) (ws' := [(h, .inr (4, [.ref pp, .ref pl, .ref pe, .ref pr, .int bg, .int sz, .int b_38, .int ln, .int ds])), (pp, .inr (0, [.ref pb, .int p_39])), (pb, .inl (G.2.1, 4502, .inl f_40))]) ?_
            refine pb_aload_n (pc := 61) d_Presser_putLength_61 2 rfl rfl ?_
            refine pb_iload_n (pc := 62) d_Presser_putLength_62 0 rfl rfl ?_
            refine pb_iload_n (pc := 63) d_Presser_putLength_63 1 rfl rfl ?_
            refine pb_callV (pc := 64) (I := i_Presser_putLength) (qb := 0) (ci := 4) (nA := 2) (rest := []) (wr := []) d_Presser_putLength_64 (g_Pr_putNumber hl G h pp pl pe pr pb bg sz b_38 ln ds f_40 p_39 v m R (by first | (with_reducible assumption) | omega (splitDisjunctions := false) | assumption | omega | decide) (by first | (with_reducible assumption) | omega (splitDisjunctions := false) | assumption | (exact omg_166ac5ba6a k1 hm1 sR fh43 fh44) | decide) (by first | (with_reducible assumption) | omega (splitDisjunctions := false) | assumption | omega | decide) (by first | (with_reducible assumption) | omega (splitDisjunctions := false) | assumption | omega | decide) (by first | (with_reducible assumption) | omega (splitDisjunctions := false) | assumption | omega | decide) rF (by first | (with_reducible assumption) | omega (splitDisjunctions := false) | assumption | omega | decide) (by first | (with_reducible assumption) | omega (splitDisjunctions := false) | assumption | omega | decide) fh47) rfl rfl [0, 1, 2] [] (by decide) rfl rfl rfl (by decide) (by decide) k_508 rfl k_120 k_505 k_507 k_2 ⟨rfl, hy_Presser_putNumber⟩ (by decide) rfl rfl (Nat.le_of_ble_eq_true rfl) (by decide) (fun v9 u49 ch48 => ?_)
            obtain ⟨b_50, p_51, f_52⟩ := u49
            obtain ⟨ech48, ch48⟩ := ch48
            have ech48 : v9 = none := ech48
            subst ech48
            obtain ⟨fh53, fh54, fh55, fh56⟩ : (b_50.toInt = b_38.toInt + m.toInt) ∧ (p_51.toInt = (b_50.toInt + 7) / 8) ∧ (pC_ f_52 p_51.toInt b_50.toInt (bn_ R v.toInt m.toInt.toNat)) ∧ (sb_Fit f_52) := ch48
            have nmF := fh55
            refine pb_eq (pc' := 67) (lo' := [(1, .int v), (2, .int m), (0, .ref h)]) (rest' := []) (ws' := [(h, .inr (4, [.ref pp, .ref pl, .ref pe, .ref pr, .int bg, .int sz, .int b_50, .int ln, .int ds])), (pp, .inr (0, [.ref pb, .int p_51])), (pb, .inl (G.2.1, 4502, .inl f_52))]) ?_
            exact pb_vret (pc := 67) hQ d_Presser_putLength_67 rfl (b_50, p_51, f_52) ⟨rfl, (show b_50.toInt = bt.toInt + le_c ln.toInt from (by (exact omg_65389cbed0 sR fh43 fh44 fh53))), (by (try dsimp only); first | done | (with_reducible assumption) | omega (splitDisjunctions := false) | assumption | omega | decide), (show pC_ f_52 p_51.toInt b_50.toInt (lo_ S ln.toInt) from (pC_c nmF rfl rfl (by rw [eR]; exact lo_E (by omega) mD (by (exact omg_833592dccf ti32 ti33 shF ti35)) (by omega)))), fh56⟩ [0, 1, 2] (by decide) rfl rfl (by decide) (by decide)
          · have tw31 : ¬ i30.toInt < 8 := fun z9 => w31 ((ti_lt rfl (by decide)).mpr z9)
            refine pb_iincN (pc := 40) (c := 1) d_Presser_putLength_40 1 rfl (by decide) (by decide) (fun i57 ei57 => ?_)
            have ti57 : i57.toInt = m.toInt + 1 := ti_add ei57 rfl (by decide) (by omega) (by omega)
            refine pb_eq (pc' := 43) (lo' := [(2, .int i57), (1, .int v), (0, .ref h)]) (rest' := []) (ws' := [(h, .inr (4, [.ref pp, .ref pl, .ref pe, .ref pr, .int bg, .int sz, .int bt, .int ln, .int ds])), (pp, .inr (0, [.ref pb, .int ps])), (pb, .inl (G.2.1, 4502, .inl f))]) ?_
            refine pb_goto (pc := 43) (tgt := 27) d_Presser_putLength_43 (by decide) ?_
            refine pb_re (ws' := [(h, .inr (4, [.ref pp, .ref pl, .ref pe, .ref pr, .int bg, .int sz, .int bt, .int ln, .int ds])), (pp, .inr (0, [.ref pb, .int ps])), (pb, .inl (G.2.1, 4502, .inl f))]) (lo' := [(1, .int v), (2, .int i57), (0, .ref h)]) [0, 1, 2] [1, 0, 2] (by decide) rfl rfl rfl ?_
            exact ih27 v i57 (by first | (with_reducible assumption) | omega (splitDisjunctions := false) | assumption | omega | decide) (by first | (with_reducible assumption) | omega (splitDisjunctions := false) | assumption | omega | decide) (by first | (with_reducible assumption) | omega (splitDisjunctions := false) | assumption | omega | decide) (by omega) (Or.inr (by have q9 := dv_ge (k := 8) (show (8 : Int) ≤ v.toInt / p2 m.toInt by omega) (by omega); have q8 := p2_s (k := m.toInt) (m := i57.toInt) hm0 (by omega); omega)) (by (exact omg_4f6aa606d0 hm9 tw4 ti57))
    refine pb_re (ws' := [(h, .inr (4, [.ref pp, .ref pl, .ref pe, .ref pr, .int bg, .int sz, .int bt, .int ln, .int ds])), (pp, .inr (0, [.ref pb, .int ps])), (pb, .inl (G.2.1, 4502, .inl f))]) (lo' := [(1, .int i2), (2, .int 0), (0, .ref h)]) [0, 1, 2] [1, 0, 2] (by decide) rfl rfl rfl ?_
    exact hL27_3 _ i2 0 (by first | (with_reducible assumption) | omega (splitDisjunctions := false) | assumption | omega | decide) (by first | (with_reducible assumption) | omega (splitDisjunctions := false) | assumption | omega | decide) (by first | (with_reducible assumption) | omega (splitDisjunctions := false) | assumption | omega | decide) (by first | (with_reducible assumption) | omega (splitDisjunctions := false) | assumption | omega | decide) (by first | (with_reducible assumption) | omega (splitDisjunctions := false) | assumption | omega | decide) (Nat.lt_succ_self _)
  · have tw1 : ln.toInt = 258 := (ti_eq rfl (by decide)).mp w1
    refine pb_aload_n (pc := 10) d_Presser_putLength_10 0 rfl rfl ?_
    refine pb_sipush (pc := 11) (v := 285) d_Presser_putLength_11 (by decide) ?_
    refine pb_callV (pc := 14) (I := i_Presser_putLength) (qb := 0) (ci := 4) (nA := 1) (rest := []) (wr := []) d_Presser_putLength_14 (g_Pr_putSymbol hl G h pp pl pe pr pb bg sz bt ln ds f ps 285 S (by first | (with_reducible assumption) | omega (splitDisjunctions := false) | assumption | omega | decide) (by first | (with_reducible assumption) | omega (splitDisjunctions := false) | assumption | omega | decide) (by first | (with_reducible assumption) | omega (splitDisjunctions := false) | assumption | omega | decide) (by first | (with_reducible assumption) | omega (splitDisjunctions := false) | assumption | omega | decide) (by first | (with_reducible assumption) | omega (splitDisjunctions := false) | assumption | omega | decide) (by first | (with_reducible assumption) | omega (splitDisjunctions := false) | assumption | omega | decide) F_f) rfl rfl [0, 1, 2] [] (by decide) rfl rfl rfl (by decide) (by decide) k_527 rfl k_120 k_524 k_526 k_6 ⟨rfl, hy_Presser_putSymbol⟩ (by decide) rfl rfl (Nat.le_of_ble_eq_true rfl) (by decide) (fun v9 u59 ch58 => ?_)
    obtain ⟨b_60, p_61, f_62⟩ := u59
    obtain ⟨ech58, ch58⟩ := ch58
    have ech58 : v9 = none := ech58
    subst ech58
    obtain ⟨fh63, fh64, fh65, fh66, fh67, fh68, fh69⟩ : ((285 : Int32).toInt < 144 → b_60.toInt = bt.toInt + 8) ∧ (144 ≤ (285 : Int32).toInt → (285 : Int32).toInt < 256 → b_60.toInt = bt.toInt + 9) ∧ (256 ≤ (285 : Int32).toInt → (285 : Int32).toInt < 280 → b_60.toInt = bt.toInt + 7) ∧ (280 ≤ (285 : Int32).toInt → b_60.toInt = bt.toInt + 8) ∧ (p_61.toInt = (b_60.toInt + 7) / 8) ∧ (pC_ f_62 p_61.toInt b_60.toInt (sb_ S (285 : Int32).toInt)) ∧ (sb_Fit f_62) := ch58
    have syF := fh68
    refine pb_eq (pc' := 17) (lo' := [(0, .ref h)]) (rest' := []) (ws' := [(h, .inr (4, [.ref pp, .ref pl, .ref pe, .ref pr, .int bg, .int sz, .int b_60, .int ln, .int ds])), (pp, .inr (0, [.ref pb, .int p_61])), (pb, .inl (G.2.1, 4502, .inl f_62))]) ?_
    exact pb_vret (pc := 17) hQ d_Presser_putLength_17 rfl (b_60, p_61, f_62) ⟨rfl, (show b_60.toInt = bt.toInt + le_c ln.toInt from (by have q9 : le_c ln.toInt = 8 := (by rw [show ln.toInt = 258 by omega]; decide); omega)), (by (try dsimp only); first | done | (with_reducible assumption) | omega (splitDisjunctions := false) | assumption | omega | decide), (show pC_ f_62 p_61.toInt b_60.toInt (lo_ S ln.toInt) from (pC_c syF rfl rfl (lo_258 (by omega) (by decide)))), fh69⟩ [0, 1, 2] (by decide) rfl rfl (by decide) (by decide)

theorem d_Presser_putDistance_0 : decode prog_8_method_8_code 0 = .ok (.aload_n 0, 1) := by decide +kernel
theorem d_Presser_putDistance_1 : decode prog_8_method_8_code 1 = .ok (.getfield 84, 3) := by decide +kernel
theorem k_191 : (Jvm.Cond.fieldLink "PackageBook$Presser" (84 : Nat) "PackageBook$Presser" "distance" "I") ∈ uW := uW_of 191 (by decide +kernel) (by decide +kernel)
theorem d_Presser_putDistance_4 : decode prog_8_method_8_code 4 = .ok (.iconst 1, 1) := by decide +kernel
theorem d_Presser_putDistance_5 : decode prog_8_method_8_code 5 = .ok (.isub, 1) := by decide +kernel
theorem d_Presser_putDistance_6 : decode prog_8_method_8_code 6 = .ok (.istore_n 1, 1) := by decide +kernel
theorem d_Presser_putDistance_7 : decode prog_8_method_8_code 7 = .ok (.iconst 0, 1) := by decide +kernel
theorem d_Presser_putDistance_8 : decode prog_8_method_8_code 8 = .ok (.istore_n 2, 1) := by decide +kernel
theorem d_Presser_putDistance_9 : decode prog_8_method_8_code 9 = .ok (.iload_n 2, 1) := by decide +kernel
theorem d_Presser_putDistance_10 : decode prog_8_method_8_code 10 = .ok (.bipush 13, 2) := by decide +kernel
theorem d_Presser_putDistance_12 : decode prog_8_method_8_code 12 = .ok (.if_icmp .ge 16, 3) := by decide +kernel
theorem d_Presser_putDistance_15 : decode prog_8_method_8_code 15 = .ok (.iload_n 1, 1) := by decide +kernel
theorem d_Presser_putDistance_16 : decode prog_8_method_8_code 16 = .ok (.iload_n 2, 1) := by decide +kernel
theorem d_Presser_putDistance_17 : decode prog_8_method_8_code 17 = .ok (.ishr, 1) := by decide +kernel
theorem d_Presser_putDistance_18 : decode prog_8_method_8_code 18 = .ok (.iconst 4, 1) := by decide +kernel
theorem d_Presser_putDistance_19 : decode prog_8_method_8_code 19 = .ok (.if_icmp .lt 9, 3) := by decide +kernel
theorem d_Presser_putDistance_28 : decode prog_8_method_8_code 28 = .ok (.aload_n 0, 1) := by decide +kernel
theorem d_Presser_putDistance_29 : decode prog_8_method_8_code 29 = .ok (.iconst 2, 1) := by decide +kernel
theorem d_Presser_putDistance_30 : decode prog_8_method_8_code 30 = .ok (.iload_n 2, 1) := by decide +kernel
theorem d_Presser_putDistance_31 : decode prog_8_method_8_code 31 = .ok (.imul, 1) := by decide +kernel
theorem d_Presser_putDistance_32 : decode prog_8_method_8_code 32 = .ok (.iload_n 1, 1) := by decide +kernel
theorem d_Presser_putDistance_33 : decode prog_8_method_8_code 33 = .ok (.iload_n 2, 1) := by decide +kernel
theorem d_Presser_putDistance_34 : decode prog_8_method_8_code 34 = .ok (.ishr, 1) := by decide +kernel
theorem d_Presser_putDistance_35 : decode prog_8_method_8_code 35 = .ok (.iadd, 1) := by decide +kernel
theorem d_Presser_putDistance_36 : decode prog_8_method_8_code 36 = .ok (.iconst 5, 1) := by decide +kernel
theorem d_Presser_putDistance_37 : decode prog_8_method_8_code 37 = .ok (.invokestatic 87, 3) := by decide +kernel
theorem d_Presser_putDistance_40 : decode prog_8_method_8_code 40 = .ok (.iconst 5, 1) := by decide +kernel
theorem d_Presser_putDistance_41 : decode prog_8_method_8_code 41 = .ok (.invokevirtual 48, 3) := by decide +kernel
theorem d_Presser_putDistance_44 : decode prog_8_method_8_code 44 = .ok (.aload_n 0, 1) := by decide +kernel
theorem d_Presser_putDistance_45 : decode prog_8_method_8_code 45 = .ok (.iload_n 1, 1) := by decide +kernel
theorem d_Presser_putDistance_46 : decode prog_8_method_8_code 46 = .ok (.iload_n 2, 1) := by decide +kernel
theorem d_Presser_putDistance_47 : decode prog_8_method_8_code 47 = .ok (.invokevirtual 48, 3) := by decide +kernel
theorem d_Presser_putDistance_50 : decode prog_8_method_8_code 50 = .ok (.return_, 1) := by decide +kernel
theorem d_Presser_putDistance_22 : decode prog_8_method_8_code 22 = .ok (.iinc 2 1, 3) := by decide +kernel
theorem d_Presser_putDistance_25 : decode prog_8_method_8_code 25 = .ok (.goto (-16), 3) := by decide +kernel
abbrev y_Presser_putDistance : MethodName := ⟨"PackageBook$Presser", "putDistance", "()V"⟩
abbrev i_Presser_putDistance : pb_I := (y_Presser_putDistance, prog_8_method_8_code, 3, (Option.none : Option Jvm.ClassFile.FieldType), [], { frames := 1, cells := 0, slots := 0, locals := 23 })
set_option maxRecDepth 100000 in
set_option maxHeartbeats 4000000 in
theorem g_Pr_putDistance {l : Launch} (hl : l.stackTraces = false) (G : pb_G) (h : Nat) (pp : Nat) (pl : Nat) (pe : Nat) (pr : Nat) (pb : Nat) (bg : Int32) (sz : Int32) (bt : Int32) (ln : Int32) (ds : Int32) (f : Nat → Int32) (ps : Int32) (S : Int × (Int → Int)) (k0 : 0 ≤ bt.toInt) (k1 : bt.toInt + 15 ≤ 36016) (k5 : ps.toInt = (bt.toInt + 7) / 8) (l0 : 1 ≤ ds.toInt) (l1 : ds.toInt ≤ 4000) (hS : pC_ f ps.toInt bt.toInt S) (F_f : sb_Fit f) : Cn l G i_Presser_putDistance [.ref h] [(h, .inr (4, [.ref pp, .ref pl, .ref pe, .ref pr, .int bg, .int sz, .int bt, .int ln, .int ds])), (pp, .inr (0, [.ref pb, .int ps])), (pb, .inl (G.2.1, 4502, .inl f))] (S := Int32 × Int32 × (Nat → Int32)) (fun rv_ u => rv_ = none ∧ (u.1.toInt = bt.toInt + di_c ds.toInt) ∧ (u.2.1.toInt = (u.1.toInt + 7) / 8) ∧ (pC_ u.2.2 u.2.1.toInt u.1.toInt (do_ S ds.toInt)) ∧ (sb_Fit u.2.2)) (fun u => [(h, .inr (4, [.ref pp, .ref pl, .ref pe, .ref pr, .int bg, .int sz, .int u.1, .int ln, .int ds])), (pp, .inr (0, [.ref pb, .int u.2.1])), (pb, .inl (G.2.1, 4502, .inl u.2.2))]) := by
  refine Cn.of hl (by decide +kernel) rfl (Nat.le_of_ble_eq_true rfl) (fun M hQ => ?_)
  refine pb_eq (pc' := 0) (lo' := [(0, .ref h)]) (rest' := []) (ws' := [(h, .inr (4, [.ref pp, .ref pl, .ref pe, .ref pr, .int bg, .int sz, .int bt, .int ln, .int ds])), (pp, .inr (0, [.ref pb, .int ps])), (pb, .inl (G.2.1, 4502, .inl f))]) ?_
  have zl0 : (0 : Int32).toInt = 0 := by decide
  have zl1 : (1 : Int32).toInt = 1 := by decide
  have zl2 : (2 : Int32).toInt = 2 := by decide
  have zl4 : (4 : Int32).toInt = 4 := by decide
  have zl5 : (5 : Int32).toInt = 5 := by decide
  have zl13 : (13 : Int32).toInt = 13 := by decide
  refine pb_aload_n (pc := 0) d_Presser_putDistance_0 0 rfl rfl ?_
  refine pb_get (pc := 1) d_Presser_putDistance_1 0 8 rfl rfl (by decide) in_Presser k_191 rfl ?_
  refine pb_iconst (pc := 4) (v := 1) d_Presser_putDistance_4 (by decide) ?_
  refine pb_isub (pc := 5) d_Presser_putDistance_5 ?_
  refine pb_topi (fun i1 ei1 => ?_)
  try have ti1 : i1.toInt = ds.toInt - 1 := ti_sub ei1 rfl (by decide) (by omega) (by omega)
  refine pb_istore_n (pc := 6) (lo' := [(1, .int i1), (0, .ref h)]) d_Presser_putDistance_6 rfl (by decide) rfl ?_
  refine pb_iconst (pc := 7) (v := 0) d_Presser_putDistance_7 (by decide) ?_
  refine pb_istore_n (pc := 8) (lo' := [(2, .int 0), (1, .int i1), (0, .ref h)]) d_Presser_putDistance_8 rfl (by decide) rfl ?_
  have hL9_2 : ∀ (N9 : Nat) (v : Int32) (m : Int32), (v.toInt = ds.toInt - 1) → (0 ≤ m.toInt) → (m.toInt ≤ 10) → (m.toInt = 0 ∨ 2 * p2 m.toInt ≤ v.toInt) → ((13 - m.toInt).toNat) < N9 → pb_P l G M i_Presser_putDistance 9 [(1, .int v), (2, .int m), (0, .ref h)] [] [(h, .inr (4, [.ref pp, .ref pl, .ref pe, .ref pr, .int bg, .int sz, .int bt, .int ln, .int ds])), (pp, .inr (0, [.ref pb, .int ps])), (pb, .inl (G.2.1, 4502, .inl f))] 0 0 := by
    intro N9
    induction N9 with
    | zero => intro v m hv0 hm0 hm1 hmp hm9; exact absurd hm9 (Nat.not_lt_zero _)
    | succ N9 ih9 =>
      intro v m hv0 hm0 hm1 hmp hm9
      refine pb_iload_n (pc := 9) d_Presser_putDistance_9 1 rfl rfl ?_
      refine pb_bipush (pc := 10) (v := 13) d_Presser_putDistance_10 (by decide) ?_
      refine pb_icmp_ge (pc := 12) (tgt := 28) d_Presser_putDistance_12 (by decide) (fun h9 => False.elim (by have t9 : 13 ≤ m.toInt := (ti_le (by decide) rfl).mp h9; omega)) (fun w3 => ?_)
      have tw3 : ¬ 13 ≤ m.toInt := fun z9 => w3 ((ti_le (by decide) rfl).mpr z9)
      refine pb_iload_n (pc := 15) d_Presser_putDistance_15 0 rfl rfl ?_
      refine pb_iload_n (pc := 16) d_Presser_putDistance_16 1 rfl rfl ?_
      refine pb_ishr (pc := 17) d_Presser_putDistance_17 ?_
      refine pb_topi (fun i4 ei4 => ?_)
      have shE : i4.toInt = v.toInt / p2 m.toInt := ti_shr (b := p2 m.toInt) ei4 rfl m.toInt.toNat (sh_k rfl (by omega) (by omega)) rfl
      have pPm := p2_pos m.toInt
      refine pb_iconst (pc := 18) (v := 4) d_Presser_putDistance_18 (by decide) ?_
      refine pb_icmp_lt (pc := 19) (tgt := 28) d_Presser_putDistance_19 (by decide) (fun w5 => ?_) (fun w5 => ?_)
      · have tw5 : i4.toInt < 4 := (ti_lt rfl (by decide)).mp w5
        have mD : m.toInt = dm_ ds.toInt := dm_E hm0 hm1 (by omega) (by have q9 := dv_lt (k := 4) (show v.toInt / p2 m.toInt < 4 by omega) (by omega); omega)
        clear hmp
        refine pb_aload_n (pc := 28) d_Presser_putDistance_28 2 rfl rfl ?_
        refine pb_iconst (pc := 29) (v := 2) d_Presser_putDistance_29 (by decide) ?_
        refine pb_iload_n (pc := 30) d_Presser_putDistance_30 1 rfl rfl ?_
        refine pb_imul (pc := 31) d_Presser_putDistance_31 ?_
        refine pb_topi (fun i6 ei6 => ?_)
        try have ti6 : i6.toInt = 2 * m.toInt := ti_mul ei6 (by decide) rfl (by omega) (by omega)
        refine pb_iload_n (pc := 32) d_Presser_putDistance_32 0 rfl rfl ?_
        refine pb_iload_n (pc := 33) d_Presser_putDistance_33 1 rfl rfl ?_
        refine pb_ishr (pc := 34) d_Presser_putDistance_34 ?_
        refine pb_topi (fun i7 ei7 => ?_)
        have shF : i7.toInt = v.toInt / p2 m.toInt := ti_shr (b := p2 m.toInt) ei7 rfl m.toInt.toNat (sh_k rfl (by omega) (by omega)) rfl
        have shB1 : 0 ≤ i7.toInt := by rw [shF]; exact Int.ediv_nonneg (by omega) (by omega)
        have shB2 : i7.toInt ≤ 4000 := by rw [shF]; exact Int.le_trans (Int.ediv_le_self _ (by omega)) (by omega)
        rw [hv0] at shF
        refine pb_iadd (pc := 35) d_Presser_putDistance_35 ?_
        refine pb_topi (fun i8 ei8 => ?_)
        try have ti8 : i8.toInt = i6.toInt + i7.toInt := ti_add ei8 rfl rfl (by omega) (by omega)
        have sX : 0 ≤ i8.toInt ∧ i8.toInt ≤ 30 := by have q9 : 0 ≤ (ds.toInt - 1) / p2 m.toInt := Int.ediv_nonneg (by omega) (by omega); have q8 : (ds.toInt - 1) / p2 m.toInt < 4 := (by rw [← hv0]; omega); omega
        refine pb_iconst (pc := 36) (v := 5) d_Presser_putDistance_36 (by decide) ?_
        refine pb_callS (pc := 37) (I := i_Presser_putDistance) (nA := 2) (rest := [.ref h]) (wr := [(h, .inr (4, [.ref pp, .ref pl, .ref pe, .ref pr, .int bg, .int sz, .int bt, .int ln, .int ds])), (pp, .inr (0, [.ref pb, .int ps])), (pb, .inl (G.2.1, 4502, .inl f))]) d_Presser_putDistance_37 (g_Pr_turned hl G i8 5 (by first | (with_reducible assumption) | omega (splitDisjunctions := false) | assumption | omega | decide) (by first | (with_reducible assumption) | omega (splitDisjunctions := false) | assumption | omega | decide) (by first | (with_reducible assumption) | omega (splitDisjunctions := false) | assumption | omega | decide)) [] [0, 1, 2] (by decide) rfl rfl rfl (by decide) (by decide) k_530 rfl k_120 k_528 k_529 hy_Presser_turned (by decide) rfl rfl (Nat.le_of_ble_eq_true rfl) (by decide) (fun v9 u10 ch9 => ?_)
        obtain ⟨r_11, rfl⟩ : ∃ z9, z9 = u10 := ⟨_, rfl⟩
        obtain ⟨ech9, ch9⟩ := ch9
        have ech9 : v9 = some (.int r_11) := ech9
        subst ech9
        have fh12 : r_11.toInt = tu_ i8.toInt (5 : Int32).toInt.toNat := ch9
        have tuF := fh12
        rw [show (5 : Int32).toInt.toNat = 5 by decide] at tuF
        refine pb_eq (pc' := 40) (lo' := [(1, .int v), (2, .int m), (0, .ref h)]) (rest' := [.int r_11, .ref h]) (ws' := [(h, .inr (4, [.ref pp, .ref pl, .ref pe, .ref pr, .int bg, .int sz, .int bt, .int ln, .int ds])), (pp, .inr (0, [.ref pb, .int ps])), (pb, .inl (G.2.1, 4502, .inl f))]) ?_
        refine pb_iconst (pc := 40) (v := 5) d_Presser_putDistance_40 (by decide) ?_
        refine pb_callV (pc := 41) (I := i_Presser_putDistance) (qb := 0) (ci := 4) (nA := 2) (rest := []) (wr := []) d_Presser_putDistance_41 (g_Pr_putNumber hl G h pp pl pe pr pb bg sz bt ln ds f ps r_11 5 S (by first | (with_reducible assumption) | omega (splitDisjunctions := false) | assumption | omega | decide) (by first | (with_reducible assumption) | omega (splitDisjunctions := false) | assumption | omega | decide) (by first | (with_reducible assumption) | omega (splitDisjunctions := false) | assumption | omega | decide) (by first | (with_reducible assumption) | omega (splitDisjunctions := false) | assumption | omega | decide) (by first | (with_reducible assumption) | omega (splitDisjunctions := false) | assumption | omega | decide) (by first | (with_reducible assumption) | omega (splitDisjunctions := false) | assumption | omega | decide) (by rw [tuF]; exact (tu_rng _ _).1) (by first | (with_reducible assumption) | omega (splitDisjunctions := false) | assumption | omega | decide) F_f) rfl rfl [0, 1, 2] [] (by decide) rfl rfl rfl (by decide) (by decide) k_508 rfl k_120 k_505 k_507 k_2 ⟨rfl, hy_Presser_putNumber⟩ (by decide) rfl rfl (Nat.le_of_ble_eq_true rfl) (by decide) (fun v9 u14 ch13 => ?_)
        obtain ⟨b_15, p_16, f_17⟩ := u14
        obtain ⟨ech13, ch13⟩ := ch13
        have ech13 : v9 = none := ech13
        subst ech13
        obtain ⟨fh18, fh19, fh20, fh21⟩ : (b_15.toInt = bt.toInt + (5 : Int32).toInt) ∧ (p_16.toInt = (b_15.toInt + 7) / 8) ∧ (pC_ f_17 p_16.toInt b_15.toInt (bn_ S r_11.toInt (5 : Int32).toInt.toNat)) ∧ (sb_Fit f_17) := ch13
        have pnF := fh20
        rw [show (5 : Int32).toInt.toNat = 5 by decide] at pnF
        obtain ⟨R, eR, rF⟩ : ∃ R : Int × (Int → Int), R = bc_ _ 5 S ∧ pC_ _ _ _ R := ⟨_, rfl, pC_sy (n := 5) pnF tuF rfl rfl rfl⟩
        refine pb_eq (pc' := 44) (lo' := [(1, .int v), (2, .int m), (0, .ref h)]) (rest' := []) (ws' := [(h, .inr (4, [.ref pp, .ref pl, .ref pe, .ref pr, .int bg, .int sz, .int b_15, .int ln, .int ds])), (pp, .inr (0, [.ref pb, .int p_16])), (pb, .inl (G.2.1, 4502, .inl f_17))]) ?_
        refine pb_aload_n (pc := 44) d_Presser_putDistance_44 2 rfl rfl ?_
        refine pb_iload_n (pc := 45) d_Presser_putDistance_45 0 rfl rfl ?_
        refine pb_iload_n (pc := 46) d_Presser_putDistance_46 1 rfl rfl ?_
        refine pb_callV (pc := 47) (I := i_Presser_putDistance) (qb := 0) (ci := 4) (nA := 2) (rest := []) (wr := []) d_Presser_putDistance_47 (g_Pr_putNumber hl G h pp pl pe pr pb bg sz b_15 ln ds f_17 p_16 v m R (by first | (with_reducible assumption) | omega (splitDisjunctions := false) | assumption | omega | decide) (by first | (with_reducible assumption) | omega (splitDisjunctions := false) | assumption | omega | decide) (by first | (with_reducible assumption) | omega (splitDisjunctions := false) | assumption | omega | decide) (by first | (with_reducible assumption) | omega (splitDisjunctions := false) | assumption | omega | decide) (by first | (with_reducible assumption) | omega (splitDisjunctions := false) | assumption | omega | decide) rF (by first | (with_reducible assumption) | omega (splitDisjunctions := false) | assumption | omega | decide) (by first | (with_reducible assumption) | omega (splitDisjunctions := false) | assumption | omega | decide) fh21) rfl rfl [0, 1, 2] [] (by decide) rfl rfl rfl (by decide) (by decide) k_508 rfl k_120 k_505 k_507 k_2 ⟨rfl, hy_Presser_putNumber⟩ (by decide) rfl rfl (Nat.le_of_ble_eq_true rfl) (by decide) (fun v9 u23 ch22 => ?_)
        obtain ⟨b_24, p_25, f_26⟩ := u23
        obtain ⟨ech22, ch22⟩ := ch22
        have ech22 : v9 = none := ech22
        subst ech22
        obtain ⟨fh27, fh28, fh29, fh30⟩ : (b_24.toInt = b_15.toInt + m.toInt) ∧ (p_25.toInt = (b_24.toInt + 7) / 8) ∧ (pC_ f_26 p_25.toInt b_24.toInt (bn_ R v.toInt m.toInt.toNat)) ∧ (sb_Fit f_26) := ch22
        have nmF := fh29
        refine pb_eq (pc' := 50) (lo' := [(1, .int v), (2, .int m), (0, .ref h)]) (rest' := []) (ws' := [(h, .inr (4, [.ref pp, .ref pl, .ref pe, .ref pr, .int bg, .int sz, .int b_24, .int ln, .int ds])), (pp, .inr (0, [.ref pb, .int p_25])), (pb, .inl (G.2.1, 4502, .inl f_26))]) ?_
        exact pb_vret (pc := 50) hQ d_Presser_putDistance_50 rfl (b_24, p_25, f_26) ⟨rfl, (show b_24.toInt = bt.toInt + di_c ds.toInt from (by rw [di_dm (by omega)]; omega)), (by (try dsimp only); first | done | (with_reducible assumption) | omega (splitDisjunctions := false) | assumption | omega | decide), (show pC_ f_26 p_25.toInt b_24.toInt (do_ S ds.toInt) from (pC_c nmF rfl rfl (by rw [eR]; exact do_E mD (by omega) (by omega)))), fh30⟩ [0, 1, 2] (by decide) rfl rfl (by decide) (by decide)
      · have tw5 : ¬ i4.toInt < 4 := fun z9 => w5 ((ti_lt rfl (by decide)).mpr z9)
        refine pb_iincN (pc := 22) (c := 1) d_Presser_putDistance_22 1 rfl (by decide) (by decide) (fun i31 ei31 => ?_)
        have ti31 : i31.toInt = m.toInt + 1 := ti_add ei31 rfl (by decide) (by omega) (by omega)
        refine pb_eq (pc' := 25) (lo' := [(2, .int i31), (1, .int v), (0, .ref h)]) (rest' := []) (ws' := [(h, .inr (4, [.ref pp, .ref pl, .ref pe, .ref pr, .int bg, .int sz, .int bt, .int ln, .int ds])), (pp, .inr (0, [.ref pb, .int ps])), (pb, .inl (G.2.1, 4502, .inl f))]) ?_
        refine pb_goto (pc := 25) (tgt := 9) d_Presser_putDistance_25 (by decide) ?_
        refine pb_re (ws' := [(h, .inr (4, [.ref pp, .ref pl, .ref pe, .ref pr, .int bg, .int sz, .int bt, .int ln, .int ds])), (pp, .inr (0, [.ref pb, .int ps])), (pb, .inl (G.2.1, 4502, .inl f))]) (lo' := [(1, .int v), (2, .int i31), (0, .ref h)]) [0, 1, 2] [1, 0, 2] (by decide) rfl rfl rfl ?_
        exact ih9 v i31 (by first | (with_reducible assumption) | omega (splitDisjunctions := false) | assumption | omega | decide) (by first | (with_reducible assumption) | omega (splitDisjunctions := false) | assumption | omega | decide) (by have q9 := dv_ge (k := 4) (show (4 : Int) ≤ v.toInt / p2 m.toInt by omega) (by omega); have q8 := p2_9 (m := m.toInt) (by omega); omega) (Or.inr (by have q9 := dv_ge (k := 4) (show (4 : Int) ≤ v.toInt / p2 m.toInt by omega) (by omega); have q8 := p2_s (k := m.toInt) (m := i31.toInt) hm0 (by omega); omega)) (by omega)
  refine pb_re (ws' := [(h, .inr (4, [.ref pp, .ref pl, .ref pe, .ref pr, .int bg, .int sz, .int bt, .int ln, .int ds])), (pp, .inr (0, [.ref pb, .int ps])), (pb, .inl (G.2.1, 4502, .inl f))]) (lo' := [(1, .int i1), (2, .int 0), (0, .ref h)]) [0, 1, 2] [1, 0, 2] (by decide) rfl rfl rfl ?_
  exact hL9_2 _ i1 0 (by first | (with_reducible assumption) | omega (splitDisjunctions := false) | assumption | omega | decide) (by first | (with_reducible assumption) | omega (splitDisjunctions := false) | assumption | omega | decide) (by first | (with_reducible assumption) | omega (splitDisjunctions := false) | assumption | omega | decide) (by first | (with_reducible assumption) | omega (splitDisjunctions := false) | assumption | omega | decide) (Nat.lt_succ_self _)
