theorem d_JArrays_fill_0 : decode prog_24_method_103_code 0 = .ok (.iconst 0, 1) := by decide +kernel
theorem d_JArrays_fill_1 : decode prog_24_method_103_code 1 = .ok (.istore_n 2, 1) := by decide +kernel
theorem d_JArrays_fill_2 : decode prog_24_method_103_code 2 = .ok (.aload_n 0, 1) := by decide +kernel
theorem d_JArrays_fill_3 : decode prog_24_method_103_code 3 = .ok (.arraylength, 1) := by decide +kernel
theorem d_JArrays_fill_4 : decode prog_24_method_103_code 4 = .ok (.istore_n 3, 1) := by decide +kernel
theorem d_JArrays_fill_5 : decode prog_24_method_103_code 5 = .ok (.iload_n 2, 1) := by decide +kernel
theorem d_JArrays_fill_6 : decode prog_24_method_103_code 6 = .ok (.iload_n 3, 1) := by decide +kernel
theorem d_JArrays_fill_7 : decode prog_24_method_103_code 7 = .ok (.if_icmp .ge 13, 3) := by decide +kernel
theorem d_JArrays_fill_20 : decode prog_24_method_103_code 20 = .ok (.return_, 1) := by decide +kernel
theorem d_JArrays_fill_10 : decode prog_24_method_103_code 10 = .ok (.aload_n 0, 1) := by decide +kernel
theorem d_JArrays_fill_11 : decode prog_24_method_103_code 11 = .ok (.iload_n 2, 1) := by decide +kernel
theorem d_JArrays_fill_12 : decode prog_24_method_103_code 12 = .ok (.iload_n 1, 1) := by decide +kernel
theorem d_JArrays_fill_13 : decode prog_24_method_103_code 13 = .ok (.iastore, 1) := by decide +kernel
theorem d_JArrays_fill_14 : decode prog_24_method_103_code 14 = .ok (.iinc 2 1, 3) := by decide +kernel
theorem d_JArrays_fill_17 : decode prog_24_method_103_code 17 = .ok (.goto (-12), 3) := by decide +kernel
abbrev y_JArrays_fill : MethodName := ⟨"java/util/Arrays", "fill", "([II)V"⟩
abbrev i_JArrays_fill : pb_I := (y_JArrays_fill, prog_24_method_103_code, 4, (Option.none : Option Jvm.ClassFile.FieldType), [], { frames := 0, cells := 0, slots := 0, locals := 0 })
set_option maxRecDepth 100000 in
set_option maxHeartbeats 4000000 in
theorem c_fill {l : Launch} (hl : l.stackTraces = false) (G : pb_G) (b : Nat) (N : Nat) (f : Nat → Int32) (v : Int32) (hN : N ≤ 100000) : Cn l G i_JArrays_fill [.ref b, .int v] [(b, .inl (G.2.2.1, N, .inl f))] (S := (Nat → Int32)) (fun v u => v = none) (fun u => [(b, .inl (G.2.2.1, N, .inl u))]) := by
  refine Cn.of hl (by decide +kernel) rfl (Nat.le_of_ble_eq_true rfl) (fun M hQ => ?_)
  refine pb_eq (pc' := 0) (lo' := [(0, .ref b), (1, .int v)]) (rest' := []) (ws' := [(b, .inl (G.2.2.1, N, .inl f))]) ?_
  have z0 : (0 : Int32).toInt = 0 := by decide
  have z1 : (1 : Int32).toInt = 1 := by decide
  have z2 : (0 : Int32).toNatClampNeg = 0 := by decide
  refine pb_iconst (pc := 0) (v := 0) d_JArrays_fill_0 (by decide) ?_
  refine pb_istore_n (pc := 1) (lo' := [(2, .int 0), (0, .ref b), (1, .int v)]) d_JArrays_fill_1 rfl (by decide) rfl ?_
  refine pb_aload_n (pc := 2) d_JArrays_fill_2 1 rfl rfl ?_
  refine pb_alen (pc := 3) d_JArrays_fill_3 0 1 rfl rfl rfl ?_
  refine pb_topi (fun i1 ei1 => ?_)
  have ti1 : i1.toInt = (N : Int) := ti_ofNat ei1 (by omega)
  refine pb_istore_n (pc := 4) (lo' := [(3, .int i1), (2, .int 0), (0, .ref b), (1, .int v)]) d_JArrays_fill_4 rfl (by decide) rfl ?_
  have hL5 : ∀ (N9 : Nat) (k : Int32) (g : Nat → Int32), (0 ≤ k.toInt) → (((N : Int) - k.toInt).toNat) < N9 → pb_P l G M i_JArrays_fill 5 [(3, .int i1), (2, .int k), (0, .ref b), (1, .int v)] [] [(b, .inl (G.2.2.1, N, .inl g))] 0 0 := by
    intro N9
    induction N9 with
    | zero => intro k g hk hm9; exact absurd hm9 (Nat.not_lt_zero _)
    | succ N9 ih5 =>
      intro k g hk hm9
      refine pb_iload_n (pc := 5) d_JArrays_fill_5 1 rfl rfl ?_
      refine pb_iload_n (pc := 6) d_JArrays_fill_6 0 rfl rfl ?_
      refine pb_icmp_ge (pc := 7) (tgt := 20) d_JArrays_fill_7 (by decide) (fun w2 => ?_) (fun w2 => ?_)
      · have tw2 : i1.toInt ≤ k.toInt := (ti_le rfl rfl).mp w2
        exact pb_vret (pc := 20) hQ d_JArrays_fill_20 rfl (g) rfl [0] (by decide) rfl rfl (by decide) (by decide)
      · have tw2 : ¬ i1.toInt ≤ k.toInt := fun z9 => w2 ((ti_le rfl rfl).mpr z9)
        refine pb_aload_n (pc := 10) d_JArrays_fill_10 2 rfl rfl ?_
        refine pb_iload_n (pc := 11) d_JArrays_fill_11 1 rfl rfl ?_
        refine pb_iload_n (pc := 12) d_JArrays_fill_12 3 rfl rfl ?_
        refine pb_iast (pc := 13) (ws' := [(b, .inl (G.2.2.1, N, .inl (upd g ((k : Int32).toNatClampNeg) v)))]) d_JArrays_fill_13 0 rfl (vp_in_iff.mpr (by constructor <;> omega)) rfl ?_
        refine pb_iincN (pc := 14) (c := 1) d_JArrays_fill_14 1 rfl (by decide) (by decide) (fun i3 ei3 => ?_)
        have ti3 : i3.toInt = k.toInt + 1 := ti_add ei3 rfl (by decide) (by omega) (by omega)
        refine pb_eq (pc' := 17) (lo' := [(2, .int i3), (3, .int i1), (0, .ref b), (1, .int v)]) (rest' := []) (ws' := [(b, .inl (G.2.2.1, N, .inl (upd g ((k : Int32).toNatClampNeg) v)))]) ?_
        refine pb_goto (pc := 17) (tgt := 5) d_JArrays_fill_17 (by decide) ?_
        refine pb_re (ws' := [(b, .inl (G.2.2.1, N, .inl (upd g ((k : Int32).toNatClampNeg) v)))]) (lo' := [(3, .int i1), (2, .int i3), (0, .ref b), (1, .int v)]) [0] [1, 0, 2, 3] (by decide) rfl rfl rfl ?_
        exact ih5 i3 (upd g ((k : Int32).toNatClampNeg) v) (by omega) (by omega)
  exact hL5 _ 0 f (by omega) (Nat.lt_succ_self _)

theorem fit_nar (x : Int32) : fits .byte (.int (vp_nar .byte x)) = true := by rw [vp_nar_byte]; exact pk_fb x

theorem d_Presser_putNumber_0 : decode prog_8_method_11_code 0 = .ok (.iconst 0, 1) := by decide +kernel
theorem d_Presser_putNumber_1 : decode prog_8_method_11_code 1 = .ok (.istore_n 3, 1) := by decide +kernel
theorem d_Presser_putNumber_2 : decode prog_8_method_11_code 2 = .ok (.iload_n 3, 1) := by decide +kernel
theorem d_Presser_putNumber_3 : decode prog_8_method_11_code 3 = .ok (.iload_n 2, 1) := by decide +kernel
theorem d_Presser_putNumber_4 : decode prog_8_method_11_code 4 = .ok (.if_icmp .ge 106, 3) := by decide +kernel
theorem d_Presser_putNumber_7 : decode prog_8_method_11_code 7 = .ok (.aload_n 0, 1) := by decide +kernel
theorem d_Presser_putNumber_8 : decode prog_8_method_11_code 8 = .ok (.getfield 39, 3) := by decide +kernel
theorem k_189 : (Jvm.Cond.fieldLink "PackageBook$Presser" (39 : Nat) "PackageBook$Presser" "bits" "I") ∈ uW := uW_of 189 (by decide +kernel) (by decide +kernel)
theorem d_Presser_putNumber_11 : decode prog_8_method_11_code 11 = .ok (.bipush 8, 2) := by decide +kernel
theorem d_Presser_putNumber_13 : decode prog_8_method_11_code 13 = .ok (.irem, 1) := by decide +kernel
theorem d_Presser_putNumber_14 : decode prog_8_method_11_code 14 = .ok (.ifCond .ne 45, 3) := by decide +kernel
theorem d_Presser_putNumber_17 : decode prog_8_method_11_code 17 = .ok (.aload_n 0, 1) := by decide +kernel
theorem d_Presser_putNumber_18 : decode prog_8_method_11_code 18 = .ok (.getfield 14, 3) := by decide +kernel
theorem d_Presser_putNumber_21 : decode prog_8_method_11_code 21 = .ok (.getfield 38, 3) := by decide +kernel
theorem k_164 : (Jvm.Cond.fieldLinkNest "PackageBook$Presser" (38 : Nat) "PackageBook$Row" "size" "I" "PackageBook") ∈ uN := uN_of 164 (by decide +kernel) (by decide +kernel)
theorem d_Presser_putNumber_24 : decode prog_8_method_11_code 24 = .ok (.sipush 4502, 3) := by decide +kernel
theorem d_Presser_putNumber_27 : decode prog_8_method_11_code 27 = .ok (.if_icmp .ge 32, 3) := by decide +kernel
theorem d_Presser_putNumber_30 : decode prog_8_method_11_code 30 = .ok (.aload_n 0, 1) := by decide +kernel
theorem d_Presser_putNumber_31 : decode prog_8_method_11_code 31 = .ok (.getfield 14, 3) := by decide +kernel
theorem d_Presser_putNumber_34 : decode prog_8_method_11_code 34 = .ok (.getfield 90, 3) := by decide +kernel
theorem k_161 : (Jvm.Cond.fieldLinkNest "PackageBook$Presser" (90 : Nat) "PackageBook$Row" "bytes" "[B" "PackageBook") ∈ uN := uN_of 161 (by decide +kernel) (by decide +kernel)
theorem d_Presser_putNumber_37 : decode prog_8_method_11_code 37 = .ok (.aload_n 0, 1) := by decide +kernel
theorem d_Presser_putNumber_38 : decode prog_8_method_11_code 38 = .ok (.getfield 14, 3) := by decide +kernel
theorem d_Presser_putNumber_41 : decode prog_8_method_11_code 41 = .ok (.getfield 38, 3) := by decide +kernel
theorem d_Presser_putNumber_44 : decode prog_8_method_11_code 44 = .ok (.iconst 0, 1) := by decide +kernel
theorem d_Presser_putNumber_45 : decode prog_8_method_11_code 45 = .ok (.bastore, 1) := by decide +kernel
theorem d_Presser_putNumber_46 : decode prog_8_method_11_code 46 = .ok (.aload_n 0, 1) := by decide +kernel
theorem d_Presser_putNumber_47 : decode prog_8_method_11_code 47 = .ok (.getfield 14, 3) := by decide +kernel
theorem d_Presser_putNumber_50 : decode prog_8_method_11_code 50 = .ok (.dup, 1) := by decide +kernel
theorem d_Presser_putNumber_51 : decode prog_8_method_11_code 51 = .ok (.getfield 38, 3) := by decide +kernel
theorem d_Presser_putNumber_54 : decode prog_8_method_11_code 54 = .ok (.iconst 1, 1) := by decide +kernel
theorem d_Presser_putNumber_55 : decode prog_8_method_11_code 55 = .ok (.iadd, 1) := by decide +kernel
theorem d_Presser_putNumber_56 : decode prog_8_method_11_code 56 = .ok (.putfield 38, 3) := by decide +kernel
theorem d_Presser_putNumber_59 : decode prog_8_method_11_code 59 = .ok (.aload_n 0, 1) := by decide +kernel
theorem d_Presser_putNumber_60 : decode prog_8_method_11_code 60 = .ok (.getfield 14, 3) := by decide +kernel
theorem d_Presser_putNumber_63 : decode prog_8_method_11_code 63 = .ok (.getfield 90, 3) := by decide +kernel
theorem d_Presser_putNumber_66 : decode prog_8_method_11_code 66 = .ok (.aload_n 0, 1) := by decide +kernel
theorem d_Presser_putNumber_67 : decode prog_8_method_11_code 67 = .ok (.getfield 14, 3) := by decide +kernel
theorem d_Presser_putNumber_70 : decode prog_8_method_11_code 70 = .ok (.getfield 38, 3) := by decide +kernel
theorem d_Presser_putNumber_73 : decode prog_8_method_11_code 73 = .ok (.iconst 1, 1) := by decide +kernel
theorem d_Presser_putNumber_74 : decode prog_8_method_11_code 74 = .ok (.isub, 1) := by decide +kernel
theorem d_Presser_putNumber_75 : decode prog_8_method_11_code 75 = .ok (.dup2, 1) := by decide +kernel
theorem d_Presser_putNumber_76 : decode prog_8_method_11_code 76 = .ok (.baload, 1) := by decide +kernel
theorem d_Presser_putNumber_77 : decode prog_8_method_11_code 77 = .ok (.iload_n 1, 1) := by decide +kernel
theorem d_Presser_putNumber_78 : decode prog_8_method_11_code 78 = .ok (.iload_n 3, 1) := by decide +kernel
theorem d_Presser_putNumber_79 : decode prog_8_method_11_code 79 = .ok (.ishr, 1) := by decide +kernel
theorem d_Presser_putNumber_80 : decode prog_8_method_11_code 80 = .ok (.iconst 1, 1) := by decide +kernel
theorem d_Presser_putNumber_81 : decode prog_8_method_11_code 81 = .ok (.iand, 1) := by decide +kernel
theorem d_Presser_putNumber_82 : decode prog_8_method_11_code 82 = .ok (.aload_n 0, 1) := by decide +kernel
theorem d_Presser_putNumber_83 : decode prog_8_method_11_code 83 = .ok (.getfield 39, 3) := by decide +kernel
theorem d_Presser_putNumber_86 : decode prog_8_method_11_code 86 = .ok (.bipush 8, 2) := by decide +kernel
theorem d_Presser_putNumber_88 : decode prog_8_method_11_code 88 = .ok (.irem, 1) := by decide +kernel
theorem d_Presser_putNumber_89 : decode prog_8_method_11_code 89 = .ok (.ishl, 1) := by decide +kernel
theorem d_Presser_putNumber_90 : decode prog_8_method_11_code 90 = .ok (.i2b, 1) := by decide +kernel
theorem d_Presser_putNumber_91 : decode prog_8_method_11_code 91 = .ok (.ior, 1) := by decide +kernel
theorem d_Presser_putNumber_92 : decode prog_8_method_11_code 92 = .ok (.i2b, 1) := by decide +kernel
theorem d_Presser_putNumber_93 : decode prog_8_method_11_code 93 = .ok (.bastore, 1) := by decide +kernel
theorem d_Presser_putNumber_94 : decode prog_8_method_11_code 94 = .ok (.aload_n 0, 1) := by decide +kernel
theorem d_Presser_putNumber_95 : decode prog_8_method_11_code 95 = .ok (.dup, 1) := by decide +kernel
theorem d_Presser_putNumber_96 : decode prog_8_method_11_code 96 = .ok (.getfield 39, 3) := by decide +kernel
theorem d_Presser_putNumber_99 : decode prog_8_method_11_code 99 = .ok (.iconst 1, 1) := by decide +kernel
theorem d_Presser_putNumber_100 : decode prog_8_method_11_code 100 = .ok (.iadd, 1) := by decide +kernel
theorem d_Presser_putNumber_101 : decode prog_8_method_11_code 101 = .ok (.putfield 39, 3) := by decide +kernel
theorem d_Presser_putNumber_104 : decode prog_8_method_11_code 104 = .ok (.iinc 3 1, 3) := by decide +kernel
theorem d_Presser_putNumber_107 : decode prog_8_method_11_code 107 = .ok (.goto (-105), 3) := by decide +kernel
theorem d_Presser_putNumber_110 : decode prog_8_method_11_code 110 = .ok (.return_, 1) := by decide +kernel
abbrev y_Presser_putNumber : MethodName := ⟨"PackageBook$Presser", "putNumber", "(II)V"⟩
abbrev i_Presser_putNumber : pb_I := (y_Presser_putNumber, prog_8_method_11_code, 4, (Option.none : Option Jvm.ClassFile.FieldType), [], { frames := 0, cells := 0, slots := 0, locals := 0 })
set_option maxRecDepth 100000 in
set_option maxHeartbeats 4000000 in
theorem c_Pr_num1 {l : Launch} (hl : l.stackTraces = false) (G : pb_G) (h : Nat) (pp : Nat) (pl : Nat) (pe : Nat) (pr : Nat) (pb : Nat) (f : Nat → Int32) (h9 : sb_Fit f) : Cn l G i_Presser_putNumber [.ref h, .int 1, .int 1] [(h, .inr (4, [.ref pp, .ref pl, .ref pe, .ref pr, .int 0, .int 0, .int 0, .int 0, .int 0])), (pp, .inr (0, [.ref pb, .int 0])), (pb, .inl (G.2.1, 4502, .inl f))] (S := (Nat → Int32)) (fun v u => v = none ∧ (sb_Fit u)) (fun u => [(h, .inr (4, [.ref pp, .ref pl, .ref pe, .ref pr, .int 0, .int 0, .int 1, .int 0, .int 0])), (pp, .inr (0, [.ref pb, .int 1])), (pb, .inl (G.2.1, 4502, .inl u))]) := by
  refine Cn.of hl (by decide +kernel) rfl (Nat.le_of_ble_eq_true rfl) (fun M hQ => ?_)
  refine pb_eq (pc' := 0) (lo' := [(0, .ref h), (1, .int 1), (2, .int 1)]) (rest' := []) (ws' := [(h, .inr (4, [.ref pp, .ref pl, .ref pe, .ref pr, .int 0, .int 0, .int 0, .int 0, .int 0])), (pp, .inr (0, [.ref pb, .int 0])), (pb, .inl (G.2.1, 4502, .inl f))]) ?_
  refine pb_iconst (pc := 0) (v := 0) d_Presser_putNumber_0 (by decide) ?_
  refine pb_istore_n (pc := 1) (lo' := [(3, .int 0), (0, .ref h), (1, .int 1), (2, .int 1)]) d_Presser_putNumber_1 rfl (by decide) rfl ?_
  refine pb_iload_n (pc := 2) d_Presser_putNumber_2 0 rfl rfl ?_
  refine pb_iload_n (pc := 3) d_Presser_putNumber_3 3 rfl rfl ?_
  refine pb_icmp_ge (pc := 4) (tgt := 110) d_Presser_putNumber_4 (by decide) (fun h9 => absurd h9 (by decide)) (fun _ => ?_)
  refine pb_aload_n (pc := 7) d_Presser_putNumber_7 1 rfl rfl ?_
  refine pb_get (pc := 8) d_Presser_putNumber_8 0 6 rfl rfl (by decide) in_Presser k_189 rfl ?_
  refine pb_bipush (pc := 11) (v := 8) d_Presser_putNumber_11 (by decide) ?_
  refine pb_irem (pc := 13) d_Presser_putNumber_13 (by decide) ?_
  refine pb_asi (y := 0) (by decide) ?_
  refine pb_if_ne (pc := 14) (tgt := 59) d_Presser_putNumber_14 (by decide) (fun h9 => absurd h9 (by decide)) (fun _ => ?_)
  refine pb_aload_n (pc := 17) d_Presser_putNumber_17 1 rfl rfl ?_
  refine pb_get (pc := 18) d_Presser_putNumber_18 0 0 rfl rfl (by decide) in_Presser k_181 rfl ?_
  refine pb_getN (pc := 21) d_Presser_putNumber_21 1 1 rfl rfl (by decide) in_Row k_164 rfl ?_
  refine pb_sipush (pc := 24) (v := 4502) d_Presser_putNumber_24 (by decide) ?_
  refine pb_icmp_ge (pc := 27) (tgt := 59) d_Presser_putNumber_27 (by decide) (fun h9 => absurd h9 (by decide)) (fun _ => ?_)
  refine pb_aload_n (pc := 30) d_Presser_putNumber_30 1 rfl rfl ?_
  refine pb_get (pc := 31) d_Presser_putNumber_31 0 0 rfl rfl (by decide) in_Presser k_181 rfl ?_
  refine pb_getN (pc := 34) d_Presser_putNumber_34 1 0 rfl rfl (by decide) in_Row k_161 rfl ?_
  refine pb_aload_n (pc := 37) d_Presser_putNumber_37 1 rfl rfl ?_
  refine pb_get (pc := 38) d_Presser_putNumber_38 0 0 rfl rfl (by decide) in_Presser k_181 rfl ?_
  refine pb_getN (pc := 41) d_Presser_putNumber_41 1 1 rfl rfl (by decide) in_Row k_164 rfl ?_
  refine pb_iconst (pc := 44) (v := 0) d_Presser_putNumber_44 (by decide) ?_
  refine pb_bast (pc := 45) (ws' := [(h, .inr (4, [.ref pp, .ref pl, .ref pe, .ref pr, .int 0, .int 0, .int 0, .int 0, .int 0])), (pp, .inr (0, [.ref pb, .int 0])), (pb, .inl (G.2.1, 4502, .inl (upd f ((0 : Int32).toNatClampNeg) (vp_nar .byte 0))))]) d_Presser_putNumber_45 2 rfl (by unfold vp_in; decide) rfl ?_
  refine pb_aload_n (pc := 46) d_Presser_putNumber_46 1 rfl rfl ?_
  refine pb_get (pc := 47) d_Presser_putNumber_47 0 0 rfl rfl (by decide) in_Presser k_181 rfl ?_
  refine pb_dup (pc := 50) d_Presser_putNumber_50 rfl ?_
  refine pb_getN (pc := 51) d_Presser_putNumber_51 1 1 rfl rfl (by decide) in_Row k_164 rfl ?_
  refine pb_iconst (pc := 54) (v := 1) d_Presser_putNumber_54 (by decide) ?_
  refine pb_iadd (pc := 55) d_Presser_putNumber_55 ?_
  refine pb_asi (y := 1) (by decide) ?_
  refine pb_putN (pc := 56) (ty := .int) (ws' := [(h, .inr (4, [.ref pp, .ref pl, .ref pe, .ref pr, .int 0, .int 0, .int 0, .int 0, .int 0])), (pp, .inr (0, [.ref pb, .int 1])), (pb, .inl (G.2.1, 4502, .inl (upd f ((0 : Int32).toNatClampNeg) (vp_nar .byte 0))))]) d_Presser_putNumber_56 1 1 t_Row t_Row_ok n_Row rfl rfl (by decide) in_Row k_164 rfl (by decide +kernel) rfl rfl (Nat.le_of_ble_eq_true rfl) rfl ?_
  refine pb_aload_n (pc := 59) d_Presser_putNumber_59 1 rfl rfl ?_
  refine pb_get (pc := 60) d_Presser_putNumber_60 0 0 rfl rfl (by decide) in_Presser k_181 rfl ?_
  refine pb_getN (pc := 63) d_Presser_putNumber_63 1 0 rfl rfl (by decide) in_Row k_161 rfl ?_
  refine pb_aload_n (pc := 66) d_Presser_putNumber_66 1 rfl rfl ?_
  refine pb_get (pc := 67) d_Presser_putNumber_67 0 0 rfl rfl (by decide) in_Presser k_181 rfl ?_
  refine pb_getN (pc := 70) d_Presser_putNumber_70 1 1 rfl rfl (by decide) in_Row k_164 rfl ?_
  refine pb_iconst (pc := 73) (v := 1) d_Presser_putNumber_73 (by decide) ?_
  refine pb_isub (pc := 74) d_Presser_putNumber_74 ?_
  refine pb_asi (y := 0) (by decide) ?_
  refine pb_dup2_11 (pc := 75) d_Presser_putNumber_75 rfl rfl ?_
  refine pb_bald (pc := 76) d_Presser_putNumber_76 2 rfl (by unfold vp_in; decide) ?_
  refine pb_topi (fun i4 ei4 => ?_)
  refine pb_iload_n (pc := 77) d_Presser_putNumber_77 2 rfl rfl ?_
  refine pb_iload_n (pc := 78) d_Presser_putNumber_78 0 rfl rfl ?_
  refine pb_ishr (pc := 79) d_Presser_putNumber_79 ?_
  refine pb_asi (y := 1) (by decide) ?_
  refine pb_iconst (pc := 80) (v := 1) d_Presser_putNumber_80 (by decide) ?_
  refine pb_iand (pc := 81) d_Presser_putNumber_81 ?_
  refine pb_asi (y := 1) (by decide) ?_
  refine pb_aload_n (pc := 82) d_Presser_putNumber_82 1 rfl rfl ?_
  refine pb_get (pc := 83) d_Presser_putNumber_83 0 6 rfl rfl (by decide) in_Presser k_189 rfl ?_
  refine pb_bipush (pc := 86) (v := 8) d_Presser_putNumber_86 (by decide) ?_
  refine pb_irem (pc := 88) d_Presser_putNumber_88 (by decide) ?_
  refine pb_asi (y := 0) (by decide) ?_
  refine pb_ishl (pc := 89) d_Presser_putNumber_89 ?_
  refine pb_asi (y := 1) (by decide) ?_
  refine pb_i2b (pc := 90) (v := 1) d_Presser_putNumber_90 (by decide) ?_
  refine pb_ior (pc := 91) d_Presser_putNumber_91 ?_
  refine pb_topi (fun i5 ei5 => ?_)
  refine pb_i2b (pc := 92) d_Presser_putNumber_92 rfl ?_
  refine pb_topi (fun i6 ei6 => ?_)
  refine pb_bast (pc := 93) (ws' := [(h, .inr (4, [.ref pp, .ref pl, .ref pe, .ref pr, .int 0, .int 0, .int 0, .int 0, .int 0])), (pp, .inr (0, [.ref pb, .int 1])), (pb, .inl (G.2.1, 4502, .inl (upd (upd f ((0 : Int32).toNatClampNeg) (vp_nar .byte 0)) ((0 : Int32).toNatClampNeg) (vp_nar .byte i6))))]) d_Presser_putNumber_93 2 rfl (by unfold vp_in; decide) rfl ?_
  refine pb_aload_n (pc := 94) d_Presser_putNumber_94 1 rfl rfl ?_
  refine pb_dup (pc := 95) d_Presser_putNumber_95 rfl ?_
  refine pb_get (pc := 96) d_Presser_putNumber_96 0 6 rfl rfl (by decide) in_Presser k_189 rfl ?_
  refine pb_iconst (pc := 99) (v := 1) d_Presser_putNumber_99 (by decide) ?_
  refine pb_iadd (pc := 100) d_Presser_putNumber_100 ?_
  refine pb_asi (y := 1) (by decide) ?_
  refine pb_put (pc := 101) (ty := .int) (ws' := [(h, .inr (4, [.ref pp, .ref pl, .ref pe, .ref pr, .int 0, .int 0, .int 1, .int 0, .int 0])), (pp, .inr (0, [.ref pb, .int 1])), (pb, .inl (G.2.1, 4502, .inl (upd (upd f ((0 : Int32).toNatClampNeg) (vp_nar .byte 0)) ((0 : Int32).toNatClampNeg) (vp_nar .byte i6))))]) d_Presser_putNumber_101 0 6 t_Presser t_Presser_ok n_Presser rfl rfl (by decide) in_Presser k_189 rfl (by decide +kernel) rfl rfl (Nat.le_of_ble_eq_true rfl) rfl ?_
  refine pb_iinc (pc := 104) (v := 1) (lo' := [(3, .int 1), (0, .ref h), (1, .int 1), (2, .int 1)]) d_Presser_putNumber_104 0 rfl (by decide) (by decide) rfl ?_
  refine pb_goto (pc := 107) (tgt := 2) d_Presser_putNumber_107 (by decide) ?_
  refine pb_iload_n (pc := 2) d_Presser_putNumber_2 0 rfl rfl ?_
  refine pb_iload_n (pc := 3) d_Presser_putNumber_3 3 rfl rfl ?_
  refine pb_icmp_ge (pc := 4) (tgt := 110) d_Presser_putNumber_4 (by decide) (fun _ => ?_) (fun h9 => absurd h9 (by decide))
  exact pb_vret (pc := 110) hQ d_Presser_putNumber_110 rfl ((upd (upd f ((0 : Int32).toNatClampNeg) (vp_nar .byte 0)) ((0 : Int32).toNatClampNeg) (vp_nar .byte i6))) ⟨rfl, (by repeat (first | exact sb_fit0 | assumption | refine sb_fitU ?_ (fit_nar _)))⟩ [0, 1, 2] (by decide) rfl rfl (by decide) (by decide)

set_option maxRecDepth 100000 in
set_option maxHeartbeats 4000000 in
theorem c_Pr_num2 {l : Launch} (hl : l.stackTraces = false) (G : pb_G) (h : Nat) (pp : Nat) (pl : Nat) (pe : Nat) (pr : Nat) (pb : Nat) (f : Nat → Int32) (h9 : sb_Fit f) : Cn l G i_Presser_putNumber [.ref h, .int 1, .int 2] [(h, .inr (4, [.ref pp, .ref pl, .ref pe, .ref pr, .int 0, .int 0, .int 1, .int 0, .int 0])), (pp, .inr (0, [.ref pb, .int 1])), (pb, .inl (G.2.1, 4502, .inl f))] (S := (Nat → Int32)) (fun v u => v = none ∧ (sb_Fit u)) (fun u => [(h, .inr (4, [.ref pp, .ref pl, .ref pe, .ref pr, .int 0, .int 0, .int 3, .int 0, .int 0])), (pp, .inr (0, [.ref pb, .int 1])), (pb, .inl (G.2.1, 4502, .inl u))]) := by
  refine Cn.of hl (by decide +kernel) rfl (Nat.le_of_ble_eq_true rfl) (fun M hQ => ?_)
  refine pb_eq (pc' := 0) (lo' := [(0, .ref h), (1, .int 1), (2, .int 2)]) (rest' := []) (ws' := [(h, .inr (4, [.ref pp, .ref pl, .ref pe, .ref pr, .int 0, .int 0, .int 1, .int 0, .int 0])), (pp, .inr (0, [.ref pb, .int 1])), (pb, .inl (G.2.1, 4502, .inl f))]) ?_
  refine pb_iconst (pc := 0) (v := 0) d_Presser_putNumber_0 (by decide) ?_
  refine pb_istore_n (pc := 1) (lo' := [(3, .int 0), (0, .ref h), (1, .int 1), (2, .int 2)]) d_Presser_putNumber_1 rfl (by decide) rfl ?_
  refine pb_iload_n (pc := 2) d_Presser_putNumber_2 0 rfl rfl ?_
  refine pb_iload_n (pc := 3) d_Presser_putNumber_3 3 rfl rfl ?_
  refine pb_icmp_ge (pc := 4) (tgt := 110) d_Presser_putNumber_4 (by decide) (fun h9 => absurd h9 (by decide)) (fun _ => ?_)
  refine pb_aload_n (pc := 7) d_Presser_putNumber_7 1 rfl rfl ?_
  refine pb_get (pc := 8) d_Presser_putNumber_8 0 6 rfl rfl (by decide) in_Presser k_189 rfl ?_
  refine pb_bipush (pc := 11) (v := 8) d_Presser_putNumber_11 (by decide) ?_
  refine pb_irem (pc := 13) d_Presser_putNumber_13 (by decide) ?_
  refine pb_asi (y := 1) (by decide) ?_
  refine pb_if_ne (pc := 14) (tgt := 59) d_Presser_putNumber_14 (by decide) (fun _ => ?_) (fun h9 => absurd h9 (by decide))
  refine pb_aload_n (pc := 59) d_Presser_putNumber_59 1 rfl rfl ?_
  refine pb_get (pc := 60) d_Presser_putNumber_60 0 0 rfl rfl (by decide) in_Presser k_181 rfl ?_
  refine pb_getN (pc := 63) d_Presser_putNumber_63 1 0 rfl rfl (by decide) in_Row k_161 rfl ?_
  refine pb_aload_n (pc := 66) d_Presser_putNumber_66 1 rfl rfl ?_
  refine pb_get (pc := 67) d_Presser_putNumber_67 0 0 rfl rfl (by decide) in_Presser k_181 rfl ?_
  refine pb_getN (pc := 70) d_Presser_putNumber_70 1 1 rfl rfl (by decide) in_Row k_164 rfl ?_
  refine pb_iconst (pc := 73) (v := 1) d_Presser_putNumber_73 (by decide) ?_
  refine pb_isub (pc := 74) d_Presser_putNumber_74 ?_
  refine pb_asi (y := 0) (by decide) ?_
  refine pb_dup2_11 (pc := 75) d_Presser_putNumber_75 rfl rfl ?_
  refine pb_bald (pc := 76) d_Presser_putNumber_76 2 rfl (by unfold vp_in; decide) ?_
  refine pb_topi (fun i3 ei3 => ?_)
  refine pb_iload_n (pc := 77) d_Presser_putNumber_77 2 rfl rfl ?_
  refine pb_iload_n (pc := 78) d_Presser_putNumber_78 0 rfl rfl ?_
  refine pb_ishr (pc := 79) d_Presser_putNumber_79 ?_
  refine pb_asi (y := 1) (by decide) ?_
  refine pb_iconst (pc := 80) (v := 1) d_Presser_putNumber_80 (by decide) ?_
  refine pb_iand (pc := 81) d_Presser_putNumber_81 ?_
  refine pb_asi (y := 1) (by decide) ?_
  refine pb_aload_n (pc := 82) d_Presser_putNumber_82 1 rfl rfl ?_
  refine pb_get (pc := 83) d_Presser_putNumber_83 0 6 rfl rfl (by decide) in_Presser k_189 rfl ?_
  refine pb_bipush (pc := 86) (v := 8) d_Presser_putNumber_86 (by decide) ?_
  refine pb_irem (pc := 88) d_Presser_putNumber_88 (by decide) ?_
  refine pb_asi (y := 1) (by decide) ?_
  refine pb_ishl (pc := 89) d_Presser_putNumber_89 ?_
  refine pb_asi (y := 2) (by decide) ?_
  refine pb_i2b (pc := 90) (v := 2) d_Presser_putNumber_90 (by decide) ?_
  refine pb_ior (pc := 91) d_Presser_putNumber_91 ?_
  refine pb_topi (fun i4 ei4 => ?_)
  refine pb_i2b (pc := 92) d_Presser_putNumber_92 rfl ?_
  refine pb_topi (fun i5 ei5 => ?_)
  refine pb_bast (pc := 93) (ws' := [(h, .inr (4, [.ref pp, .ref pl, .ref pe, .ref pr, .int 0, .int 0, .int 1, .int 0, .int 0])), (pp, .inr (0, [.ref pb, .int 1])), (pb, .inl (G.2.1, 4502, .inl (upd f ((0 : Int32).toNatClampNeg) (vp_nar .byte i5))))]) d_Presser_putNumber_93 2 rfl (by unfold vp_in; decide) rfl ?_
  refine pb_aload_n (pc := 94) d_Presser_putNumber_94 1 rfl rfl ?_
  refine pb_dup (pc := 95) d_Presser_putNumber_95 rfl ?_
  refine pb_get (pc := 96) d_Presser_putNumber_96 0 6 rfl rfl (by decide) in_Presser k_189 rfl ?_
  refine pb_iconst (pc := 99) (v := 1) d_Presser_putNumber_99 (by decide) ?_
  refine pb_iadd (pc := 100) d_Presser_putNumber_100 ?_
  refine pb_asi (y := 2) (by decide) ?_
  refine pb_put (pc := 101) (ty := .int) (ws' := [(h, .inr (4, [.ref pp, .ref pl, .ref pe, .ref pr, .int 0, .int 0, .int 2, .int 0, .int 0])), (pp, .inr (0, [.ref pb, .int 1])), (pb, .inl (G.2.1, 4502, .inl (upd f ((0 : Int32).toNatClampNeg) (vp_nar .byte i5))))]) d_Presser_putNumber_101 0 6 t_Presser t_Presser_ok n_Presser rfl rfl (by decide) in_Presser k_189 rfl (by decide +kernel) rfl rfl (Nat.le_of_ble_eq_true rfl) rfl ?_
  refine pb_iinc (pc := 104) (v := 1) (lo' := [(3, .int 1), (0, .ref h), (1, .int 1), (2, .int 2)]) d_Presser_putNumber_104 0 rfl (by decide) (by decide) rfl ?_
  refine pb_goto (pc := 107) (tgt := 2) d_Presser_putNumber_107 (by decide) ?_
  refine pb_iload_n (pc := 2) d_Presser_putNumber_2 0 rfl rfl ?_
  refine pb_iload_n (pc := 3) d_Presser_putNumber_3 3 rfl rfl ?_
  refine pb_icmp_ge (pc := 4) (tgt := 110) d_Presser_putNumber_4 (by decide) (fun h9 => absurd h9 (by decide)) (fun _ => ?_)
  refine pb_aload_n (pc := 7) d_Presser_putNumber_7 1 rfl rfl ?_
  refine pb_get (pc := 8) d_Presser_putNumber_8 0 6 rfl rfl (by decide) in_Presser k_189 rfl ?_
  refine pb_bipush (pc := 11) (v := 8) d_Presser_putNumber_11 (by decide) ?_
  refine pb_irem (pc := 13) d_Presser_putNumber_13 (by decide) ?_
  refine pb_asi (y := 2) (by decide) ?_
  refine pb_if_ne (pc := 14) (tgt := 59) d_Presser_putNumber_14 (by decide) (fun _ => ?_) (fun h9 => absurd h9 (by decide))
  refine pb_aload_n (pc := 59) d_Presser_putNumber_59 1 rfl rfl ?_
  refine pb_get (pc := 60) d_Presser_putNumber_60 0 0 rfl rfl (by decide) in_Presser k_181 rfl ?_
  refine pb_getN (pc := 63) d_Presser_putNumber_63 1 0 rfl rfl (by decide) in_Row k_161 rfl ?_
  refine pb_aload_n (pc := 66) d_Presser_putNumber_66 1 rfl rfl ?_
  refine pb_get (pc := 67) d_Presser_putNumber_67 0 0 rfl rfl (by decide) in_Presser k_181 rfl ?_
  refine pb_getN (pc := 70) d_Presser_putNumber_70 1 1 rfl rfl (by decide) in_Row k_164 rfl ?_
  refine pb_iconst (pc := 73) (v := 1) d_Presser_putNumber_73 (by decide) ?_
  refine pb_isub (pc := 74) d_Presser_putNumber_74 ?_
  refine pb_asi (y := 0) (by decide) ?_
  refine pb_dup2_11 (pc := 75) d_Presser_putNumber_75 rfl rfl ?_
  refine pb_bald (pc := 76) d_Presser_putNumber_76 2 rfl (by unfold vp_in; decide) ?_
  refine pb_topi (fun i8 ei8 => ?_)
  refine pb_iload_n (pc := 77) d_Presser_putNumber_77 2 rfl rfl ?_
  refine pb_iload_n (pc := 78) d_Presser_putNumber_78 0 rfl rfl ?_
  refine pb_ishr (pc := 79) d_Presser_putNumber_79 ?_
  refine pb_asi (y := 0) (by decide) ?_
  refine pb_iconst (pc := 80) (v := 1) d_Presser_putNumber_80 (by decide) ?_
  refine pb_iand (pc := 81) d_Presser_putNumber_81 ?_
  refine pb_asi (y := 0) (by decide) ?_
  refine pb_aload_n (pc := 82) d_Presser_putNumber_82 1 rfl rfl ?_
  refine pb_get (pc := 83) d_Presser_putNumber_83 0 6 rfl rfl (by decide) in_Presser k_189 rfl ?_
  refine pb_bipush (pc := 86) (v := 8) d_Presser_putNumber_86 (by decide) ?_
  refine pb_irem (pc := 88) d_Presser_putNumber_88 (by decide) ?_
  refine pb_asi (y := 2) (by decide) ?_
  refine pb_ishl (pc := 89) d_Presser_putNumber_89 ?_
  refine pb_asi (y := 0) (by decide) ?_
  refine pb_i2b (pc := 90) (v := 0) d_Presser_putNumber_90 (by decide) ?_
  refine pb_ior (pc := 91) d_Presser_putNumber_91 ?_
  refine pb_topi (fun i9 ei9 => ?_)
  refine pb_i2b (pc := 92) d_Presser_putNumber_92 rfl ?_
  refine pb_topi (fun i10 ei10 => ?_)
  refine pb_bast (pc := 93) (ws' := [(h, .inr (4, [.ref pp, .ref pl, .ref pe, .ref pr, .int 0, .int 0, .int 2, .int 0, .int 0])), (pp, .inr (0, [.ref pb, .int 1])), (pb, .inl (G.2.1, 4502, .inl (upd (upd f ((0 : Int32).toNatClampNeg) (vp_nar .byte i5)) ((0 : Int32).toNatClampNeg) (vp_nar .byte i10))))]) d_Presser_putNumber_93 2 rfl (by unfold vp_in; decide) rfl ?_
  refine pb_aload_n (pc := 94) d_Presser_putNumber_94 1 rfl rfl ?_
  refine pb_dup (pc := 95) d_Presser_putNumber_95 rfl ?_
  refine pb_get (pc := 96) d_Presser_putNumber_96 0 6 rfl rfl (by decide) in_Presser k_189 rfl ?_
  refine pb_iconst (pc := 99) (v := 1) d_Presser_putNumber_99 (by decide) ?_
  refine pb_iadd (pc := 100) d_Presser_putNumber_100 ?_
  refine pb_asi (y := 3) (by decide) ?_
  refine pb_put (pc := 101) (ty := .int) (ws' := [(h, .inr (4, [.ref pp, .ref pl, .ref pe, .ref pr, .int 0, .int 0, .int 3, .int 0, .int 0])), (pp, .inr (0, [.ref pb, .int 1])), (pb, .inl (G.2.1, 4502, .inl (upd (upd f ((0 : Int32).toNatClampNeg) (vp_nar .byte i5)) ((0 : Int32).toNatClampNeg) (vp_nar .byte i10))))]) d_Presser_putNumber_101 0 6 t_Presser t_Presser_ok n_Presser rfl rfl (by decide) in_Presser k_189 rfl (by decide +kernel) rfl rfl (Nat.le_of_ble_eq_true rfl) rfl ?_
  refine pb_iinc (pc := 104) (v := 2) (lo' := [(3, .int 2), (0, .ref h), (1, .int 1), (2, .int 2)]) d_Presser_putNumber_104 0 rfl (by decide) (by decide) rfl ?_
  refine pb_goto (pc := 107) (tgt := 2) d_Presser_putNumber_107 (by decide) ?_
  refine pb_iload_n (pc := 2) d_Presser_putNumber_2 0 rfl rfl ?_
  refine pb_iload_n (pc := 3) d_Presser_putNumber_3 3 rfl rfl ?_
  refine pb_icmp_ge (pc := 4) (tgt := 110) d_Presser_putNumber_4 (by decide) (fun _ => ?_) (fun h9 => absurd h9 (by decide))
  exact pb_vret (pc := 110) hQ d_Presser_putNumber_110 rfl ((upd (upd f ((0 : Int32).toNatClampNeg) (vp_nar .byte i5)) ((0 : Int32).toNatClampNeg) (vp_nar .byte i10))) ⟨rfl, (by repeat (first | exact sb_fit0 | assumption | refine sb_fitU ?_ (fit_nar _)))⟩ [0, 1, 2] (by decide) rfl rfl (by decide) (by decide)

set_option maxRecDepth 100000 in
set_option maxHeartbeats 4000000 in
theorem c_Pr_num7 {l : Launch} (hl : l.stackTraces = false) (G : pb_G) (h : Nat) (pp : Nat) (pl : Nat) (pe : Nat) (pr : Nat) (pb : Nat) (f : Nat → Int32) (h9 : sb_Fit f) : Cn l G i_Presser_putNumber [.ref h, .int 0, .int 7] [(h, .inr (4, [.ref pp, .ref pl, .ref pe, .ref pr, .int 0, .int 0, .int 3, .int 0, .int 0])), (pp, .inr (0, [.ref pb, .int 1])), (pb, .inl (G.2.1, 4502, .inl f))] (S := (Nat → Int32)) (fun v u => v = none ∧ (sb_Fit u)) (fun u => [(h, .inr (4, [.ref pp, .ref pl, .ref pe, .ref pr, .int 0, .int 0, .int 10, .int 0, .int 0])), (pp, .inr (0, [.ref pb, .int 2])), (pb, .inl (G.2.1, 4502, .inl u))]) := by
  refine Cn.of hl (by decide +kernel) rfl (Nat.le_of_ble_eq_true rfl) (fun M hQ => ?_)
  refine pb_eq (pc' := 0) (lo' := [(0, .ref h), (1, .int 0), (2, .int 7)]) (rest' := []) (ws' := [(h, .inr (4, [.ref pp, .ref pl, .ref pe, .ref pr, .int 0, .int 0, .int 3, .int 0, .int 0])), (pp, .inr (0, [.ref pb, .int 1])), (pb, .inl (G.2.1, 4502, .inl f))]) ?_
  refine pb_iconst (pc := 0) (v := 0) d_Presser_putNumber_0 (by decide) ?_
  refine pb_istore_n (pc := 1) (lo' := [(3, .int 0), (0, .ref h), (1, .int 0), (2, .int 7)]) d_Presser_putNumber_1 rfl (by decide) rfl ?_
  refine pb_iload_n (pc := 2) d_Presser_putNumber_2 0 rfl rfl ?_
  refine pb_iload_n (pc := 3) d_Presser_putNumber_3 3 rfl rfl ?_
  refine pb_icmp_ge (pc := 4) (tgt := 110) d_Presser_putNumber_4 (by decide) (fun h9 => absurd h9 (by decide)) (fun _ => ?_)
  refine pb_aload_n (pc := 7) d_Presser_putNumber_7 1 rfl rfl ?_
  refine pb_get (pc := 8) d_Presser_putNumber_8 0 6 rfl rfl (by decide) in_Presser k_189 rfl ?_
  refine pb_bipush (pc := 11) (v := 8) d_Presser_putNumber_11 (by decide) ?_
  refine pb_irem (pc := 13) d_Presser_putNumber_13 (by decide) ?_
  refine pb_asi (y := 3) (by decide) ?_
  refine pb_if_ne (pc := 14) (tgt := 59) d_Presser_putNumber_14 (by decide) (fun _ => ?_) (fun h9 => absurd h9 (by decide))
  refine pb_aload_n (pc := 59) d_Presser_putNumber_59 1 rfl rfl ?_
  refine pb_get (pc := 60) d_Presser_putNumber_60 0 0 rfl rfl (by decide) in_Presser k_181 rfl ?_
  refine pb_getN (pc := 63) d_Presser_putNumber_63 1 0 rfl rfl (by decide) in_Row k_161 rfl ?_
  refine pb_aload_n (pc := 66) d_Presser_putNumber_66 1 rfl rfl ?_
  refine pb_get (pc := 67) d_Presser_putNumber_67 0 0 rfl rfl (by decide) in_Presser k_181 rfl ?_
  refine pb_getN (pc := 70) d_Presser_putNumber_70 1 1 rfl rfl (by decide) in_Row k_164 rfl ?_
  refine pb_iconst (pc := 73) (v := 1) d_Presser_putNumber_73 (by decide) ?_
  refine pb_isub (pc := 74) d_Presser_putNumber_74 ?_
  refine pb_asi (y := 0) (by decide) ?_
  refine pb_dup2_11 (pc := 75) d_Presser_putNumber_75 rfl rfl ?_
  refine pb_bald (pc := 76) d_Presser_putNumber_76 2 rfl (by unfold vp_in; decide) ?_
  refine pb_topi (fun i3 ei3 => ?_)
  refine pb_iload_n (pc := 77) d_Presser_putNumber_77 2 rfl rfl ?_
  refine pb_iload_n (pc := 78) d_Presser_putNumber_78 0 rfl rfl ?_
  refine pb_ishr (pc := 79) d_Presser_putNumber_79 ?_
  refine pb_asi (y := 0) (by decide) ?_
  refine pb_iconst (pc := 80) (v := 1) d_Presser_putNumber_80 (by decide) ?_
  refine pb_iand (pc := 81) d_Presser_putNumber_81 ?_
  refine pb_asi (y := 0) (by decide) ?_
  refine pb_aload_n (pc := 82) d_Presser_putNumber_82 1 rfl rfl ?_
  refine pb_get (pc := 83) d_Presser_putNumber_83 0 6 rfl rfl (by decide) in_Presser k_189 rfl ?_
  refine pb_bipush (pc := 86) (v := 8) d_Presser_putNumber_86 (by decide) ?_
  refine pb_irem (pc := 88) d_Presser_putNumber_88 (by decide) ?_
  refine pb_asi (y := 3) (by decide) ?_
  refine pb_ishl (pc := 89) d_Presser_putNumber_89 ?_
  refine pb_asi (y := 0) (by decide) ?_
  refine pb_i2b (pc := 90) (v := 0) d_Presser_putNumber_90 (by decide) ?_
  refine pb_ior (pc := 91) d_Presser_putNumber_91 ?_
  refine pb_topi (fun i4 ei4 => ?_)
  refine pb_i2b (pc := 92) d_Presser_putNumber_92 rfl ?_
  refine pb_topi (fun i5 ei5 => ?_)
  refine pb_bast (pc := 93) (ws' := [(h, .inr (4, [.ref pp, .ref pl, .ref pe, .ref pr, .int 0, .int 0, .int 3, .int 0, .int 0])), (pp, .inr (0, [.ref pb, .int 1])), (pb, .inl (G.2.1, 4502, .inl (upd f ((0 : Int32).toNatClampNeg) (vp_nar .byte i5))))]) d_Presser_putNumber_93 2 rfl (by unfold vp_in; decide) rfl ?_
  refine pb_aload_n (pc := 94) d_Presser_putNumber_94 1 rfl rfl ?_
  refine pb_dup (pc := 95) d_Presser_putNumber_95 rfl ?_
  refine pb_get (pc := 96) d_Presser_putNumber_96 0 6 rfl rfl (by decide) in_Presser k_189 rfl ?_
  refine pb_iconst (pc := 99) (v := 1) d_Presser_putNumber_99 (by decide) ?_
  refine pb_iadd (pc := 100) d_Presser_putNumber_100 ?_
  refine pb_asi (y := 4) (by decide) ?_
  refine pb_put (pc := 101) (ty := .int) (ws' := [(h, .inr (4, [.ref pp, .ref pl, .ref pe, .ref pr, .int 0, .int 0, .int 4, .int 0, .int 0])), (pp, .inr (0, [.ref pb, .int 1])), (pb, .inl (G.2.1, 4502, .inl (upd f ((0 : Int32).toNatClampNeg) (vp_nar .byte i5))))]) d_Presser_putNumber_101 0 6 t_Presser t_Presser_ok n_Presser rfl rfl (by decide) in_Presser k_189 rfl (by decide +kernel) rfl rfl (Nat.le_of_ble_eq_true rfl) rfl ?_
  refine pb_iinc (pc := 104) (v := 1) (lo' := [(3, .int 1), (0, .ref h), (1, .int 0), (2, .int 7)]) d_Presser_putNumber_104 0 rfl (by decide) (by decide) rfl ?_
  refine pb_goto (pc := 107) (tgt := 2) d_Presser_putNumber_107 (by decide) ?_
  refine pb_iload_n (pc := 2) d_Presser_putNumber_2 0 rfl rfl ?_
  refine pb_iload_n (pc := 3) d_Presser_putNumber_3 3 rfl rfl ?_
  refine pb_icmp_ge (pc := 4) (tgt := 110) d_Presser_putNumber_4 (by decide) (fun h9 => absurd h9 (by decide)) (fun _ => ?_)
  refine pb_aload_n (pc := 7) d_Presser_putNumber_7 1 rfl rfl ?_
  refine pb_get (pc := 8) d_Presser_putNumber_8 0 6 rfl rfl (by decide) in_Presser k_189 rfl ?_
  refine pb_bipush (pc := 11) (v := 8) d_Presser_putNumber_11 (by decide) ?_
  refine pb_irem (pc := 13) d_Presser_putNumber_13 (by decide) ?_
  refine pb_asi (y := 4) (by decide) ?_
  refine pb_if_ne (pc := 14) (tgt := 59) d_Presser_putNumber_14 (by decide) (fun _ => ?_) (fun h9 => absurd h9 (by decide))
  refine pb_aload_n (pc := 59) d_Presser_putNumber_59 1 rfl rfl ?_
  refine pb_get (pc := 60) d_Presser_putNumber_60 0 0 rfl rfl (by decide) in_Presser k_181 rfl ?_
  refine pb_getN (pc := 63) d_Presser_putNumber_63 1 0 rfl rfl (by decide) in_Row k_161 rfl ?_
  refine pb_aload_n (pc := 66) d_Presser_putNumber_66 1 rfl rfl ?_
  refine pb_get (pc := 67) d_Presser_putNumber_67 0 0 rfl rfl (by decide) in_Presser k_181 rfl ?_
  refine pb_getN (pc := 70) d_Presser_putNumber_70 1 1 rfl rfl (by decide) in_Row k_164 rfl ?_
  refine pb_iconst (pc := 73) (v := 1) d_Presser_putNumber_73 (by decide) ?_
  refine pb_isub (pc := 74) d_Presser_putNumber_74 ?_
  refine pb_asi (y := 0) (by decide) ?_
  refine pb_dup2_11 (pc := 75) d_Presser_putNumber_75 rfl rfl ?_
  refine pb_bald (pc := 76) d_Presser_putNumber_76 2 rfl (by unfold vp_in; decide) ?_
  refine pb_topi (fun i8 ei8 => ?_)
  refine pb_iload_n (pc := 77) d_Presser_putNumber_77 2 rfl rfl ?_
  refine pb_iload_n (pc := 78) d_Presser_putNumber_78 0 rfl rfl ?_
  refine pb_ishr (pc := 79) d_Presser_putNumber_79 ?_
  refine pb_asi (y := 0) (by decide) ?_
  refine pb_iconst (pc := 80) (v := 1) d_Presser_putNumber_80 (by decide) ?_
  refine pb_iand (pc := 81) d_Presser_putNumber_81 ?_
  refine pb_asi (y := 0) (by decide) ?_
  refine pb_aload_n (pc := 82) d_Presser_putNumber_82 1 rfl rfl ?_
  refine pb_get (pc := 83) d_Presser_putNumber_83 0 6 rfl rfl (by decide) in_Presser k_189 rfl ?_
  refine pb_bipush (pc := 86) (v := 8) d_Presser_putNumber_86 (by decide) ?_
  refine pb_irem (pc := 88) d_Presser_putNumber_88 (by decide) ?_
  refine pb_asi (y := 4) (by decide) ?_
  refine pb_ishl (pc := 89) d_Presser_putNumber_89 ?_
  refine pb_asi (y := 0) (by decide) ?_
  refine pb_i2b (pc := 90) (v := 0) d_Presser_putNumber_90 (by decide) ?_
  refine pb_ior (pc := 91) d_Presser_putNumber_91 ?_
  refine pb_topi (fun i9 ei9 => ?_)
  refine pb_i2b (pc := 92) d_Presser_putNumber_92 rfl ?_
  refine pb_topi (fun i10 ei10 => ?_)
  refine pb_bast (pc := 93) (ws' := [(h, .inr (4, [.ref pp, .ref pl, .ref pe, .ref pr, .int 0, .int 0, .int 4, .int 0, .int 0])), (pp, .inr (0, [.ref pb, .int 1])), (pb, .inl (G.2.1, 4502, .inl (upd (upd f ((0 : Int32).toNatClampNeg) (vp_nar .byte i5)) ((0 : Int32).toNatClampNeg) (vp_nar .byte i10))))]) d_Presser_putNumber_93 2 rfl (by unfold vp_in; decide) rfl ?_
  refine pb_aload_n (pc := 94) d_Presser_putNumber_94 1 rfl rfl ?_
  refine pb_dup (pc := 95) d_Presser_putNumber_95 rfl ?_
  refine pb_get (pc := 96) d_Presser_putNumber_96 0 6 rfl rfl (by decide) in_Presser k_189 rfl ?_
  refine pb_iconst (pc := 99) (v := 1) d_Presser_putNumber_99 (by decide) ?_
  refine pb_iadd (pc := 100) d_Presser_putNumber_100 ?_
  refine pb_asi (y := 5) (by decide) ?_
  refine pb_put (pc := 101) (ty := .int) (ws' := [(h, .inr (4, [.ref pp, .ref pl, .ref pe, .ref pr, .int 0, .int 0, .int 5, .int 0, .int 0])), (pp, .inr (0, [.ref pb, .int 1])), (pb, .inl (G.2.1, 4502, .inl (upd (upd f ((0 : Int32).toNatClampNeg) (vp_nar .byte i5)) ((0 : Int32).toNatClampNeg) (vp_nar .byte i10))))]) d_Presser_putNumber_101 0 6 t_Presser t_Presser_ok n_Presser rfl rfl (by decide) in_Presser k_189 rfl (by decide +kernel) rfl rfl (Nat.le_of_ble_eq_true rfl) rfl ?_
  refine pb_iinc (pc := 104) (v := 2) (lo' := [(3, .int 2), (0, .ref h), (1, .int 0), (2, .int 7)]) d_Presser_putNumber_104 0 rfl (by decide) (by decide) rfl ?_
  refine pb_goto (pc := 107) (tgt := 2) d_Presser_putNumber_107 (by decide) ?_
  refine pb_iload_n (pc := 2) d_Presser_putNumber_2 0 rfl rfl ?_
  refine pb_iload_n (pc := 3) d_Presser_putNumber_3 3 rfl rfl ?_
  refine pb_icmp_ge (pc := 4) (tgt := 110) d_Presser_putNumber_4 (by decide) (fun h9 => absurd h9 (by decide)) (fun _ => ?_)
  refine pb_aload_n (pc := 7) d_Presser_putNumber_7 1 rfl rfl ?_
  refine pb_get (pc := 8) d_Presser_putNumber_8 0 6 rfl rfl (by decide) in_Presser k_189 rfl ?_
  refine pb_bipush (pc := 11) (v := 8) d_Presser_putNumber_11 (by decide) ?_
  refine pb_irem (pc := 13) d_Presser_putNumber_13 (by decide) ?_
  refine pb_asi (y := 5) (by decide) ?_
  refine pb_if_ne (pc := 14) (tgt := 59) d_Presser_putNumber_14 (by decide) (fun _ => ?_) (fun h9 => absurd h9 (by decide))
  refine pb_aload_n (pc := 59) d_Presser_putNumber_59 1 rfl rfl ?_
  refine pb_get (pc := 60) d_Presser_putNumber_60 0 0 rfl rfl (by decide) in_Presser k_181 rfl ?_
  refine pb_getN (pc := 63) d_Presser_putNumber_63 1 0 rfl rfl (by decide) in_Row k_161 rfl ?_
  refine pb_aload_n (pc := 66) d_Presser_putNumber_66 1 rfl rfl ?_
  refine pb_get (pc := 67) d_Presser_putNumber_67 0 0 rfl rfl (by decide) in_Presser k_181 rfl ?_
  refine pb_getN (pc := 70) d_Presser_putNumber_70 1 1 rfl rfl (by decide) in_Row k_164 rfl ?_
  refine pb_iconst (pc := 73) (v := 1) d_Presser_putNumber_73 (by decide) ?_
  refine pb_isub (pc := 74) d_Presser_putNumber_74 ?_
  refine pb_asi (y := 0) (by decide) ?_
  refine pb_dup2_11 (pc := 75) d_Presser_putNumber_75 rfl rfl ?_
  refine pb_bald (pc := 76) d_Presser_putNumber_76 2 rfl (by unfold vp_in; decide) ?_
  refine pb_topi (fun i13 ei13 => ?_)
  refine pb_iload_n (pc := 77) d_Presser_putNumber_77 2 rfl rfl ?_
  refine pb_iload_n (pc := 78) d_Presser_putNumber_78 0 rfl rfl ?_
  refine pb_ishr (pc := 79) d_Presser_putNumber_79 ?_
  refine pb_asi (y := 0) (by decide) ?_
  refine pb_iconst (pc := 80) (v := 1) d_Presser_putNumber_80 (by decide) ?_
  refine pb_iand (pc := 81) d_Presser_putNumber_81 ?_
  refine pb_asi (y := 0) (by decide) ?_
  refine pb_aload_n (pc := 82) d_Presser_putNumber_82 1 rfl rfl ?_
  refine pb_get (pc := 83) d_Presser_putNumber_83 0 6 rfl rfl (by decide) in_Presser k_189 rfl ?_
  refine pb_bipush (pc := 86) (v := 8) d_Presser_putNumber_86 (by decide) ?_
  refine pb_irem (pc := 88) d_Presser_putNumber_88 (by decide) ?_
  refine pb_asi (y := 5) (by decide) ?_
  refine pb_ishl (pc := 89) d_Presser_putNumber_89 ?_
  refine pb_asi (y := 0) (by decide) ?_
  refine pb_i2b (pc := 90) (v := 0) d_Presser_putNumber_90 (by decide) ?_
  refine pb_ior (pc := 91) d_Presser_putNumber_91 ?_
  refine pb_topi (fun i14 ei14 => ?_)
  refine pb_i2b (pc := 92) d_Presser_putNumber_92 rfl ?_
  refine pb_topi (fun i15 ei15 => ?_)
  refine pb_bast (pc := 93) (ws' := [(h, .inr (4, [.ref pp, .ref pl, .ref pe, .ref pr, .int 0, .int 0, .int 5, .int 0, .int 0])), (pp, .inr (0, [.ref pb, .int 1])), (pb, .inl (G.2.1, 4502, .inl (upd (upd (upd f ((0 : Int32).toNatClampNeg) (vp_nar .byte i5)) ((0 : Int32).toNatClampNeg) (vp_nar .byte i10)) ((0 : Int32).toNatClampNeg) (vp_nar .byte i15))))]) d_Presser_putNumber_93 2 rfl (by unfold vp_in; decide) rfl ?_
  refine pb_aload_n (pc := 94) d_Presser_putNumber_94 1 rfl rfl ?_
  refine pb_dup (pc := 95) d_Presser_putNumber_95 rfl ?_
  refine pb_get (pc := 96) d_Presser_putNumber_96 0 6 rfl rfl (by decide) in_Presser k_189 rfl ?_
  refine pb_iconst (pc := 99) (v := 1) d_Presser_putNumber_99 (by decide) ?_
  refine pb_iadd (pc := 100) d_Presser_putNumber_100 ?_
  refine pb_asi (y := 6) (by decide) ?_
  refine pb_put (pc := 101) (ty := .int) (ws' := [(h, .inr (4, [.ref pp, .ref pl, .ref pe, .ref pr, .int 0, .int 0, .int 6, .int 0, .int 0])), (pp, .inr (0, [.ref pb, .int 1])), (pb, .inl (G.2.1, 4502, .inl (upd (upd (upd f ((0 : Int32).toNatClampNeg) (vp_nar .byte i5)) ((0 : Int32).toNatClampNeg) (vp_nar .byte i10)) ((0 : Int32).toNatClampNeg) (vp_nar .byte i15))))]) d_Presser_putNumber_101 0 6 t_Presser t_Presser_ok n_Presser rfl rfl (by decide) in_Presser k_189 rfl (by decide +kernel) rfl rfl (Nat.le_of_ble_eq_true rfl) rfl ?_
  refine pb_iinc (pc := 104) (v := 3) (lo' := [(3, .int 3), (0, .ref h), (1, .int 0), (2, .int 7)]) d_Presser_putNumber_104 0 rfl (by decide) (by decide) rfl ?_
  refine pb_goto (pc := 107) (tgt := 2) d_Presser_putNumber_107 (by decide) ?_
  refine pb_iload_n (pc := 2) d_Presser_putNumber_2 0 rfl rfl ?_
  refine pb_iload_n (pc := 3) d_Presser_putNumber_3 3 rfl rfl ?_
  refine pb_icmp_ge (pc := 4) (tgt := 110) d_Presser_putNumber_4 (by decide) (fun h9 => absurd h9 (by decide)) (fun _ => ?_)
  refine pb_aload_n (pc := 7) d_Presser_putNumber_7 1 rfl rfl ?_
  refine pb_get (pc := 8) d_Presser_putNumber_8 0 6 rfl rfl (by decide) in_Presser k_189 rfl ?_
  refine pb_bipush (pc := 11) (v := 8) d_Presser_putNumber_11 (by decide) ?_
  refine pb_irem (pc := 13) d_Presser_putNumber_13 (by decide) ?_
  refine pb_asi (y := 6) (by decide) ?_
  refine pb_if_ne (pc := 14) (tgt := 59) d_Presser_putNumber_14 (by decide) (fun _ => ?_) (fun h9 => absurd h9 (by decide))
  refine pb_aload_n (pc := 59) d_Presser_putNumber_59 1 rfl rfl ?_
  refine pb_get (pc := 60) d_Presser_putNumber_60 0 0 rfl rfl (by decide) in_Presser k_181 rfl ?_
  refine pb_getN (pc := 63) d_Presser_putNumber_63 1 0 rfl rfl (by decide) in_Row k_161 rfl ?_
  refine pb_aload_n (pc := 66) d_Presser_putNumber_66 1 rfl rfl ?_
  refine pb_get (pc := 67) d_Presser_putNumber_67 0 0 rfl rfl (by decide) in_Presser k_181 rfl ?_
  refine pb_getN (pc := 70) d_Presser_putNumber_70 1 1 rfl rfl (by decide) in_Row k_164 rfl ?_
  refine pb_iconst (pc := 73) (v := 1) d_Presser_putNumber_73 (by decide) ?_
  refine pb_isub (pc := 74) d_Presser_putNumber_74 ?_
  refine pb_asi (y := 0) (by decide) ?_
  refine pb_dup2_11 (pc := 75) d_Presser_putNumber_75 rfl rfl ?_
  refine pb_bald (pc := 76) d_Presser_putNumber_76 2 rfl (by unfold vp_in; decide) ?_
  refine pb_topi (fun i18 ei18 => ?_)
  refine pb_iload_n (pc := 77) d_Presser_putNumber_77 2 rfl rfl ?_
  refine pb_iload_n (pc := 78) d_Presser_putNumber_78 0 rfl rfl ?_
  refine pb_ishr (pc := 79) d_Presser_putNumber_79 ?_
  refine pb_asi (y := 0) (by decide) ?_
  refine pb_iconst (pc := 80) (v := 1) d_Presser_putNumber_80 (by decide) ?_
  refine pb_iand (pc := 81) d_Presser_putNumber_81 ?_
  refine pb_asi (y := 0) (by decide) ?_
  refine pb_aload_n (pc := 82) d_Presser_putNumber_82 1 rfl rfl ?_
  refine pb_get (pc := 83) d_Presser_putNumber_83 0 6 rfl rfl (by decide) in_Presser k_189 rfl ?_
  refine pb_bipush (pc := 86) (v := 8) d_Presser_putNumber_86 (by decide) ?_
  refine pb_irem (pc := 88) d_Presser_putNumber_88 (by decide) ?_
  refine pb_asi (y := 6) (by decide) ?_
  refine pb_ishl (pc := 89) d_Presser_putNumber_89 ?_
  refine pb_asi (y := 0) (by decide) ?_
  refine pb_i2b (pc := 90) (v := 0) d_Presser_putNumber_90 (by decide) ?_
  refine pb_ior (pc := 91) d_Presser_putNumber_91 ?_
  refine pb_topi (fun i19 ei19 => ?_)
  refine pb_i2b (pc := 92) d_Presser_putNumber_92 rfl ?_
  refine pb_topi (fun i20 ei20 => ?_)
  refine pb_bast (pc := 93) (ws' := [(h, .inr (4, [.ref pp, .ref pl, .ref pe, .ref pr, .int 0, .int 0, .int 6, .int 0, .int 0])), (pp, .inr (0, [.ref pb, .int 1])), (pb, .inl (G.2.1, 4502, .inl (upd (upd (upd (upd f ((0 : Int32).toNatClampNeg) (vp_nar .byte i5)) ((0 : Int32).toNatClampNeg) (vp_nar .byte i10)) ((0 : Int32).toNatClampNeg) (vp_nar .byte i15)) ((0 : Int32).toNatClampNeg) (vp_nar .byte i20))))]) d_Presser_putNumber_93 2 rfl (by unfold vp_in; decide) rfl ?_
  refine pb_aload_n (pc := 94) d_Presser_putNumber_94 1 rfl rfl ?_
  refine pb_dup (pc := 95) d_Presser_putNumber_95 rfl ?_
  refine pb_get (pc := 96) d_Presser_putNumber_96 0 6 rfl rfl (by decide) in_Presser k_189 rfl ?_
  refine pb_iconst (pc := 99) (v := 1) d_Presser_putNumber_99 (by decide) ?_
  refine pb_iadd (pc := 100) d_Presser_putNumber_100 ?_
  refine pb_asi (y := 7) (by decide) ?_
  refine pb_put (pc := 101) (ty := .int) (ws' := [(h, .inr (4, [.ref pp, .ref pl, .ref pe, .ref pr, .int 0, .int 0, .int 7, .int 0, .int 0])), (pp, .inr (0, [.ref pb, .int 1])), (pb, .inl (G.2.1, 4502, .inl (upd (upd (upd (upd f ((0 : Int32).toNatClampNeg) (vp_nar .byte i5)) ((0 : Int32).toNatClampNeg) (vp_nar .byte i10)) ((0 : Int32).toNatClampNeg) (vp_nar .byte i15)) ((0 : Int32).toNatClampNeg) (vp_nar .byte i20))))]) d_Presser_putNumber_101 0 6 t_Presser t_Presser_ok n_Presser rfl rfl (by decide) in_Presser k_189 rfl (by decide +kernel) rfl rfl (Nat.le_of_ble_eq_true rfl) rfl ?_
  refine pb_iinc (pc := 104) (v := 4) (lo' := [(3, .int 4), (0, .ref h), (1, .int 0), (2, .int 7)]) d_Presser_putNumber_104 0 rfl (by decide) (by decide) rfl ?_
  refine pb_goto (pc := 107) (tgt := 2) d_Presser_putNumber_107 (by decide) ?_
  refine pb_iload_n (pc := 2) d_Presser_putNumber_2 0 rfl rfl ?_
  refine pb_iload_n (pc := 3) d_Presser_putNumber_3 3 rfl rfl ?_
  refine pb_icmp_ge (pc := 4) (tgt := 110) d_Presser_putNumber_4 (by decide) (fun h9 => absurd h9 (by decide)) (fun _ => ?_)
  refine pb_aload_n (pc := 7) d_Presser_putNumber_7 1 rfl rfl ?_
  refine pb_get (pc := 8) d_Presser_putNumber_8 0 6 rfl rfl (by decide) in_Presser k_189 rfl ?_
  refine pb_bipush (pc := 11) (v := 8) d_Presser_putNumber_11 (by decide) ?_
  refine pb_irem (pc := 13) d_Presser_putNumber_13 (by decide) ?_
  refine pb_asi (y := 7) (by decide) ?_
  refine pb_if_ne (pc := 14) (tgt := 59) d_Presser_putNumber_14 (by decide) (fun _ => ?_) (fun h9 => absurd h9 (by decide))
  refine pb_aload_n (pc := 59) d_Presser_putNumber_59 1 rfl rfl ?_
  refine pb_get (pc := 60) d_Presser_putNumber_60 0 0 rfl rfl (by decide) in_Presser k_181 rfl ?_
  refine pb_getN (pc := 63) d_Presser_putNumber_63 1 0 rfl rfl (by decide) in_Row k_161 rfl ?_
  refine pb_aload_n (pc := 66) d_Presser_putNumber_66 1 rfl rfl ?_
  refine pb_get (pc := 67) d_Presser_putNumber_67 0 0 rfl rfl (by decide) in_Presser k_181 rfl ?_
  refine pb_getN (pc := 70) d_Presser_putNumber_70 1 1 rfl rfl (by decide) in_Row k_164 rfl ?_
  refine pb_iconst (pc := 73) (v := 1) d_Presser_putNumber_73 (by decide) ?_
  refine pb_isub (pc := 74) d_Presser_putNumber_74 ?_
  refine pb_asi (y := 0) (by decide) ?_
  refine pb_dup2_11 (pc := 75) d_Presser_putNumber_75 rfl rfl ?_
  refine pb_bald (pc := 76) d_Presser_putNumber_76 2 rfl (by unfold vp_in; decide) ?_
  refine pb_topi (fun i23 ei23 => ?_)
  refine pb_iload_n (pc := 77) d_Presser_putNumber_77 2 rfl rfl ?_
  refine pb_iload_n (pc := 78) d_Presser_putNumber_78 0 rfl rfl ?_
  refine pb_ishr (pc := 79) d_Presser_putNumber_79 ?_
  refine pb_asi (y := 0) (by decide) ?_
  refine pb_iconst (pc := 80) (v := 1) d_Presser_putNumber_80 (by decide) ?_
  refine pb_iand (pc := 81) d_Presser_putNumber_81 ?_
  refine pb_asi (y := 0) (by decide) ?_
  refine pb_aload_n (pc := 82) d_Presser_putNumber_82 1 rfl rfl ?_
  refine pb_get (pc := 83) d_Presser_putNumber_83 0 6 rfl rfl (by decide) in_Presser k_189 rfl ?_
  refine pb_bipush (pc := 86) (v := 8) d_Presser_putNumber_86 (by decide) ?_
  refine pb_irem (pc := 88) d_Presser_putNumber_88 (by decide) ?_
  refine pb_asi (y := 7) (by decide) ?_
  refine pb_ishl (pc := 89) d_Presser_putNumber_89 ?_
  refine pb_asi (y := 0) (by decide) ?_
  refine pb_i2b (pc := 90) (v := 0) d_Presser_putNumber_90 (by decide) ?_
  refine pb_ior (pc := 91) d_Presser_putNumber_91 ?_
  refine pb_topi (fun i24 ei24 => ?_)
  refine pb_i2b (pc := 92) d_Presser_putNumber_92 rfl ?_
  refine pb_topi (fun i25 ei25 => ?_)
  refine pb_bast (pc := 93) (ws' := [(h, .inr (4, [.ref pp, .ref pl, .ref pe, .ref pr, .int 0, .int 0, .int 7, .int 0, .int 0])), (pp, .inr (0, [.ref pb, .int 1])), (pb, .inl (G.2.1, 4502, .inl (upd (upd (upd (upd (upd f ((0 : Int32).toNatClampNeg) (vp_nar .byte i5)) ((0 : Int32).toNatClampNeg) (vp_nar .byte i10)) ((0 : Int32).toNatClampNeg) (vp_nar .byte i15)) ((0 : Int32).toNatClampNeg) (vp_nar .byte i20)) ((0 : Int32).toNatClampNeg) (vp_nar .byte i25))))]) d_Presser_putNumber_93 2 rfl (by unfold vp_in; decide) rfl ?_
  refine pb_aload_n (pc := 94) d_Presser_putNumber_94 1 rfl rfl ?_
  refine pb_dup (pc := 95) d_Presser_putNumber_95 rfl ?_
  refine pb_get (pc := 96) d_Presser_putNumber_96 0 6 rfl rfl (by decide) in_Presser k_189 rfl ?_
  refine pb_iconst (pc := 99) (v := 1) d_Presser_putNumber_99 (by decide) ?_
  refine pb_iadd (pc := 100) d_Presser_putNumber_100 ?_
  refine pb_asi (y := 8) (by decide) ?_
  refine pb_put (pc := 101) (ty := .int) (ws' := [(h, .inr (4, [.ref pp, .ref pl, .ref pe, .ref pr, .int 0, .int 0, .int 8, .int 0, .int 0])), (pp, .inr (0, [.ref pb, .int 1])), (pb, .inl (G.2.1, 4502, .inl (upd (upd (upd (upd (upd f ((0 : Int32).toNatClampNeg) (vp_nar .byte i5)) ((0 : Int32).toNatClampNeg) (vp_nar .byte i10)) ((0 : Int32).toNatClampNeg) (vp_nar .byte i15)) ((0 : Int32).toNatClampNeg) (vp_nar .byte i20)) ((0 : Int32).toNatClampNeg) (vp_nar .byte i25))))]) d_Presser_putNumber_101 0 6 t_Presser t_Presser_ok n_Presser rfl rfl (by decide) in_Presser k_189 rfl (by decide +kernel) rfl rfl (Nat.le_of_ble_eq_true rfl) rfl ?_
  refine pb_iinc (pc := 104) (v := 5) (lo' := [(3, .int 5), (0, .ref h), (1, .int 0), (2, .int 7)]) d_Presser_putNumber_104 0 rfl (by decide) (by decide) rfl ?_
  refine pb_goto (pc := 107) (tgt := 2) d_Presser_putNumber_107 (by decide) ?_
  refine pb_iload_n (pc := 2) d_Presser_putNumber_2 0 rfl rfl ?_
  refine pb_iload_n (pc := 3) d_Presser_putNumber_3 3 rfl rfl ?_
  refine pb_icmp_ge (pc := 4) (tgt := 110) d_Presser_putNumber_4 (by decide) (fun h9 => absurd h9 (by decide)) (fun _ => ?_)
  refine pb_aload_n (pc := 7) d_Presser_putNumber_7 1 rfl rfl ?_
  refine pb_get (pc := 8) d_Presser_putNumber_8 0 6 rfl rfl (by decide) in_Presser k_189 rfl ?_
  refine pb_bipush (pc := 11) (v := 8) d_Presser_putNumber_11 (by decide) ?_
  refine pb_irem (pc := 13) d_Presser_putNumber_13 (by decide) ?_
  refine pb_asi (y := 0) (by decide) ?_
  refine pb_if_ne (pc := 14) (tgt := 59) d_Presser_putNumber_14 (by decide) (fun h9 => absurd h9 (by decide)) (fun _ => ?_)
  refine pb_aload_n (pc := 17) d_Presser_putNumber_17 1 rfl rfl ?_
  refine pb_get (pc := 18) d_Presser_putNumber_18 0 0 rfl rfl (by decide) in_Presser k_181 rfl ?_
  refine pb_getN (pc := 21) d_Presser_putNumber_21 1 1 rfl rfl (by decide) in_Row k_164 rfl ?_
  refine pb_sipush (pc := 24) (v := 4502) d_Presser_putNumber_24 (by decide) ?_
  refine pb_icmp_ge (pc := 27) (tgt := 59) d_Presser_putNumber_27 (by decide) (fun h9 => absurd h9 (by decide)) (fun _ => ?_)
  refine pb_aload_n (pc := 30) d_Presser_putNumber_30 1 rfl rfl ?_
  refine pb_get (pc := 31) d_Presser_putNumber_31 0 0 rfl rfl (by decide) in_Presser k_181 rfl ?_
  refine pb_getN (pc := 34) d_Presser_putNumber_34 1 0 rfl rfl (by decide) in_Row k_161 rfl ?_
  refine pb_aload_n (pc := 37) d_Presser_putNumber_37 1 rfl rfl ?_
  refine pb_get (pc := 38) d_Presser_putNumber_38 0 0 rfl rfl (by decide) in_Presser k_181 rfl ?_
  refine pb_getN (pc := 41) d_Presser_putNumber_41 1 1 rfl rfl (by decide) in_Row k_164 rfl ?_
  refine pb_iconst (pc := 44) (v := 0) d_Presser_putNumber_44 (by decide) ?_
  refine pb_bast (pc := 45) (ws' := [(h, .inr (4, [.ref pp, .ref pl, .ref pe, .ref pr, .int 0, .int 0, .int 8, .int 0, .int 0])), (pp, .inr (0, [.ref pb, .int 1])), (pb, .inl (G.2.1, 4502, .inl (upd (upd (upd (upd (upd (upd f ((0 : Int32).toNatClampNeg) (vp_nar .byte i5)) ((0 : Int32).toNatClampNeg) (vp_nar .byte i10)) ((0 : Int32).toNatClampNeg) (vp_nar .byte i15)) ((0 : Int32).toNatClampNeg) (vp_nar .byte i20)) ((0 : Int32).toNatClampNeg) (vp_nar .byte i25)) ((1 : Int32).toNatClampNeg) (vp_nar .byte 0))))]) d_Presser_putNumber_45 2 rfl (by unfold vp_in; decide) rfl ?_
  refine pb_aload_n (pc := 46) d_Presser_putNumber_46 1 rfl rfl ?_
  refine pb_get (pc := 47) d_Presser_putNumber_47 0 0 rfl rfl (by decide) in_Presser k_181 rfl ?_
  refine pb_dup (pc := 50) d_Presser_putNumber_50 rfl ?_
  refine pb_getN (pc := 51) d_Presser_putNumber_51 1 1 rfl rfl (by decide) in_Row k_164 rfl ?_
  refine pb_iconst (pc := 54) (v := 1) d_Presser_putNumber_54 (by decide) ?_
  refine pb_iadd (pc := 55) d_Presser_putNumber_55 ?_
  refine pb_asi (y := 2) (by decide) ?_
  refine pb_putN (pc := 56) (ty := .int) (ws' := [(h, .inr (4, [.ref pp, .ref pl, .ref pe, .ref pr, .int 0, .int 0, .int 8, .int 0, .int 0])), (pp, .inr (0, [.ref pb, .int 2])), (pb, .inl (G.2.1, 4502, .inl (upd (upd (upd (upd (upd (upd f ((0 : Int32).toNatClampNeg) (vp_nar .byte i5)) ((0 : Int32).toNatClampNeg) (vp_nar .byte i10)) ((0 : Int32).toNatClampNeg) (vp_nar .byte i15)) ((0 : Int32).toNatClampNeg) (vp_nar .byte i20)) ((0 : Int32).toNatClampNeg) (vp_nar .byte i25)) ((1 : Int32).toNatClampNeg) (vp_nar .byte 0))))]) d_Presser_putNumber_56 1 1 t_Row t_Row_ok n_Row rfl rfl (by decide) in_Row k_164 rfl (by decide +kernel) rfl rfl (Nat.le_of_ble_eq_true rfl) rfl ?_
  refine pb_aload_n (pc := 59) d_Presser_putNumber_59 1 rfl rfl ?_
  refine pb_get (pc := 60) d_Presser_putNumber_60 0 0 rfl rfl (by decide) in_Presser k_181 rfl ?_
  refine pb_getN (pc := 63) d_Presser_putNumber_63 1 0 rfl rfl (by decide) in_Row k_161 rfl ?_
  refine pb_aload_n (pc := 66) d_Presser_putNumber_66 1 rfl rfl ?_
  refine pb_get (pc := 67) d_Presser_putNumber_67 0 0 rfl rfl (by decide) in_Presser k_181 rfl ?_
  refine pb_getN (pc := 70) d_Presser_putNumber_70 1 1 rfl rfl (by decide) in_Row k_164 rfl ?_
  refine pb_iconst (pc := 73) (v := 1) d_Presser_putNumber_73 (by decide) ?_
  refine pb_isub (pc := 74) d_Presser_putNumber_74 ?_
  refine pb_asi (y := 1) (by decide) ?_
  refine pb_dup2_11 (pc := 75) d_Presser_putNumber_75 rfl rfl ?_
  refine pb_bald (pc := 76) d_Presser_putNumber_76 2 rfl (by unfold vp_in; decide) ?_
  refine pb_topi (fun i29 ei29 => ?_)
  refine pb_iload_n (pc := 77) d_Presser_putNumber_77 2 rfl rfl ?_
  refine pb_iload_n (pc := 78) d_Presser_putNumber_78 0 rfl rfl ?_
  refine pb_ishr (pc := 79) d_Presser_putNumber_79 ?_
  refine pb_asi (y := 0) (by decide) ?_
  refine pb_iconst (pc := 80) (v := 1) d_Presser_putNumber_80 (by decide) ?_
  refine pb_iand (pc := 81) d_Presser_putNumber_81 ?_
  refine pb_asi (y := 0) (by decide) ?_
  refine pb_aload_n (pc := 82) d_Presser_putNumber_82 1 rfl rfl ?_
  refine pb_get (pc := 83) d_Presser_putNumber_83 0 6 rfl rfl (by decide) in_Presser k_189 rfl ?_
  refine pb_bipush (pc := 86) (v := 8) d_Presser_putNumber_86 (by decide) ?_
  refine pb_irem (pc := 88) d_Presser_putNumber_88 (by decide) ?_
  refine pb_asi (y := 0) (by decide) ?_
  refine pb_ishl (pc := 89) d_Presser_putNumber_89 ?_
  refine pb_asi (y := 0) (by decide) ?_
  refine pb_i2b (pc := 90) (v := 0) d_Presser_putNumber_90 (by decide) ?_
  refine pb_ior (pc := 91) d_Presser_putNumber_91 ?_
  refine pb_topi (fun i30 ei30 => ?_)
  refine pb_i2b (pc := 92) d_Presser_putNumber_92 rfl ?_
  refine pb_topi (fun i31 ei31 => ?_)
  refine pb_bast (pc := 93) (ws' := [(h, .inr (4, [.ref pp, .ref pl, .ref pe, .ref pr, .int 0, .int 0, .int 8, .int 0, .int 0])), (pp, .inr (0, [.ref pb, .int 2])), (pb, .inl (G.2.1, 4502, .inl (upd (upd (upd (upd (upd (upd (upd f ((0 : Int32).toNatClampNeg) (vp_nar .byte i5)) ((0 : Int32).toNatClampNeg) (vp_nar .byte i10)) ((0 : Int32).toNatClampNeg) (vp_nar .byte i15)) ((0 : Int32).toNatClampNeg) (vp_nar .byte i20)) ((0 : Int32).toNatClampNeg) (vp_nar .byte i25)) ((1 : Int32).toNatClampNeg) (vp_nar .byte 0)) ((1 : Int32).toNatClampNeg) (vp_nar .byte i31))))]) d_Presser_putNumber_93 2 rfl (by unfold vp_in; decide) rfl ?_
  refine pb_aload_n (pc := 94) d_Presser_putNumber_94 1 rfl rfl ?_
  refine pb_dup (pc := 95) d_Presser_putNumber_95 rfl ?_
  refine pb_get (pc := 96) d_Presser_putNumber_96 0 6 rfl rfl (by decide) in_Presser k_189 rfl ?_
  refine pb_iconst (pc := 99) (v := 1) d_Presser_putNumber_99 (by decide) ?_
  refine pb_iadd (pc := 100) d_Presser_putNumber_100 ?_
  refine pb_asi (y := 9) (by decide) ?_
  refine pb_put (pc := 101) (ty := .int) (ws' := [(h, .inr (4, [.ref pp, .ref pl, .ref pe, .ref pr, .int 0, .int 0, .int 9, .int 0, .int 0])), (pp, .inr (0, [.ref pb, .int 2])), (pb, .inl (G.2.1, 4502, .inl (upd (upd (upd (upd (upd (upd (upd f ((0 : Int32).toNatClampNeg) (vp_nar .byte i5)) ((0 : Int32).toNatClampNeg) (vp_nar .byte i10)) ((0 : Int32).toNatClampNeg) (vp_nar .byte i15)) ((0 : Int32).toNatClampNeg) (vp_nar .byte i20)) ((0 : Int32).toNatClampNeg) (vp_nar .byte i25)) ((1 : Int32).toNatClampNeg) (vp_nar .byte 0)) ((1 : Int32).toNatClampNeg) (vp_nar .byte i31))))]) d_Presser_putNumber_101 0 6 t_Presser t_Presser_ok n_Presser rfl rfl (by decide) in_Presser k_189 rfl (by decide +kernel) rfl rfl (Nat.le_of_ble_eq_true rfl) rfl ?_
  refine pb_iinc (pc := 104) (v := 6) (lo' := [(3, .int 6), (0, .ref h), (1, .int 0), (2, .int 7)]) d_Presser_putNumber_104 0 rfl (by decide) (by decide) rfl ?_
  refine pb_goto (pc := 107) (tgt := 2) d_Presser_putNumber_107 (by decide) ?_
  refine pb_iload_n (pc := 2) d_Presser_putNumber_2 0 rfl rfl ?_
  refine pb_iload_n (pc := 3) d_Presser_putNumber_3 3 rfl rfl ?_
  refine pb_icmp_ge (pc := 4) (tgt := 110) d_Presser_putNumber_4 (by decide) (fun h9 => absurd h9 (by decide)) (fun _ => ?_)
  refine pb_aload_n (pc := 7) d_Presser_putNumber_7 1 rfl rfl ?_
  refine pb_get (pc := 8) d_Presser_putNumber_8 0 6 rfl rfl (by decide) in_Presser k_189 rfl ?_
  refine pb_bipush (pc := 11) (v := 8) d_Presser_putNumber_11 (by decide) ?_
  refine pb_irem (pc := 13) d_Presser_putNumber_13 (by decide) ?_
  refine pb_asi (y := 1) (by decide) ?_
  refine pb_if_ne (pc := 14) (tgt := 59) d_Presser_putNumber_14 (by decide) (fun _ => ?_) (fun h9 => absurd h9 (by decide))
  refine pb_aload_n (pc := 59) d_Presser_putNumber_59 1 rfl rfl ?_
  refine pb_get (pc := 60) d_Presser_putNumber_60 0 0 rfl rfl (by decide) in_Presser k_181 rfl ?_
  refine pb_getN (pc := 63) d_Presser_putNumber_63 1 0 rfl rfl (by decide) in_Row k_161 rfl ?_
  refine pb_aload_n (pc := 66) d_Presser_putNumber_66 1 rfl rfl ?_
  refine pb_get (pc := 67) d_Presser_putNumber_67 0 0 rfl rfl (by decide) in_Presser k_181 rfl ?_
  refine pb_getN (pc := 70) d_Presser_putNumber_70 1 1 rfl rfl (by decide) in_Row k_164 rfl ?_
  refine pb_iconst (pc := 73) (v := 1) d_Presser_putNumber_73 (by decide) ?_
  refine pb_isub (pc := 74) d_Presser_putNumber_74 ?_
  refine pb_asi (y := 1) (by decide) ?_
  refine pb_dup2_11 (pc := 75) d_Presser_putNumber_75 rfl rfl ?_
  refine pb_bald (pc := 76) d_Presser_putNumber_76 2 rfl (by unfold vp_in; decide) ?_
  refine pb_topi (fun i34 ei34 => ?_)
  refine pb_iload_n (pc := 77) d_Presser_putNumber_77 2 rfl rfl ?_
  refine pb_iload_n (pc := 78) d_Presser_putNumber_78 0 rfl rfl ?_
  refine pb_ishr (pc := 79) d_Presser_putNumber_79 ?_
  refine pb_asi (y := 0) (by decide) ?_
  refine pb_iconst (pc := 80) (v := 1) d_Presser_putNumber_80 (by decide) ?_
  refine pb_iand (pc := 81) d_Presser_putNumber_81 ?_
  refine pb_asi (y := 0) (by decide) ?_
  refine pb_aload_n (pc := 82) d_Presser_putNumber_82 1 rfl rfl ?_
  refine pb_get (pc := 83) d_Presser_putNumber_83 0 6 rfl rfl (by decide) in_Presser k_189 rfl ?_
  refine pb_bipush (pc := 86) (v := 8) d_Presser_putNumber_86 (by decide) ?_
  refine pb_irem (pc := 88) d_Presser_putNumber_88 (by decide) ?_
  refine pb_asi (y := 1) (by decide) ?_
  refine pb_ishl (pc := 89) d_Presser_putNumber_89 ?_
  refine pb_asi (y := 0) (by decide) ?_
  refine pb_i2b (pc := 90) (v := 0) d_Presser_putNumber_90 (by decide) ?_
  refine pb_ior (pc := 91) d_Presser_putNumber_91 ?_
  refine pb_topi (fun i35 ei35 => ?_)
  refine pb_i2b (pc := 92) d_Presser_putNumber_92 rfl ?_
  refine pb_topi (fun i36 ei36 => ?_)
  refine pb_bast (pc := 93) (ws' := [(h, .inr (4, [.ref pp, .ref pl, .ref pe, .ref pr, .int 0, .int 0, .int 9, .int 0, .int 0])), (pp, .inr (0, [.ref pb, .int 2])), (pb, .inl (G.2.1, 4502, .inl (upd (upd (upd (upd (upd (upd (upd (upd f ((0 : Int32).toNatClampNeg) (vp_nar .byte i5)) ((0 : Int32).toNatClampNeg) (vp_nar .byte i10)) ((0 : Int32).toNatClampNeg) (vp_nar .byte i15)) ((0 : Int32).toNatClampNeg) (vp_nar .byte i20)) ((0 : Int32).toNatClampNeg) (vp_nar .byte i25)) ((1 : Int32).toNatClampNeg) (vp_nar .byte 0)) ((1 : Int32).toNatClampNeg) (vp_nar .byte i31)) ((1 : Int32).toNatClampNeg) (vp_nar .byte i36))))]) d_Presser_putNumber_93 2 rfl (by unfold vp_in; decide) rfl ?_
  refine pb_aload_n (pc := 94) d_Presser_putNumber_94 1 rfl rfl ?_
  refine pb_dup (pc := 95) d_Presser_putNumber_95 rfl ?_
  refine pb_get (pc := 96) d_Presser_putNumber_96 0 6 rfl rfl (by decide) in_Presser k_189 rfl ?_
  refine pb_iconst (pc := 99) (v := 1) d_Presser_putNumber_99 (by decide) ?_
  refine pb_iadd (pc := 100) d_Presser_putNumber_100 ?_
  refine pb_asi (y := 10) (by decide) ?_
  refine pb_put (pc := 101) (ty := .int) (ws' := [(h, .inr (4, [.ref pp, .ref pl, .ref pe, .ref pr, .int 0, .int 0, .int 10, .int 0, .int 0])), (pp, .inr (0, [.ref pb, .int 2])), (pb, .inl (G.2.1, 4502, .inl (upd (upd (upd (upd (upd (upd (upd (upd f ((0 : Int32).toNatClampNeg) (vp_nar .byte i5)) ((0 : Int32).toNatClampNeg) (vp_nar .byte i10)) ((0 : Int32).toNatClampNeg) (vp_nar .byte i15)) ((0 : Int32).toNatClampNeg) (vp_nar .byte i20)) ((0 : Int32).toNatClampNeg) (vp_nar .byte i25)) ((1 : Int32).toNatClampNeg) (vp_nar .byte 0)) ((1 : Int32).toNatClampNeg) (vp_nar .byte i31)) ((1 : Int32).toNatClampNeg) (vp_nar .byte i36))))]) d_Presser_putNumber_101 0 6 t_Presser t_Presser_ok n_Presser rfl rfl (by decide) in_Presser k_189 rfl (by decide +kernel) rfl rfl (Nat.le_of_ble_eq_true rfl) rfl ?_
  refine pb_iinc (pc := 104) (v := 7) (lo' := [(3, .int 7), (0, .ref h), (1, .int 0), (2, .int 7)]) d_Presser_putNumber_104 0 rfl (by decide) (by decide) rfl ?_
  refine pb_goto (pc := 107) (tgt := 2) d_Presser_putNumber_107 (by decide) ?_
  refine pb_iload_n (pc := 2) d_Presser_putNumber_2 0 rfl rfl ?_
  refine pb_iload_n (pc := 3) d_Presser_putNumber_3 3 rfl rfl ?_
  refine pb_icmp_ge (pc := 4) (tgt := 110) d_Presser_putNumber_4 (by decide) (fun _ => ?_) (fun h9 => absurd h9 (by decide))
  exact pb_vret (pc := 110) hQ d_Presser_putNumber_110 rfl ((upd (upd (upd (upd (upd (upd (upd (upd f ((0 : Int32).toNatClampNeg) (vp_nar .byte i5)) ((0 : Int32).toNatClampNeg) (vp_nar .byte i10)) ((0 : Int32).toNatClampNeg) (vp_nar .byte i15)) ((0 : Int32).toNatClampNeg) (vp_nar .byte i20)) ((0 : Int32).toNatClampNeg) (vp_nar .byte i25)) ((1 : Int32).toNatClampNeg) (vp_nar .byte 0)) ((1 : Int32).toNatClampNeg) (vp_nar .byte i31)) ((1 : Int32).toNatClampNeg) (vp_nar .byte i36))) ⟨rfl, (by repeat (first | exact sb_fit0 | assumption | refine sb_fitU ?_ (fit_nar _)))⟩ [0, 1, 2] (by decide) rfl rfl (by decide) (by decide)

theorem d_Presser_turned_0 : decode prog_8_method_10_code 0 = .ok (.iconst 0, 1) := by decide +kernel
theorem d_Presser_turned_1 : decode prog_8_method_10_code 1 = .ok (.istore_n 2, 1) := by decide +kernel
theorem d_Presser_turned_2 : decode prog_8_method_10_code 2 = .ok (.iconst 0, 1) := by decide +kernel
theorem d_Presser_turned_3 : decode prog_8_method_10_code 3 = .ok (.istore_n 3, 1) := by decide +kernel
theorem d_Presser_turned_4 : decode prog_8_method_10_code 4 = .ok (.iload_n 3, 1) := by decide +kernel
theorem d_Presser_turned_5 : decode prog_8_method_10_code 5 = .ok (.iload_n 1, 1) := by decide +kernel
theorem d_Presser_turned_6 : decode prog_8_method_10_code 6 = .ok (.if_icmp .ge 19, 3) := by decide +kernel
theorem d_Presser_turned_9 : decode prog_8_method_10_code 9 = .ok (.iconst 2, 1) := by decide +kernel
theorem d_Presser_turned_10 : decode prog_8_method_10_code 10 = .ok (.iload_n 2, 1) := by decide +kernel
theorem d_Presser_turned_11 : decode prog_8_method_10_code 11 = .ok (.imul, 1) := by decide +kernel
theorem d_Presser_turned_12 : decode prog_8_method_10_code 12 = .ok (.iload_n 0, 1) := by decide +kernel
theorem d_Presser_turned_13 : decode prog_8_method_10_code 13 = .ok (.iload_n 3, 1) := by decide +kernel
theorem d_Presser_turned_14 : decode prog_8_method_10_code 14 = .ok (.ishr, 1) := by decide +kernel
theorem d_Presser_turned_15 : decode prog_8_method_10_code 15 = .ok (.iconst 1, 1) := by decide +kernel
theorem d_Presser_turned_16 : decode prog_8_method_10_code 16 = .ok (.iand, 1) := by decide +kernel
theorem d_Presser_turned_17 : decode prog_8_method_10_code 17 = .ok (.iadd, 1) := by decide +kernel
theorem d_Presser_turned_18 : decode prog_8_method_10_code 18 = .ok (.istore_n 2, 1) := by decide +kernel
theorem d_Presser_turned_19 : decode prog_8_method_10_code 19 = .ok (.iinc 3 1, 3) := by decide +kernel
theorem d_Presser_turned_22 : decode prog_8_method_10_code 22 = .ok (.goto (-18), 3) := by decide +kernel
theorem d_Presser_turned_25 : decode prog_8_method_10_code 25 = .ok (.iload_n 2, 1) := by decide +kernel
theorem d_Presser_turned_26 : decode prog_8_method_10_code 26 = .ok (.ireturn, 1) := by decide +kernel
abbrev y_Presser_turned : MethodName := ⟨"PackageBook$Presser", "turned", "(II)I"⟩
abbrev i_Presser_turned : pb_I := (y_Presser_turned, prog_8_method_10_code, 4, (some Jvm.ClassFile.FieldType.int), [], { frames := 0, cells := 0, slots := 0, locals := 0 })
set_option maxRecDepth 100000 in
set_option maxHeartbeats 4000000 in
theorem c_Pr_turned {l : Launch} (hl : l.stackTraces = false) (G : pb_G)  : Cn l G i_Presser_turned [.int 0, .int 7] [] (S := Unit) (fun v u => v = some (.int 0)) (fun u => []) := by
  refine Cn.of hl (by decide +kernel) rfl (Nat.le_of_ble_eq_true rfl) (fun M hQ => ?_)
  refine pb_eq (pc' := 0) (lo' := [(0, .int 0), (1, .int 7)]) (rest' := []) (ws' := []) ?_
  refine pb_iconst (pc := 0) (v := 0) d_Presser_turned_0 (by decide) ?_
  refine pb_istore_n (pc := 1) (lo' := [(2, .int 0), (0, .int 0), (1, .int 7)]) d_Presser_turned_1 rfl (by decide) rfl ?_
  refine pb_iconst (pc := 2) (v := 0) d_Presser_turned_2 (by decide) ?_
  refine pb_istore_n (pc := 3) (lo' := [(3, .int 0), (2, .int 0), (0, .int 0), (1, .int 7)]) d_Presser_turned_3 rfl (by decide) rfl ?_
  refine pb_iload_n (pc := 4) d_Presser_turned_4 0 rfl rfl ?_
  refine pb_iload_n (pc := 5) d_Presser_turned_5 3 rfl rfl ?_
  refine pb_icmp_ge (pc := 6) (tgt := 25) d_Presser_turned_6 (by decide) (fun h9 => absurd h9 (by decide)) (fun _ => ?_)
  refine pb_iconst (pc := 9) (v := 2) d_Presser_turned_9 (by decide) ?_
  refine pb_iload_n (pc := 10) d_Presser_turned_10 1 rfl rfl ?_
  refine pb_imul (pc := 11) d_Presser_turned_11 ?_
  refine pb_asi (y := 0) (by decide) ?_
  refine pb_iload_n (pc := 12) d_Presser_turned_12 2 rfl rfl ?_
  refine pb_iload_n (pc := 13) d_Presser_turned_13 0 rfl rfl ?_
  refine pb_ishr (pc := 14) d_Presser_turned_14 ?_
  refine pb_asi (y := 0) (by decide) ?_
  refine pb_iconst (pc := 15) (v := 1) d_Presser_turned_15 (by decide) ?_
  refine pb_iand (pc := 16) d_Presser_turned_16 ?_
  refine pb_asi (y := 0) (by decide) ?_
  refine pb_iadd (pc := 17) d_Presser_turned_17 ?_
  refine pb_asi (y := 0) (by decide) ?_
  refine pb_istore_n (pc := 18) (lo' := [(2, .int 0), (3, .int 0), (0, .int 0), (1, .int 7)]) d_Presser_turned_18 rfl (by decide) rfl ?_
  refine pb_iinc (pc := 19) (v := 1) (lo' := [(3, .int 1), (2, .int 0), (0, .int 0), (1, .int 7)]) d_Presser_turned_19 1 rfl (by decide) (by decide) rfl ?_
  refine pb_goto (pc := 22) (tgt := 4) d_Presser_turned_22 (by decide) ?_
  refine pb_iload_n (pc := 4) d_Presser_turned_4 0 rfl rfl ?_
  refine pb_iload_n (pc := 5) d_Presser_turned_5 3 rfl rfl ?_
  refine pb_icmp_ge (pc := 6) (tgt := 25) d_Presser_turned_6 (by decide) (fun h9 => absurd h9 (by decide)) (fun _ => ?_)
  refine pb_iconst (pc := 9) (v := 2) d_Presser_turned_9 (by decide) ?_
  refine pb_iload_n (pc := 10) d_Presser_turned_10 1 rfl rfl ?_
  refine pb_imul (pc := 11) d_Presser_turned_11 ?_
  refine pb_asi (y := 0) (by decide) ?_
  refine pb_iload_n (pc := 12) d_Presser_turned_12 2 rfl rfl ?_
  refine pb_iload_n (pc := 13) d_Presser_turned_13 0 rfl rfl ?_
  refine pb_ishr (pc := 14) d_Presser_turned_14 ?_
  refine pb_asi (y := 0) (by decide) ?_
  refine pb_iconst (pc := 15) (v := 1) d_Presser_turned_15 (by decide) ?_
  refine pb_iand (pc := 16) d_Presser_turned_16 ?_
  refine pb_asi (y := 0) (by decide) ?_
  refine pb_iadd (pc := 17) d_Presser_turned_17 ?_
  refine pb_asi (y := 0) (by decide) ?_
  refine pb_istore_n (pc := 18) (lo' := [(2, .int 0), (3, .int 1), (0, .int 0), (1, .int 7)]) d_Presser_turned_18 rfl (by decide) rfl ?_
  refine pb_iinc (pc := 19) (v := 2) (lo' := [(3, .int 2), (2, .int 0), (0, .int 0), (1, .int 7)]) d_Presser_turned_19 1 rfl (by decide) (by decide) rfl ?_
  refine pb_goto (pc := 22) (tgt := 4) d_Presser_turned_22 (by decide) ?_
  refine pb_iload_n (pc := 4) d_Presser_turned_4 0 rfl rfl ?_
  refine pb_iload_n (pc := 5) d_Presser_turned_5 3 rfl rfl ?_
  refine pb_icmp_ge (pc := 6) (tgt := 25) d_Presser_turned_6 (by decide) (fun h9 => absurd h9 (by decide)) (fun _ => ?_)
  refine pb_iconst (pc := 9) (v := 2) d_Presser_turned_9 (by decide) ?_
  refine pb_iload_n (pc := 10) d_Presser_turned_10 1 rfl rfl ?_
  refine pb_imul (pc := 11) d_Presser_turned_11 ?_
  refine pb_asi (y := 0) (by decide) ?_
  refine pb_iload_n (pc := 12) d_Presser_turned_12 2 rfl rfl ?_
  refine pb_iload_n (pc := 13) d_Presser_turned_13 0 rfl rfl ?_
  refine pb_ishr (pc := 14) d_Presser_turned_14 ?_
  refine pb_asi (y := 0) (by decide) ?_
  refine pb_iconst (pc := 15) (v := 1) d_Presser_turned_15 (by decide) ?_
  refine pb_iand (pc := 16) d_Presser_turned_16 ?_
  refine pb_asi (y := 0) (by decide) ?_
  refine pb_iadd (pc := 17) d_Presser_turned_17 ?_
  refine pb_asi (y := 0) (by decide) ?_
  refine pb_istore_n (pc := 18) (lo' := [(2, .int 0), (3, .int 2), (0, .int 0), (1, .int 7)]) d_Presser_turned_18 rfl (by decide) rfl ?_
  refine pb_iinc (pc := 19) (v := 3) (lo' := [(3, .int 3), (2, .int 0), (0, .int 0), (1, .int 7)]) d_Presser_turned_19 1 rfl (by decide) (by decide) rfl ?_
  refine pb_goto (pc := 22) (tgt := 4) d_Presser_turned_22 (by decide) ?_
  refine pb_iload_n (pc := 4) d_Presser_turned_4 0 rfl rfl ?_
  refine pb_iload_n (pc := 5) d_Presser_turned_5 3 rfl rfl ?_
  refine pb_icmp_ge (pc := 6) (tgt := 25) d_Presser_turned_6 (by decide) (fun h9 => absurd h9 (by decide)) (fun _ => ?_)
  refine pb_iconst (pc := 9) (v := 2) d_Presser_turned_9 (by decide) ?_
  refine pb_iload_n (pc := 10) d_Presser_turned_10 1 rfl rfl ?_
  refine pb_imul (pc := 11) d_Presser_turned_11 ?_
  refine pb_asi (y := 0) (by decide) ?_
  refine pb_iload_n (pc := 12) d_Presser_turned_12 2 rfl rfl ?_
  refine pb_iload_n (pc := 13) d_Presser_turned_13 0 rfl rfl ?_
  refine pb_ishr (pc := 14) d_Presser_turned_14 ?_
  refine pb_asi (y := 0) (by decide) ?_
  refine pb_iconst (pc := 15) (v := 1) d_Presser_turned_15 (by decide) ?_
  refine pb_iand (pc := 16) d_Presser_turned_16 ?_
  refine pb_asi (y := 0) (by decide) ?_
  refine pb_iadd (pc := 17) d_Presser_turned_17 ?_
  refine pb_asi (y := 0) (by decide) ?_
  refine pb_istore_n (pc := 18) (lo' := [(2, .int 0), (3, .int 3), (0, .int 0), (1, .int 7)]) d_Presser_turned_18 rfl (by decide) rfl ?_
  refine pb_iinc (pc := 19) (v := 4) (lo' := [(3, .int 4), (2, .int 0), (0, .int 0), (1, .int 7)]) d_Presser_turned_19 1 rfl (by decide) (by decide) rfl ?_
  refine pb_goto (pc := 22) (tgt := 4) d_Presser_turned_22 (by decide) ?_
  refine pb_iload_n (pc := 4) d_Presser_turned_4 0 rfl rfl ?_
  refine pb_iload_n (pc := 5) d_Presser_turned_5 3 rfl rfl ?_
  refine pb_icmp_ge (pc := 6) (tgt := 25) d_Presser_turned_6 (by decide) (fun h9 => absurd h9 (by decide)) (fun _ => ?_)
  refine pb_iconst (pc := 9) (v := 2) d_Presser_turned_9 (by decide) ?_
  refine pb_iload_n (pc := 10) d_Presser_turned_10 1 rfl rfl ?_
  refine pb_imul (pc := 11) d_Presser_turned_11 ?_
  refine pb_asi (y := 0) (by decide) ?_
  refine pb_iload_n (pc := 12) d_Presser_turned_12 2 rfl rfl ?_
  refine pb_iload_n (pc := 13) d_Presser_turned_13 0 rfl rfl ?_
  refine pb_ishr (pc := 14) d_Presser_turned_14 ?_
  refine pb_asi (y := 0) (by decide) ?_
  refine pb_iconst (pc := 15) (v := 1) d_Presser_turned_15 (by decide) ?_
  refine pb_iand (pc := 16) d_Presser_turned_16 ?_
  refine pb_asi (y := 0) (by decide) ?_
  refine pb_iadd (pc := 17) d_Presser_turned_17 ?_
  refine pb_asi (y := 0) (by decide) ?_
  refine pb_istore_n (pc := 18) (lo' := [(2, .int 0), (3, .int 4), (0, .int 0), (1, .int 7)]) d_Presser_turned_18 rfl (by decide) rfl ?_
  refine pb_iinc (pc := 19) (v := 5) (lo' := [(3, .int 5), (2, .int 0), (0, .int 0), (1, .int 7)]) d_Presser_turned_19 1 rfl (by decide) (by decide) rfl ?_
  refine pb_goto (pc := 22) (tgt := 4) d_Presser_turned_22 (by decide) ?_
  refine pb_iload_n (pc := 4) d_Presser_turned_4 0 rfl rfl ?_
  refine pb_iload_n (pc := 5) d_Presser_turned_5 3 rfl rfl ?_
  refine pb_icmp_ge (pc := 6) (tgt := 25) d_Presser_turned_6 (by decide) (fun h9 => absurd h9 (by decide)) (fun _ => ?_)
  refine pb_iconst (pc := 9) (v := 2) d_Presser_turned_9 (by decide) ?_
  refine pb_iload_n (pc := 10) d_Presser_turned_10 1 rfl rfl ?_
  refine pb_imul (pc := 11) d_Presser_turned_11 ?_
  refine pb_asi (y := 0) (by decide) ?_
  refine pb_iload_n (pc := 12) d_Presser_turned_12 2 rfl rfl ?_
  refine pb_iload_n (pc := 13) d_Presser_turned_13 0 rfl rfl ?_
  refine pb_ishr (pc := 14) d_Presser_turned_14 ?_
  refine pb_asi (y := 0) (by decide) ?_
  refine pb_iconst (pc := 15) (v := 1) d_Presser_turned_15 (by decide) ?_
  refine pb_iand (pc := 16) d_Presser_turned_16 ?_
  refine pb_asi (y := 0) (by decide) ?_
  refine pb_iadd (pc := 17) d_Presser_turned_17 ?_
  refine pb_asi (y := 0) (by decide) ?_
  refine pb_istore_n (pc := 18) (lo' := [(2, .int 0), (3, .int 5), (0, .int 0), (1, .int 7)]) d_Presser_turned_18 rfl (by decide) rfl ?_
  refine pb_iinc (pc := 19) (v := 6) (lo' := [(3, .int 6), (2, .int 0), (0, .int 0), (1, .int 7)]) d_Presser_turned_19 1 rfl (by decide) (by decide) rfl ?_
  refine pb_goto (pc := 22) (tgt := 4) d_Presser_turned_22 (by decide) ?_
  refine pb_iload_n (pc := 4) d_Presser_turned_4 0 rfl rfl ?_
  refine pb_iload_n (pc := 5) d_Presser_turned_5 3 rfl rfl ?_
  refine pb_icmp_ge (pc := 6) (tgt := 25) d_Presser_turned_6 (by decide) (fun h9 => absurd h9 (by decide)) (fun _ => ?_)
  refine pb_iconst (pc := 9) (v := 2) d_Presser_turned_9 (by decide) ?_
  refine pb_iload_n (pc := 10) d_Presser_turned_10 1 rfl rfl ?_
  refine pb_imul (pc := 11) d_Presser_turned_11 ?_
  refine pb_asi (y := 0) (by decide) ?_
  refine pb_iload_n (pc := 12) d_Presser_turned_12 2 rfl rfl ?_
  refine pb_iload_n (pc := 13) d_Presser_turned_13 0 rfl rfl ?_
  refine pb_ishr (pc := 14) d_Presser_turned_14 ?_
  refine pb_asi (y := 0) (by decide) ?_
  refine pb_iconst (pc := 15) (v := 1) d_Presser_turned_15 (by decide) ?_
  refine pb_iand (pc := 16) d_Presser_turned_16 ?_
  refine pb_asi (y := 0) (by decide) ?_
  refine pb_iadd (pc := 17) d_Presser_turned_17 ?_
  refine pb_asi (y := 0) (by decide) ?_
  refine pb_istore_n (pc := 18) (lo' := [(2, .int 0), (3, .int 6), (0, .int 0), (1, .int 7)]) d_Presser_turned_18 rfl (by decide) rfl ?_
  refine pb_iinc (pc := 19) (v := 7) (lo' := [(3, .int 7), (2, .int 0), (0, .int 0), (1, .int 7)]) d_Presser_turned_19 1 rfl (by decide) (by decide) rfl ?_
  refine pb_goto (pc := 22) (tgt := 4) d_Presser_turned_22 (by decide) ?_
  refine pb_iload_n (pc := 4) d_Presser_turned_4 0 rfl rfl ?_
  refine pb_iload_n (pc := 5) d_Presser_turned_5 3 rfl rfl ?_
  refine pb_icmp_ge (pc := 6) (tgt := 25) d_Presser_turned_6 (by decide) (fun _ => ?_) (fun h9 => absurd h9 (by decide))
  refine pb_iload_n (pc := 25) d_Presser_turned_25 1 rfl rfl ?_
  exact pb_iret (pc := 26) hQ d_Presser_turned_26 rfl rfl () rfl [] (by decide) rfl rfl (by decide) (by decide)

theorem d_Presser_putSymbol_0 : decode prog_8_method_9_code 0 = .ok (.iload_n 1, 1) := by decide +kernel
theorem d_Presser_putSymbol_1 : decode prog_8_method_9_code 1 = .ok (.sipush 144, 3) := by decide +kernel
theorem d_Presser_putSymbol_4 : decode prog_8_method_9_code 4 = .ok (.if_icmp .ge 21, 3) := by decide +kernel
theorem d_Presser_putSymbol_25 : decode prog_8_method_9_code 25 = .ok (.iload_n 1, 1) := by decide +kernel
theorem d_Presser_putSymbol_26 : decode prog_8_method_9_code 26 = .ok (.sipush 256, 3) := by decide +kernel
theorem d_Presser_putSymbol_29 : decode prog_8_method_9_code 29 = .ok (.if_icmp .ge 26, 3) := by decide +kernel
theorem d_Presser_putSymbol_55 : decode prog_8_method_9_code 55 = .ok (.iload_n 1, 1) := by decide +kernel
theorem d_Presser_putSymbol_56 : decode prog_8_method_9_code 56 = .ok (.sipush 280, 3) := by decide +kernel
theorem d_Presser_putSymbol_59 : decode prog_8_method_9_code 59 = .ok (.if_icmp .ge 22, 3) := by decide +kernel
theorem d_Presser_putSymbol_62 : decode prog_8_method_9_code 62 = .ok (.aload_n 0, 1) := by decide +kernel
theorem d_Presser_putSymbol_63 : decode prog_8_method_9_code 63 = .ok (.iload_n 1, 1) := by decide +kernel
theorem d_Presser_putSymbol_64 : decode prog_8_method_9_code 64 = .ok (.sipush 256, 3) := by decide +kernel
theorem d_Presser_putSymbol_67 : decode prog_8_method_9_code 67 = .ok (.isub, 1) := by decide +kernel
theorem d_Presser_putSymbol_68 : decode prog_8_method_9_code 68 = .ok (.bipush 7, 2) := by decide +kernel
theorem d_Presser_putSymbol_70 : decode prog_8_method_9_code 70 = .ok (.invokestatic 87, 3) := by decide +kernel
theorem k_528 : (Jvm.Cond.methodLink "PackageBook$Presser" (87 : Nat) ({ cls := "PackageBook$Presser", name := "turned", desc := "(II)I" } : Jvm.MethodName)) ∈ uW := uW_of 528 (by decide +kernel) (by decide +kernel)
theorem k_530 : (Jvm.Cond.code ({ cls := "PackageBook$Presser", name := "turned", desc := "(II)I" } : Jvm.MethodName) prog_8_method_10_code (4 : Nat) (Option.some Jvm.ClassFile.FieldType.int)) ∈ uW := uW_of 530 (by decide +kernel) (by decide +kernel)
theorem k_529 : (Jvm.Cond.static ({ cls := "PackageBook$Presser", name := "turned", desc := "(II)I" } : Jvm.MethodName)) ∈ uW := uW_of 529 (by decide +kernel) (by decide +kernel)
theorem d_Presser_putSymbol_73 : decode prog_8_method_9_code 73 = .ok (.bipush 7, 2) := by decide +kernel
theorem d_Presser_putSymbol_75 : decode prog_8_method_9_code 75 = .ok (.invokevirtual 48, 3) := by decide +kernel
theorem k_505 : (Jvm.Cond.methodLink "PackageBook$Presser" (48 : Nat) ({ cls := "PackageBook$Presser", name := "putNumber", desc := "(II)V" } : Jvm.MethodName)) ∈ uW := uW_of 505 (by decide +kernel) (by decide +kernel)
theorem k_508 : (Jvm.Cond.code ({ cls := "PackageBook$Presser", name := "putNumber", desc := "(II)V" } : Jvm.MethodName) prog_8_method_11_code (4 : Nat) (Option.none : Option Jvm.ClassFile.FieldType)) ∈ uW := uW_of 508 (by decide +kernel) (by decide +kernel)
theorem k_507 : (Jvm.Cond.instanceMethod ({ cls := "PackageBook$Presser", name := "putNumber", desc := "(II)V" } : Jvm.MethodName)) ∈ uW := uW_of 507 (by decide +kernel) (by decide +kernel)
theorem k_2 : Cond.selects "PackageBook$Presser" ⟨"PackageBook$Presser", "putNumber", "(II)V"⟩ ⟨"PackageBook$Presser", "putNumber", "(II)V"⟩ ∈ uW := uW_of 2 (by decide +kernel) (by decide +kernel)
theorem d_Presser_putSymbol_78 : decode prog_8_method_9_code 78 = .ok (.goto 23, 3) := by decide +kernel
theorem d_Presser_putSymbol_101 : decode prog_8_method_9_code 101 = .ok (.return_, 1) := by decide +kernel
abbrev y_Presser_putSymbol : MethodName := ⟨"PackageBook$Presser", "putSymbol", "(I)V"⟩
abbrev i_Presser_putSymbol : pb_I := (y_Presser_putSymbol, prog_8_method_9_code, 2, (Option.none : Option Jvm.ClassFile.FieldType), [], { frames := 1, cells := 0, slots := 0, locals := 23 })
set_option maxRecDepth 100000 in
set_option maxHeartbeats 4000000 in
theorem c_Pr_sym {l : Launch} (hl : l.stackTraces = false) (G : pb_G) (h : Nat) (pp : Nat) (pl : Nat) (pe : Nat) (pr : Nat) (pb : Nat) (f : Nat → Int32) (h9 : sb_Fit f) : Cn l G i_Presser_putSymbol [.ref h, .int 256] [(h, .inr (4, [.ref pp, .ref pl, .ref pe, .ref pr, .int 0, .int 0, .int 3, .int 0, .int 0])), (pp, .inr (0, [.ref pb, .int 1])), (pb, .inl (G.2.1, 4502, .inl f))] (S := (Nat → Int32)) (fun v u => v = none ∧ (sb_Fit u)) (fun u => [(h, .inr (4, [.ref pp, .ref pl, .ref pe, .ref pr, .int 0, .int 0, .int 10, .int 0, .int 0])), (pp, .inr (0, [.ref pb, .int 2])), (pb, .inl (G.2.1, 4502, .inl u))]) := by
  refine Cn.of hl (by decide +kernel) rfl (Nat.le_of_ble_eq_true rfl) (fun M hQ => ?_)
  refine pb_eq (pc' := 0) (lo' := [(0, .ref h), (1, .int 256)]) (rest' := []) (ws' := [(h, .inr (4, [.ref pp, .ref pl, .ref pe, .ref pr, .int 0, .int 0, .int 3, .int 0, .int 0])), (pp, .inr (0, [.ref pb, .int 1])), (pb, .inl (G.2.1, 4502, .inl f))]) ?_
  refine pb_iload_n (pc := 0) d_Presser_putSymbol_0 1 rfl rfl ?_
  refine pb_sipush (pc := 1) (v := 144) d_Presser_putSymbol_1 (by decide) ?_
  refine pb_icmp_ge (pc := 4) (tgt := 25) d_Presser_putSymbol_4 (by decide) (fun _ => ?_) (fun h9 => absurd h9 (by decide))
  refine pb_iload_n (pc := 25) d_Presser_putSymbol_25 1 rfl rfl ?_
  refine pb_sipush (pc := 26) (v := 256) d_Presser_putSymbol_26 (by decide) ?_
  refine pb_icmp_ge (pc := 29) (tgt := 55) d_Presser_putSymbol_29 (by decide) (fun _ => ?_) (fun h9 => absurd h9 (by decide))
  refine pb_iload_n (pc := 55) d_Presser_putSymbol_55 1 rfl rfl ?_
  refine pb_sipush (pc := 56) (v := 280) d_Presser_putSymbol_56 (by decide) ?_
  refine pb_icmp_ge (pc := 59) (tgt := 81) d_Presser_putSymbol_59 (by decide) (fun h9 => absurd h9 (by decide)) (fun _ => ?_)
  refine pb_aload_n (pc := 62) d_Presser_putSymbol_62 0 rfl rfl ?_
  refine pb_iload_n (pc := 63) d_Presser_putSymbol_63 1 rfl rfl ?_
  refine pb_sipush (pc := 64) (v := 256) d_Presser_putSymbol_64 (by decide) ?_
  refine pb_isub (pc := 67) d_Presser_putSymbol_67 ?_
  refine pb_asi (y := 0) (by decide) ?_
  refine pb_bipush (pc := 68) (v := 7) d_Presser_putSymbol_68 (by decide) ?_
  refine pb_callS (pc := 70) (nA := 2) (rest := [.ref h]) (wr := [(h, .inr (4, [.ref pp, .ref pl, .ref pe, .ref pr, .int 0, .int 0, .int 3, .int 0, .int 0])), (pp, .inr (0, [.ref pb, .int 1])), (pb, .inl (G.2.1, 4502, .inl f))]) d_Presser_putSymbol_70 (c_Pr_turned hl G ) [] [0, 1, 2] (by decide) rfl rfl rfl (by decide) (by decide) k_530 rfl k_120 k_528 k_529 (by decide +kernel) (by decide) rfl rfl (Nat.le_of_ble_eq_true rfl) (by decide) (fun v9 u5 h4 => ?_)
  have eh4 := h4
  have eh4 : v9 = some (.int 0) := eh4
  subst eh4
  refine pb_eq (pc' := 73) (lo' := [(0, .ref h), (1, .int 256)]) (rest' := [.int 0, .ref h]) (ws' := [(h, .inr (4, [.ref pp, .ref pl, .ref pe, .ref pr, .int 0, .int 0, .int 3, .int 0, .int 0])), (pp, .inr (0, [.ref pb, .int 1])), (pb, .inl (G.2.1, 4502, .inl f))]) ?_
  refine pb_bipush (pc := 73) (v := 7) d_Presser_putSymbol_73 (by decide) ?_
  refine pb_callV (pc := 75) (qb := 0) (ci := 4) (nA := 2) (rest := []) (wr := []) d_Presser_putSymbol_75 (c_Pr_num7 hl G h pp pl pe pr pb f (by assumption)) rfl rfl [0, 1, 2] [] (by decide) rfl rfl rfl (by decide) (by decide) k_508 rfl k_120 k_505 k_507 k_2 (by decide +kernel) (by decide) rfl rfl (Nat.le_of_ble_eq_true rfl) (by decide) (fun v9 u7 h6 => ?_)
  obtain ⟨f_8, rfl⟩ : ∃ z9, z9 = u7 := ⟨_, rfl⟩
  obtain ⟨eh6, h6⟩ := h6
  have eh6 : v9 = none := eh6
  subst eh6
  have h9 : sb_Fit f_8 := h6
  refine pb_eq (pc' := 78) (lo' := [(0, .ref h), (1, .int 256)]) (rest' := []) (ws' := [(h, .inr (4, [.ref pp, .ref pl, .ref pe, .ref pr, .int 0, .int 0, .int 10, .int 0, .int 0])), (pp, .inr (0, [.ref pb, .int 2])), (pb, .inl (G.2.1, 4502, .inl f_8))]) ?_
  refine pb_goto (pc := 78) (tgt := 101) d_Presser_putSymbol_78 (by decide) ?_
  exact pb_vret (pc := 101) hQ d_Presser_putSymbol_101 rfl (f_8) ⟨rfl, (by assumption)⟩ [0, 1, 2] (by decide) rfl rfl (by decide) (by decide)

theorem d_Presser_run_0 : decode prog_8_method_2_code 0 = .ok (.aload_n 0, 1) := by decide +kernel
theorem d_Presser_run_1 : decode prog_8_method_2_code 1 = .ok (.aload_n 1, 1) := by decide +kernel
theorem d_Presser_run_2 : decode prog_8_method_2_code 2 = .ok (.putfield 27, 3) := by decide +kernel
theorem d_Presser_run_5 : decode prog_8_method_2_code 5 = .ok (.aload_n 0, 1) := by decide +kernel
theorem d_Presser_run_6 : decode prog_8_method_2_code 6 = .ok (.iload_n 2, 1) := by decide +kernel
theorem d_Presser_run_7 : decode prog_8_method_2_code 7 = .ok (.putfield 31, 3) := by decide +kernel
theorem k_187 : (Jvm.Cond.fieldLink "PackageBook$Presser" (31 : Nat) "PackageBook$Presser" "begin" "I") ∈ uW := uW_of 187 (by decide +kernel) (by decide +kernel)
theorem d_Presser_run_10 : decode prog_8_method_2_code 10 = .ok (.aload_n 0, 1) := by decide +kernel
theorem d_Presser_run_11 : decode prog_8_method_2_code 11 = .ok (.iload_n 3, 1) := by decide +kernel
theorem d_Presser_run_12 : decode prog_8_method_2_code 12 = .ok (.putfield 35, 3) := by decide +kernel
theorem k_188 : (Jvm.Cond.fieldLink "PackageBook$Presser" (35 : Nat) "PackageBook$Presser" "size" "I") ∈ uW := uW_of 188 (by decide +kernel) (by decide +kernel)
theorem d_Presser_run_15 : decode prog_8_method_2_code 15 = .ok (.aload_n 0, 1) := by decide +kernel
theorem d_Presser_run_16 : decode prog_8_method_2_code 16 = .ok (.getfield 14, 3) := by decide +kernel
theorem d_Presser_run_19 : decode prog_8_method_2_code 19 = .ok (.iconst 0, 1) := by decide +kernel
theorem d_Presser_run_20 : decode prog_8_method_2_code 20 = .ok (.putfield 38, 3) := by decide +kernel
theorem d_Presser_run_23 : decode prog_8_method_2_code 23 = .ok (.aload_n 0, 1) := by decide +kernel
theorem d_Presser_run_24 : decode prog_8_method_2_code 24 = .ok (.iconst 0, 1) := by decide +kernel
theorem d_Presser_run_25 : decode prog_8_method_2_code 25 = .ok (.putfield 39, 3) := by decide +kernel
theorem d_Presser_run_28 : decode prog_8_method_2_code 28 = .ok (.aload_n 0, 1) := by decide +kernel
theorem d_Presser_run_29 : decode prog_8_method_2_code 29 = .ok (.getfield 20, 3) := by decide +kernel
theorem d_Presser_run_32 : decode prog_8_method_2_code 32 = .ok (.iconst (-1), 1) := by decide +kernel
theorem d_Presser_run_33 : decode prog_8_method_2_code 33 = .ok (.invokestatic 42, 3) := by decide +kernel
theorem k_502 : (Jvm.Cond.methodLink "PackageBook$Presser" (42 : Nat) ({ cls := "java/util/Arrays", name := "fill", desc := "([II)V" } : Jvm.MethodName)) ∈ uW := uW_of 502 (by decide +kernel) (by decide +kernel)
theorem k_136 : (Jvm.Cond.initialized "java/util/Arrays") ∈ uW := uW_of 136 (by decide +kernel) (by decide +kernel)
theorem k_504 : (Jvm.Cond.code ({ cls := "java/util/Arrays", name := "fill", desc := "([II)V" } : Jvm.MethodName) prog_24_method_103_code (4 : Nat) (Option.none : Option Jvm.ClassFile.FieldType)) ∈ uW := uW_of 504 (by decide +kernel) (by decide +kernel)
theorem k_503 : (Jvm.Cond.static ({ cls := "java/util/Arrays", name := "fill", desc := "([II)V" } : Jvm.MethodName)) ∈ uW := uW_of 503 (by decide +kernel) (by decide +kernel)
theorem d_Presser_run_36 : decode prog_8_method_2_code 36 = .ok (.aload_n 0, 1) := by decide +kernel
theorem d_Presser_run_37 : decode prog_8_method_2_code 37 = .ok (.iconst 1, 1) := by decide +kernel
theorem d_Presser_run_38 : decode prog_8_method_2_code 38 = .ok (.iconst 1, 1) := by decide +kernel
theorem d_Presser_run_39 : decode prog_8_method_2_code 39 = .ok (.invokevirtual 48, 3) := by decide +kernel
theorem d_Presser_run_42 : decode prog_8_method_2_code 42 = .ok (.aload_n 0, 1) := by decide +kernel
theorem d_Presser_run_43 : decode prog_8_method_2_code 43 = .ok (.iconst 1, 1) := by decide +kernel
theorem d_Presser_run_44 : decode prog_8_method_2_code 44 = .ok (.iconst 2, 1) := by decide +kernel
theorem d_Presser_run_45 : decode prog_8_method_2_code 45 = .ok (.invokevirtual 48, 3) := by decide +kernel
theorem d_Presser_run_48 : decode prog_8_method_2_code 48 = .ok (.iconst 0, 1) := by decide +kernel
theorem d_Presser_run_49 : decode prog_8_method_2_code 49 = .ok (.istore 4, 2) := by decide +kernel
theorem d_Presser_run_51 : decode prog_8_method_2_code 51 = .ok (.iconst 0, 1) := by decide +kernel
theorem d_Presser_run_52 : decode prog_8_method_2_code 52 = .ok (.istore 5, 2) := by decide +kernel
theorem d_Presser_run_54 : decode prog_8_method_2_code 54 = .ok (.iload 5, 2) := by decide +kernel
theorem d_Presser_run_56 : decode prog_8_method_2_code 56 = .ok (.aload_n 0, 1) := by decide +kernel
theorem d_Presser_run_57 : decode prog_8_method_2_code 57 = .ok (.getfield 35, 3) := by decide +kernel
theorem d_Presser_run_60 : decode prog_8_method_2_code 60 = .ok (.if_icmp .ge 76, 3) := by decide +kernel
theorem d_Presser_run_136 : decode prog_8_method_2_code 136 = .ok (.aload_n 0, 1) := by decide +kernel
theorem d_Presser_run_137 : decode prog_8_method_2_code 137 = .ok (.sipush 256, 3) := by decide +kernel
theorem d_Presser_run_140 : decode prog_8_method_2_code 140 = .ok (.invokevirtual 58, 3) := by decide +kernel
theorem k_524 : (Jvm.Cond.methodLink "PackageBook$Presser" (58 : Nat) ({ cls := "PackageBook$Presser", name := "putSymbol", desc := "(I)V" } : Jvm.MethodName)) ∈ uW := uW_of 524 (by decide +kernel) (by decide +kernel)
theorem k_527 : (Jvm.Cond.code ({ cls := "PackageBook$Presser", name := "putSymbol", desc := "(I)V" } : Jvm.MethodName) prog_8_method_9_code (2 : Nat) (Option.none : Option Jvm.ClassFile.FieldType)) ∈ uW := uW_of 527 (by decide +kernel) (by decide +kernel)
theorem k_526 : (Jvm.Cond.instanceMethod ({ cls := "PackageBook$Presser", name := "putSymbol", desc := "(I)V" } : Jvm.MethodName)) ∈ uW := uW_of 526 (by decide +kernel) (by decide +kernel)
theorem k_6 : Cond.selects "PackageBook$Presser" ⟨"PackageBook$Presser", "putSymbol", "(I)V"⟩ ⟨"PackageBook$Presser", "putSymbol", "(I)V"⟩ ∈ uW := uW_of 6 (by decide +kernel) (by decide +kernel)
theorem d_Presser_run_143 : decode prog_8_method_2_code 143 = .ok (.return_, 1) := by decide +kernel
abbrev y_Presser_run : MethodName := ⟨"PackageBook$Presser", "run", "([BII)V"⟩
abbrev i_Presser_run : pb_I := (y_Presser_run, prog_8_method_2_code, 6, (Option.none : Option Jvm.ClassFile.FieldType), [], { frames := 2, cells := 0, slots := 0, locals := 44 })
set_option maxRecDepth 100000 in
set_option maxHeartbeats 4000000 in
theorem c_Pr_run0 {l : Launch} (hl : l.stackTraces = false) (G : pb_G) (h : Nat) (pp : Nat) (pl : Nat) (pe : Nat) (pr : Nat) (pb : Nat) (f : Nat → Int32) (b : Nat) (fl : Nat → Int32) (ps : Int32) (h9 : sb_Fit f) : Cn l G i_Presser_run [.ref h, .ref b, .int 0, .int 0] [(h, .inr (4, [.ref pp, .ref pl, .ref pe, .ref pr, .int 0, .int 0, .int 0, .int 0, .int 0])), (pp, .inr (0, [.ref pb, .int ps])), (pb, .inl (G.2.1, 4502, .inl f)), (pl, .inl (G.2.2.1, 1024, .inl fl))] (S := (Nat → Int32)) (fun v u => v = none ∧ (sb_Fit u)) (fun u => [(h, .inr (4, [.ref pp, .ref pl, .ref pe, .ref b, .int 0, .int 0, .int 10, .int 0, .int 0])), (pp, .inr (0, [.ref pb, .int 2])), (pb, .inl (G.2.1, 4502, .inl u))]) := by
  refine Cn.of hl (by decide +kernel) rfl (Nat.le_of_ble_eq_true rfl) (fun M hQ => ?_)
  refine pb_eq (pc' := 0) (lo' := [(0, .ref h), (1, .ref b), (2, .int 0), (3, .int 0)]) (rest' := []) (ws' := [(h, .inr (4, [.ref pp, .ref pl, .ref pe, .ref pr, .int 0, .int 0, .int 0, .int 0, .int 0])), (pp, .inr (0, [.ref pb, .int ps])), (pb, .inl (G.2.1, 4502, .inl f)), (pl, .inl (G.2.2.1, 1024, .inl fl))]) ?_
  refine pb_aload_n (pc := 0) d_Presser_run_0 0 rfl rfl ?_
  refine pb_aload_n (pc := 1) d_Presser_run_1 1 rfl rfl ?_
  refine pb_put (pc := 2) (ty := (.array .byte)) (ws' := [(h, .inr (4, [.ref pp, .ref pl, .ref pe, .ref b, .int 0, .int 0, .int 0, .int 0, .int 0])), (pp, .inr (0, [.ref pb, .int ps])), (pb, .inl (G.2.1, 4502, .inl f)), (pl, .inl (G.2.2.1, 1024, .inl fl))]) d_Presser_run_2 0 3 t_Presser t_Presser_ok n_Presser rfl rfl (by decide) in_Presser k_186 rfl (by decide +kernel) rfl rfl (Nat.le_of_ble_eq_true rfl) rfl ?_
  refine pb_aload_n (pc := 5) d_Presser_run_5 0 rfl rfl ?_
  refine pb_iload_n (pc := 6) d_Presser_run_6 2 rfl rfl ?_
  refine pb_put (pc := 7) (ty := .int) (ws' := [(h, .inr (4, [.ref pp, .ref pl, .ref pe, .ref b, .int 0, .int 0, .int 0, .int 0, .int 0])), (pp, .inr (0, [.ref pb, .int ps])), (pb, .inl (G.2.1, 4502, .inl f)), (pl, .inl (G.2.2.1, 1024, .inl fl))]) d_Presser_run_7 0 4 t_Presser t_Presser_ok n_Presser rfl rfl (by decide) in_Presser k_187 rfl (by decide +kernel) rfl rfl (Nat.le_of_ble_eq_true rfl) rfl ?_
  refine pb_aload_n (pc := 10) d_Presser_run_10 0 rfl rfl ?_
  refine pb_iload_n (pc := 11) d_Presser_run_11 3 rfl rfl ?_
  refine pb_put (pc := 12) (ty := .int) (ws' := [(h, .inr (4, [.ref pp, .ref pl, .ref pe, .ref b, .int 0, .int 0, .int 0, .int 0, .int 0])), (pp, .inr (0, [.ref pb, .int ps])), (pb, .inl (G.2.1, 4502, .inl f)), (pl, .inl (G.2.2.1, 1024, .inl fl))]) d_Presser_run_12 0 5 t_Presser t_Presser_ok n_Presser rfl rfl (by decide) in_Presser k_188 rfl (by decide +kernel) rfl rfl (Nat.le_of_ble_eq_true rfl) rfl ?_
  refine pb_aload_n (pc := 15) d_Presser_run_15 0 rfl rfl ?_
  refine pb_get (pc := 16) d_Presser_run_16 0 0 rfl rfl (by decide) in_Presser k_181 rfl ?_
  refine pb_iconst (pc := 19) (v := 0) d_Presser_run_19 (by decide) ?_
  refine pb_putN (pc := 20) (ty := .int) (ws' := [(h, .inr (4, [.ref pp, .ref pl, .ref pe, .ref b, .int 0, .int 0, .int 0, .int 0, .int 0])), (pp, .inr (0, [.ref pb, .int 0])), (pb, .inl (G.2.1, 4502, .inl f)), (pl, .inl (G.2.2.1, 1024, .inl fl))]) d_Presser_run_20 1 1 t_Row t_Row_ok n_Row rfl rfl (by decide) in_Row k_164 rfl (by decide +kernel) rfl rfl (Nat.le_of_ble_eq_true rfl) rfl ?_
  refine pb_aload_n (pc := 23) d_Presser_run_23 0 rfl rfl ?_
  refine pb_iconst (pc := 24) (v := 0) d_Presser_run_24 (by decide) ?_
  refine pb_put (pc := 25) (ty := .int) (ws' := [(h, .inr (4, [.ref pp, .ref pl, .ref pe, .ref b, .int 0, .int 0, .int 0, .int 0, .int 0])), (pp, .inr (0, [.ref pb, .int 0])), (pb, .inl (G.2.1, 4502, .inl f)), (pl, .inl (G.2.2.1, 1024, .inl fl))]) d_Presser_run_25 0 6 t_Presser t_Presser_ok n_Presser rfl rfl (by decide) in_Presser k_189 rfl (by decide +kernel) rfl rfl (Nat.le_of_ble_eq_true rfl) rfl ?_
  refine pb_aload_n (pc := 28) d_Presser_run_28 0 rfl rfl ?_
  refine pb_get (pc := 29) d_Presser_run_29 0 1 rfl rfl (by decide) in_Presser k_184 rfl ?_
  refine pb_iconst (pc := 32) (v := (-1)) d_Presser_run_32 (by decide) ?_
  refine pb_callS (pc := 33) (nA := 2) (rest := []) (wr := [(h, .inr (4, [.ref pp, .ref pl, .ref pe, .ref b, .int 0, .int 0, .int 0, .int 0, .int 0])), (pp, .inr (0, [.ref pb, .int 0])), (pb, .inl (G.2.1, 4502, .inl f))]) d_Presser_run_33 (c_fill hl G pl 1024 fl (-1) (by first | assumption | omega)) [3] [0, 1, 2] (by decide) rfl rfl rfl (by decide) (by decide) k_504 rfl k_136 k_502 k_503 (by decide +kernel) (by decide) rfl rfl (Nat.le_of_ble_eq_true rfl) (by decide) (fun v9 u2 h1 => ?_)
  obtain ⟨f_3, rfl⟩ : ∃ z9, z9 = u2 := ⟨_, rfl⟩
  have eh1 := h1
  have eh1 : v9 = none := eh1
  subst eh1
  refine pb_eq (pc' := 36) (lo' := [(0, .ref h), (1, .ref b), (2, .int 0), (3, .int 0)]) (rest' := []) (ws' := [(h, .inr (4, [.ref pp, .ref pl, .ref pe, .ref b, .int 0, .int 0, .int 0, .int 0, .int 0])), (pp, .inr (0, [.ref pb, .int 0])), (pb, .inl (G.2.1, 4502, .inl f)), (pl, .inl (G.2.2.1, 1024, .inl f_3))]) ?_
  refine pb_aload_n (pc := 36) d_Presser_run_36 0 rfl rfl ?_
  refine pb_iconst (pc := 37) (v := 1) d_Presser_run_37 (by decide) ?_
  refine pb_iconst (pc := 38) (v := 1) d_Presser_run_38 (by decide) ?_
  refine pb_callV (pc := 39) (qb := 0) (ci := 4) (nA := 2) (rest := []) (wr := [(pl, .inl (G.2.2.1, 1024, .inl f_3))]) d_Presser_run_39 (c_Pr_num1 hl G h pp pl pe b pb f (by first | assumption | omega)) rfl rfl [0, 1, 2] [3] (by decide) rfl rfl rfl (by decide) (by decide) k_508 rfl k_120 k_505 k_507 k_2 (by decide +kernel) (by decide) rfl rfl (Nat.le_of_ble_eq_true rfl) (by decide) (fun v9 u5 h4 => ?_)
  obtain ⟨f_6, rfl⟩ : ∃ z9, z9 = u5 := ⟨_, rfl⟩
  obtain ⟨eh4, h4⟩ := h4
  have eh4 : v9 = none := eh4
  subst eh4
  have h7 : sb_Fit f_6 := h4
  refine pb_eq (pc' := 42) (lo' := [(0, .ref h), (1, .ref b), (2, .int 0), (3, .int 0)]) (rest' := []) (ws' := [(pl, .inl (G.2.2.1, 1024, .inl f_3)), (h, .inr (4, [.ref pp, .ref pl, .ref pe, .ref b, .int 0, .int 0, .int 1, .int 0, .int 0])), (pp, .inr (0, [.ref pb, .int 1])), (pb, .inl (G.2.1, 4502, .inl f_6))]) ?_
  refine pb_aload_n (pc := 42) d_Presser_run_42 0 rfl rfl ?_
  refine pb_iconst (pc := 43) (v := 1) d_Presser_run_43 (by decide) ?_
  refine pb_iconst (pc := 44) (v := 2) d_Presser_run_44 (by decide) ?_
  refine pb_callV (pc := 45) (qb := 1) (ci := 4) (nA := 2) (rest := []) (wr := [(pl, .inl (G.2.2.1, 1024, .inl f_3))]) d_Presser_run_45 (c_Pr_num2 hl G h pp pl pe b pb f_6 (by first | assumption | omega)) rfl rfl [1, 2, 3] [0] (by decide) rfl rfl rfl (by decide) (by decide) k_508 rfl k_120 k_505 k_507 k_2 (by decide +kernel) (by decide) rfl rfl (Nat.le_of_ble_eq_true rfl) (by decide) (fun v9 u9 h8 => ?_)
  obtain ⟨f_10, rfl⟩ : ∃ z9, z9 = u9 := ⟨_, rfl⟩
  obtain ⟨eh8, h8⟩ := h8
  have eh8 : v9 = none := eh8
  subst eh8
  have h11 : sb_Fit f_10 := h8
  refine pb_eq (pc' := 48) (lo' := [(0, .ref h), (1, .ref b), (2, .int 0), (3, .int 0)]) (rest' := []) (ws' := [(pl, .inl (G.2.2.1, 1024, .inl f_3)), (h, .inr (4, [.ref pp, .ref pl, .ref pe, .ref b, .int 0, .int 0, .int 3, .int 0, .int 0])), (pp, .inr (0, [.ref pb, .int 1])), (pb, .inl (G.2.1, 4502, .inl f_10))]) ?_
  refine pb_iconst (pc := 48) (v := 0) d_Presser_run_48 (by decide) ?_
  refine pb_istore (pc := 49) (lo' := [(4, .int 0), (0, .ref h), (1, .ref b), (2, .int 0), (3, .int 0)]) d_Presser_run_49 (by decide) rfl ?_
  refine pb_iconst (pc := 51) (v := 0) d_Presser_run_51 (by decide) ?_
  refine pb_istore (pc := 52) (lo' := [(5, .int 0), (4, .int 0), (0, .ref h), (1, .ref b), (2, .int 0), (3, .int 0)]) d_Presser_run_52 (by decide) rfl ?_
  refine pb_iload (pc := 54) d_Presser_run_54 0 rfl ?_
  refine pb_aload_n (pc := 56) d_Presser_run_56 2 rfl rfl ?_
  refine pb_get (pc := 57) d_Presser_run_57 1 5 rfl rfl (by decide) in_Presser k_188 rfl ?_
  refine pb_icmp_ge (pc := 60) (tgt := 136) d_Presser_run_60 (by decide) (fun _ => ?_) (fun h9 => absurd h9 (by decide))
  refine pb_aload_n (pc := 136) d_Presser_run_136 2 rfl rfl ?_
  refine pb_sipush (pc := 137) (v := 256) d_Presser_run_137 (by decide) ?_
  refine pb_callV (pc := 140) (qb := 1) (ci := 4) (nA := 1) (rest := []) (wr := [(pl, .inl (G.2.2.1, 1024, .inl f_3))]) d_Presser_run_140 (c_Pr_sym hl G h pp pl pe b pb f_10 (by first | assumption | omega)) rfl rfl [1, 2, 3] [0] (by decide) rfl rfl rfl (by decide) (by decide) k_527 rfl k_120 k_524 k_526 k_6 (by decide +kernel) (by decide) rfl rfl (Nat.le_of_ble_eq_true rfl) (by decide) (fun v9 u14 h13 => ?_)
  obtain ⟨f_15, rfl⟩ : ∃ z9, z9 = u14 := ⟨_, rfl⟩
  obtain ⟨eh13, h13⟩ := h13
  have eh13 : v9 = none := eh13
  subst eh13
  have h16 : sb_Fit f_15 := h13
  refine pb_eq (pc' := 143) (lo' := [(5, .int 0), (4, .int 0), (0, .ref h), (1, .ref b), (2, .int 0), (3, .int 0)]) (rest' := []) (ws' := [(pl, .inl (G.2.2.1, 1024, .inl f_3)), (h, .inr (4, [.ref pp, .ref pl, .ref pe, .ref b, .int 0, .int 0, .int 10, .int 0, .int 0])), (pp, .inr (0, [.ref pb, .int 2])), (pb, .inl (G.2.1, 4502, .inl f_15))]) ?_
  exact pb_vret (pc := 143) hQ d_Presser_run_143 rfl (f_15) ⟨rfl, (by assumption)⟩ [1, 2, 3] (by decide) rfl rfl (by decide) (by decide)

theorem d_Row_putBytes_0 : decode prog_9_method_5_code 0 = .ok (.iload_n 3, 1) := by decide +kernel
theorem d_Row_putBytes_1 : decode prog_9_method_5_code 1 = .ok (.aload_n 0, 1) := by decide +kernel
theorem d_Row_putBytes_2 : decode prog_9_method_5_code 2 = .ok (.getfield 7, 3) := by decide +kernel
theorem d_Row_putBytes_5 : decode prog_9_method_5_code 5 = .ok (.arraylength, 1) := by decide +kernel
theorem d_Row_putBytes_6 : decode prog_9_method_5_code 6 = .ok (.aload_n 0, 1) := by decide +kernel
theorem d_Row_putBytes_7 : decode prog_9_method_5_code 7 = .ok (.getfield 13, 3) := by decide +kernel
theorem d_Row_putBytes_10 : decode prog_9_method_5_code 10 = .ok (.isub, 1) := by decide +kernel
theorem d_Row_putBytes_11 : decode prog_9_method_5_code 11 = .ok (.if_icmp .gt 27, 3) := by decide +kernel
theorem d_Row_putBytes_14 : decode prog_9_method_5_code 14 = .ok (.aload_n 1, 1) := by decide +kernel
theorem d_Row_putBytes_15 : decode prog_9_method_5_code 15 = .ok (.iload_n 2, 1) := by decide +kernel
theorem d_Row_putBytes_16 : decode prog_9_method_5_code 16 = .ok (.aload_n 0, 1) := by decide +kernel
theorem d_Row_putBytes_17 : decode prog_9_method_5_code 17 = .ok (.getfield 7, 3) := by decide +kernel
theorem d_Row_putBytes_20 : decode prog_9_method_5_code 20 = .ok (.aload_n 0, 1) := by decide +kernel
theorem d_Row_putBytes_21 : decode prog_9_method_5_code 21 = .ok (.getfield 13, 3) := by decide +kernel
theorem d_Row_putBytes_24 : decode prog_9_method_5_code 24 = .ok (.iload_n 3, 1) := by decide +kernel
theorem d_Row_putBytes_25 : decode prog_9_method_5_code 25 = .ok (.invokestatic 24, 3) := by decide +kernel
theorem k_565 : (Jvm.Cond.methodLink "PackageBook$Row" (24 : Nat) ({ cls := "java/lang/System", name := "arraycopy", desc := "(Ljava/lang/Object;ILjava/lang/Object;II)V" } : Jvm.MethodName)) ∈ uW := uW_of 565 (by decide +kernel) (by decide +kernel)
theorem k_484 : (Jvm.Cond.native ({ cls := "java/lang/System", name := "arraycopy", desc := "(Ljava/lang/Object;ILjava/lang/Object;II)V" } : Jvm.MethodName)) ∈ uW := uW_of 484 (by decide +kernel) (by decide +kernel)
theorem k_483 : (Jvm.Cond.static ({ cls := "java/lang/System", name := "arraycopy", desc := "(Ljava/lang/Object;ILjava/lang/Object;II)V" } : Jvm.MethodName)) ∈ uW := uW_of 483 (by decide +kernel) (by decide +kernel)
theorem k_134 : (Jvm.Cond.initialized "java/lang/System") ∈ uW := uW_of 134 (by decide +kernel) (by decide +kernel)
theorem d_Row_putBytes_28 : decode prog_9_method_5_code 28 = .ok (.aload_n 0, 1) := by decide +kernel
theorem d_Row_putBytes_29 : decode prog_9_method_5_code 29 = .ok (.dup, 1) := by decide +kernel
theorem d_Row_putBytes_30 : decode prog_9_method_5_code 30 = .ok (.getfield 13, 3) := by decide +kernel
theorem d_Row_putBytes_33 : decode prog_9_method_5_code 33 = .ok (.iload_n 3, 1) := by decide +kernel
theorem d_Row_putBytes_34 : decode prog_9_method_5_code 34 = .ok (.iadd, 1) := by decide +kernel
theorem d_Row_putBytes_35 : decode prog_9_method_5_code 35 = .ok (.putfield 13, 3) := by decide +kernel
theorem d_Row_putBytes_38 : decode prog_9_method_5_code 38 = .ok (.return_, 1) := by decide +kernel
abbrev y_Row_putBytes : MethodName := ⟨"PackageBook$Row", "putBytes", "([BII)V"⟩
abbrev i_Row_putBytes : pb_I := (y_Row_putBytes, prog_9_method_5_code, 4, (Option.none : Option Jvm.ClassFile.FieldType), [], { frames := 1, cells := 0, slots := 0, locals := 60 })
set_option maxRecDepth 100000 in
set_option maxHeartbeats 4000000 in
theorem c_Row_putBytes2 {l : Launch} (hl : l.stackTraces = false) (G : pb_G) (h : Nat) (b : Nat) (f : Nat → Int32) (b2 : Nat) (g : Nat → Int32) (hg : sb_Fit g) : Cn l G i_Row_putBytes [.ref h, .ref b2, .int 0, .int 2] [(h, .inr (0, [.ref b, .int 0])), (b, .inl (G.2.1, 4502, .inl f)), (b2, .inl (G.2.1, 4502, .inl g))] (S := (Nat → Int32)) (fun v u => v = none) (fun u => [(h, .inr (0, [.ref b, .int 2])), (b, .inl (G.2.1, 4502, .inl u))]) := by
  refine Cn.of hl (by decide +kernel) rfl (Nat.le_of_ble_eq_true rfl) (fun M hQ => ?_)
  refine pb_eq (pc' := 0) (lo' := [(0, .ref h), (1, .ref b2), (2, .int 0), (3, .int 2)]) (rest' := []) (ws' := [(h, .inr (0, [.ref b, .int 0])), (b, .inl (G.2.1, 4502, .inl f)), (b2, .inl (G.2.1, 4502, .inl g))]) ?_
  refine pb_iload_n (pc := 0) d_Row_putBytes_0 3 rfl rfl ?_
  refine pb_aload_n (pc := 1) d_Row_putBytes_1 0 rfl rfl ?_
  refine pb_get (pc := 2) d_Row_putBytes_2 0 0 rfl rfl (by decide) in_Row k_156 rfl ?_
  refine pb_alen (pc := 5) (v := 4502) d_Row_putBytes_5 1 0 rfl rfl (show Int32.ofNat 4502 = 4502 by decide) ?_
  refine pb_aload_n (pc := 6) d_Row_putBytes_6 0 rfl rfl ?_
  refine pb_get (pc := 7) d_Row_putBytes_7 0 1 rfl rfl (by decide) in_Row k_162 rfl ?_
  refine pb_isub (pc := 10) d_Row_putBytes_10 ?_
  refine pb_asi (y := 4502) (by decide) ?_
  refine pb_icmp_gt (pc := 11) (tgt := 38) d_Row_putBytes_11 (by decide) (fun h9 => absurd h9 (by decide)) (fun _ => ?_)
  refine pb_aload_n (pc := 14) d_Row_putBytes_14 1 rfl rfl ?_
  refine pb_iload_n (pc := 15) d_Row_putBytes_15 2 rfl rfl ?_
  refine pb_aload_n (pc := 16) d_Row_putBytes_16 0 rfl rfl ?_
  refine pb_get (pc := 17) d_Row_putBytes_17 0 0 rfl rfl (by decide) in_Row k_156 rfl ?_
  refine pb_aload_n (pc := 20) d_Row_putBytes_20 0 rfl rfl ?_
  refine pb_get (pc := 21) d_Row_putBytes_21 0 1 rfl rfl (by decide) in_Row k_162 rfl ?_
  refine pb_iload_n (pc := 24) d_Row_putBytes_24 3 rfl rfl ?_
  refine pb_copy (pc := 25) (ws' := [(h, .inr (0, [.ref b, .int 0])), (b, .inl (G.2.1, 4502, .inl (va_cpy g f (0 : Int32).toNatClampNeg (0 : Int32).toNatClampNeg (2 : Int32).toNatClampNeg))), (b2, .inl (G.2.1, 4502, .inl g))]) d_Row_putBytes_25 0 2 1 rfl rfl rfl rfl k_565 k_484 k_483 k_134 (by decide) (by decide) (by decide) (by decide) (by decide) (fun i _ => hg _) (by decide) (Nat.le_of_ble_eq_true rfl) rfl ?_
  refine pb_aload_n (pc := 28) d_Row_putBytes_28 0 rfl rfl ?_
  refine pb_dup (pc := 29) d_Row_putBytes_29 rfl ?_
  refine pb_get (pc := 30) d_Row_putBytes_30 0 1 rfl rfl (by decide) in_Row k_162 rfl ?_
  refine pb_iload_n (pc := 33) d_Row_putBytes_33 3 rfl rfl ?_
  refine pb_iadd (pc := 34) d_Row_putBytes_34 ?_
  refine pb_asi (y := 2) (by decide) ?_
  refine pb_put (pc := 35) (ty := .int) (ws' := [(h, .inr (0, [.ref b, .int 2])), (b, .inl (G.2.1, 4502, .inl (va_cpy g f (0 : Int32).toNatClampNeg (0 : Int32).toNatClampNeg (2 : Int32).toNatClampNeg))), (b2, .inl (G.2.1, 4502, .inl g))]) d_Row_putBytes_35 0 1 t_Row t_Row_ok n_Row rfl rfl (by decide) in_Row k_162 rfl (by decide +kernel) rfl rfl (Nat.le_of_ble_eq_true rfl) rfl ?_
  exact pb_vret (pc := 38) hQ d_Row_putBytes_38 rfl ((va_cpy g f (0 : Int32).toNatClampNeg (0 : Int32).toNatClampNeg (2 : Int32).toNatClampNeg)) rfl [0, 1] (by decide) rfl rfl (by decide) (by decide)

theorem d_Row_become_0 : decode prog_9_method_6_code 0 = .ok (.aload_n 0, 1) := by decide +kernel
theorem d_Row_become_1 : decode prog_9_method_6_code 1 = .ok (.iconst 0, 1) := by decide +kernel
theorem d_Row_become_2 : decode prog_9_method_6_code 2 = .ok (.putfield 13, 3) := by decide +kernel
theorem d_Row_become_5 : decode prog_9_method_6_code 5 = .ok (.aload_n 0, 1) := by decide +kernel
theorem d_Row_become_6 : decode prog_9_method_6_code 6 = .ok (.aload_n 1, 1) := by decide +kernel
theorem d_Row_become_7 : decode prog_9_method_6_code 7 = .ok (.getfield 7, 3) := by decide +kernel
theorem d_Row_become_10 : decode prog_9_method_6_code 10 = .ok (.iconst 0, 1) := by decide +kernel
theorem d_Row_become_11 : decode prog_9_method_6_code 11 = .ok (.aload_n 1, 1) := by decide +kernel
theorem d_Row_become_12 : decode prog_9_method_6_code 12 = .ok (.getfield 13, 3) := by decide +kernel
theorem d_Row_become_15 : decode prog_9_method_6_code 15 = .ok (.invokevirtual 30, 3) := by decide +kernel
theorem k_722 : (Jvm.Cond.methodLink "PackageBook$Row" (30 : Nat) ({ cls := "PackageBook$Row", name := "putBytes", desc := "([BII)V" } : Jvm.MethodName)) ∈ uW := uW_of 722 (by decide +kernel) (by decide +kernel)
theorem k_564 : (Jvm.Cond.code ({ cls := "PackageBook$Row", name := "putBytes", desc := "([BII)V" } : Jvm.MethodName) prog_9_method_5_code (4 : Nat) (Option.none : Option Jvm.ClassFile.FieldType)) ∈ uW := uW_of 564 (by decide +kernel) (by decide +kernel)
theorem k_562 : (Jvm.Cond.instanceMethod ({ cls := "PackageBook$Row", name := "putBytes", desc := "([BII)V" } : Jvm.MethodName)) ∈ uW := uW_of 562 (by decide +kernel) (by decide +kernel)
theorem k_563 : (Jvm.Cond.selects "PackageBook$Row" ({ cls := "PackageBook$Row", name := "putBytes", desc := "([BII)V" } : Jvm.MethodName) ({ cls := "PackageBook$Row", name := "putBytes", desc := "([BII)V" } : Jvm.MethodName)) ∈ uW := uW_of 563 (by decide +kernel) (by decide +kernel)
theorem d_Row_become_18 : decode prog_9_method_6_code 18 = .ok (.return_, 1) := by decide +kernel
abbrev y_Row_become : MethodName := ⟨"PackageBook$Row", "become", "(LPackageBook$Row;)V"⟩
abbrev i_Row_become : pb_I := (y_Row_become, prog_9_method_6_code, 2, (Option.none : Option Jvm.ClassFile.FieldType), [], { frames := 2, cells := 0, slots := 0, locals := 83 })
set_option maxRecDepth 100000 in
set_option maxHeartbeats 4000000 in
theorem c_Row_become2 {l : Launch} (hl : l.stackTraces = false) (G : pb_G) (h : Nat) (b : Nat) (f : Nat → Int32) (sz : Int32) (h2 : Nat) (b2 : Nat) (g : Nat → Int32) (hg : sb_Fit g) : Cn l G i_Row_become [.ref h, .ref h2] [(h, .inr (0, [.ref b, .int sz])), (b, .inl (G.2.1, 4502, .inl f)), (h2, .inr (0, [.ref b2, .int 2])), (b2, .inl (G.2.1, 4502, .inl g))] (S := (Nat → Int32)) (fun v u => v = none) (fun u => [(h, .inr (0, [.ref b, .int 2])), (b, .inl (G.2.1, 4502, .inl u))]) := by
  refine Cn.of hl (by decide +kernel) rfl (Nat.le_of_ble_eq_true rfl) (fun M hQ => ?_)
  refine pb_eq (pc' := 0) (lo' := [(0, .ref h), (1, .ref h2)]) (rest' := []) (ws' := [(h, .inr (0, [.ref b, .int sz])), (b, .inl (G.2.1, 4502, .inl f)), (h2, .inr (0, [.ref b2, .int 2])), (b2, .inl (G.2.1, 4502, .inl g))]) ?_
  refine pb_aload_n (pc := 0) d_Row_become_0 0 rfl rfl ?_
  refine pb_iconst (pc := 1) (v := 0) d_Row_become_1 (by decide) ?_
  refine pb_put (pc := 2) (ty := .int) (ws' := [(h, .inr (0, [.ref b, .int 0])), (b, .inl (G.2.1, 4502, .inl f)), (h2, .inr (0, [.ref b2, .int 2])), (b2, .inl (G.2.1, 4502, .inl g))]) d_Row_become_2 0 1 t_Row t_Row_ok n_Row rfl rfl (by decide) in_Row k_162 rfl (by decide +kernel) rfl rfl (Nat.le_of_ble_eq_true rfl) rfl ?_
  refine pb_aload_n (pc := 5) d_Row_become_5 0 rfl rfl ?_
  refine pb_aload_n (pc := 6) d_Row_become_6 1 rfl rfl ?_
  refine pb_get (pc := 7) d_Row_become_7 2 0 rfl rfl (by decide) in_Row k_156 rfl ?_
  refine pb_iconst (pc := 10) (v := 0) d_Row_become_10 (by decide) ?_
  refine pb_aload_n (pc := 11) d_Row_become_11 1 rfl rfl ?_
  refine pb_get (pc := 12) d_Row_become_12 2 1 rfl rfl (by decide) in_Row k_162 rfl ?_
  refine pb_callV (pc := 15) (qb := 0) (ci := 0) (nA := 3) (rest := []) (wr := [(h2, .inr (0, [.ref b2, .int 2]))]) d_Row_become_15 (c_Row_putBytes2 hl G h b f b2 g (by assumption)) rfl rfl [0, 1, 3] [2] (by decide) rfl rfl rfl (by decide) (by decide) k_564 rfl k_119 k_722 k_562 k_563 (by decide +kernel) (by decide) rfl rfl (Nat.le_of_ble_eq_true rfl) (by decide) (fun v9 u2 h1 => ?_)
  obtain ⟨f_3, rfl⟩ : ∃ z9, z9 = u2 := ⟨_, rfl⟩
  have eh1 := h1
  have eh1 : v9 = none := eh1
  subst eh1
  refine pb_eq (pc' := 18) (lo' := [(0, .ref h), (1, .ref h2)]) (rest' := []) (ws' := [(h2, .inr (0, [.ref b2, .int 2])), (h, .inr (0, [.ref b, .int 2])), (b, .inl (G.2.1, 4502, .inl f_3))]) ?_
  exact pb_vret (pc := 18) hQ d_Row_become_18 rfl (f_3) rfl [1, 2] (by decide) rfl rfl (by decide) (by decide)
