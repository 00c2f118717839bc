theorem d_Markup_keepId_0 : decode prog_7_method_15_code 0 = .ok (.aload_n 0, 1) := by decide +kernel
theorem d_Markup_keepId_1 : decode prog_7_method_15_code 1 = .ok (.getfield 135, 3) := by decide +kernel
theorem d_Markup_keepId_4 : decode prog_7_method_15_code 4 = .ok (.iconst 1, 1) := by decide +kernel
theorem d_Markup_keepId_5 : decode prog_7_method_15_code 5 = .ok (.if_icmp .lt 22, 3) := by decide +kernel
theorem d_Markup_keepId_27 : decode prog_7_method_15_code 27 = .ok (.iconst 0, 1) := by decide +kernel
theorem d_Markup_keepId_28 : decode prog_7_method_15_code 28 = .ok (.ireturn, 1) := by decide +kernel
theorem d_Markup_keepId_8 : decode prog_7_method_15_code 8 = .ok (.aload_n 0, 1) := by decide +kernel
theorem d_Markup_keepId_9 : decode prog_7_method_15_code 9 = .ok (.getfield 135, 3) := by decide +kernel
theorem d_Markup_keepId_12 : decode prog_7_method_15_code 12 = .ok (.bipush 8, 2) := by decide +kernel
theorem d_Markup_keepId_14 : decode prog_7_method_15_code 14 = .ok (.if_icmp .gt 13, 3) := by decide +kernel
theorem d_Markup_keepId_17 : decode prog_7_method_15_code 17 = .ok (.aload_n 0, 1) := by decide +kernel
theorem d_Markup_keepId_18 : decode prog_7_method_15_code 18 = .ok (.getfield 35, 3) := by decide +kernel
theorem k_321 : (Jvm.Cond.fieldLink "PackageBook$Markup" (35 : Nat) "PackageBook$Markup" "count" "I") ∈ uW := uW_of 321 (by decide +kernel) (by decide +kernel)
theorem d_Markup_keepId_21 : decode prog_7_method_15_code 21 = .ok (.sipush 200, 3) := by decide +kernel
theorem d_Markup_keepId_24 : decode prog_7_method_15_code 24 = .ok (.if_icmp .lt 5, 3) := by decide +kernel
theorem d_Markup_keepId_29 : decode prog_7_method_15_code 29 = .ok (.lconst 0, 1) := by decide +kernel
theorem d_Markup_keepId_30 : decode prog_7_method_15_code 30 = .ok (.lstore_n 1, 1) := by decide +kernel
theorem d_Markup_keepId_31 : decode prog_7_method_15_code 31 = .ok (.iconst 0, 1) := by decide +kernel
theorem d_Markup_keepId_32 : decode prog_7_method_15_code 32 = .ok (.istore_n 3, 1) := by decide +kernel
theorem d_Markup_keepId_33 : decode prog_7_method_15_code 33 = .ok (.iload_n 3, 1) := by decide +kernel
theorem d_Markup_keepId_34 : decode prog_7_method_15_code 34 = .ok (.aload_n 0, 1) := by decide +kernel
theorem d_Markup_keepId_35 : decode prog_7_method_15_code 35 = .ok (.getfield 135, 3) := by decide +kernel
theorem d_Markup_keepId_38 : decode prog_7_method_15_code 38 = .ok (.if_icmp .ge 22, 3) := by decide +kernel
theorem d_Markup_keepId_60 : decode prog_7_method_15_code 60 = .ok (.aload_n 0, 1) := by decide +kernel
theorem d_Markup_keepId_61 : decode prog_7_method_15_code 61 = .ok (.getfield 11, 3) := by decide +kernel
theorem d_Markup_keepId_64 : decode prog_7_method_15_code 64 = .ok (.aload_n 0, 1) := by decide +kernel
theorem d_Markup_keepId_65 : decode prog_7_method_15_code 65 = .ok (.getfield 35, 3) := by decide +kernel
theorem d_Markup_keepId_68 : decode prog_7_method_15_code 68 = .ok (.lload_n 1, 1) := by decide +kernel
theorem d_Markup_keepId_69 : decode prog_7_method_15_code 69 = .ok (.lastore, 1) := by decide +kernel
theorem d_Markup_keepId_70 : decode prog_7_method_15_code 70 = .ok (.aload_n 0, 1) := by decide +kernel
theorem d_Markup_keepId_71 : decode prog_7_method_15_code 71 = .ok (.iconst 1, 1) := by decide +kernel
theorem d_Markup_keepId_72 : decode prog_7_method_15_code 72 = .ok (.putfield 102, 3) := by decide +kernel
theorem k_330 : (Jvm.Cond.fieldLink "PackageBook$Markup" (102 : Nat) "PackageBook$Markup" "hasId" "Z") ∈ uW := uW_of 330 (by decide +kernel) (by decide +kernel)
theorem d_Markup_keepId_75 : decode prog_7_method_15_code 75 = .ok (.iconst 1, 1) := by decide +kernel
theorem d_Markup_keepId_76 : decode prog_7_method_15_code 76 = .ok (.ireturn, 1) := by decide +kernel
theorem d_Markup_keepId_41 : decode prog_7_method_15_code 41 = .ok (.lload_n 1, 1) := by decide +kernel
theorem d_Markup_keepId_42 : decode prog_7_method_15_code 42 = .ok (.bipush 8, 2) := by decide +kernel
theorem d_Markup_keepId_44 : decode prog_7_method_15_code 44 = .ok (.lshl, 1) := by decide +kernel
theorem d_Markup_keepId_45 : decode prog_7_method_15_code 45 = .ok (.aload_n 0, 1) := by decide +kernel
theorem d_Markup_keepId_46 : decode prog_7_method_15_code 46 = .ok (.getfield 19, 3) := by decide +kernel
theorem d_Markup_keepId_49 : decode prog_7_method_15_code 49 = .ok (.iload_n 3, 1) := by decide +kernel
theorem d_Markup_keepId_50 : decode prog_7_method_15_code 50 = .ok (.baload, 1) := by decide +kernel
theorem d_Markup_keepId_51 : decode prog_7_method_15_code 51 = .ok (.i2l, 1) := by decide +kernel
theorem d_Markup_keepId_52 : decode prog_7_method_15_code 52 = .ok (.lor, 1) := by decide +kernel
theorem d_Markup_keepId_53 : decode prog_7_method_15_code 53 = .ok (.lstore_n 1, 1) := by decide +kernel
theorem d_Markup_keepId_54 : decode prog_7_method_15_code 54 = .ok (.iinc 3 1, 3) := by decide +kernel
theorem d_Markup_keepId_57 : decode prog_7_method_15_code 57 = .ok (.goto (-24), 3) := by decide +kernel
abbrev y_Markup_keepId : MethodName := ⟨"PackageBook$Markup", "keepId", "()Z"⟩
abbrev i_Markup_keepId : pb_I := (y_Markup_keepId, prog_7_method_15_code, 4, (some Jvm.ClassFile.FieldType.boolean), [], { frames := 0, cells := 0, slots := 0, locals := 0 })
set_option maxRecDepth 100000 in
set_option maxHeartbeats 4000000 in
theorem g_Mu_keepId {l : Launch} (hl : l.stackTraces = false) (G : pb_G) (h : Nat) (ui : Nat) (ug : Nat) (uv : Nat) (ur : Nat) (ct : Int32) (fa : Int32) (bg : Int32) (at_ : Int32) (en : Int32) (vs : Int32) (io : Int32) (hi : Int32) (ht : Int32) (vf : Nat → Int32) (df : Nat → Int64) (c0 : 0 ≤ ct.toInt) (F_vf : sb_Fit vf) : Cn l G i_Markup_keepId [.ref h] [(h, .inr (8, [.ref ui, .ref ug, .ref uv, .ref ur, .int ct, .int fa, .int bg, .int at_, .int en, .int vs, .int io, .int hi, .int ht])), (uv, .inl (G.2.1, 24, .inl vf)), (ui, .inl (G.2.2.2.1, 200, .inr (.inl df)))] (S := Int32 × Int32 × (Nat → Int64)) (fun rv_ u => rv_ = some (.int u.1) ∧ (u.1.toInt = 0 ∨ u.1.toInt = 1) ∧ (u.2.1.toInt ≠ 0 → hi.toInt ≠ 0 ∨ ct.toInt < 200) ∧ (u.1.toInt = 1 → ct.toInt < 200)) (fun u => [(h, .inr (8, [.ref ui, .ref ug, .ref uv, .ref ur, .int ct, .int fa, .int bg, .int at_, .int en, .int vs, .int io, .int u.2.1, .int ht])), (uv, .inl (G.2.1, 24, .inl vf)), (ui, .inl (G.2.2.2.1, 200, .inr (.inl u.2.2)))]) := by
  refine Cn.of hl (by decide +kernel) rfl (Nat.le_of_ble_eq_true rfl) (fun M hQ => ?_)
  refine pb_eq (pc' := 0) (lo' := [(0, .ref h)]) (rest' := []) (ws' := [(h, .inr (8, [.ref ui, .ref ug, .ref uv, .ref ur, .int ct, .int fa, .int bg, .int at_, .int en, .int vs, .int io, .int hi, .int ht])), (uv, .inl (G.2.1, 24, .inl vf)), (ui, .inl (G.2.2.2.1, 200, .inr (.inl df)))]) ?_
  have zl0 : (0 : Int32).toInt = 0 := by decide
  have zl1 : (1 : Int32).toInt = 1 := by decide
  refine pb_aload_n (pc := 0) d_Markup_keepId_0 0 rfl rfl ?_
  refine pb_get (pc := 1) d_Markup_keepId_1 0 9 rfl rfl (by decide) in_Markup k_328 rfl ?_
  refine pb_iconst (pc := 4) (v := 1) d_Markup_keepId_4 (by decide) ?_
  refine pb_icmp_lt (pc := 5) (tgt := 27) d_Markup_keepId_5 (by decide) (fun w1 => ?_) (fun w1 => ?_)
  · have tw1 : vs.toInt < 1 := (ti_lt rfl (by decide)).mp w1
    refine pb_iconst (pc := 27) (v := 0) d_Markup_keepId_27 (by decide) ?_
    exact pb_iret (pc := 28) hQ d_Markup_keepId_28 rfl rfl (0, hi, df) ⟨rfl, (by (try dsimp only); first | done | (with_reducible assumption) | omega (splitDisjunctions := false) | assumption | omega | decide), (by (try dsimp only); first | done | (with_reducible assumption) | omega (splitDisjunctions := false) | assumption | omega | decide), (by (try dsimp only); first | done | (with_reducible assumption) | omega (splitDisjunctions := false) | assumption | omega | decide)⟩ [0, 1, 2] (by decide) rfl rfl (by decide) (by decide)
  · have tw1 : ¬ vs.toInt < 1 := fun z9 => w1 ((ti_lt rfl (by decide)).mpr z9)
    refine pb_aload_n (pc := 8) d_Markup_keepId_8 0 rfl rfl ?_
    refine pb_get (pc := 9) d_Markup_keepId_9 0 9 rfl rfl (by decide) in_Markup k_328 rfl ?_
    refine pb_bipush (pc := 12) (v := 8) d_Markup_keepId_12 (by decide) ?_
    refine pb_icmp_gt (pc := 14) (tgt := 27) d_Markup_keepId_14 (by decide) (fun w2 => ?_) (fun w2 => ?_)
    · have tw2 : 8 < vs.toInt := (ti_lt (by decide) rfl).mp w2
      refine pb_iconst (pc := 27) (v := 0) d_Markup_keepId_27 (by decide) ?_
      exact pb_iret (pc := 28) hQ d_Markup_keepId_28 rfl rfl (0, hi, df) ⟨rfl, (by (try dsimp only); first | done | (with_reducible assumption) | omega (splitDisjunctions := false) | assumption | omega | decide), (by (try dsimp only); first | done | (with_reducible assumption) | omega (splitDisjunctions := false) | assumption | omega | decide), (by (try dsimp only); first | done | (with_reducible assumption) | omega (splitDisjunctions := false) | assumption | omega | decide)⟩ [0, 1, 2] (by decide) rfl rfl (by decide) (by decide)
    · have tw2 : ¬ 8 < vs.toInt := fun z9 => w2 ((ti_lt (by decide) rfl).mpr z9)
      refine pb_aload_n (pc := 17) d_Markup_keepId_17 0 rfl rfl ?_
      refine pb_get (pc := 18) d_Markup_keepId_18 0 4 rfl rfl (by decide) in_Markup k_321 rfl ?_
      refine pb_sipush (pc := 21) (v := 200) d_Markup_keepId_21 (by decide) ?_
      refine pb_icmp_lt (pc := 24) (tgt := 29) d_Markup_keepId_24 (by decide) (fun w3 => ?_) (fun w3 => ?_)
      · have tw3 : ct.toInt < 200 := (ti_lt rfl (by decide)).mp w3
        refine pb_lconst (pc := 29) (v := 0) d_Markup_keepId_29 (by decide) ?_
        refine pb_lstore_n (pc := 30) (lo' := [(1, .long 0), (0, .ref h)]) d_Markup_keepId_30 rfl (by decide) rfl ?_
        refine pb_iconst (pc := 31) (v := 0) d_Markup_keepId_31 (by decide) ?_
        refine pb_istore_n (pc := 32) (lo' := [(3, .int 0), (1, .long 0), (0, .ref h)]) d_Markup_keepId_32 rfl (by decide) rfl ?_
        have hL33_4 : ∀ (N9 : Nat) (j : Int32) (d : Int64), (0 ≤ j.toInt) → ((vs.toInt - j.toInt).toNat) < N9 → pb_P l G M i_Markup_keepId 33 [(3, .int j), (1, .long d), (0, .ref h)] [] [(h, .inr (8, [.ref ui, .ref ug, .ref uv, .ref ur, .int ct, .int fa, .int bg, .int at_, .int en, .int vs, .int io, .int hi, .int ht])), (uv, .inl (G.2.1, 24, .inl vf)), (ui, .inl (G.2.2.2.1, 200, .inr (.inl df)))] 0 0 := by
          intro N9
          induction N9 with
          | zero => intro j d k0 hm9; exact absurd hm9 (Nat.not_lt_zero _)
          | succ N9 ih33 =>
            intro j d k0 hm9
            refine pb_iload_n (pc := 33) d_Markup_keepId_33 0 rfl rfl ?_
            refine pb_aload_n (pc := 34) d_Markup_keepId_34 2 rfl rfl ?_
            refine pb_get (pc := 35) d_Markup_keepId_35 0 9 rfl rfl (by decide) in_Markup k_328 rfl ?_
            refine pb_icmp_ge (pc := 38) (tgt := 60) d_Markup_keepId_38 (by decide) (fun w5 => ?_) (fun w5 => ?_)
            · have tw5 : vs.toInt ≤ j.toInt := (ti_le rfl rfl).mp w5
              refine pb_aload_n (pc := 60) d_Markup_keepId_60 2 rfl rfl ?_
              refine pb_get (pc := 61) d_Markup_keepId_61 0 0 rfl rfl (by decide) in_Markup k_316 rfl ?_
              refine pb_aload_n (pc := 64) d_Markup_keepId_64 2 rfl rfl ?_
              refine pb_get (pc := 65) d_Markup_keepId_65 0 4 rfl rfl (by decide) in_Markup k_321 rfl ?_
              refine pb_lload_n (pc := 68) d_Markup_keepId_68 1 rfl rfl ?_
              refine pb_last (pc := 69) (ws' := [(h, .inr (8, [.ref ui, .ref ug, .ref uv, .ref ur, .int ct, .int fa, .int bg, .int at_, .int en, .int vs, .int io, .int hi, .int ht])), (uv, .inl (G.2.1, 24, .inl vf)), (ui, .inl (G.2.2.2.1, 200, .inr (.inl (vp_updL df ((ct : Int32).toNatClampNeg) d))))]) d_Markup_keepId_69 2 rfl (vp_in_iff.mpr (by omega)) rfl ?_
              refine pb_aload_n (pc := 70) d_Markup_keepId_70 2 rfl rfl ?_
              refine pb_iconst (pc := 71) (v := 1) d_Markup_keepId_71 (by decide) ?_
              refine pb_put (pc := 72) (ty := .boolean) (ws' := [(h, .inr (8, [.ref ui, .ref ug, .ref uv, .ref ur, .int ct, .int fa, .int bg, .int at_, .int en, .int vs, .int io, .int 1, .int ht])), (uv, .inl (G.2.1, 24, .inl vf)), (ui, .inl (G.2.2.2.1, 200, .inr (.inl (vp_updL df ((ct : Int32).toNatClampNeg) d))))]) d_Markup_keepId_72 0 11 t_Markup t_Markup_ok n_Markup rfl rfl (by decide) in_Markup k_330 rfl (by decide +kernel) rfl rfl (Nat.le_of_ble_eq_true rfl) rfl ?_
              refine pb_iconst (pc := 75) (v := 1) d_Markup_keepId_75 (by decide) ?_
              exact pb_iret (pc := 76) hQ d_Markup_keepId_76 rfl rfl (1, 1, (vp_updL df ((ct : Int32).toNatClampNeg) d)) ⟨rfl, (by (try dsimp only); first | done | (with_reducible assumption) | omega (splitDisjunctions := false) | assumption | omega | decide), (by (try dsimp only); first | done | (with_reducible assumption) | omega (splitDisjunctions := false) | assumption | omega | decide), (by (try dsimp only); first | done | (with_reducible assumption) | omega (splitDisjunctions := false) | assumption | omega | decide)⟩ [0, 1, 2] (by decide) rfl rfl (by decide) (by decide)
            · have tw5 : ¬ vs.toInt ≤ j.toInt := fun z9 => w5 ((ti_le rfl rfl).mpr z9)
              refine pb_lload_n (pc := 41) d_Markup_keepId_41 1 rfl rfl ?_
              refine pb_bipush (pc := 42) (v := 8) d_Markup_keepId_42 (by decide) ?_
              refine pb_lshl (pc := 44) d_Markup_keepId_44 rfl ?_
              refine pb_topl (fun j6 ej6 => ?_)
              try have tj6 : j6.toInt = d.toInt * 256 := tl_shl ej6 rfl 8 (by decide) (by omega) (by omega)
              refine pb_aload_n (pc := 45) d_Markup_keepId_45 2 rfl rfl ?_
              refine pb_get (pc := 46) d_Markup_keepId_46 0 2 rfl rfl (by decide) in_Markup k_319 rfl ?_
              refine pb_iload_n (pc := 49) d_Markup_keepId_49 0 rfl rfl ?_
              refine pb_bald (pc := 50) d_Markup_keepId_50 1 rfl (vp_in_iff.mpr (by omega)) ?_
              refine pb_topi (fun i7 ei7 => ?_)
              have ti7 : -128 ≤ i7.toInt ∧ i7.toInt ≤ 127 := ti_fit (F_vf _) ei7
              refine pb_i2l (pc := 51) d_Markup_keepId_51 rfl ?_
              refine pb_topl (fun j8 ej8 => ?_)
              have tj8 : j8.toInt = i7.toInt := tl_i2l ej8 rfl
              refine pb_lor (pc := 52) d_Markup_keepId_52 ?_
              refine pb_topl (fun j9 ej9 => ?_)
              refine pb_lstore_n (pc := 53) (lo' := [(1, .long j9), (3, .int j), (0, .ref h)]) d_Markup_keepId_53 rfl (by decide) rfl ?_
              refine pb_iincN (pc := 54) (c := 1) d_Markup_keepId_54 1 rfl (by decide) (by decide) (fun i10 ei10 => ?_)
              have ti10 : i10.toInt = j.toInt + 1 := t2_add ei10 rfl (by decide) (by first | omega | (have r90 := ti_rng i10; omega))
              refine pb_eq (pc' := 57) (lo' := [(3, .int i10), (1, .long j9), (0, .ref h)]) (rest' := []) (ws' := [(h, .inr (8, [.ref ui, .ref ug, .ref uv, .ref ur, .int ct, .int fa, .int bg, .int at_, .int en, .int vs, .int io, .int hi, .int ht])), (uv, .inl (G.2.1, 24, .inl vf)), (ui, .inl (G.2.2.2.1, 200, .inr (.inl df)))]) ?_
              refine pb_goto (pc := 57) (tgt := 33) d_Markup_keepId_57 (by decide) ?_
              exact ih33 i10 j9 (by first | (with_reducible assumption) | omega (splitDisjunctions := false) | assumption | omega | decide) (by omega)
        exact hL33_4 _ 0 0 (by first | (with_reducible assumption) | omega (splitDisjunctions := false) | assumption | omega | decide) (Nat.lt_succ_self _)
      · have tw3 : ¬ ct.toInt < 200 := fun z9 => w3 ((ti_lt rfl (by decide)).mpr z9)
        refine pb_iconst (pc := 27) (v := 0) d_Markup_keepId_27 (by decide) ?_
        exact pb_iret (pc := 28) hQ d_Markup_keepId_28 rfl rfl (0, hi, df) ⟨rfl, (by (try dsimp only); first | done | (with_reducible assumption) | omega (splitDisjunctions := false) | assumption | omega | decide), (by (try dsimp only); first | done | (with_reducible assumption) | omega (splitDisjunctions := false) | assumption | omega | decide), (by (try dsimp only); first | done | (with_reducible assumption) | omega (splitDisjunctions := false) | assumption | omega | decide)⟩ [0, 1, 2] (by decide) rfl rfl (by decide) (by decide)

theorem d_Markup_keepGoal_0 : decode prog_7_method_16_code 0 = .ok (.aload_n 0, 1) := by decide +kernel
theorem d_Markup_keepGoal_1 : decode prog_7_method_16_code 1 = .ok (.getfield 19, 3) := by decide +kernel
theorem d_Markup_keepGoal_4 : decode prog_7_method_16_code 4 = .ok (.iconst 0, 1) := by decide +kernel
theorem d_Markup_keepGoal_5 : decode prog_7_method_16_code 5 = .ok (.aload_n 0, 1) := by decide +kernel
theorem d_Markup_keepGoal_6 : decode prog_7_method_16_code 6 = .ok (.getfield 135, 3) := by decide +kernel
theorem d_Markup_keepGoal_9 : decode prog_7_method_16_code 9 = .ok (.invokestatic 157, 3) := by decide +kernel
theorem k_886 : (Jvm.Cond.methodLinkNest "PackageBook$Markup" (157 : Nat) ({ cls := "PackageBook", name := "isName", desc := "([BII)Z" } : Jvm.MethodName) "PackageBook") ∈ uN := uN_of 886 (by decide +kernel) (by decide +kernel)
theorem d_Markup_keepGoal_12 : decode prog_7_method_16_code 12 = .ok (.ifCond .eq 13, 3) := by decide +kernel
theorem d_Markup_keepGoal_25 : decode prog_7_method_16_code 25 = .ok (.iconst 0, 1) := by decide +kernel
theorem d_Markup_keepGoal_26 : decode prog_7_method_16_code 26 = .ok (.ireturn, 1) := by decide +kernel
theorem d_Markup_keepGoal_15 : decode prog_7_method_16_code 15 = .ok (.aload_n 0, 1) := by decide +kernel
theorem d_Markup_keepGoal_16 : decode prog_7_method_16_code 16 = .ok (.getfield 35, 3) := by decide +kernel
theorem d_Markup_keepGoal_19 : decode prog_7_method_16_code 19 = .ok (.sipush 200, 3) := by decide +kernel
theorem d_Markup_keepGoal_22 : decode prog_7_method_16_code 22 = .ok (.if_icmp .lt 5, 3) := by decide +kernel
theorem d_Markup_keepGoal_27 : decode prog_7_method_16_code 27 = .ok (.aload_n 0, 1) := by decide +kernel
theorem d_Markup_keepGoal_28 : decode prog_7_method_16_code 28 = .ok (.getfield 15, 3) := by decide +kernel
theorem d_Markup_keepGoal_31 : decode prog_7_method_16_code 31 = .ok (.aload_n 0, 1) := by decide +kernel
theorem d_Markup_keepGoal_32 : decode prog_7_method_16_code 32 = .ok (.getfield 35, 3) := by decide +kernel
theorem d_Markup_keepGoal_35 : decode prog_7_method_16_code 35 = .ok (.aload_n 1, 1) := by decide +kernel
theorem d_Markup_keepGoal_36 : decode prog_7_method_16_code 36 = .ok (.aload_n 0, 1) := by decide +kernel
theorem d_Markup_keepGoal_37 : decode prog_7_method_16_code 37 = .ok (.getfield 19, 3) := by decide +kernel
theorem d_Markup_keepGoal_40 : decode prog_7_method_16_code 40 = .ok (.iconst 0, 1) := by decide +kernel
theorem d_Markup_keepGoal_41 : decode prog_7_method_16_code 41 = .ok (.aload_n 0, 1) := by decide +kernel
theorem d_Markup_keepGoal_42 : decode prog_7_method_16_code 42 = .ok (.getfield 135, 3) := by decide +kernel
theorem d_Markup_keepGoal_45 : decode prog_7_method_16_code 45 = .ok (.invokevirtual 161, 3) := by decide +kernel
theorem k_887 : (Jvm.Cond.methodLink "PackageBook$Markup" (161 : Nat) ({ cls := "PackageBook$Shelf", name := "find", desc := "([BII)I" } : Jvm.MethodName)) ∈ uW := uW_of 887 (by decide +kernel) (by decide +kernel)
theorem d_Markup_keepGoal_48 : decode prog_7_method_16_code 48 = .ok (.iastore, 1) := by decide +kernel
theorem d_Markup_keepGoal_49 : decode prog_7_method_16_code 49 = .ok (.aload_n 0, 1) := by decide +kernel
theorem d_Markup_keepGoal_50 : decode prog_7_method_16_code 50 = .ok (.iconst 1, 1) := by decide +kernel
theorem d_Markup_keepGoal_51 : decode prog_7_method_16_code 51 = .ok (.putfield 105, 3) := by decide +kernel
theorem k_331 : (Jvm.Cond.fieldLink "PackageBook$Markup" (105 : Nat) "PackageBook$Markup" "hasTo" "Z") ∈ uW := uW_of 331 (by decide +kernel) (by decide +kernel)
theorem d_Markup_keepGoal_54 : decode prog_7_method_16_code 54 = .ok (.iconst 1, 1) := by decide +kernel
theorem d_Markup_keepGoal_55 : decode prog_7_method_16_code 55 = .ok (.ireturn, 1) := by decide +kernel
abbrev y_Markup_keepGoal : MethodName := ⟨"PackageBook$Markup", "keepGoal", "(LPackageBook$Shelf;)Z"⟩
abbrev i_Markup_keepGoal : pb_I := (y_Markup_keepGoal, prog_7_method_16_code, 2, (some Jvm.ClassFile.FieldType.boolean), [], { frames := 2, cells := 0, slots := 0, locals := 50 })
set_option maxRecDepth 100000 in
set_option maxHeartbeats 4000000 in
theorem g_Mu_keepGoal {l : Launch} (hl : l.stackTraces = false) (G : pb_G) (h : Nat) (ui : Nat) (ug : Nat) (uv : Nat) (ur : Nat) (ct : Int32) (fa : Int32) (bg : Int32) (at_ : Int32) (en : Int32) (vs : Int32) (io : Int32) (hi : Int32) (ht : Int32) (vf : Nat → Int32) (gf : Nat → Int32) (sp : Nat) (tn : Nat) (tz : Nat) (tb : Nat) (tg : Nat) (c : Int32) (tfn : Nat → Int32) (tfz : Nat → Int32) (tfg : Nat → Int32) (c0 : 0 ≤ ct.toInt) (I : sh_I c.toInt tfz tfg) (F_vf : sb_Fit vf) (F_tfn : sb_Fit tfn) : Cn l G i_Markup_keepGoal [.ref h, .ref sp] [(h, .inr (8, [.ref ui, .ref ug, .ref uv, .ref ur, .int ct, .int fa, .int bg, .int at_, .int en, .int vs, .int io, .int hi, .int ht])), (uv, .inl (G.2.1, 24, .inl vf)), (ug, .inl (G.2.2.1, 200, .inl gf)), (sp, .inr (3, [.ref tn, .ref tz, .ref tb, .ref tg, .int c])), (tn, .inl (G.2.1, 384, .inl tfn)), (tz, .inl (G.2.2.1, 16, .inl tfz))] (S := Int32 × Int32 × (Nat → Int32)) (fun rv_ u => rv_ = some (.int u.1) ∧ (u.1.toInt = 0 ∨ u.1.toInt = 1) ∧ (u.1.toInt = 1 → ct.toInt < 200)) (fun u => [(h, .inr (8, [.ref ui, .ref ug, .ref uv, .ref ur, .int ct, .int fa, .int bg, .int at_, .int en, .int vs, .int io, .int hi, .int u.2.1])), (uv, .inl (G.2.1, 24, .inl vf)), (ug, .inl (G.2.2.1, 200, .inl u.2.2)), (sp, .inr (3, [.ref tn, .ref tz, .ref tb, .ref tg, .int c])), (tn, .inl (G.2.1, 384, .inl tfn)), (tz, .inl (G.2.2.1, 16, .inl tfz))]) := by
  refine Cn.of hl (by decide +kernel) rfl (Nat.le_of_ble_eq_true rfl) (fun M hQ => ?_)
  refine pb_eq (pc' := 0) (lo' := [(0, .ref h), (1, .ref sp)]) (rest' := []) (ws' := [(h, .inr (8, [.ref ui, .ref ug, .ref uv, .ref ur, .int ct, .int fa, .int bg, .int at_, .int en, .int vs, .int io, .int hi, .int ht])), (uv, .inl (G.2.1, 24, .inl vf)), (ug, .inl (G.2.2.1, 200, .inl gf)), (sp, .inr (3, [.ref tn, .ref tz, .ref tb, .ref tg, .int c])), (tn, .inl (G.2.1, 384, .inl tfn)), (tz, .inl (G.2.2.1, 16, .inl tfz))]) ?_
  have zl0 : (0 : Int32).toInt = 0 := by decide
  have zl1 : (1 : Int32).toInt = 1 := by decide
  refine pb_aload_n (pc := 0) d_Markup_keepGoal_0 0 rfl rfl ?_
  refine pb_get (pc := 1) d_Markup_keepGoal_1 0 2 rfl rfl (by decide) in_Markup k_319 rfl ?_
  refine pb_iconst (pc := 4) (v := 0) d_Markup_keepGoal_4 (by decide) ?_
  refine pb_aload_n (pc := 5) d_Markup_keepGoal_5 0 rfl rfl ?_
  refine pb_get (pc := 6) d_Markup_keepGoal_6 0 9 rfl rfl (by decide) in_Markup k_328 rfl ?_
  refine pb_callSN (pc := 9) (I := i_Markup_keepGoal) (nA := 3) (rest := []) (wr := [(h, .inr (8, [.ref ui, .ref ug, .ref uv, .ref ur, .int ct, .int fa, .int bg, .int at_, .int en, .int vs, .int io, .int hi, .int ht])), (ug, .inl (G.2.2.1, 200, .inl gf)), (sp, .inr (3, [.ref tn, .ref tz, .ref tb, .ref tg, .int c])), (tn, .inl (G.2.1, 384, .inl tfn)), (tz, .inl (G.2.2.1, 16, .inl tfz))]) d_Markup_keepGoal_9 (g_isName hl G uv 24 vf 0 vs (by first | (with_reducible assumption) | omega (splitDisjunctions := false) | assumption | omega | decide) (by first | (with_reducible assumption) | omega (splitDisjunctions := false) | assumption | omega | decide) (by first | (with_reducible assumption) | omega (splitDisjunctions := false) | assumption | omega | decide) (by first | (with_reducible assumption) | omega (splitDisjunctions := false) | assumption | omega | decide) F_vf) [1] [0, 2, 3, 4, 5] (by decide) rfl rfl rfl (by decide) (by decide) k_622 rfl k_118 k_886 k_621 hy_Book_isName (by decide) rfl rfl (Nat.le_of_ble_eq_true rfl) (by decide) (fun v9 u2 ch1 => ?_)
  obtain ⟨r_3, rfl⟩ : ∃ z9, z9 = u2 := ⟨_, rfl⟩
  obtain ⟨ech1, ch1⟩ := ch1
  have ech1 : v9 = some (.int r_3) := ech1
  subst ech1
  obtain ⟨fh4, fh5, fh6, fh7⟩ : (r_3.toInt = 0 ∨ r_3.toInt = 1) ∧ (r_3.toInt = 1 → 1 ≤ vs.toInt ∧ vs.toInt ≤ 24) ∧ (r_3.toInt = 1 → iA_ (gx vf) (0 : Int32).toInt vs.toInt) ∧ (r_3.toInt = 0 → ¬ iA_ (gx vf) (0 : Int32).toInt vs.toInt) := ch1
  refine pb_eq (pc' := 12) (lo' := [(0, .ref h), (1, .ref sp)]) (rest' := [.int r_3]) (ws' := [(h, .inr (8, [.ref ui, .ref ug, .ref uv, .ref ur, .int ct, .int fa, .int bg, .int at_, .int en, .int vs, .int io, .int hi, .int ht])), (ug, .inl (G.2.2.1, 200, .inl gf)), (sp, .inr (3, [.ref tn, .ref tz, .ref tb, .ref tg, .int c])), (tn, .inl (G.2.1, 384, .inl tfn)), (tz, .inl (G.2.2.1, 16, .inl tfz)), (uv, .inl (G.2.1, 24, .inl vf))]) ?_
  refine pb_if_eq (pc := 12) (tgt := 25) d_Markup_keepGoal_12 (by decide) (fun w8 => ?_) (fun w8 => ?_)
  · have tw8 : r_3.toInt = 0 := (ti_eq rfl (by decide)).mp w8
    refine pb_iconst (pc := 25) (v := 0) d_Markup_keepGoal_25 (by decide) ?_
    exact pb_iret (pc := 26) hQ d_Markup_keepGoal_26 rfl rfl (0, ht, gf) ⟨rfl, (by (try dsimp only); first | done | (with_reducible assumption) | omega (splitDisjunctions := false) | assumption | (have y90 := fh7 tw8; clear fh5 fh6 fh7; first | omega (splitDisjunctions := false) | omega) | omega | decide), (by (try dsimp only); first | done | (with_reducible assumption) | omega (splitDisjunctions := false) | assumption | exact fun q90 => (by have y90 := fh7 tw8; clear fh5 fh6 fh7; first | omega (splitDisjunctions := false) | omega) | omega | decide)⟩ [0, 5, 1, 2, 3, 4] (by decide) rfl rfl (by decide) (by decide)
  · have tw8 : ¬ r_3.toInt = 0 := fun z9 => w8 ((ti_eq rfl (by decide)).mpr z9)
    refine pb_aload_n (pc := 15) d_Markup_keepGoal_15 0 rfl rfl ?_
    refine pb_get (pc := 16) d_Markup_keepGoal_16 0 4 rfl rfl (by decide) in_Markup k_321 rfl ?_
    refine pb_sipush (pc := 19) (v := 200) d_Markup_keepGoal_19 (by decide) ?_
    refine pb_icmp_lt (pc := 22) (tgt := 27) d_Markup_keepGoal_22 (by decide) (fun w9 => ?_) (fun w9 => ?_)
    · have tw9 : ct.toInt < 200 := (ti_lt rfl (by decide)).mp w9
      refine pb_aload_n (pc := 27) d_Markup_keepGoal_27 0 rfl rfl ?_
      refine pb_get (pc := 28) d_Markup_keepGoal_28 0 1 rfl rfl (by decide) in_Markup k_317 rfl ?_
      refine pb_aload_n (pc := 31) d_Markup_keepGoal_31 0 rfl rfl ?_
      refine pb_get (pc := 32) d_Markup_keepGoal_32 0 4 rfl rfl (by decide) in_Markup k_321 rfl ?_
      refine pb_aload_n (pc := 35) d_Markup_keepGoal_35 1 rfl rfl ?_
      refine pb_aload_n (pc := 36) d_Markup_keepGoal_36 0 rfl rfl ?_
      refine pb_get (pc := 37) d_Markup_keepGoal_37 0 2 rfl rfl (by decide) in_Markup k_319 rfl ?_
      refine pb_iconst (pc := 40) (v := 0) d_Markup_keepGoal_40 (by decide) ?_
      refine pb_aload_n (pc := 41) d_Markup_keepGoal_41 0 rfl rfl ?_
      refine pb_get (pc := 42) d_Markup_keepGoal_42 0 9 rfl rfl (by decide) in_Markup k_328 rfl ?_
      refine pb_callV (pc := 45) (I := i_Markup_keepGoal) (qb := 2) (ci := 3) (nA := 3) (rest := [.int ct, .ref ug]) (wr := [(h, .inr (8, [.ref ui, .ref ug, .ref uv, .ref ur, .int ct, .int fa, .int bg, .int at_, .int en, .int vs, .int io, .int hi, .int ht])), (ug, .inl (G.2.2.1, 200, .inl gf))]) d_Markup_keepGoal_45 (g_Shelf_find hl G sp tn tz tb tg c tfn tfz uv 24 vf tfg 0 vs (cN_ c.toInt tfn tfz) cN_R (by first | assumption | decide | omega) (by first | (with_reducible assumption) | omega (splitDisjunctions := false) | assumption | (clear fh5 fh6 fh7; first | omega (splitDisjunctions := false) | omega) | omega | decide) (by first | (with_reducible assumption) | omega (splitDisjunctions := false) | assumption | (clear fh5 fh6 fh7; first | omega (splitDisjunctions := false) | omega) | omega | decide) (by first | (with_reducible assumption) | omega (splitDisjunctions := false) | assumption | (clear fh5 fh6 fh7; first | omega (splitDisjunctions := false) | omega) | omega | decide) F_tfn F_vf) rfl rfl [2, 3, 4, 5] [0, 1] (by decide) rfl rfl rfl (by decide) (by decide) k_462 rfl k_127 k_887 k_460 k_461 ⟨rfl, hy_Shelf_find⟩ (by decide) rfl rfl (Nat.le_of_ble_eq_true rfl) (by decide) (fun v9 u11 ch10 => ?_)
      obtain ⟨r_12, rfl⟩ : ∃ z9, z9 = u11 := ⟨_, rfl⟩
      obtain ⟨ech10, ch10⟩ := ch10
      have ech10 : v9 = some (.int r_12) := ech10
      subst ech10
      obtain ⟨fh13, fh14, fh15⟩ : (-1 ≤ r_12.toInt) ∧ (r_12.toInt < c.toInt) ∧ (isF_ (cN_ c.toInt tfn tfz) vs.toInt (fun k => gx vf ((0 : Int32).toInt + k)) r_12.toInt) := ch10
      refine pb_eq (pc' := 48) (lo' := [(0, .ref h), (1, .ref sp)]) (rest' := [.int r_12, .int ct, .ref ug]) (ws' := [(h, .inr (8, [.ref ui, .ref ug, .ref uv, .ref ur, .int ct, .int fa, .int bg, .int at_, .int en, .int vs, .int io, .int hi, .int ht])), (ug, .inl (G.2.2.1, 200, .inl gf)), (sp, .inr (3, [.ref tn, .ref tz, .ref tb, .ref tg, .int c])), (tn, .inl (G.2.1, 384, .inl tfn)), (tz, .inl (G.2.2.1, 16, .inl tfz)), (uv, .inl (G.2.1, 24, .inl vf))]) ?_
      refine pb_iast (pc := 48) (ws' := [(h, .inr (8, [.ref ui, .ref ug, .ref uv, .ref ur, .int ct, .int fa, .int bg, .int at_, .int en, .int vs, .int io, .int hi, .int ht])), (ug, .inl (G.2.2.1, 200, .inl (upd gf ((ct : Int32).toNatClampNeg) r_12))), (sp, .inr (3, [.ref tn, .ref tz, .ref tb, .ref tg, .int c])), (tn, .inl (G.2.1, 384, .inl tfn)), (tz, .inl (G.2.2.1, 16, .inl tfz)), (uv, .inl (G.2.1, 24, .inl vf))]) d_Markup_keepGoal_48 1 rfl (vp_in_iff.mpr (by omega)) rfl ?_
      refine pb_aload_n (pc := 49) d_Markup_keepGoal_49 0 rfl rfl ?_
      refine pb_iconst (pc := 50) (v := 1) d_Markup_keepGoal_50 (by decide) ?_
      refine pb_put (pc := 51) (ty := .boolean) (ws' := [(h, .inr (8, [.ref ui, .ref ug, .ref uv, .ref ur, .int ct, .int fa, .int bg, .int at_, .int en, .int vs, .int io, .int hi, .int 1])), (ug, .inl (G.2.2.1, 200, .inl (upd gf ((ct : Int32).toNatClampNeg) r_12))), (sp, .inr (3, [.ref tn, .ref tz, .ref tb, .ref tg, .int c])), (tn, .inl (G.2.1, 384, .inl tfn)), (tz, .inl (G.2.2.1, 16, .inl tfz)), (uv, .inl (G.2.1, 24, .inl vf))]) d_Markup_keepGoal_51 0 12 t_Markup t_Markup_ok n_Markup rfl rfl (by decide) in_Markup k_331 rfl (by decide +kernel) rfl rfl (Nat.le_of_ble_eq_true rfl) rfl ?_
      refine pb_iconst (pc := 54) (v := 1) d_Markup_keepGoal_54 (by decide) ?_
      exact pb_iret (pc := 55) hQ d_Markup_keepGoal_55 rfl rfl (1, 1, (upd gf ((ct : Int32).toNatClampNeg) r_12)) ⟨rfl, (by (try dsimp only); first | done | (with_reducible assumption) | omega (splitDisjunctions := false) | assumption | (clear fh5 fh6 fh7; first | omega (splitDisjunctions := false) | omega) | omega | decide), (by (try dsimp only); first | done | (with_reducible assumption) | omega (splitDisjunctions := false) | assumption | exact fun q90 => (by clear fh5 fh6 fh7; first | omega (splitDisjunctions := false) | omega) | omega | decide)⟩ [0, 5, 1, 2, 3, 4] (by decide) rfl rfl (by decide) (by decide)
    · have tw9 : ¬ ct.toInt < 200 := fun z9 => w9 ((ti_lt rfl (by decide)).mpr z9)
      refine pb_iconst (pc := 25) (v := 0) d_Markup_keepGoal_25 (by decide) ?_
      exact pb_iret (pc := 26) hQ d_Markup_keepGoal_26 rfl rfl (0, ht, gf) ⟨rfl, (by (try dsimp only); first | done | (with_reducible assumption) | omega (splitDisjunctions := false) | assumption | (clear fh5 fh6 fh7; first | omega (splitDisjunctions := false) | omega) | omega | decide), (by (try dsimp only); first | done | (with_reducible assumption) | omega (splitDisjunctions := false) | assumption | exact fun q90 => (by clear fh5 fh6 fh7; first | omega (splitDisjunctions := false) | omega) | omega | decide)⟩ [0, 5, 1, 2, 3, 4] (by decide) rfl rfl (by decide) (by decide)

theorem d_Markup_readAttribute_0 : decode prog_7_method_11_code 0 = .ok (.aload_n 0, 1) := by decide +kernel
theorem d_Markup_readAttribute_1 : decode prog_7_method_11_code 1 = .ok (.getfield 48, 3) := by decide +kernel
theorem d_Markup_readAttribute_4 : decode prog_7_method_11_code 4 = .ok (.istore_n 2, 1) := by decide +kernel
theorem d_Markup_readAttribute_5 : decode prog_7_method_11_code 5 = .ok (.aload_n 0, 1) := by decide +kernel
theorem d_Markup_readAttribute_6 : decode prog_7_method_11_code 6 = .ok (.invokevirtual 113, 3) := by decide +kernel
theorem d_Markup_readAttribute_9 : decode prog_7_method_11_code 9 = .ok (.aload_n 0, 1) := by decide +kernel
theorem d_Markup_readAttribute_10 : decode prog_7_method_11_code 10 = .ok (.iload_n 2, 1) := by decide +kernel
theorem d_Markup_readAttribute_11 : decode prog_7_method_11_code 11 = .ok (.ldc 116, 2) := by decide +kernel
theorem d_Markup_readAttribute_13 : decode prog_7_method_11_code 13 = .ok (.invokevirtual 118, 3) := by decide +kernel
theorem d_Markup_readAttribute_16 : decode prog_7_method_11_code 16 = .ok (.istore_n 3, 1) := by decide +kernel
theorem d_Markup_readAttribute_17 : decode prog_7_method_11_code 17 = .ok (.iload_n 3, 1) := by decide +kernel
theorem d_Markup_readAttribute_18 : decode prog_7_method_11_code 18 = .ok (.ifCond .eq 13, 3) := by decide +kernel
theorem d_Markup_readAttribute_31 : decode prog_7_method_11_code 31 = .ok (.aload_n 0, 1) := by decide +kernel
theorem d_Markup_readAttribute_32 : decode prog_7_method_11_code 32 = .ok (.getfield 105, 3) := by decide +kernel
theorem d_Markup_readAttribute_35 : decode prog_7_method_11_code 35 = .ok (.ifCond .ne 13, 3) := by decide +kernel
theorem d_Markup_readAttribute_48 : decode prog_7_method_11_code 48 = .ok (.aload_n 0, 1) := by decide +kernel
theorem d_Markup_readAttribute_49 : decode prog_7_method_11_code 49 = .ok (.iload_n 2, 1) := by decide +kernel
theorem d_Markup_readAttribute_50 : decode prog_7_method_11_code 50 = .ok (.invokevirtual 96, 3) := by decide +kernel
theorem d_Markup_readAttribute_53 : decode prog_7_method_11_code 53 = .ok (.ireturn, 1) := by decide +kernel
theorem d_Markup_readAttribute_38 : decode prog_7_method_11_code 38 = .ok (.aload_n 0, 1) := by decide +kernel
theorem d_Markup_readAttribute_39 : decode prog_7_method_11_code 39 = .ok (.iload_n 2, 1) := by decide +kernel
theorem d_Markup_readAttribute_40 : decode prog_7_method_11_code 40 = .ok (.ldc 122, 2) := by decide +kernel
theorem d_Markup_readAttribute_42 : decode prog_7_method_11_code 42 = .ok (.invokevirtual 118, 3) := by decide +kernel
theorem d_Markup_readAttribute_45 : decode prog_7_method_11_code 45 = .ok (.ifCond .ne 9, 3) := by decide +kernel
theorem d_Markup_readAttribute_54 : decode prog_7_method_11_code 54 = .ok (.aload_n 0, 1) := by decide +kernel
theorem d_Markup_readAttribute_55 : decode prog_7_method_11_code 55 = .ok (.ldc 124, 2) := by decide +kernel
theorem d_Markup_readAttribute_57 : decode prog_7_method_11_code 57 = .ok (.invokevirtual 73, 3) := by decide +kernel
theorem d_Markup_readAttribute_60 : decode prog_7_method_11_code 60 = .ok (.ifCond .ne 5, 3) := by decide +kernel
theorem d_Markup_readAttribute_65 : decode prog_7_method_11_code 65 = .ok (.aload_n 0, 1) := by decide +kernel
theorem d_Markup_readAttribute_66 : decode prog_7_method_11_code 66 = .ok (.iconst 0, 1) := by decide +kernel
theorem d_Markup_readAttribute_67 : decode prog_7_method_11_code 67 = .ok (.invokevirtual 80, 3) := by decide +kernel
theorem d_Markup_readAttribute_70 : decode prog_7_method_11_code 70 = .ok (.istore 4, 2) := by decide +kernel
theorem d_Markup_readAttribute_72 : decode prog_7_method_11_code 72 = .ok (.iload 4, 2) := by decide +kernel
theorem d_Markup_readAttribute_74 : decode prog_7_method_11_code 74 = .ok (.bipush 34, 2) := by decide +kernel
theorem d_Markup_readAttribute_76 : decode prog_7_method_11_code 76 = .ok (.if_icmp .eq 19, 3) := by decide +kernel
theorem d_Markup_readAttribute_95 : decode prog_7_method_11_code 95 = .ok (.aload_n 0, 1) := by decide +kernel
theorem d_Markup_readAttribute_96 : decode prog_7_method_11_code 96 = .ok (.dup, 1) := by decide +kernel
theorem d_Markup_readAttribute_97 : decode prog_7_method_11_code 97 = .ok (.getfield 48, 3) := by decide +kernel
theorem d_Markup_readAttribute_100 : decode prog_7_method_11_code 100 = .ok (.iconst 1, 1) := by decide +kernel
theorem d_Markup_readAttribute_101 : decode prog_7_method_11_code 101 = .ok (.iadd, 1) := by decide +kernel
theorem d_Markup_readAttribute_102 : decode prog_7_method_11_code 102 = .ok (.putfield 48, 3) := by decide +kernel
theorem d_Markup_readAttribute_105 : decode prog_7_method_11_code 105 = .ok (.aload_n 0, 1) := by decide +kernel
theorem d_Markup_readAttribute_106 : decode prog_7_method_11_code 106 = .ok (.iload 4, 2) := by decide +kernel
theorem d_Markup_readAttribute_108 : decode prog_7_method_11_code 108 = .ok (.invokevirtual 126, 3) := by decide +kernel
theorem k_860 : (Jvm.Cond.methodLink "PackageBook$Markup" (126 : Nat) ({ cls := "PackageBook$Markup", name := "readValue", desc := "(I)Z" } : Jvm.MethodName)) ∈ uW := uW_of 860 (by decide +kernel) (by decide +kernel)
theorem k_863 : (Jvm.Cond.code ({ cls := "PackageBook$Markup", name := "readValue", desc := "(I)Z" } : Jvm.MethodName) prog_7_method_12_code (4 : Nat) (Option.some Jvm.ClassFile.FieldType.boolean)) ∈ uW := uW_of 863 (by decide +kernel) (by decide +kernel)
theorem k_862 : (Jvm.Cond.instanceMethod ({ cls := "PackageBook$Markup", name := "readValue", desc := "(I)Z" } : Jvm.MethodName)) ∈ uW := uW_of 862 (by decide +kernel) (by decide +kernel)
theorem k_42 : Cond.selects "PackageBook$Markup" ⟨"PackageBook$Markup", "readValue", "(I)Z"⟩ ⟨"PackageBook$Markup", "readValue", "(I)Z"⟩ ∈ uW := uW_of 42 (by decide +kernel) (by decide +kernel)
theorem hy_Markup_readValue : (y_Markup_readValue).cls ≠ "java/lang/invoke/MethodHandle" ∧ (y_Markup_readValue).cls ≠ "java/lang/invoke/VarHandle" ∧ (parseMethodDescriptor (y_Markup_readValue).desc).map (fun d => d.parameters.length) = some 1 := by decide +kernel
theorem d_Markup_readAttribute_111 : decode prog_7_method_11_code 111 = .ok (.ifCond .ne 5, 3) := by decide +kernel
theorem d_Markup_readAttribute_116 : decode prog_7_method_11_code 116 = .ok (.iload_n 3, 1) := by decide +kernel
theorem d_Markup_readAttribute_117 : decode prog_7_method_11_code 117 = .ok (.ifCond .eq 13, 3) := by decide +kernel
theorem d_Markup_readAttribute_130 : decode prog_7_method_11_code 130 = .ok (.aload_n 0, 1) := by decide +kernel
theorem d_Markup_readAttribute_131 : decode prog_7_method_11_code 131 = .ok (.aload_n 1, 1) := by decide +kernel
theorem d_Markup_readAttribute_132 : decode prog_7_method_11_code 132 = .ok (.invokevirtual 132, 3) := by decide +kernel
theorem k_882 : (Jvm.Cond.methodLink "PackageBook$Markup" (132 : Nat) ({ cls := "PackageBook$Markup", name := "keepGoal", desc := "(LPackageBook$Shelf;)Z" } : Jvm.MethodName)) ∈ uW := uW_of 882 (by decide +kernel) (by decide +kernel)
theorem k_885 : (Jvm.Cond.code ({ cls := "PackageBook$Markup", name := "keepGoal", desc := "(LPackageBook$Shelf;)Z" } : Jvm.MethodName) prog_7_method_16_code (2 : Nat) (Option.some Jvm.ClassFile.FieldType.boolean)) ∈ uW := uW_of 885 (by decide +kernel) (by decide +kernel)
theorem k_884 : (Jvm.Cond.instanceMethod ({ cls := "PackageBook$Markup", name := "keepGoal", desc := "(LPackageBook$Shelf;)Z" } : Jvm.MethodName)) ∈ uW := uW_of 884 (by decide +kernel) (by decide +kernel)
theorem k_46 : Cond.selects "PackageBook$Markup" ⟨"PackageBook$Markup", "keepGoal", "(LPackageBook$Shelf;)Z"⟩ ⟨"PackageBook$Markup", "keepGoal", "(LPackageBook$Shelf;)Z"⟩ ∈ uW := uW_of 46 (by decide +kernel) (by decide +kernel)
theorem hy_Markup_keepGoal : (y_Markup_keepGoal).cls ≠ "java/lang/invoke/MethodHandle" ∧ (y_Markup_keepGoal).cls ≠ "java/lang/invoke/VarHandle" ∧ (parseMethodDescriptor (y_Markup_keepGoal).desc).map (fun d => d.parameters.length) = some 1 := by decide +kernel
theorem d_Markup_readAttribute_135 : decode prog_7_method_11_code 135 = .ok (.ifCond .ne 12, 3) := by decide +kernel
theorem d_Markup_readAttribute_147 : decode prog_7_method_11_code 147 = .ok (.aload_n 0, 1) := by decide +kernel
theorem d_Markup_readAttribute_148 : decode prog_7_method_11_code 148 = .ok (.dup, 1) := by decide +kernel
theorem d_Markup_readAttribute_149 : decode prog_7_method_11_code 149 = .ok (.getfield 48, 3) := by decide +kernel
theorem d_Markup_readAttribute_152 : decode prog_7_method_11_code 152 = .ok (.iconst 1, 1) := by decide +kernel
theorem d_Markup_readAttribute_153 : decode prog_7_method_11_code 153 = .ok (.iadd, 1) := by decide +kernel
theorem d_Markup_readAttribute_154 : decode prog_7_method_11_code 154 = .ok (.putfield 48, 3) := by decide +kernel
theorem d_Markup_readAttribute_157 : decode prog_7_method_11_code 157 = .ok (.iconst 1, 1) := by decide +kernel
theorem d_Markup_readAttribute_158 : decode prog_7_method_11_code 158 = .ok (.ireturn, 1) := by decide +kernel
theorem d_Markup_readAttribute_138 : decode prog_7_method_11_code 138 = .ok (.aload_n 0, 1) := by decide +kernel
theorem d_Markup_readAttribute_139 : decode prog_7_method_11_code 139 = .ok (.aload_n 0, 1) := by decide +kernel
theorem d_Markup_readAttribute_140 : decode prog_7_method_11_code 140 = .ok (.getfield 48, 3) := by decide +kernel
theorem d_Markup_readAttribute_143 : decode prog_7_method_11_code 143 = .ok (.invokevirtual 96, 3) := by decide +kernel
theorem d_Markup_readAttribute_146 : decode prog_7_method_11_code 146 = .ok (.ireturn, 1) := by decide +kernel
theorem d_Markup_readAttribute_120 : decode prog_7_method_11_code 120 = .ok (.aload_n 0, 1) := by decide +kernel
theorem d_Markup_readAttribute_121 : decode prog_7_method_11_code 121 = .ok (.invokevirtual 129, 3) := by decide +kernel
theorem k_878 : (Jvm.Cond.methodLink "PackageBook$Markup" (129 : Nat) ({ cls := "PackageBook$Markup", name := "keepId", desc := "()Z" } : Jvm.MethodName)) ∈ uW := uW_of 878 (by decide +kernel) (by decide +kernel)
theorem k_881 : (Jvm.Cond.code ({ cls := "PackageBook$Markup", name := "keepId", desc := "()Z" } : Jvm.MethodName) prog_7_method_15_code (4 : Nat) (Option.some Jvm.ClassFile.FieldType.boolean)) ∈ uW := uW_of 881 (by decide +kernel) (by decide +kernel)
theorem k_880 : (Jvm.Cond.instanceMethod ({ cls := "PackageBook$Markup", name := "keepId", desc := "()Z" } : Jvm.MethodName)) ∈ uW := uW_of 880 (by decide +kernel) (by decide +kernel)
theorem k_45 : Cond.selects "PackageBook$Markup" ⟨"PackageBook$Markup", "keepId", "()Z"⟩ ⟨"PackageBook$Markup", "keepId", "()Z"⟩ ∈ uW := uW_of 45 (by decide +kernel) (by decide +kernel)
theorem hy_Markup_keepId : (y_Markup_keepId).cls ≠ "java/lang/invoke/MethodHandle" ∧ (y_Markup_keepId).cls ≠ "java/lang/invoke/VarHandle" ∧ (parseMethodDescriptor (y_Markup_keepId).desc).map (fun d => d.parameters.length) = some 0 := by decide +kernel
theorem d_Markup_readAttribute_124 : decode prog_7_method_11_code 124 = .ok (.ifCond .eq 14, 3) := by decide +kernel
theorem d_Markup_readAttribute_127 : decode prog_7_method_11_code 127 = .ok (.goto 20, 3) := by decide +kernel
theorem d_Markup_readAttribute_114 : decode prog_7_method_11_code 114 = .ok (.iconst 0, 1) := by decide +kernel
theorem d_Markup_readAttribute_115 : decode prog_7_method_11_code 115 = .ok (.ireturn, 1) := by decide +kernel
theorem d_Markup_readAttribute_79 : decode prog_7_method_11_code 79 = .ok (.iload 4, 2) := by decide +kernel
theorem d_Markup_readAttribute_81 : decode prog_7_method_11_code 81 = .ok (.bipush 39, 2) := by decide +kernel
theorem d_Markup_readAttribute_83 : decode prog_7_method_11_code 83 = .ok (.if_icmp .eq 12, 3) := by decide +kernel
theorem d_Markup_readAttribute_86 : decode prog_7_method_11_code 86 = .ok (.aload_n 0, 1) := by decide +kernel
theorem d_Markup_readAttribute_87 : decode prog_7_method_11_code 87 = .ok (.aload_n 0, 1) := by decide +kernel
theorem d_Markup_readAttribute_88 : decode prog_7_method_11_code 88 = .ok (.getfield 48, 3) := by decide +kernel
theorem d_Markup_readAttribute_91 : decode prog_7_method_11_code 91 = .ok (.invokevirtual 96, 3) := by decide +kernel
theorem d_Markup_readAttribute_94 : decode prog_7_method_11_code 94 = .ok (.ireturn, 1) := by decide +kernel
theorem d_Markup_readAttribute_63 : decode prog_7_method_11_code 63 = .ok (.iconst 0, 1) := by decide +kernel
theorem d_Markup_readAttribute_64 : decode prog_7_method_11_code 64 = .ok (.ireturn, 1) := by decide +kernel
theorem d_Markup_readAttribute_21 : decode prog_7_method_11_code 21 = .ok (.aload_n 0, 1) := by decide +kernel
theorem d_Markup_readAttribute_22 : decode prog_7_method_11_code 22 = .ok (.getfield 102, 3) := by decide +kernel
theorem d_Markup_readAttribute_25 : decode prog_7_method_11_code 25 = .ok (.ifCond .eq 29, 3) := by decide +kernel
theorem d_Markup_readAttribute_28 : decode prog_7_method_11_code 28 = .ok (.goto 20, 3) := by decide +kernel
abbrev y_Markup_readAttribute : MethodName := ⟨"PackageBook$Markup", "readAttribute", "(LPackageBook$Shelf;)Z"⟩
abbrev i_Markup_readAttribute : pb_I := (y_Markup_readAttribute, prog_7_method_11_code, 5, (some Jvm.ClassFile.FieldType.boolean), [], { frames := 7, cells := 0, slots := 0, locals := 153 })
set_option maxRecDepth 100000 in
set_option maxHeartbeats 4000000 in
theorem g_Mu_readAttribute {l : Launch} (hl : l.stackTraces = false) (G : pb_G) (h : Nat) (ui : Nat) (ug : Nat) (uv : Nat) (ct : Int32) (fa : Int32) (bg : Int32) (at_ : Int32) (en : Int32) (vs : Int32) (io : Int32) (hi : Int32) (ht : Int32) (tfb : Nat → Int32) (vf : Nat → Int32) (gf : Nat → Int32) (df : Nat → Int64) (sp : Nat) (tn : Nat) (tz : Nat) (tb : Nat) (tg : Nat) (c : Int32) (tfn : Nat → Int32) (tfz : Nat → Int32) (tfg : Nat → Int32) (a0 : 0 ≤ at_.toInt) (a1 : at_.toInt ≤ en.toInt) (a2 : en.toInt ≤ 12000) (c0 : 0 ≤ ct.toInt) (c1 : ct.toInt ≤ 200) (I : sh_I c.toInt tfz tfg) (F_tfb : sb_Fit tfb) (F_vf : sb_Fit vf) (F_tfn : sb_Fit tfn) : Cn l G i_Markup_readAttribute [.ref h, .ref sp] [(h, .inr (8, [.ref ui, .ref ug, .ref uv, .ref tb, .int ct, .int fa, .int bg, .int at_, .int en, .int vs, .int io, .int hi, .int ht])), (tb, .inl (G.2.1, 12000, .inl tfb)), (uv, .inl (G.2.1, 24, .inl vf)), (ug, .inl (G.2.2.1, 200, .inl gf)), (ui, .inl (G.2.2.2.1, 200, .inr (.inl df))), (sp, .inr (3, [.ref tn, .ref tz, .ref tb, .ref tg, .int c])), (tn, .inl (G.2.1, 384, .inl tfn)), (tz, .inl (G.2.2.1, 16, .inl tfz))] (S := Int32 × Int32 × Int32 × Int32 × Int32 × Int32 × (Nat → Int32) × (Nat → Int32) × (Nat → Int64)) (fun rv_ u => rv_ = some (.int u.1) ∧ (u.1.toInt = 0 ∨ u.1.toInt = 1) ∧ (at_.toInt ≤ u.2.1.toInt) ∧ (u.2.1.toInt ≤ en.toInt) ∧ (u.2.2.2.2.1.toInt ≠ 0 → hi.toInt ≠ 0 ∨ ct.toInt < 200) ∧ (sb_Fit u.2.2.2.2.2.2.1)) (fun u => [(h, .inr (8, [.ref ui, .ref ug, .ref uv, .ref tb, .int ct, .int u.2.2.1, .int bg, .int u.2.1, .int en, .int u.2.2.2.1, .int io, .int u.2.2.2.2.1, .int u.2.2.2.2.2.1])), (tb, .inl (G.2.1, 12000, .inl tfb)), (uv, .inl (G.2.1, 24, .inl u.2.2.2.2.2.2.1)), (ug, .inl (G.2.2.1, 200, .inl u.2.2.2.2.2.2.2.1)), (ui, .inl (G.2.2.2.1, 200, .inr (.inl u.2.2.2.2.2.2.2.2))), (sp, .inr (3, [.ref tn, .ref tz, .ref tb, .ref tg, .int c])), (tn, .inl (G.2.1, 384, .inl tfn)), (tz, .inl (G.2.2.1, 16, .inl tfz))]) := by
  refine Cn.of hl (by decide +kernel) rfl (Nat.le_of_ble_eq_true rfl) (fun M hQ => ?_)
  refine pb_eq (pc' := 0) (lo' := [(0, .ref h), (1, .ref sp)]) (rest' := []) (ws' := [(h, .inr (8, [.ref ui, .ref ug, .ref uv, .ref tb, .int ct, .int fa, .int bg, .int at_, .int en, .int vs, .int io, .int hi, .int ht])), (tb, .inl (G.2.1, 12000, .inl tfb)), (uv, .inl (G.2.1, 24, .inl vf)), (ug, .inl (G.2.2.1, 200, .inl gf)), (ui, .inl (G.2.2.2.1, 200, .inr (.inl df))), (sp, .inr (3, [.ref tn, .ref tz, .ref tb, .ref tg, .int c])), (tn, .inl (G.2.1, 384, .inl tfn)), (tz, .inl (G.2.2.1, 16, .inl tfz))]) ?_
  have zl0 : (0 : Int32).toInt = 0 := by decide
  have zl1 : (1 : Int32).toInt = 1 := by decide
  refine pb_aload_n (pc := 0) d_Markup_readAttribute_0 0 rfl rfl ?_
  refine pb_get (pc := 1) d_Markup_readAttribute_1 0 7 rfl rfl (by decide) in_Markup k_326 rfl ?_
  refine pb_istore_n (pc := 4) (lo' := [(2, .int at_), (0, .ref h), (1, .ref sp)]) d_Markup_readAttribute_4 rfl (by decide) rfl ?_
  refine pb_aload_n (pc := 5) d_Markup_readAttribute_5 1 rfl rfl ?_
  refine pb_callV (pc := 6) (I := i_Markup_readAttribute) (qb := 0) (ci := 8) (nA := 0) (rest := []) (wr := [(uv, .inl (G.2.1, 24, .inl vf)), (ug, .inl (G.2.2.1, 200, .inl gf)), (ui, .inl (G.2.2.2.1, 200, .inr (.inl df))), (sp, .inr (3, [.ref tn, .ref tz, .ref tb, .ref tg, .int c])), (tn, .inl (G.2.1, 384, .inl tfn)), (tz, .inl (G.2.2.1, 16, .inl tfz))]) d_Markup_readAttribute_6 (g_Mu_skipLetters hl G h ui ug uv tb ct fa bg at_ en vs io hi ht tfb (by first | (with_reducible assumption) | omega (splitDisjunctions := false) | assumption | omega | decide) (by first | (with_reducible assumption) | omega (splitDisjunctions := false) | assumption | omega | decide) (by first | (with_reducible assumption) | omega (splitDisjunctions := false) | assumption | omega | decide) F_tfb) rfl rfl [0, 1] [2, 3, 4, 5, 6, 7] (by decide) rfl rfl rfl (by decide) (by decide) k_852 rfl k_125 k_849 k_851 k_40 ⟨rfl, hy_Markup_skipLetters⟩ (by decide) rfl rfl (Nat.le_of_ble_eq_true rfl) (by decide) (fun v9 u2 ch1 => ?_)
  obtain ⟨at_3, rfl⟩ : ∃ z9, z9 = u2 := ⟨_, rfl⟩
  obtain ⟨ech1, ch1⟩ := ch1
  have ech1 : v9 = none := ech1
  subst ech1
  obtain ⟨fh4, fh5⟩ : (at_.toInt ≤ at_3.toInt) ∧ (at_3.toInt ≤ en.toInt) := ch1
  refine pb_eq (pc' := 9) (lo' := [(2, .int at_), (0, .ref h), (1, .ref sp)]) (rest' := []) (ws' := [(uv, .inl (G.2.1, 24, .inl vf)), (ug, .inl (G.2.2.1, 200, .inl gf)), (ui, .inl (G.2.2.2.1, 200, .inr (.inl df))), (sp, .inr (3, [.ref tn, .ref tz, .ref tb, .ref tg, .int c])), (tn, .inl (G.2.1, 384, .inl tfn)), (tz, .inl (G.2.2.1, 16, .inl tfz)), (h, .inr (8, [.ref ui, .ref ug, .ref uv, .ref tb, .int ct, .int fa, .int bg, .int at_3, .int en, .int vs, .int io, .int hi, .int ht])), (tb, .inl (G.2.1, 12000, .inl tfb))]) ?_
  refine pb_aload_n (pc := 9) d_Markup_readAttribute_9 1 rfl rfl ?_
  refine pb_iload_n (pc := 10) d_Markup_readAttribute_10 0 rfl rfl ?_
  refine pb_ldcS (pc := 11) (k := 7) d_Markup_readAttribute_11 rfl (by decide) ?_
  refine pb_callV (pc := 13) (I := i_Markup_readAttribute) (qb := 6) (ci := 8) (nA := 2) (rest := []) (wr := [(uv, .inl (G.2.1, 24, .inl vf)), (ug, .inl (G.2.2.1, 200, .inl gf)), (ui, .inl (G.2.2.2.1, 200, .inr (.inl df))), (sp, .inr (3, [.ref tn, .ref tz, .ref tb, .ref tg, .int c])), (tn, .inl (G.2.1, 384, .inl tfn)), (tz, .inl (G.2.2.1, 16, .inl tfz))]) d_Markup_readAttribute_13 (g_Mu_isText hl G h ui ug uv tb ct fa bg at_3 en vs io hi ht tfb at_ 7 (by first | (with_reducible assumption) | omega (splitDisjunctions := false) | assumption | omega | decide) (by first | (with_reducible assumption) | omega (splitDisjunctions := false) | assumption | omega | decide) (by first | (with_reducible assumption) | omega (splitDisjunctions := false) | assumption | omega | decide) (by first | assumption | decide | omega) (by first | (with_reducible assumption) | omega (splitDisjunctions := false) | assumption | omega | decide) F_tfb) rfl rfl [6, 7] [0, 1, 2, 3, 4, 5] (by decide) rfl rfl rfl (by decide) (by decide) k_857 rfl k_125 k_854 k_856 k_41 ⟨rfl, hy_Markup_isText⟩ (by decide) rfl rfl (Nat.le_of_ble_eq_true rfl) (by decide) (fun v9 u7 ch6 => ?_)
  obtain ⟨r_8, rfl⟩ : ∃ z9, z9 = u7 := ⟨_, rfl⟩
  obtain ⟨ech6, ch6⟩ := ch6
  have ech6 : v9 = some (.int r_8) := ech6
  subst ech6
  have fh9 : r_8.toInt = 0 ∨ r_8.toInt = 1 := ch6
  refine pb_eq (pc' := 16) (lo' := [(2, .int at_), (0, .ref h), (1, .ref sp)]) (rest' := [.int r_8]) (ws' := [(uv, .inl (G.2.1, 24, .inl vf)), (ug, .inl (G.2.2.1, 200, .inl gf)), (ui, .inl (G.2.2.2.1, 200, .inr (.inl df))), (sp, .inr (3, [.ref tn, .ref tz, .ref tb, .ref tg, .int c])), (tn, .inl (G.2.1, 384, .inl tfn)), (tz, .inl (G.2.2.1, 16, .inl tfz)), (h, .inr (8, [.ref ui, .ref ug, .ref uv, .ref tb, .int ct, .int fa, .int bg, .int at_3, .int en, .int vs, .int io, .int hi, .int ht])), (tb, .inl (G.2.1, 12000, .inl tfb))]) ?_
  refine pb_istore_n (pc := 16) (lo' := [(3, .int r_8), (2, .int at_), (0, .ref h), (1, .ref sp)]) d_Markup_readAttribute_16 rfl (by decide) rfl ?_
  refine pb_iload_n (pc := 17) d_Markup_readAttribute_17 0 rfl rfl ?_
  refine pb_if_eq (pc := 18) (tgt := 31) d_Markup_readAttribute_18 (by decide) (fun w10 => ?_) (fun w10 => ?_)
  · have tw10 : r_8.toInt = 0 := (ti_eq rfl (by decide)).mp w10
    refine pb_aload_n (pc := 31) d_Markup_readAttribute_31 2 rfl rfl ?_
    refine pb_get (pc := 32) d_Markup_readAttribute_32 6 12 rfl rfl (by decide) in_Markup k_331 rfl ?_
    refine pb_if_ne (pc := 35) (tgt := 48) d_Markup_readAttribute_35 (by decide) (fun w11 => ?_) (fun w11 => ?_)
    · have tw11 : ¬ ht.toInt = 0 := fun z9 => w11 ((ti_eq rfl (by decide)).mpr z9)
      refine pb_aload_n (pc := 48) d_Markup_readAttribute_48 2 rfl rfl ?_
      refine pb_iload_n (pc := 49) d_Markup_readAttribute_49 1 rfl rfl ?_
      refine pb_callV (pc := 50) (I := i_Markup_readAttribute) (qb := 6) (ci := 8) (nA := 1) (rest := []) (wr := [(uv, .inl (G.2.1, 24, .inl vf)), (ug, .inl (G.2.2.1, 200, .inl gf)), (ui, .inl (G.2.2.2.1, 200, .inr (.inl df))), (sp, .inr (3, [.ref tn, .ref tz, .ref tb, .ref tg, .int c])), (tn, .inl (G.2.1, 384, .inl tfn)), (tz, .inl (G.2.2.1, 16, .inl tfz)), (tb, .inl (G.2.1, 12000, .inl tfb))]) d_Markup_readAttribute_50 (g_Mu_fail hl G h ui ug uv tb ct fa bg at_3 en vs io hi ht at_) rfl rfl [6] [0, 1, 2, 3, 4, 5, 7] (by decide) rfl rfl rfl (by decide) (by decide) k_831 rfl k_125 k_828 k_830 k_36 ⟨rfl, hy_Markup_fail⟩ (by decide) rfl rfl (Nat.le_of_ble_eq_true rfl) (by decide) (fun v9 u13 ch12 => ?_)
      obtain ⟨f_14, rfl⟩ : ∃ z9, z9 = u13 := ⟨_, rfl⟩
      have ech12 := ch12
      have ech12 : v9 = some (.int 0) := ech12
      subst ech12
      refine pb_eq (pc' := 53) (lo' := [(3, .int r_8), (2, .int at_), (0, .ref h), (1, .ref sp)]) (rest' := [.int 0]) (ws' := [(uv, .inl (G.2.1, 24, .inl vf)), (ug, .inl (G.2.2.1, 200, .inl gf)), (ui, .inl (G.2.2.2.1, 200, .inr (.inl df))), (sp, .inr (3, [.ref tn, .ref tz, .ref tb, .ref tg, .int c])), (tn, .inl (G.2.1, 384, .inl tfn)), (tz, .inl (G.2.2.1, 16, .inl tfz)), (tb, .inl (G.2.1, 12000, .inl tfb)), (h, .inr (8, [.ref ui, .ref ug, .ref uv, .ref tb, .int ct, .int f_14, .int bg, .int at_3, .int en, .int vs, .int io, .int hi, .int ht]))]) ?_
      exact pb_iret (pc := 53) hQ d_Markup_readAttribute_53 rfl rfl (0, at_3, f_14, vs, hi, ht, vf, gf, df) ⟨rfl, (by (try dsimp only); first | done | (with_reducible assumption) | omega (splitDisjunctions := false) | assumption | omega | decide), (by (try dsimp only); first | done | (with_reducible assumption) | omega (splitDisjunctions := false) | assumption | omega | decide), (by (try dsimp only); first | done | (with_reducible assumption) | omega (splitDisjunctions := false) | assumption | omega | decide), (by (try dsimp only); first | done | (with_reducible assumption) | omega (splitDisjunctions := false) | assumption | omega | decide), F_vf⟩ [7, 6, 0, 1, 2, 3, 4, 5] (by decide) rfl rfl (by decide) (by decide)
    · have tw11 : ht.toInt = 0 := (ti_eq rfl (by decide)).mp w11
      refine pb_aload_n (pc := 38) d_Markup_readAttribute_38 2 rfl rfl ?_
      refine pb_iload_n (pc := 39) d_Markup_readAttribute_39 1 rfl rfl ?_
      refine pb_ldcS (pc := 40) (k := 8) d_Markup_readAttribute_40 rfl (by decide) ?_
      refine pb_callV (pc := 42) (I := i_Markup_readAttribute) (qb := 6) (ci := 8) (nA := 2) (rest := []) (wr := [(uv, .inl (G.2.1, 24, .inl vf)), (ug, .inl (G.2.2.1, 200, .inl gf)), (ui, .inl (G.2.2.2.1, 200, .inr (.inl df))), (sp, .inr (3, [.ref tn, .ref tz, .ref tb, .ref tg, .int c])), (tn, .inl (G.2.1, 384, .inl tfn)), (tz, .inl (G.2.2.1, 16, .inl tfz))]) d_Markup_readAttribute_42 (g_Mu_isText hl G h ui ug uv tb ct fa bg at_3 en vs io hi ht tfb at_ 8 (by first | (with_reducible assumption) | omega (splitDisjunctions := false) | assumption | omega | decide) (by first | (with_reducible assumption) | omega (splitDisjunctions := false) | assumption | omega | decide) (by first | (with_reducible assumption) | omega (splitDisjunctions := false) | assumption | omega | decide) (by first | assumption | decide | omega) (by first | (with_reducible assumption) | omega (splitDisjunctions := false) | assumption | omega | decide) F_tfb) rfl rfl [6, 7] [0, 1, 2, 3, 4, 5] (by decide) rfl rfl rfl (by decide) (by decide) k_857 rfl k_125 k_854 k_856 k_41 ⟨rfl, hy_Markup_isText⟩ (by decide) rfl rfl (Nat.le_of_ble_eq_true rfl) (by decide) (fun v9 u16 ch15 => ?_)
      obtain ⟨r_17, rfl⟩ : ∃ z9, z9 = u16 := ⟨_, rfl⟩
      obtain ⟨ech15, ch15⟩ := ch15
      have ech15 : v9 = some (.int r_17) := ech15
      subst ech15
      have fh18 : r_17.toInt = 0 ∨ r_17.toInt = 1 := ch15
      refine pb_eq (pc' := 45) (lo' := [(3, .int r_8), (2, .int at_), (0, .ref h), (1, .ref sp)]) (rest' := [.int r_17]) (ws' := [(uv, .inl (G.2.1, 24, .inl vf)), (ug, .inl (G.2.2.1, 200, .inl gf)), (ui, .inl (G.2.2.2.1, 200, .inr (.inl df))), (sp, .inr (3, [.ref tn, .ref tz, .ref tb, .ref tg, .int c])), (tn, .inl (G.2.1, 384, .inl tfn)), (tz, .inl (G.2.2.1, 16, .inl tfz)), (h, .inr (8, [.ref ui, .ref ug, .ref uv, .ref tb, .int ct, .int fa, .int bg, .int at_3, .int en, .int vs, .int io, .int hi, .int ht])), (tb, .inl (G.2.1, 12000, .inl tfb))]) ?_
      refine pb_if_ne (pc := 45) (tgt := 54) d_Markup_readAttribute_45 (by decide) (fun w19 => ?_) (fun w19 => ?_)
      · have tw19 : ¬ r_17.toInt = 0 := fun z9 => w19 ((ti_eq rfl (by decide)).mpr z9)
        refine pb_aload_n (pc := 54) d_Markup_readAttribute_54 2 rfl rfl ?_
        refine pb_ldcS (pc := 55) (k := 9) d_Markup_readAttribute_55 rfl (by decide) ?_
        refine pb_callV (pc := 57) (I := i_Markup_readAttribute) (qb := 6) (ci := 8) (nA := 1) (rest := []) (wr := [(uv, .inl (G.2.1, 24, .inl vf)), (ug, .inl (G.2.2.1, 200, .inl gf)), (ui, .inl (G.2.2.2.1, 200, .inr (.inl df))), (sp, .inr (3, [.ref tn, .ref tz, .ref tb, .ref tg, .int c])), (tn, .inl (G.2.1, 384, .inl tfn)), (tz, .inl (G.2.2.1, 16, .inl tfz))]) d_Markup_readAttribute_57 (g_Mu_takeText hl G h ui ug uv tb ct fa bg at_3 en vs io hi ht tfb 9 (by first | (with_reducible assumption) | omega (splitDisjunctions := false) | assumption | omega | decide) (by first | (with_reducible assumption) | omega (splitDisjunctions := false) | assumption | omega | decide) (by first | (with_reducible assumption) | omega (splitDisjunctions := false) | assumption | omega | decide) (by first | assumption | decide | omega) F_tfb) rfl rfl [6, 7] [0, 1, 2, 3, 4, 5] (by decide) rfl rfl rfl (by decide) (by decide) k_825 rfl k_125 k_822 k_824 k_35 ⟨rfl, hy_Markup_takeText⟩ (by decide) rfl rfl (Nat.le_of_ble_eq_true rfl) (by decide) (fun v9 u21 ch20 => ?_)
        obtain ⟨r_22, at_23, f_24⟩ := u21
        obtain ⟨ech20, ch20⟩ := ch20
        have ech20 : v9 = some (.int r_22) := ech20
        subst ech20
        obtain ⟨fh25, fh26, fh27⟩ : (r_22.toInt = 0 ∨ r_22.toInt = 1) ∧ (at_3.toInt ≤ at_23.toInt) ∧ (at_23.toInt ≤ en.toInt) := ch20
        refine pb_eq (pc' := 60) (lo' := [(3, .int r_8), (2, .int at_), (0, .ref h), (1, .ref sp)]) (rest' := [.int r_22]) (ws' := [(uv, .inl (G.2.1, 24, .inl vf)), (ug, .inl (G.2.2.1, 200, .inl gf)), (ui, .inl (G.2.2.2.1, 200, .inr (.inl df))), (sp, .inr (3, [.ref tn, .ref tz, .ref tb, .ref tg, .int c])), (tn, .inl (G.2.1, 384, .inl tfn)), (tz, .inl (G.2.2.1, 16, .inl tfz)), (h, .inr (8, [.ref ui, .ref ug, .ref uv, .ref tb, .int ct, .int f_24, .int bg, .int at_23, .int en, .int vs, .int io, .int hi, .int ht])), (tb, .inl (G.2.1, 12000, .inl tfb))]) ?_
        refine pb_if_ne (pc := 60) (tgt := 65) d_Markup_readAttribute_60 (by decide) (fun w28 => ?_) (fun w28 => ?_)
        · have tw28 : ¬ r_22.toInt = 0 := fun z9 => w28 ((ti_eq rfl (by decide)).mpr z9)
          refine pb_aload_n (pc := 65) d_Markup_readAttribute_65 2 rfl rfl ?_
          refine pb_iconst (pc := 66) (v := 0) d_Markup_readAttribute_66 (by decide) ?_
          refine pb_callV (pc := 67) (I := i_Markup_readAttribute) (qb := 6) (ci := 8) (nA := 1) (rest := []) (wr := [(uv, .inl (G.2.1, 24, .inl vf)), (ug, .inl (G.2.2.1, 200, .inl gf)), (ui, .inl (G.2.2.2.1, 200, .inr (.inl df))), (sp, .inr (3, [.ref tn, .ref tz, .ref tb, .ref tg, .int c])), (tn, .inl (G.2.1, 384, .inl tfn)), (tz, .inl (G.2.2.1, 16, .inl tfz))]) d_Markup_readAttribute_67 (g_Mu_next hl G h ui ug uv tb ct f_24 bg at_23 en vs io hi ht tfb 0 (by first | (with_reducible assumption) | omega (splitDisjunctions := false) | assumption | omega | decide) (by first | (with_reducible assumption) | omega (splitDisjunctions := false) | assumption | omega | decide) (by first | (with_reducible assumption) | omega (splitDisjunctions := false) | assumption | omega | decide) (by first | (with_reducible assumption) | omega (splitDisjunctions := false) | assumption | omega | decide) (by first | (with_reducible assumption) | omega (splitDisjunctions := false) | assumption | omega | decide) F_tfb) rfl rfl [6, 7] [0, 1, 2, 3, 4, 5] (by decide) rfl rfl rfl (by decide) (by decide) k_813 rfl k_125 k_810 k_812 k_33 ⟨rfl, hy_Markup_next⟩ (by decide) rfl rfl (Nat.le_of_ble_eq_true rfl) (by decide) (fun v9 u30 ch29 => ?_)
          obtain ⟨r_31, rfl⟩ : ∃ z9, z9 = u30 := ⟨_, rfl⟩
          obtain ⟨ech29, ch29⟩ := ch29
          have ech29 : v9 = some (.int r_31) := ech29
          subst ech29
          obtain ⟨fh32, fh33, fh34⟩ : (-1 ≤ r_31.toInt) ∧ (r_31.toInt ≤ 255) ∧ (0 ≤ r_31.toInt → at_23.toInt + (0 : Int32).toInt < en.toInt) := ch29
          refine pb_eq (pc' := 70) (lo' := [(3, .int r_8), (2, .int at_), (0, .ref h), (1, .ref sp)]) (rest' := [.int r_31]) (ws' := [(uv, .inl (G.2.1, 24, .inl vf)), (ug, .inl (G.2.2.1, 200, .inl gf)), (ui, .inl (G.2.2.2.1, 200, .inr (.inl df))), (sp, .inr (3, [.ref tn, .ref tz, .ref tb, .ref tg, .int c])), (tn, .inl (G.2.1, 384, .inl tfn)), (tz, .inl (G.2.2.1, 16, .inl tfz)), (h, .inr (8, [.ref ui, .ref ug, .ref uv, .ref tb, .int ct, .int f_24, .int bg, .int at_23, .int en, .int vs, .int io, .int hi, .int ht])), (tb, .inl (G.2.1, 12000, .inl tfb))]) ?_
          refine pb_istore (pc := 70) (lo' := [(4, .int r_31), (3, .int r_8), (2, .int at_), (0, .ref h), (1, .ref sp)]) d_Markup_readAttribute_70 (by decide) rfl ?_
          refine pb_iload (pc := 72) d_Markup_readAttribute_72 0 rfl ?_
          refine pb_bipush (pc := 74) (v := 34) d_Markup_readAttribute_74 (by decide) ?_
          refine pb_icmp_eq (pc := 76) (tgt := 95) d_Markup_readAttribute_76 (by decide) (fun w35 => ?_) (fun w35 => ?_)
          · have tw35 : r_31.toInt = 34 := (ti_eq rfl (by decide)).mp w35
            refine pb_aload_n (pc := 95) d_Markup_readAttribute_95 3 rfl rfl ?_
            refine pb_dup (pc := 96) d_Markup_readAttribute_96 rfl ?_
            refine pb_get (pc := 97) d_Markup_readAttribute_97 6 7 rfl rfl (by decide) in_Markup k_326 rfl ?_
            refine pb_iconst (pc := 100) (v := 1) d_Markup_readAttribute_100 (by decide) ?_
            refine pb_iadd (pc := 101) d_Markup_readAttribute_101 ?_
            refine pb_topi (fun i36 ei36 => ?_)
            try have ti36 : i36.toInt = at_23.toInt + 1 := t2_add ei36 rfl (by decide) (by omega)
            refine pb_put (pc := 102) (ty := .int) (ws' := [(uv, .inl (G.2.1, 24, .inl vf)), (ug, .inl (G.2.2.1, 200, .inl gf)), (ui, .inl (G.2.2.2.1, 200, .inr (.inl df))), (sp, .inr (3, [.ref tn, .ref tz, .ref tb, .ref tg, .int c])), (tn, .inl (G.2.1, 384, .inl tfn)), (tz, .inl (G.2.2.1, 16, .inl tfz)), (h, .inr (8, [.ref ui, .ref ug, .ref uv, .ref tb, .int ct, .int f_24, .int bg, .int i36, .int en, .int vs, .int io, .int hi, .int ht])), (tb, .inl (G.2.1, 12000, .inl tfb))]) d_Markup_readAttribute_102 6 7 t_Markup t_Markup_ok n_Markup rfl rfl (by decide) in_Markup k_326 rfl (by decide +kernel) rfl rfl (Nat.le_of_ble_eq_true rfl) rfl ?_
            refine pb_aload_n (pc := 105) d_Markup_readAttribute_105 3 rfl rfl ?_
            refine pb_iload (pc := 106) d_Markup_readAttribute_106 0 rfl ?_
            refine pb_callV (pc := 108) (I := i_Markup_readAttribute) (qb := 6) (ci := 8) (nA := 1) (rest := []) (wr := [(ug, .inl (G.2.2.1, 200, .inl gf)), (ui, .inl (G.2.2.2.1, 200, .inr (.inl df))), (sp, .inr (3, [.ref tn, .ref tz, .ref tb, .ref tg, .int c])), (tn, .inl (G.2.1, 384, .inl tfn)), (tz, .inl (G.2.2.1, 16, .inl tfz))]) d_Markup_readAttribute_108 (g_Mu_readValue hl G h ui ug uv tb ct f_24 bg i36 en vs io hi ht tfb vf r_31 (by first | (with_reducible assumption) | omega (splitDisjunctions := false) | assumption | (clear fh34; first | omega (splitDisjunctions := false) | omega) | omega | decide) (by first | (with_reducible assumption) | omega (splitDisjunctions := false) | assumption | (clear fh34; first | omega (splitDisjunctions := false) | omega) | omega | decide) (by first | (with_reducible assumption) | omega (splitDisjunctions := false) | assumption | (clear fh34; first | omega (splitDisjunctions := false) | omega) | omega | decide) (by first | (with_reducible assumption) | omega (splitDisjunctions := false) | assumption | (clear fh34; first | omega (splitDisjunctions := false) | omega) | omega | decide) F_tfb F_vf) rfl rfl [6, 7, 0] [1, 2, 3, 4, 5] (by decide) rfl rfl rfl (by decide) (by decide) k_863 rfl k_125 k_860 k_862 k_42 ⟨rfl, hy_Markup_readValue⟩ (by decide) rfl rfl (Nat.le_of_ble_eq_true rfl) (by decide) (fun v9 u38 ch37 => ?_)
            obtain ⟨r_39, at_40, f_41, vs_42, vf_43⟩ := u38
            obtain ⟨ech37, ch37⟩ := ch37
            have ech37 : v9 = some (.int r_39) := ech37
            subst ech37
            obtain ⟨fh44, fh45, fh46, fh47, fh48, fh49⟩ : (r_39.toInt = 0 ∨ r_39.toInt = 1) ∧ (i36.toInt ≤ at_40.toInt) ∧ (at_40.toInt ≤ en.toInt) ∧ (r_39.toInt = 1 → at_40.toInt < en.toInt) ∧ (0 ≤ vs_42.toInt) ∧ (sb_Fit vf_43) := ch37
            refine pb_eq (pc' := 111) (lo' := [(4, .int r_31), (3, .int r_8), (2, .int at_), (0, .ref h), (1, .ref sp)]) (rest' := [.int r_39]) (ws' := [(ug, .inl (G.2.2.1, 200, .inl gf)), (ui, .inl (G.2.2.2.1, 200, .inr (.inl df))), (sp, .inr (3, [.ref tn, .ref tz, .ref tb, .ref tg, .int c])), (tn, .inl (G.2.1, 384, .inl tfn)), (tz, .inl (G.2.2.1, 16, .inl tfz)), (h, .inr (8, [.ref ui, .ref ug, .ref uv, .ref tb, .int ct, .int f_41, .int bg, .int at_40, .int en, .int vs_42, .int io, .int hi, .int ht])), (tb, .inl (G.2.1, 12000, .inl tfb)), (uv, .inl (G.2.1, 24, .inl vf_43))]) ?_
            refine pb_if_ne (pc := 111) (tgt := 116) d_Markup_readAttribute_111 (by decide) (fun w50 => ?_) (fun w50 => ?_)
            · have tw50 : ¬ r_39.toInt = 0 := fun z9 => w50 ((ti_eq rfl (by decide)).mpr z9)
              refine pb_iload_n (pc := 116) d_Markup_readAttribute_116 1 rfl rfl ?_
              refine pb_if_eq (pc := 117) (tgt := 130) d_Markup_readAttribute_117 (by decide) (fun w51 => ?_) (fun w51 => ?_)
              · have tw51 : r_8.toInt = 0 := (ti_eq rfl (by decide)).mp w51
                refine pb_aload_n (pc := 130) d_Markup_readAttribute_130 3 rfl rfl ?_
                refine pb_aload_n (pc := 131) d_Markup_readAttribute_131 4 rfl rfl ?_
                refine pb_callV (pc := 132) (I := i_Markup_readAttribute) (qb := 5) (ci := 8) (nA := 1) (rest := []) (wr := [(ui, .inl (G.2.2.2.1, 200, .inr (.inl df))), (tb, .inl (G.2.1, 12000, .inl tfb))]) d_Markup_readAttribute_132 (g_Mu_keepGoal hl G h ui ug uv tb ct f_41 bg at_40 en vs_42 io hi ht vf_43 gf sp tn tz tb tg c tfn tfz tfg (by first | (with_reducible assumption) | omega (splitDisjunctions := false) | assumption | (clear fh34 fh47; first | omega (splitDisjunctions := false) | omega) | omega | decide) (by first | assumption | decide | omega) fh49 F_tfn) rfl rfl [5, 7, 0, 2, 3, 4] [1, 6] (by decide) rfl rfl rfl (by decide) (by decide) k_885 rfl k_125 k_882 k_884 k_46 ⟨rfl, hy_Markup_keepGoal⟩ (by decide) rfl rfl (Nat.le_of_ble_eq_true rfl) (by decide) (fun v9 u53 ch52 => ?_)
                obtain ⟨r_54, ht_55, gf_56⟩ := u53
                obtain ⟨ech52, ch52⟩ := ch52
                have ech52 : v9 = some (.int r_54) := ech52
                subst ech52
                obtain ⟨fh57, fh58⟩ : (r_54.toInt = 0 ∨ r_54.toInt = 1) ∧ (r_54.toInt = 1 → ct.toInt < 200) := ch52
                refine pb_eq (pc' := 135) (lo' := [(4, .int r_31), (3, .int r_8), (2, .int at_), (0, .ref h), (1, .ref sp)]) (rest' := [.int r_54]) (ws' := [(ui, .inl (G.2.2.2.1, 200, .inr (.inl df))), (tb, .inl (G.2.1, 12000, .inl tfb)), (h, .inr (8, [.ref ui, .ref ug, .ref uv, .ref tb, .int ct, .int f_41, .int bg, .int at_40, .int en, .int vs_42, .int io, .int hi, .int ht_55])), (uv, .inl (G.2.1, 24, .inl vf_43)), (ug, .inl (G.2.2.1, 200, .inl gf_56)), (sp, .inr (3, [.ref tn, .ref tz, .ref tb, .ref tg, .int c])), (tn, .inl (G.2.1, 384, .inl tfn)), (tz, .inl (G.2.2.1, 16, .inl tfz))]) ?_
                refine pb_if_ne (pc := 135) (tgt := 147) d_Markup_readAttribute_135 (by decide) (fun w59 => ?_) (fun w59 => ?_)
                · have tw59 : ¬ r_54.toInt = 0 := fun z9 => w59 ((ti_eq rfl (by decide)).mpr z9)
                  refine pb_aload_n (pc := 147) d_Markup_readAttribute_147 3 rfl rfl ?_
                  refine pb_dup (pc := 148) d_Markup_readAttribute_148 rfl ?_
                  refine pb_get (pc := 149) d_Markup_readAttribute_149 2 7 rfl rfl (by decide) in_Markup k_326 rfl ?_
                  refine pb_iconst (pc := 152) (v := 1) d_Markup_readAttribute_152 (by decide) ?_
                  refine pb_iadd (pc := 153) d_Markup_readAttribute_153 ?_
                  refine pb_topi (fun i60 ei60 => ?_)
                  try have ti60 : i60.toInt = at_40.toInt + 1 := t2_add ei60 rfl (by decide) (by omega)
                  refine pb_put (pc := 154) (ty := .int) (ws' := [(ui, .inl (G.2.2.2.1, 200, .inr (.inl df))), (tb, .inl (G.2.1, 12000, .inl tfb)), (h, .inr (8, [.ref ui, .ref ug, .ref uv, .ref tb, .int ct, .int f_41, .int bg, .int i60, .int en, .int vs_42, .int io, .int hi, .int ht_55])), (uv, .inl (G.2.1, 24, .inl vf_43)), (ug, .inl (G.2.2.1, 200, .inl gf_56)), (sp, .inr (3, [.ref tn, .ref tz, .ref tb, .ref tg, .int c])), (tn, .inl (G.2.1, 384, .inl tfn)), (tz, .inl (G.2.2.1, 16, .inl tfz))]) d_Markup_readAttribute_154 2 7 t_Markup t_Markup_ok n_Markup rfl rfl (by decide) in_Markup k_326 rfl (by decide +kernel) rfl rfl (Nat.le_of_ble_eq_true rfl) rfl ?_
                  refine pb_iconst (pc := 157) (v := 1) d_Markup_readAttribute_157 (by decide) ?_
                  exact pb_iret (pc := 158) hQ d_Markup_readAttribute_158 rfl rfl (1, i60, f_41, vs_42, hi, ht_55, vf_43, gf_56, df) ⟨rfl, (by (try dsimp only); first | done | (with_reducible assumption) | omega (splitDisjunctions := false) | assumption | (clear fh34 fh47 fh58; first | omega (splitDisjunctions := false) | omega) | omega | decide), (by (try dsimp only); first | done | (with_reducible assumption) | omega (splitDisjunctions := false) | assumption | (clear fh34 fh47 fh58; first | omega (splitDisjunctions := false) | omega) | omega | decide), (by (try dsimp only); first | done | (with_reducible assumption) | omega (splitDisjunctions := false) | assumption | (clear fh34 fh47 fh58; first | omega (splitDisjunctions := false) | omega) | omega | decide), (by (try dsimp only); first | done | (with_reducible assumption) | omega (splitDisjunctions := false) | assumption | exact fun q90 => (by clear fh34 fh47 fh58; first | omega (splitDisjunctions := false) | omega) | omega | decide), fh49⟩ [2, 1, 3, 4, 0, 5, 6, 7] (by decide) rfl rfl (by decide) (by decide)
                · have tw59 : r_54.toInt = 0 := (ti_eq rfl (by decide)).mp w59
                  refine pb_aload_n (pc := 138) d_Markup_readAttribute_138 3 rfl rfl ?_
                  refine pb_aload_n (pc := 139) d_Markup_readAttribute_139 3 rfl rfl ?_
                  refine pb_get (pc := 140) d_Markup_readAttribute_140 2 7 rfl rfl (by decide) in_Markup k_326 rfl ?_
                  refine pb_callV (pc := 143) (I := i_Markup_readAttribute) (qb := 2) (ci := 8) (nA := 1) (rest := []) (wr := [(ui, .inl (G.2.2.2.1, 200, .inr (.inl df))), (tb, .inl (G.2.1, 12000, .inl tfb)), (uv, .inl (G.2.1, 24, .inl vf_43)), (ug, .inl (G.2.2.1, 200, .inl gf_56)), (sp, .inr (3, [.ref tn, .ref tz, .ref tb, .ref tg, .int c])), (tn, .inl (G.2.1, 384, .inl tfn)), (tz, .inl (G.2.2.1, 16, .inl tfz))]) d_Markup_readAttribute_143 (g_Mu_fail hl G h ui ug uv tb ct f_41 bg at_40 en vs_42 io hi ht_55 at_40) rfl rfl [2] [0, 1, 3, 4, 5, 6, 7] (by decide) rfl rfl rfl (by decide) (by decide) k_831 rfl k_125 k_828 k_830 k_36 ⟨rfl, hy_Markup_fail⟩ (by decide) rfl rfl (Nat.le_of_ble_eq_true rfl) (by decide) (fun v9 u62 ch61 => ?_)
                  obtain ⟨f_63, rfl⟩ : ∃ z9, z9 = u62 := ⟨_, rfl⟩
                  have ech61 := ch61
                  have ech61 : v9 = some (.int 0) := ech61
                  subst ech61
                  refine pb_eq (pc' := 146) (lo' := [(4, .int r_31), (3, .int r_8), (2, .int at_), (0, .ref h), (1, .ref sp)]) (rest' := [.int 0]) (ws' := [(ui, .inl (G.2.2.2.1, 200, .inr (.inl df))), (tb, .inl (G.2.1, 12000, .inl tfb)), (uv, .inl (G.2.1, 24, .inl vf_43)), (ug, .inl (G.2.2.1, 200, .inl gf_56)), (sp, .inr (3, [.ref tn, .ref tz, .ref tb, .ref tg, .int c])), (tn, .inl (G.2.1, 384, .inl tfn)), (tz, .inl (G.2.2.1, 16, .inl tfz)), (h, .inr (8, [.ref ui, .ref ug, .ref uv, .ref tb, .int ct, .int f_63, .int bg, .int at_40, .int en, .int vs_42, .int io, .int hi, .int ht_55]))]) ?_
                  exact pb_iret (pc := 146) hQ d_Markup_readAttribute_146 rfl rfl (0, at_40, f_63, vs_42, hi, ht_55, vf_43, gf_56, df) ⟨rfl, (by (try dsimp only); first | done | (with_reducible assumption) | omega (splitDisjunctions := false) | assumption | (clear fh34 fh47 fh58; first | omega (splitDisjunctions := false) | omega) | omega | decide), (by (try dsimp only); first | done | (with_reducible assumption) | omega (splitDisjunctions := false) | assumption | (clear fh34 fh47 fh58; first | omega (splitDisjunctions := false) | omega) | omega | decide), (by (try dsimp only); first | done | (with_reducible assumption) | omega (splitDisjunctions := false) | assumption | (clear fh34 fh47 fh58; first | omega (splitDisjunctions := false) | omega) | omega | decide), (by (try dsimp only); first | done | (with_reducible assumption) | omega (splitDisjunctions := false) | assumption | exact fun q90 => (by clear fh34 fh47 fh58; first | omega (splitDisjunctions := false) | omega) | omega | decide), fh49⟩ [7, 1, 2, 3, 0, 4, 5, 6] (by decide) rfl rfl (by decide) (by decide)
              · have tw51 : ¬ r_8.toInt = 0 := fun z9 => w51 ((ti_eq rfl (by decide)).mpr z9)
                refine pb_aload_n (pc := 120) d_Markup_readAttribute_120 3 rfl rfl ?_
                refine pb_callV (pc := 121) (I := i_Markup_readAttribute) (qb := 5) (ci := 8) (nA := 0) (rest := []) (wr := [(ug, .inl (G.2.2.1, 200, .inl gf)), (sp, .inr (3, [.ref tn, .ref tz, .ref tb, .ref tg, .int c])), (tn, .inl (G.2.1, 384, .inl tfn)), (tz, .inl (G.2.2.1, 16, .inl tfz)), (tb, .inl (G.2.1, 12000, .inl tfb))]) d_Markup_readAttribute_121 (g_Mu_keepId hl G h ui ug uv tb ct f_41 bg at_40 en vs_42 io hi ht vf_43 df (by first | (with_reducible assumption) | omega (splitDisjunctions := false) | assumption | (clear fh34 fh47; first | omega (splitDisjunctions := false) | omega) | omega | decide) fh49) rfl rfl [5, 7, 1] [0, 2, 3, 4, 6] (by decide) rfl rfl rfl (by decide) (by decide) k_881 rfl k_125 k_878 k_880 k_45 ⟨rfl, hy_Markup_keepId⟩ (by decide) rfl rfl (Nat.le_of_ble_eq_true rfl) (by decide) (fun v9 u65 ch64 => ?_)
                obtain ⟨r_66, hi_67, df_68⟩ := u65
                obtain ⟨ech64, ch64⟩ := ch64
                have ech64 : v9 = some (.int r_66) := ech64
                subst ech64
                obtain ⟨fh69, fh70, fh71⟩ : (r_66.toInt = 0 ∨ r_66.toInt = 1) ∧ (hi_67.toInt ≠ 0 → hi.toInt ≠ 0 ∨ ct.toInt < 200) ∧ (r_66.toInt = 1 → ct.toInt < 200) := ch64
                refine pb_eq (pc' := 124) (lo' := [(4, .int r_31), (3, .int r_8), (2, .int at_), (0, .ref h), (1, .ref sp)]) (rest' := [.int r_66]) (ws' := [(ug, .inl (G.2.2.1, 200, .inl gf)), (sp, .inr (3, [.ref tn, .ref tz, .ref tb, .ref tg, .int c])), (tn, .inl (G.2.1, 384, .inl tfn)), (tz, .inl (G.2.2.1, 16, .inl tfz)), (tb, .inl (G.2.1, 12000, .inl tfb)), (h, .inr (8, [.ref ui, .ref ug, .ref uv, .ref tb, .int ct, .int f_41, .int bg, .int at_40, .int en, .int vs_42, .int io, .int hi_67, .int ht])), (uv, .inl (G.2.1, 24, .inl vf_43)), (ui, .inl (G.2.2.2.1, 200, .inr (.inl df_68)))]) ?_
                refine pb_if_eq (pc := 124) (tgt := 138) d_Markup_readAttribute_124 (by decide) (fun w72 => ?_) (fun w72 => ?_)
                · have tw72 : r_66.toInt = 0 := (ti_eq rfl (by decide)).mp w72
                  refine pb_aload_n (pc := 138) d_Markup_readAttribute_138 3 rfl rfl ?_
                  refine pb_aload_n (pc := 139) d_Markup_readAttribute_139 3 rfl rfl ?_
                  refine pb_get (pc := 140) d_Markup_readAttribute_140 5 7 rfl rfl (by decide) in_Markup k_326 rfl ?_
                  refine pb_callV (pc := 143) (I := i_Markup_readAttribute) (qb := 5) (ci := 8) (nA := 1) (rest := []) (wr := [(ug, .inl (G.2.2.1, 200, .inl gf)), (sp, .inr (3, [.ref tn, .ref tz, .ref tb, .ref tg, .int c])), (tn, .inl (G.2.1, 384, .inl tfn)), (tz, .inl (G.2.2.1, 16, .inl tfz)), (tb, .inl (G.2.1, 12000, .inl tfb)), (uv, .inl (G.2.1, 24, .inl vf_43)), (ui, .inl (G.2.2.2.1, 200, .inr (.inl df_68)))]) d_Markup_readAttribute_143 (g_Mu_fail hl G h ui ug uv tb ct f_41 bg at_40 en vs_42 io hi_67 ht at_40) rfl rfl [5] [0, 1, 2, 3, 4, 6, 7] (by decide) rfl rfl rfl (by decide) (by decide) k_831 rfl k_125 k_828 k_830 k_36 ⟨rfl, hy_Markup_fail⟩ (by decide) rfl rfl (Nat.le_of_ble_eq_true rfl) (by decide) (fun v9 u74 ch73 => ?_)
                  obtain ⟨f_75, rfl⟩ : ∃ z9, z9 = u74 := ⟨_, rfl⟩
                  have ech73 := ch73
                  have ech73 : v9 = some (.int 0) := ech73
                  subst ech73
                  refine pb_eq (pc' := 146) (lo' := [(4, .int r_31), (3, .int r_8), (2, .int at_), (0, .ref h), (1, .ref sp)]) (rest' := [.int 0]) (ws' := [(ug, .inl (G.2.2.1, 200, .inl gf)), (sp, .inr (3, [.ref tn, .ref tz, .ref tb, .ref tg, .int c])), (tn, .inl (G.2.1, 384, .inl tfn)), (tz, .inl (G.2.2.1, 16, .inl tfz)), (tb, .inl (G.2.1, 12000, .inl tfb)), (uv, .inl (G.2.1, 24, .inl vf_43)), (ui, .inl (G.2.2.2.1, 200, .inr (.inl df_68))), (h, .inr (8, [.ref ui, .ref ug, .ref uv, .ref tb, .int ct, .int f_75, .int bg, .int at_40, .int en, .int vs_42, .int io, .int hi_67, .int ht]))]) ?_
                  exact pb_iret (pc := 146) hQ d_Markup_readAttribute_146 rfl rfl (0, at_40, f_75, vs_42, hi_67, ht, vf_43, gf, df_68) ⟨rfl, (by (try dsimp only); first | done | (with_reducible assumption) | omega (splitDisjunctions := false) | assumption | (clear fh34 fh47 fh70 fh71; first | omega (splitDisjunctions := false) | omega) | omega | decide), (by (try dsimp only); first | done | (with_reducible assumption) | omega (splitDisjunctions := false) | assumption | (clear fh34 fh47 fh70 fh71; first | omega (splitDisjunctions := false) | omega) | omega | decide), (by (try dsimp only); first | done | (with_reducible assumption) | omega (splitDisjunctions := false) | assumption | (clear fh34 fh47 fh70 fh71; first | omega (splitDisjunctions := false) | omega) | omega | decide), (by (try dsimp only); first | done | (with_reducible assumption) | omega (splitDisjunctions := false) | assumption | exact fun q90 => (by have y90 := fh70 q90; clear fh34 fh47 fh70 fh71; first | omega (splitDisjunctions := false) | omega) | omega | decide), fh49⟩ [7, 4, 5, 0, 6, 1, 2, 3] (by decide) rfl rfl (by decide) (by decide)
                · have tw72 : ¬ r_66.toInt = 0 := fun z9 => w72 ((ti_eq rfl (by decide)).mpr z9)
                  refine pb_goto (pc := 127) (tgt := 147) d_Markup_readAttribute_127 (by decide) ?_
                  refine pb_aload_n (pc := 147) d_Markup_readAttribute_147 3 rfl rfl ?_
                  refine pb_dup (pc := 148) d_Markup_readAttribute_148 rfl ?_
                  refine pb_get (pc := 149) d_Markup_readAttribute_149 5 7 rfl rfl (by decide) in_Markup k_326 rfl ?_
                  refine pb_iconst (pc := 152) (v := 1) d_Markup_readAttribute_152 (by decide) ?_
                  refine pb_iadd (pc := 153) d_Markup_readAttribute_153 ?_
                  refine pb_topi (fun i76 ei76 => ?_)
                  try have ti76 : i76.toInt = at_40.toInt + 1 := t2_add ei76 rfl (by decide) (by omega)
                  refine pb_put (pc := 154) (ty := .int) (ws' := [(ug, .inl (G.2.2.1, 200, .inl gf)), (sp, .inr (3, [.ref tn, .ref tz, .ref tb, .ref tg, .int c])), (tn, .inl (G.2.1, 384, .inl tfn)), (tz, .inl (G.2.2.1, 16, .inl tfz)), (tb, .inl (G.2.1, 12000, .inl tfb)), (h, .inr (8, [.ref ui, .ref ug, .ref uv, .ref tb, .int ct, .int f_41, .int bg, .int i76, .int en, .int vs_42, .int io, .int hi_67, .int ht])), (uv, .inl (G.2.1, 24, .inl vf_43)), (ui, .inl (G.2.2.2.1, 200, .inr (.inl df_68)))]) d_Markup_readAttribute_154 5 7 t_Markup t_Markup_ok n_Markup rfl rfl (by decide) in_Markup k_326 rfl (by decide +kernel) rfl rfl (Nat.le_of_ble_eq_true rfl) rfl ?_
                  refine pb_iconst (pc := 157) (v := 1) d_Markup_readAttribute_157 (by decide) ?_
                  exact pb_iret (pc := 158) hQ d_Markup_readAttribute_158 rfl rfl (1, i76, f_41, vs_42, hi_67, ht, vf_43, gf, df_68) ⟨rfl, (by (try dsimp only); first | done | (with_reducible assumption) | omega (splitDisjunctions := false) | assumption | (clear fh34 fh47 fh70 fh71; first | omega (splitDisjunctions := false) | omega) | omega | decide), (by (try dsimp only); first | done | (with_reducible assumption) | omega (splitDisjunctions := false) | assumption | (clear fh34 fh47 fh70 fh71; first | omega (splitDisjunctions := false) | omega) | omega | decide), (by (try dsimp only); first | done | (with_reducible assumption) | omega (splitDisjunctions := false) | assumption | (clear fh34 fh47 fh70 fh71; first | omega (splitDisjunctions := false) | omega) | omega | decide), (by (try dsimp only); first | done | (with_reducible assumption) | omega (splitDisjunctions := false) | assumption | exact fun q90 => (by have y90 := fh70 q90; clear fh34 fh47 fh70 fh71; first | omega (splitDisjunctions := false) | omega) | omega | decide), fh49⟩ [5, 4, 6, 0, 7, 1, 2, 3] (by decide) rfl rfl (by decide) (by decide)
            · have tw50 : r_39.toInt = 0 := (ti_eq rfl (by decide)).mp w50
              refine pb_iconst (pc := 114) (v := 0) d_Markup_readAttribute_114 (by decide) ?_
              exact pb_iret (pc := 115) hQ d_Markup_readAttribute_115 rfl rfl (0, at_40, f_41, vs_42, hi, ht, vf_43, gf, df) ⟨rfl, (by (try dsimp only); first | done | (with_reducible assumption) | omega (splitDisjunctions := false) | assumption | (clear fh34 fh47; first | omega (splitDisjunctions := false) | omega) | omega | decide), (by (try dsimp only); first | done | (with_reducible assumption) | omega (splitDisjunctions := false) | assumption | (clear fh34 fh47; first | omega (splitDisjunctions := false) | omega) | omega | decide), (by (try dsimp only); first | done | (with_reducible assumption) | omega (splitDisjunctions := false) | assumption | (clear fh34 fh47; first | omega (splitDisjunctions := false) | omega) | omega | decide), (by (try dsimp only); first | done | (with_reducible assumption) | omega (splitDisjunctions := false) | assumption | exact fun q90 => (by clear fh34 fh47; first | omega (splitDisjunctions := false) | omega) | omega | decide), fh49⟩ [5, 6, 7, 0, 1, 2, 3, 4] (by decide) rfl rfl (by decide) (by decide)
          · have tw35 : ¬ r_31.toInt = 34 := fun z9 => w35 ((ti_eq rfl (by decide)).mpr z9)
            refine pb_iload (pc := 79) d_Markup_readAttribute_79 0 rfl ?_
            refine pb_bipush (pc := 81) (v := 39) d_Markup_readAttribute_81 (by decide) ?_
            refine pb_icmp_eq (pc := 83) (tgt := 95) d_Markup_readAttribute_83 (by decide) (fun w77 => ?_) (fun w77 => ?_)
            · have tw77 : r_31.toInt = 39 := (ti_eq rfl (by decide)).mp w77
              refine pb_aload_n (pc := 95) d_Markup_readAttribute_95 3 rfl rfl ?_
              refine pb_dup (pc := 96) d_Markup_readAttribute_96 rfl ?_
              refine pb_get (pc := 97) d_Markup_readAttribute_97 6 7 rfl rfl (by decide) in_Markup k_326 rfl ?_
              refine pb_iconst (pc := 100) (v := 1) d_Markup_readAttribute_100 (by decide) ?_
              refine pb_iadd (pc := 101) d_Markup_readAttribute_101 ?_
              refine pb_topi (fun i78 ei78 => ?_)
              try have ti78 : i78.toInt = at_23.toInt + 1 := t2_add ei78 rfl (by decide) (by omega)
              refine pb_put (pc := 102) (ty := .int) (ws' := [(uv, .inl (G.2.1, 24, .inl vf)), (ug, .inl (G.2.2.1, 200, .inl gf)), (ui, .inl (G.2.2.2.1, 200, .inr (.inl df))), (sp, .inr (3, [.ref tn, .ref tz, .ref tb, .ref tg, .int c])), (tn, .inl (G.2.1, 384, .inl tfn)), (tz, .inl (G.2.2.1, 16, .inl tfz)), (h, .inr (8, [.ref ui, .ref ug, .ref uv, .ref tb, .int ct, .int f_24, .int bg, .int i78, .int en, .int vs, .int io, .int hi, .int ht])), (tb, .inl (G.2.1, 12000, .inl tfb))]) d_Markup_readAttribute_102 6 7 t_Markup t_Markup_ok n_Markup rfl rfl (by decide) in_Markup k_326 rfl (by decide +kernel) rfl rfl (Nat.le_of_ble_eq_true rfl) rfl ?_
              refine pb_aload_n (pc := 105) d_Markup_readAttribute_105 3 rfl rfl ?_
              refine pb_iload (pc := 106) d_Markup_readAttribute_106 0 rfl ?_
              refine pb_callV (pc := 108) (I := i_Markup_readAttribute) (qb := 6) (ci := 8) (nA := 1) (rest := []) (wr := [(ug, .inl (G.2.2.1, 200, .inl gf)), (ui, .inl (G.2.2.2.1, 200, .inr (.inl df))), (sp, .inr (3, [.ref tn, .ref tz, .ref tb, .ref tg, .int c])), (tn, .inl (G.2.1, 384, .inl tfn)), (tz, .inl (G.2.2.1, 16, .inl tfz))]) d_Markup_readAttribute_108 (g_Mu_readValue hl G h ui ug uv tb ct f_24 bg i78 en vs io hi ht tfb vf r_31 (by first | (with_reducible assumption) | omega (splitDisjunctions := false) | assumption | (clear fh34; first | omega (splitDisjunctions := false) | omega) | omega | decide) (by first | (with_reducible assumption) | omega (splitDisjunctions := false) | assumption | (clear fh34; first | omega (splitDisjunctions := false) | omega) | omega | decide) (by first | (with_reducible assumption) | omega (splitDisjunctions := false) | assumption | (clear fh34; first | omega (splitDisjunctions := false) | omega) | omega | decide) (by first | (with_reducible assumption) | omega (splitDisjunctions := false) | assumption | (clear fh34; first | omega (splitDisjunctions := false) | omega) | omega | decide) F_tfb F_vf) rfl rfl [6, 7, 0] [1, 2, 3, 4, 5] (by decide) rfl rfl rfl (by decide) (by decide) k_863 rfl k_125 k_860 k_862 k_42 ⟨rfl, hy_Markup_readValue⟩ (by decide) rfl rfl (Nat.le_of_ble_eq_true rfl) (by decide) (fun v9 u80 ch79 => ?_)
              obtain ⟨r_81, at_82, f_83, vs_84, vf_85⟩ := u80
              obtain ⟨ech79, ch79⟩ := ch79
              have ech79 : v9 = some (.int r_81) := ech79
              subst ech79
              obtain ⟨fh86, fh87, fh88, fh89, fh90, fh91⟩ : (r_81.toInt = 0 ∨ r_81.toInt = 1) ∧ (i78.toInt ≤ at_82.toInt) ∧ (at_82.toInt ≤ en.toInt) ∧ (r_81.toInt = 1 → at_82.toInt < en.toInt) ∧ (0 ≤ vs_84.toInt) ∧ (sb_Fit vf_85) := ch79
              refine pb_eq (pc' := 111) (lo' := [(4, .int r_31), (3, .int r_8), (2, .int at_), (0, .ref h), (1, .ref sp)]) (rest' := [.int r_81]) (ws' := [(ug, .inl (G.2.2.1, 200, .inl gf)), (ui, .inl (G.2.2.2.1, 200, .inr (.inl df))), (sp, .inr (3, [.ref tn, .ref tz, .ref tb, .ref tg, .int c])), (tn, .inl (G.2.1, 384, .inl tfn)), (tz, .inl (G.2.2.1, 16, .inl tfz)), (h, .inr (8, [.ref ui, .ref ug, .ref uv, .ref tb, .int ct, .int f_83, .int bg, .int at_82, .int en, .int vs_84, .int io, .int hi, .int ht])), (tb, .inl (G.2.1, 12000, .inl tfb)), (uv, .inl (G.2.1, 24, .inl vf_85))]) ?_
              refine pb_if_ne (pc := 111) (tgt := 116) d_Markup_readAttribute_111 (by decide) (fun w92 => ?_) (fun w92 => ?_)
              · have tw92 : ¬ r_81.toInt = 0 := fun z9 => w92 ((ti_eq rfl (by decide)).mpr z9)
                refine pb_iload_n (pc := 116) d_Markup_readAttribute_116 1 rfl rfl ?_
                refine pb_if_eq (pc := 117) (tgt := 130) d_Markup_readAttribute_117 (by decide) (fun w93 => ?_) (fun w93 => ?_)
                · have tw93 : r_8.toInt = 0 := (ti_eq rfl (by decide)).mp w93
                  refine pb_aload_n (pc := 130) d_Markup_readAttribute_130 3 rfl rfl ?_
                  refine pb_aload_n (pc := 131) d_Markup_readAttribute_131 4 rfl rfl ?_
                  refine pb_callV (pc := 132) (I := i_Markup_readAttribute) (qb := 5) (ci := 8) (nA := 1) (rest := []) (wr := [(ui, .inl (G.2.2.2.1, 200, .inr (.inl df))), (tb, .inl (G.2.1, 12000, .inl tfb))]) d_Markup_readAttribute_132 (g_Mu_keepGoal hl G h ui ug uv tb ct f_83 bg at_82 en vs_84 io hi ht vf_85 gf sp tn tz tb tg c tfn tfz tfg (by first | (with_reducible assumption) | omega (splitDisjunctions := false) | assumption | (clear fh34 fh89; first | omega (splitDisjunctions := false) | omega) | omega | decide) (by first | assumption | decide | omega) fh91 F_tfn) rfl rfl [5, 7, 0, 2, 3, 4] [1, 6] (by decide) rfl rfl rfl (by decide) (by decide) k_885 rfl k_125 k_882 k_884 k_46 ⟨rfl, hy_Markup_keepGoal⟩ (by decide) rfl rfl (Nat.le_of_ble_eq_true rfl) (by decide) (fun v9 u95 ch94 => ?_)
                  obtain ⟨r_96, ht_97, gf_98⟩ := u95
                  obtain ⟨ech94, ch94⟩ := ch94
                  have ech94 : v9 = some (.int r_96) := ech94
                  subst ech94
                  obtain ⟨fh99, fh100⟩ : (r_96.toInt = 0 ∨ r_96.toInt = 1) ∧ (r_96.toInt = 1 → ct.toInt < 200) := ch94
                  refine pb_eq (pc' := 135) (lo' := [(4, .int r_31), (3, .int r_8), (2, .int at_), (0, .ref h), (1, .ref sp)]) (rest' := [.int r_96]) (ws' := [(ui, .inl (G.2.2.2.1, 200, .inr (.inl df))), (tb, .inl (G.2.1, 12000, .inl tfb)), (h, .inr (8, [.ref ui, .ref ug, .ref uv, .ref tb, .int ct, .int f_83, .int bg, .int at_82, .int en, .int vs_84, .int io, .int hi, .int ht_97])), (uv, .inl (G.2.1, 24, .inl vf_85)), (ug, .inl (G.2.2.1, 200, .inl gf_98)), (sp, .inr (3, [.ref tn, .ref tz, .ref tb, .ref tg, .int c])), (tn, .inl (G.2.1, 384, .inl tfn)), (tz, .inl (G.2.2.1, 16, .inl tfz))]) ?_
                  refine pb_if_ne (pc := 135) (tgt := 147) d_Markup_readAttribute_135 (by decide) (fun w101 => ?_) (fun w101 => ?_)
                  · have tw101 : ¬ r_96.toInt = 0 := fun z9 => w101 ((ti_eq rfl (by decide)).mpr z9)
                    refine pb_aload_n (pc := 147) d_Markup_readAttribute_147 3 rfl rfl ?_
                    refine pb_dup (pc := 148) d_Markup_readAttribute_148 rfl ?_
                    refine pb_get (pc := 149) d_Markup_readAttribute_149 2 7 rfl rfl (by decide) in_Markup k_326 rfl ?_
                    refine pb_iconst (pc := 152) (v := 1) d_Markup_readAttribute_152 (by decide) ?_
                    refine pb_iadd (pc := 153) d_Markup_readAttribute_153 ?_
                    refine pb_topi (fun i102 ei102 => ?_)
                    try have ti102 : i102.toInt = at_82.toInt + 1 := t2_add ei102 rfl (by decide) (by omega)
                    refine pb_put (pc := 154) (ty := .int) (ws' := [(ui, .inl (G.2.2.2.1, 200, .inr (.inl df))), (tb, .inl (G.2.1, 12000, .inl tfb)), (h, .inr (8, [.ref ui, .ref ug, .ref uv, .ref tb, .int ct, .int f_83, .int bg, .int i102, .int en, .int vs_84, .int io, .int hi, .int ht_97])), (uv, .inl (G.2.1, 24, .inl vf_85)), (ug, .inl (G.2.2.1, 200, .inl gf_98)), (sp, .inr (3, [.ref tn, .ref tz, .ref tb, .ref tg, .int c])), (tn, .inl (G.2.1, 384, .inl tfn)), (tz, .inl (G.2.2.1, 16, .inl tfz))]) d_Markup_readAttribute_154 2 7 t_Markup t_Markup_ok n_Markup rfl rfl (by decide) in_Markup k_326 rfl (by decide +kernel) rfl rfl (Nat.le_of_ble_eq_true rfl) rfl ?_
                    refine pb_iconst (pc := 157) (v := 1) d_Markup_readAttribute_157 (by decide) ?_
                    exact pb_iret (pc := 158) hQ d_Markup_readAttribute_158 rfl rfl (1, i102, f_83, vs_84, hi, ht_97, vf_85, gf_98, df) ⟨rfl, (by (try dsimp only); first | done | (with_reducible assumption) | omega (splitDisjunctions := false) | assumption | (clear fh34 fh89 fh100; first | omega (splitDisjunctions := false) | omega) | omega | decide), (by (try dsimp only); first | done | (with_reducible assumption) | omega (splitDisjunctions := false) | assumption | (clear fh34 fh89 fh100; first | omega (splitDisjunctions := false) | omega) | omega | decide), (by (try dsimp only); first | done | (with_reducible assumption) | omega (splitDisjunctions := false) | assumption | (clear fh34 fh89 fh100; first | omega (splitDisjunctions := false) | omega) | omega | decide), (by (try dsimp only); first | done | (with_reducible assumption) | omega (splitDisjunctions := false) | assumption | exact fun q90 => (by clear fh34 fh89 fh100; first | omega (splitDisjunctions := false) | omega) | omega | decide), fh91⟩ [2, 1, 3, 4, 0, 5, 6, 7] (by decide) rfl rfl (by decide) (by decide)
                  · have tw101 : r_96.toInt = 0 := (ti_eq rfl (by decide)).mp w101
                    refine pb_aload_n (pc := 138) d_Markup_readAttribute_138 3 rfl rfl ?_
                    refine pb_aload_n (pc := 139) d_Markup_readAttribute_139 3 rfl rfl ?_
                    refine pb_get (pc := 140) d_Markup_readAttribute_140 2 7 rfl rfl (by decide) in_Markup k_326 rfl ?_
                    refine pb_callV (pc := 143) (I := i_Markup_readAttribute) (qb := 2) (ci := 8) (nA := 1) (rest := []) (wr := [(ui, .inl (G.2.2.2.1, 200, .inr (.inl df))), (tb, .inl (G.2.1, 12000, .inl tfb)), (uv, .inl (G.2.1, 24, .inl vf_85)), (ug, .inl (G.2.2.1, 200, .inl gf_98)), (sp, .inr (3, [.ref tn, .ref tz, .ref tb, .ref tg, .int c])), (tn, .inl (G.2.1, 384, .inl tfn)), (tz, .inl (G.2.2.1, 16, .inl tfz))]) d_Markup_readAttribute_143 (g_Mu_fail hl G h ui ug uv tb ct f_83 bg at_82 en vs_84 io hi ht_97 at_82) rfl rfl [2] [0, 1, 3, 4, 5, 6, 7] (by decide) rfl rfl rfl (by decide) (by decide) k_831 rfl k_125 k_828 k_830 k_36 ⟨rfl, hy_Markup_fail⟩ (by decide) rfl rfl (Nat.le_of_ble_eq_true rfl) (by decide) (fun v9 u104 ch103 => ?_)
                    obtain ⟨f_105, rfl⟩ : ∃ z9, z9 = u104 := ⟨_, rfl⟩
                    have ech103 := ch103
                    have ech103 : v9 = some (.int 0) := ech103
                    subst ech103
                    refine pb_eq (pc' := 146) (lo' := [(4, .int r_31), (3, .int r_8), (2, .int at_), (0, .ref h), (1, .ref sp)]) (rest' := [.int 0]) (ws' := [(ui, .inl (G.2.2.2.1, 200, .inr (.inl df))), (tb, .inl (G.2.1, 12000, .inl tfb)), (uv, .inl (G.2.1, 24, .inl vf_85)), (ug, .inl (G.2.2.1, 200, .inl gf_98)), (sp, .inr (3, [.ref tn, .ref tz, .ref tb, .ref tg, .int c])), (tn, .inl (G.2.1, 384, .inl tfn)), (tz, .inl (G.2.2.1, 16, .inl tfz)), (h, .inr (8, [.ref ui, .ref ug, .ref uv, .ref tb, .int ct, .int f_105, .int bg, .int at_82, .int en, .int vs_84, .int io, .int hi, .int ht_97]))]) ?_
                    exact pb_iret (pc := 146) hQ d_Markup_readAttribute_146 rfl rfl (0, at_82, f_105, vs_84, hi, ht_97, vf_85, gf_98, df) ⟨rfl, (by (try dsimp only); first | done | (with_reducible assumption) | omega (splitDisjunctions := false) | assumption | (clear fh34 fh89 fh100; first | omega (splitDisjunctions := false) | omega) | omega | decide), (by (try dsimp only); first | done | (with_reducible assumption) | omega (splitDisjunctions := false) | assumption | (clear fh34 fh89 fh100; first | omega (splitDisjunctions := false) | omega) | omega | decide), (by (try dsimp only); first | done | (with_reducible assumption) | omega (splitDisjunctions := false) | assumption | (clear fh34 fh89 fh100; first | omega (splitDisjunctions := false) | omega) | omega | decide), (by (try dsimp only); first | done | (with_reducible assumption) | omega (splitDisjunctions := false) | assumption | exact fun q90 => (by clear fh34 fh89 fh100; first | omega (splitDisjunctions := false) | omega) | omega | decide), fh91⟩ [7, 1, 2, 3, 0, 4, 5, 6] (by decide) rfl rfl (by decide) (by decide)
                · have tw93 : ¬ r_8.toInt = 0 := fun z9 => w93 ((ti_eq rfl (by decide)).mpr z9)
                  refine pb_aload_n (pc := 120) d_Markup_readAttribute_120 3 rfl rfl ?_
                  refine pb_callV (pc := 121) (I := i_Markup_readAttribute) (qb := 5) (ci := 8) (nA := 0) (rest := []) (wr := [(ug, .inl (G.2.2.1, 200, .inl gf)), (sp, .inr (3, [.ref tn, .ref tz, .ref tb, .ref tg, .int c])), (tn, .inl (G.2.1, 384, .inl tfn)), (tz, .inl (G.2.2.1, 16, .inl tfz)), (tb, .inl (G.2.1, 12000, .inl tfb))]) d_Markup_readAttribute_121 (g_Mu_keepId hl G h ui ug uv tb ct f_83 bg at_82 en vs_84 io hi ht vf_85 df (by first | (with_reducible assumption) | omega (splitDisjunctions := false) | assumption | (clear fh34 fh89; first | omega (splitDisjunctions := false) | omega) | omega | decide) fh91) rfl rfl [5, 7, 1] [0, 2, 3, 4, 6] (by decide) rfl rfl rfl (by decide) (by decide) k_881 rfl k_125 k_878 k_880 k_45 ⟨rfl, hy_Markup_keepId⟩ (by decide) rfl rfl (Nat.le_of_ble_eq_true rfl) (by decide) (fun v9 u107 ch106 => ?_)
                  obtain ⟨r_108, hi_109, df_110⟩ := u107
                  obtain ⟨ech106, ch106⟩ := ch106
                  have ech106 : v9 = some (.int r_108) := ech106
                  subst ech106
                  obtain ⟨fh111, fh112, fh113⟩ : (r_108.toInt = 0 ∨ r_108.toInt = 1) ∧ (hi_109.toInt ≠ 0 → hi.toInt ≠ 0 ∨ ct.toInt < 200) ∧ (r_108.toInt = 1 → ct.toInt < 200) := ch106
                  refine pb_eq (pc' := 124) (lo' := [(4, .int r_31), (3, .int r_8), (2, .int at_), (0, .ref h), (1, .ref sp)]) (rest' := [.int r_108]) (ws' := [(ug, .inl (G.2.2.1, 200, .inl gf)), (sp, .inr (3, [.ref tn, .ref tz, .ref tb, .ref tg, .int c])), (tn, .inl (G.2.1, 384, .inl tfn)), (tz, .inl (G.2.2.1, 16, .inl tfz)), (tb, .inl (G.2.1, 12000, .inl tfb)), (h, .inr (8, [.ref ui, .ref ug, .ref uv, .ref tb, .int ct, .int f_83, .int bg, .int at_82, .int en, .int vs_84, .int io, .int hi_109, .int ht])), (uv, .inl (G.2.1, 24, .inl vf_85)), (ui, .inl (G.2.2.2.1, 200, .inr (.inl df_110)))]) ?_
                  refine pb_if_eq (pc := 124) (tgt := 138) d_Markup_readAttribute_124 (by decide) (fun w114 => ?_) (fun w114 => ?_)
                  · have tw114 : r_108.toInt = 0 := (ti_eq rfl (by decide)).mp w114
                    refine pb_aload_n (pc := 138) d_Markup_readAttribute_138 3 rfl rfl ?_
                    refine pb_aload_n (pc := 139) d_Markup_readAttribute_139 3 rfl rfl ?_
                    refine pb_get (pc := 140) d_Markup_readAttribute_140 5 7 rfl rfl (by decide) in_Markup k_326 rfl ?_
                    refine pb_callV (pc := 143) (I := i_Markup_readAttribute) (qb := 5) (ci := 8) (nA := 1) (rest := []) (wr := [(ug, .inl (G.2.2.1, 200, .inl gf)), (sp, .inr (3, [.ref tn, .ref tz, .ref tb, .ref tg, .int c])), (tn, .inl (G.2.1, 384, .inl tfn)), (tz, .inl (G.2.2.1, 16, .inl tfz)), (tb, .inl (G.2.1, 12000, .inl tfb)), (uv, .inl (G.2.1, 24, .inl vf_85)), (ui, .inl (G.2.2.2.1, 200, .inr (.inl df_110)))]) d_Markup_readAttribute_143 (g_Mu_fail hl G h ui ug uv tb ct f_83 bg at_82 en vs_84 io hi_109 ht at_82) rfl rfl [5] [0, 1, 2, 3, 4, 6, 7] (by decide) rfl rfl rfl (by decide) (by decide) k_831 rfl k_125 k_828 k_830 k_36 ⟨rfl, hy_Markup_fail⟩ (by decide) rfl rfl (Nat.le_of_ble_eq_true rfl) (by decide) (fun v9 u116 ch115 => ?_)
                    obtain ⟨f_117, rfl⟩ : ∃ z9, z9 = u116 := ⟨_, rfl⟩
                    have ech115 := ch115
                    have ech115 : v9 = some (.int 0) := ech115
                    subst ech115
                    refine pb_eq (pc' := 146) (lo' := [(4, .int r_31), (3, .int r_8), (2, .int at_), (0, .ref h), (1, .ref sp)]) (rest' := [.int 0]) (ws' := [(ug, .inl (G.2.2.1, 200, .inl gf)), (sp, .inr (3, [.ref tn, .ref tz, .ref tb, .ref tg, .int c])), (tn, .inl (G.2.1, 384, .inl tfn)), (tz, .inl (G.2.2.1, 16, .inl tfz)), (tb, .inl (G.2.1, 12000, .inl tfb)), (uv, .inl (G.2.1, 24, .inl vf_85)), (ui, .inl (G.2.2.2.1, 200, .inr (.inl df_110))), (h, .inr (8, [.ref ui, .ref ug, .ref uv, .ref tb, .int ct, .int f_117, .int bg, .int at_82, .int en, .int vs_84, .int io, .int hi_109, .int ht]))]) ?_
                    exact pb_iret (pc := 146) hQ d_Markup_readAttribute_146 rfl rfl (0, at_82, f_117, vs_84, hi_109, ht, vf_85, gf, df_110) ⟨rfl, (by (try dsimp only); first | done | (with_reducible assumption) | omega (splitDisjunctions := false) | assumption | (clear fh34 fh89 fh112 fh113; first | omega (splitDisjunctions := false) | omega) | omega | decide), (by (try dsimp only); first | done | (with_reducible assumption) | omega (splitDisjunctions := false) | assumption | (clear fh34 fh89 fh112 fh113; first | omega (splitDisjunctions := false) | omega) | omega | decide), (by (try dsimp only); first | done | (with_reducible assumption) | omega (splitDisjunctions := false) | assumption | (clear fh34 fh89 fh112 fh113; first | omega (splitDisjunctions := false) | omega) | omega | decide), (by (try dsimp only); first | done | (with_reducible assumption) | omega (splitDisjunctions := false) | assumption | exact fun q90 => (by have y90 := fh112 q90; clear fh34 fh89 fh112 fh113; first | omega (splitDisjunctions := false) | omega) | omega | decide), fh91⟩ [7, 4, 5, 0, 6, 1, 2, 3] (by decide) rfl rfl (by decide) (by decide)
                  · have tw114 : ¬ r_108.toInt = 0 := fun z9 => w114 ((ti_eq rfl (by decide)).mpr z9)
                    refine pb_goto (pc := 127) (tgt := 147) d_Markup_readAttribute_127 (by decide) ?_
                    refine pb_aload_n (pc := 147) d_Markup_readAttribute_147 3 rfl rfl ?_
                    refine pb_dup (pc := 148) d_Markup_readAttribute_148 rfl ?_
                    refine pb_get (pc := 149) d_Markup_readAttribute_149 5 7 rfl rfl (by decide) in_Markup k_326 rfl ?_
                    refine pb_iconst (pc := 152) (v := 1) d_Markup_readAttribute_152 (by decide) ?_
                    refine pb_iadd (pc := 153) d_Markup_readAttribute_153 ?_
                    refine pb_topi (fun i118 ei118 => ?_)
                    try have ti118 : i118.toInt = at_82.toInt + 1 := t2_add ei118 rfl (by decide) (by omega)
                    refine pb_put (pc := 154) (ty := .int) (ws' := [(ug, .inl (G.2.2.1, 200, .inl gf)), (sp, .inr (3, [.ref tn, .ref tz, .ref tb, .ref tg, .int c])), (tn, .inl (G.2.1, 384, .inl tfn)), (tz, .inl (G.2.2.1, 16, .inl tfz)), (tb, .inl (G.2.1, 12000, .inl tfb)), (h, .inr (8, [.ref ui, .ref ug, .ref uv, .ref tb, .int ct, .int f_83, .int bg, .int i118, .int en, .int vs_84, .int io, .int hi_109, .int ht])), (uv, .inl (G.2.1, 24, .inl vf_85)), (ui, .inl (G.2.2.2.1, 200, .inr (.inl df_110)))]) d_Markup_readAttribute_154 5 7 t_Markup t_Markup_ok n_Markup rfl rfl (by decide) in_Markup k_326 rfl (by decide +kernel) rfl rfl (Nat.le_of_ble_eq_true rfl) rfl ?_
                    refine pb_iconst (pc := 157) (v := 1) d_Markup_readAttribute_157 (by decide) ?_
                    exact pb_iret (pc := 158) hQ d_Markup_readAttribute_158 rfl rfl (1, i118, f_83, vs_84, hi_109, ht, vf_85, gf, df_110) ⟨rfl, (by (try dsimp only); first | done | (with_reducible assumption) | omega (splitDisjunctions := false) | assumption | (clear fh34 fh89 fh112 fh113; first | omega (splitDisjunctions := false) | omega) | omega | decide), (by (try dsimp only); first | done | (with_reducible assumption) | omega (splitDisjunctions := false) | assumption | (clear fh34 fh89 fh112 fh113; first | omega (splitDisjunctions := false) | omega) | omega | decide), (by (try dsimp only); first | done | (with_reducible assumption) | omega (splitDisjunctions := false) | assumption | (clear fh34 fh89 fh112 fh113; first | omega (splitDisjunctions := false) | omega) | omega | decide), (by (try dsimp only); first | done | (with_reducible assumption) | omega (splitDisjunctions := false) | assumption | exact fun q90 => (by have y90 := fh112 q90; clear fh34 fh89 fh112 fh113; first | omega (splitDisjunctions := false) | omega) | omega | decide), fh91⟩ [5, 4, 6, 0, 7, 1, 2, 3] (by decide) rfl rfl (by decide) (by decide)
              · have tw92 : r_81.toInt = 0 := (ti_eq rfl (by decide)).mp w92
                refine pb_iconst (pc := 114) (v := 0) d_Markup_readAttribute_114 (by decide) ?_
                exact pb_iret (pc := 115) hQ d_Markup_readAttribute_115 rfl rfl (0, at_82, f_83, vs_84, hi, ht, vf_85, gf, df) ⟨rfl, (by (try dsimp only); first | done | (with_reducible assumption) | omega (splitDisjunctions := false) | assumption | (clear fh34 fh89; first | omega (splitDisjunctions := false) | omega) | omega | decide), (by (try dsimp only); first | done | (with_reducible assumption) | omega (splitDisjunctions := false) | assumption | (clear fh34 fh89; first | omega (splitDisjunctions := false) | omega) | omega | decide), (by (try dsimp only); first | done | (with_reducible assumption) | omega (splitDisjunctions := false) | assumption | (clear fh34 fh89; first | omega (splitDisjunctions := false) | omega) | omega | decide), (by (try dsimp only); first | done | (with_reducible assumption) | omega (splitDisjunctions := false) | assumption | exact fun q90 => (by clear fh34 fh89; first | omega (splitDisjunctions := false) | omega) | omega | decide), fh91⟩ [5, 6, 7, 0, 1, 2, 3, 4] (by decide) rfl rfl (by decide) (by decide)
            · have tw77 : ¬ r_31.toInt = 39 := fun z9 => w77 ((ti_eq rfl (by decide)).mpr z9)
              refine pb_aload_n (pc := 86) d_Markup_readAttribute_86 3 rfl rfl ?_
              refine pb_aload_n (pc := 87) d_Markup_readAttribute_87 3 rfl rfl ?_
              refine pb_get (pc := 88) d_Markup_readAttribute_88 6 7 rfl rfl (by decide) in_Markup k_326 rfl ?_
              refine pb_callV (pc := 91) (I := i_Markup_readAttribute) (qb := 6) (ci := 8) (nA := 1) (rest := []) (wr := [(uv, .inl (G.2.1, 24, .inl vf)), (ug, .inl (G.2.2.1, 200, .inl gf)), (ui, .inl (G.2.2.2.1, 200, .inr (.inl df))), (sp, .inr (3, [.ref tn, .ref tz, .ref tb, .ref tg, .int c])), (tn, .inl (G.2.1, 384, .inl tfn)), (tz, .inl (G.2.2.1, 16, .inl tfz)), (tb, .inl (G.2.1, 12000, .inl tfb))]) d_Markup_readAttribute_91 (g_Mu_fail hl G h ui ug uv tb ct f_24 bg at_23 en vs io hi ht at_23) rfl rfl [6] [0, 1, 2, 3, 4, 5, 7] (by decide) rfl rfl rfl (by decide) (by decide) k_831 rfl k_125 k_828 k_830 k_36 ⟨rfl, hy_Markup_fail⟩ (by decide) rfl rfl (Nat.le_of_ble_eq_true rfl) (by decide) (fun v9 u120 ch119 => ?_)
              obtain ⟨f_121, rfl⟩ : ∃ z9, z9 = u120 := ⟨_, rfl⟩
              have ech119 := ch119
              have ech119 : v9 = some (.int 0) := ech119
              subst ech119
              refine pb_eq (pc' := 94) (lo' := [(4, .int r_31), (3, .int r_8), (2, .int at_), (0, .ref h), (1, .ref sp)]) (rest' := [.int 0]) (ws' := [(uv, .inl (G.2.1, 24, .inl vf)), (ug, .inl (G.2.2.1, 200, .inl gf)), (ui, .inl (G.2.2.2.1, 200, .inr (.inl df))), (sp, .inr (3, [.ref tn, .ref tz, .ref tb, .ref tg, .int c])), (tn, .inl (G.2.1, 384, .inl tfn)), (tz, .inl (G.2.2.1, 16, .inl tfz)), (tb, .inl (G.2.1, 12000, .inl tfb)), (h, .inr (8, [.ref ui, .ref ug, .ref uv, .ref tb, .int ct, .int f_121, .int bg, .int at_23, .int en, .int vs, .int io, .int hi, .int ht]))]) ?_
              exact pb_iret (pc := 94) hQ d_Markup_readAttribute_94 rfl rfl (0, at_23, f_121, vs, hi, ht, vf, gf, df) ⟨rfl, (by (try dsimp only); first | done | (with_reducible assumption) | omega (splitDisjunctions := false) | assumption | (clear fh34; first | omega (splitDisjunctions := false) | omega) | omega | decide), (by (try dsimp only); first | done | (with_reducible assumption) | omega (splitDisjunctions := false) | assumption | (clear fh34; first | omega (splitDisjunctions := false) | omega) | omega | decide), (by (try dsimp only); first | done | (with_reducible assumption) | omega (splitDisjunctions := false) | assumption | (clear fh34; first | omega (splitDisjunctions := false) | omega) | omega | decide), (by (try dsimp only); first | done | (with_reducible assumption) | omega (splitDisjunctions := false) | assumption | exact fun q90 => (by clear fh34; first | omega (splitDisjunctions := false) | omega) | omega | decide), F_vf⟩ [7, 6, 0, 1, 2, 3, 4, 5] (by decide) rfl rfl (by decide) (by decide)
        · have tw28 : r_22.toInt = 0 := (ti_eq rfl (by decide)).mp w28
          refine pb_iconst (pc := 63) (v := 0) d_Markup_readAttribute_63 (by decide) ?_
          exact pb_iret (pc := 64) hQ d_Markup_readAttribute_64 rfl rfl (0, at_23, f_24, vs, hi, ht, vf, gf, df) ⟨rfl, (by (try dsimp only); first | done | (with_reducible assumption) | omega (splitDisjunctions := false) | assumption | omega | decide), (by (try dsimp only); first | done | (with_reducible assumption) | omega (splitDisjunctions := false) | assumption | omega | decide), (by (try dsimp only); first | done | (with_reducible assumption) | omega (splitDisjunctions := false) | assumption | omega | decide), (by (try dsimp only); first | done | (with_reducible assumption) | omega (splitDisjunctions := false) | assumption | omega | decide), F_vf⟩ [6, 7, 0, 1, 2, 3, 4, 5] (by decide) rfl rfl (by decide) (by decide)
      · have tw19 : r_17.toInt = 0 := (ti_eq rfl (by decide)).mp w19
        refine pb_aload_n (pc := 48) d_Markup_readAttribute_48 2 rfl rfl ?_
        refine pb_iload_n (pc := 49) d_Markup_readAttribute_49 1 rfl rfl ?_
        refine pb_callV (pc := 50) (I := i_Markup_readAttribute) (qb := 6) (ci := 8) (nA := 1) (rest := []) (wr := [(uv, .inl (G.2.1, 24, .inl vf)), (ug, .inl (G.2.2.1, 200, .inl gf)), (ui, .inl (G.2.2.2.1, 200, .inr (.inl df))), (sp, .inr (3, [.ref tn, .ref tz, .ref tb, .ref tg, .int c])), (tn, .inl (G.2.1, 384, .inl tfn)), (tz, .inl (G.2.2.1, 16, .inl tfz)), (tb, .inl (G.2.1, 12000, .inl tfb))]) d_Markup_readAttribute_50 (g_Mu_fail hl G h ui ug uv tb ct fa bg at_3 en vs io hi ht at_) rfl rfl [6] [0, 1, 2, 3, 4, 5, 7] (by decide) rfl rfl rfl (by decide) (by decide) k_831 rfl k_125 k_828 k_830 k_36 ⟨rfl, hy_Markup_fail⟩ (by decide) rfl rfl (Nat.le_of_ble_eq_true rfl) (by decide) (fun v9 u123 ch122 => ?_)
        obtain ⟨f_124, rfl⟩ : ∃ z9, z9 = u123 := ⟨_, rfl⟩
        have ech122 := ch122
        have ech122 : v9 = some (.int 0) := ech122
        subst ech122
        refine pb_eq (pc' := 53) (lo' := [(3, .int r_8), (2, .int at_), (0, .ref h), (1, .ref sp)]) (rest' := [.int 0]) (ws' := [(uv, .inl (G.2.1, 24, .inl vf)), (ug, .inl (G.2.2.1, 200, .inl gf)), (ui, .inl (G.2.2.2.1, 200, .inr (.inl df))), (sp, .inr (3, [.ref tn, .ref tz, .ref tb, .ref tg, .int c])), (tn, .inl (G.2.1, 384, .inl tfn)), (tz, .inl (G.2.2.1, 16, .inl tfz)), (tb, .inl (G.2.1, 12000, .inl tfb)), (h, .inr (8, [.ref ui, .ref ug, .ref uv, .ref tb, .int ct, .int f_124, .int bg, .int at_3, .int en, .int vs, .int io, .int hi, .int ht]))]) ?_
        exact pb_iret (pc := 53) hQ d_Markup_readAttribute_53 rfl rfl (0, at_3, f_124, vs, hi, ht, vf, gf, df) ⟨rfl, (by (try dsimp only); first | done | (with_reducible assumption) | omega (splitDisjunctions := false) | assumption | omega | decide), (by (try dsimp only); first | done | (with_reducible assumption) | omega (splitDisjunctions := false) | assumption | omega | decide), (by (try dsimp only); first | done | (with_reducible assumption) | omega (splitDisjunctions := false) | assumption | omega | decide), (by (try dsimp only); first | done | (with_reducible assumption) | omega (splitDisjunctions := false) | assumption | omega | decide), F_vf⟩ [7, 6, 0, 1, 2, 3, 4, 5] (by decide) rfl rfl (by decide) (by decide)
  · have tw10 : ¬ r_8.toInt = 0 := fun z9 => w10 ((ti_eq rfl (by decide)).mpr z9)
    refine pb_aload_n (pc := 21) d_Markup_readAttribute_21 2 rfl rfl ?_
    refine pb_get (pc := 22) d_Markup_readAttribute_22 6 11 rfl rfl (by decide) in_Markup k_330 rfl ?_
    refine pb_if_eq (pc := 25) (tgt := 54) d_Markup_readAttribute_25 (by decide) (fun w125 => ?_) (fun w125 => ?_)
    · have tw125 : hi.toInt = 0 := (ti_eq rfl (by decide)).mp w125
      refine pb_aload_n (pc := 54) d_Markup_readAttribute_54 2 rfl rfl ?_
      refine pb_ldcS (pc := 55) (k := 9) d_Markup_readAttribute_55 rfl (by decide) ?_
      refine pb_callV (pc := 57) (I := i_Markup_readAttribute) (qb := 6) (ci := 8) (nA := 1) (rest := []) (wr := [(uv, .inl (G.2.1, 24, .inl vf)), (ug, .inl (G.2.2.1, 200, .inl gf)), (ui, .inl (G.2.2.2.1, 200, .inr (.inl df))), (sp, .inr (3, [.ref tn, .ref tz, .ref tb, .ref tg, .int c])), (tn, .inl (G.2.1, 384, .inl tfn)), (tz, .inl (G.2.2.1, 16, .inl tfz))]) d_Markup_readAttribute_57 (g_Mu_takeText hl G h ui ug uv tb ct fa bg at_3 en vs io hi ht tfb 9 (by first | (with_reducible assumption) | omega (splitDisjunctions := false) | assumption | omega | decide) (by first | (with_reducible assumption) | omega (splitDisjunctions := false) | assumption | omega | decide) (by first | (with_reducible assumption) | omega (splitDisjunctions := false) | assumption | omega | decide) (by first | assumption | decide | omega) F_tfb) rfl rfl [6, 7] [0, 1, 2, 3, 4, 5] (by decide) rfl rfl rfl (by decide) (by decide) k_825 rfl k_125 k_822 k_824 k_35 ⟨rfl, hy_Markup_takeText⟩ (by decide) rfl rfl (Nat.le_of_ble_eq_true rfl) (by decide) (fun v9 u127 ch126 => ?_)
      obtain ⟨r_128, at_129, f_130⟩ := u127
      obtain ⟨ech126, ch126⟩ := ch126
      have ech126 : v9 = some (.int r_128) := ech126
      subst ech126
      obtain ⟨fh131, fh132, fh133⟩ : (r_128.toInt = 0 ∨ r_128.toInt = 1) ∧ (at_3.toInt ≤ at_129.toInt) ∧ (at_129.toInt ≤ en.toInt) := ch126
      refine pb_eq (pc' := 60) (lo' := [(3, .int r_8), (2, .int at_), (0, .ref h), (1, .ref sp)]) (rest' := [.int r_128]) (ws' := [(uv, .inl (G.2.1, 24, .inl vf)), (ug, .inl (G.2.2.1, 200, .inl gf)), (ui, .inl (G.2.2.2.1, 200, .inr (.inl df))), (sp, .inr (3, [.ref tn, .ref tz, .ref tb, .ref tg, .int c])), (tn, .inl (G.2.1, 384, .inl tfn)), (tz, .inl (G.2.2.1, 16, .inl tfz)), (h, .inr (8, [.ref ui, .ref ug, .ref uv, .ref tb, .int ct, .int f_130, .int bg, .int at_129, .int en, .int vs, .int io, .int hi, .int ht])), (tb, .inl (G.2.1, 12000, .inl tfb))]) ?_
      refine pb_if_ne (pc := 60) (tgt := 65) d_Markup_readAttribute_60 (by decide) (fun w134 => ?_) (fun w134 => ?_)
      · have tw134 : ¬ r_128.toInt = 0 := fun z9 => w134 ((ti_eq rfl (by decide)).mpr z9)
        refine pb_aload_n (pc := 65) d_Markup_readAttribute_65 2 rfl rfl ?_
        refine pb_iconst (pc := 66) (v := 0) d_Markup_readAttribute_66 (by decide) ?_
        refine pb_callV (pc := 67) (I := i_Markup_readAttribute) (qb := 6) (ci := 8) (nA := 1) (rest := []) (wr := [(uv, .inl (G.2.1, 24, .inl vf)), (ug, .inl (G.2.2.1, 200, .inl gf)), (ui, .inl (G.2.2.2.1, 200, .inr (.inl df))), (sp, .inr (3, [.ref tn, .ref tz, .ref tb, .ref tg, .int c])), (tn, .inl (G.2.1, 384, .inl tfn)), (tz, .inl (G.2.2.1, 16, .inl tfz))]) d_Markup_readAttribute_67 (g_Mu_next hl G h ui ug uv tb ct f_130 bg at_129 en vs io hi ht tfb 0 (by first | (with_reducible assumption) | omega (splitDisjunctions := false) | assumption | omega | decide) (by first | (with_reducible assumption) | omega (splitDisjunctions := false) | assumption | omega | decide) (by first | (with_reducible assumption) | omega (splitDisjunctions := false) | assumption | omega | decide) (by first | (with_reducible assumption) | omega (splitDisjunctions := false) | assumption | omega | decide) (by first | (with_reducible assumption) | omega (splitDisjunctions := false) | assumption | omega | decide) F_tfb) rfl rfl [6, 7] [0, 1, 2, 3, 4, 5] (by decide) rfl rfl rfl (by decide) (by decide) k_813 rfl k_125 k_810 k_812 k_33 ⟨rfl, hy_Markup_next⟩ (by decide) rfl rfl (Nat.le_of_ble_eq_true rfl) (by decide) (fun v9 u136 ch135 => ?_)
        obtain ⟨r_137, rfl⟩ : ∃ z9, z9 = u136 := ⟨_, rfl⟩
        obtain ⟨ech135, ch135⟩ := ch135
        have ech135 : v9 = some (.int r_137) := ech135
        subst ech135
        obtain ⟨fh138, fh139, fh140⟩ : (-1 ≤ r_137.toInt) ∧ (r_137.toInt ≤ 255) ∧ (0 ≤ r_137.toInt → at_129.toInt + (0 : Int32).toInt < en.toInt) := ch135
        refine pb_eq (pc' := 70) (lo' := [(3, .int r_8), (2, .int at_), (0, .ref h), (1, .ref sp)]) (rest' := [.int r_137]) (ws' := [(uv, .inl (G.2.1, 24, .inl vf)), (ug, .inl (G.2.2.1, 200, .inl gf)), (ui, .inl (G.2.2.2.1, 200, .inr (.inl df))), (sp, .inr (3, [.ref tn, .ref tz, .ref tb, .ref tg, .int c])), (tn, .inl (G.2.1, 384, .inl tfn)), (tz, .inl (G.2.2.1, 16, .inl tfz)), (h, .inr (8, [.ref ui, .ref ug, .ref uv, .ref tb, .int ct, .int f_130, .int bg, .int at_129, .int en, .int vs, .int io, .int hi, .int ht])), (tb, .inl (G.2.1, 12000, .inl tfb))]) ?_
        refine pb_istore (pc := 70) (lo' := [(4, .int r_137), (3, .int r_8), (2, .int at_), (0, .ref h), (1, .ref sp)]) d_Markup_readAttribute_70 (by decide) rfl ?_
        refine pb_iload (pc := 72) d_Markup_readAttribute_72 0 rfl ?_
        refine pb_bipush (pc := 74) (v := 34) d_Markup_readAttribute_74 (by decide) ?_
        refine pb_icmp_eq (pc := 76) (tgt := 95) d_Markup_readAttribute_76 (by decide) (fun w141 => ?_) (fun w141 => ?_)
        · have tw141 : r_137.toInt = 34 := (ti_eq rfl (by decide)).mp w141
          refine pb_aload_n (pc := 95) d_Markup_readAttribute_95 3 rfl rfl ?_
          refine pb_dup (pc := 96) d_Markup_readAttribute_96 rfl ?_
          refine pb_get (pc := 97) d_Markup_readAttribute_97 6 7 rfl rfl (by decide) in_Markup k_326 rfl ?_
          refine pb_iconst (pc := 100) (v := 1) d_Markup_readAttribute_100 (by decide) ?_
          refine pb_iadd (pc := 101) d_Markup_readAttribute_101 ?_
          refine pb_topi (fun i142 ei142 => ?_)
          try have ti142 : i142.toInt = at_129.toInt + 1 := t2_add ei142 rfl (by decide) (by omega)
          refine pb_put (pc := 102) (ty := .int) (ws' := [(uv, .inl (G.2.1, 24, .inl vf)), (ug, .inl (G.2.2.1, 200, .inl gf)), (ui, .inl (G.2.2.2.1, 200, .inr (.inl df))), (sp, .inr (3, [.ref tn, .ref tz, .ref tb, .ref tg, .int c])), (tn, .inl (G.2.1, 384, .inl tfn)), (tz, .inl (G.2.2.1, 16, .inl tfz)), (h, .inr (8, [.ref ui, .ref ug, .ref uv, .ref tb, .int ct, .int f_130, .int bg, .int i142, .int en, .int vs, .int io, .int hi, .int ht])), (tb, .inl (G.2.1, 12000, .inl tfb))]) d_Markup_readAttribute_102 6 7 t_Markup t_Markup_ok n_Markup rfl rfl (by decide) in_Markup k_326 rfl (by decide +kernel) rfl rfl (Nat.le_of_ble_eq_true rfl) rfl ?_
          refine pb_aload_n (pc := 105) d_Markup_readAttribute_105 3 rfl rfl ?_
          refine pb_iload (pc := 106) d_Markup_readAttribute_106 0 rfl ?_
          refine pb_callV (pc := 108) (I := i_Markup_readAttribute) (qb := 6) (ci := 8) (nA := 1) (rest := []) (wr := [(ug, .inl (G.2.2.1, 200, .inl gf)), (ui, .inl (G.2.2.2.1, 200, .inr (.inl df))), (sp, .inr (3, [.ref tn, .ref tz, .ref tb, .ref tg, .int c])), (tn, .inl (G.2.1, 384, .inl tfn)), (tz, .inl (G.2.2.1, 16, .inl tfz))]) d_Markup_readAttribute_108 (g_Mu_readValue hl G h ui ug uv tb ct f_130 bg i142 en vs io hi ht tfb vf r_137 (by first | (with_reducible assumption) | omega (splitDisjunctions := false) | assumption | (clear fh140; first | omega (splitDisjunctions := false) | omega) | omega | decide) (by first | (with_reducible assumption) | omega (splitDisjunctions := false) | assumption | (clear fh140; first | omega (splitDisjunctions := false) | omega) | omega | decide) (by first | (with_reducible assumption) | omega (splitDisjunctions := false) | assumption | (clear fh140; first | omega (splitDisjunctions := false) | omega) | omega | decide) (by first | (with_reducible assumption) | omega (splitDisjunctions := false) | assumption | (clear fh140; first | omega (splitDisjunctions := false) | omega) | omega | decide) F_tfb F_vf) rfl rfl [6, 7, 0] [1, 2, 3, 4, 5] (by decide) rfl rfl rfl (by decide) (by decide) k_863 rfl k_125 k_860 k_862 k_42 ⟨rfl, hy_Markup_readValue⟩ (by decide) rfl rfl (Nat.le_of_ble_eq_true rfl) (by decide) (fun v9 u144 ch143 => ?_)
          obtain ⟨r_145, at_146, f_147, vs_148, vf_149⟩ := u144
          obtain ⟨ech143, ch143⟩ := ch143
          have ech143 : v9 = some (.int r_145) := ech143
          subst ech143
          obtain ⟨fh150, fh151, fh152, fh153, fh154, fh155⟩ : (r_145.toInt = 0 ∨ r_145.toInt = 1) ∧ (i142.toInt ≤ at_146.toInt) ∧ (at_146.toInt ≤ en.toInt) ∧ (r_145.toInt = 1 → at_146.toInt < en.toInt) ∧ (0 ≤ vs_148.toInt) ∧ (sb_Fit vf_149) := ch143
          refine pb_eq (pc' := 111) (lo' := [(4, .int r_137), (3, .int r_8), (2, .int at_), (0, .ref h), (1, .ref sp)]) (rest' := [.int r_145]) (ws' := [(ug, .inl (G.2.2.1, 200, .inl gf)), (ui, .inl (G.2.2.2.1, 200, .inr (.inl df))), (sp, .inr (3, [.ref tn, .ref tz, .ref tb, .ref tg, .int c])), (tn, .inl (G.2.1, 384, .inl tfn)), (tz, .inl (G.2.2.1, 16, .inl tfz)), (h, .inr (8, [.ref ui, .ref ug, .ref uv, .ref tb, .int ct, .int f_147, .int bg, .int at_146, .int en, .int vs_148, .int io, .int hi, .int ht])), (tb, .inl (G.2.1, 12000, .inl tfb)), (uv, .inl (G.2.1, 24, .inl vf_149))]) ?_
          refine pb_if_ne (pc := 111) (tgt := 116) d_Markup_readAttribute_111 (by decide) (fun w156 => ?_) (fun w156 => ?_)
          · have tw156 : ¬ r_145.toInt = 0 := fun z9 => w156 ((ti_eq rfl (by decide)).mpr z9)
            refine pb_iload_n (pc := 116) d_Markup_readAttribute_116 1 rfl rfl ?_
            refine pb_if_eq (pc := 117) (tgt := 130) d_Markup_readAttribute_117 (by decide) (fun w157 => ?_) (fun w157 => ?_)
            · have tw157 : r_8.toInt = 0 := (ti_eq rfl (by decide)).mp w157
              refine pb_aload_n (pc := 130) d_Markup_readAttribute_130 3 rfl rfl ?_
              refine pb_aload_n (pc := 131) d_Markup_readAttribute_131 4 rfl rfl ?_
              refine pb_callV (pc := 132) (I := i_Markup_readAttribute) (qb := 5) (ci := 8) (nA := 1) (rest := []) (wr := [(ui, .inl (G.2.2.2.1, 200, .inr (.inl df))), (tb, .inl (G.2.1, 12000, .inl tfb))]) d_Markup_readAttribute_132 (g_Mu_keepGoal hl G h ui ug uv tb ct f_147 bg at_146 en vs_148 io hi ht vf_149 gf sp tn tz tb tg c tfn tfz tfg (by first | (with_reducible assumption) | omega (splitDisjunctions := false) | assumption | (clear fh140 fh153; first | omega (splitDisjunctions := false) | omega) | omega | decide) (by first | assumption | decide | omega) fh155 F_tfn) rfl rfl [5, 7, 0, 2, 3, 4] [1, 6] (by decide) rfl rfl rfl (by decide) (by decide) k_885 rfl k_125 k_882 k_884 k_46 ⟨rfl, hy_Markup_keepGoal⟩ (by decide) rfl rfl (Nat.le_of_ble_eq_true rfl) (by decide) (fun v9 u159 ch158 => ?_)
              obtain ⟨r_160, ht_161, gf_162⟩ := u159
              obtain ⟨ech158, ch158⟩ := ch158
              have ech158 : v9 = some (.int r_160) := ech158
              subst ech158
              obtain ⟨fh163, fh164⟩ : (r_160.toInt = 0 ∨ r_160.toInt = 1) ∧ (r_160.toInt = 1 → ct.toInt < 200) := ch158
              refine pb_eq (pc' := 135) (lo' := [(4, .int r_137), (3, .int r_8), (2, .int at_), (0, .ref h), (1, .ref sp)]) (rest' := [.int r_160]) (ws' := [(ui, .inl (G.2.2.2.1, 200, .inr (.inl df))), (tb, .inl (G.2.1, 12000, .inl tfb)), (h, .inr (8, [.ref ui, .ref ug, .ref uv, .ref tb, .int ct, .int f_147, .int bg, .int at_146, .int en, .int vs_148, .int io, .int hi, .int ht_161])), (uv, .inl (G.2.1, 24, .inl vf_149)), (ug, .inl (G.2.2.1, 200, .inl gf_162)), (sp, .inr (3, [.ref tn, .ref tz, .ref tb, .ref tg, .int c])), (tn, .inl (G.2.1, 384, .inl tfn)), (tz, .inl (G.2.2.1, 16, .inl tfz))]) ?_
              refine pb_if_ne (pc := 135) (tgt := 147) d_Markup_readAttribute_135 (by decide) (fun w165 => ?_) (fun w165 => ?_)
              · have tw165 : ¬ r_160.toInt = 0 := fun z9 => w165 ((ti_eq rfl (by decide)).mpr z9)
                refine pb_aload_n (pc := 147) d_Markup_readAttribute_147 3 rfl rfl ?_
                refine pb_dup (pc := 148) d_Markup_readAttribute_148 rfl ?_
                refine pb_get (pc := 149) d_Markup_readAttribute_149 2 7 rfl rfl (by decide) in_Markup k_326 rfl ?_
                refine pb_iconst (pc := 152) (v := 1) d_Markup_readAttribute_152 (by decide) ?_
                refine pb_iadd (pc := 153) d_Markup_readAttribute_153 ?_
                refine pb_topi (fun i166 ei166 => ?_)
                try have ti166 : i166.toInt = at_146.toInt + 1 := t2_add ei166 rfl (by decide) (by omega)
                refine pb_put (pc := 154) (ty := .int) (ws' := [(ui, .inl (G.2.2.2.1, 200, .inr (.inl df))), (tb, .inl (G.2.1, 12000, .inl tfb)), (h, .inr (8, [.ref ui, .ref ug, .ref uv, .ref tb, .int ct, .int f_147, .int bg, .int i166, .int en, .int vs_148, .int io, .int hi, .int ht_161])), (uv, .inl (G.2.1, 24, .inl vf_149)), (ug, .inl (G.2.2.1, 200, .inl gf_162)), (sp, .inr (3, [.ref tn, .ref tz, .ref tb, .ref tg, .int c])), (tn, .inl (G.2.1, 384, .inl tfn)), (tz, .inl (G.2.2.1, 16, .inl tfz))]) d_Markup_readAttribute_154 2 7 t_Markup t_Markup_ok n_Markup rfl rfl (by decide) in_Markup k_326 rfl (by decide +kernel) rfl rfl (Nat.le_of_ble_eq_true rfl) rfl ?_
                refine pb_iconst (pc := 157) (v := 1) d_Markup_readAttribute_157 (by decide) ?_
                exact pb_iret (pc := 158) hQ d_Markup_readAttribute_158 rfl rfl (1, i166, f_147, vs_148, hi, ht_161, vf_149, gf_162, df) ⟨rfl, (by (try dsimp only); first | done | (with_reducible assumption) | omega (splitDisjunctions := false) | assumption | (clear fh140 fh153 fh164; first | omega (splitDisjunctions := false) | omega) | omega | decide), (by (try dsimp only); first | done | (with_reducible assumption) | omega (splitDisjunctions := false) | assumption | (clear fh140 fh153 fh164; first | omega (splitDisjunctions := false) | omega) | omega | decide), (by (try dsimp only); first | done | (with_reducible assumption) | omega (splitDisjunctions := false) | assumption | (clear fh140 fh153 fh164; first | omega (splitDisjunctions := false) | omega) | omega | decide), (by (try dsimp only); first | done | (with_reducible assumption) | omega (splitDisjunctions := false) | assumption | exact fun q90 => (by clear fh140 fh153 fh164; first | omega (splitDisjunctions := false) | omega) | omega | decide), fh155⟩ [2, 1, 3, 4, 0, 5, 6, 7] (by decide) rfl rfl (by decide) (by decide)
              · have tw165 : r_160.toInt = 0 := (ti_eq rfl (by decide)).mp w165
                refine pb_aload_n (pc := 138) d_Markup_readAttribute_138 3 rfl rfl ?_
                refine pb_aload_n (pc := 139) d_Markup_readAttribute_139 3 rfl rfl ?_
                refine pb_get (pc := 140) d_Markup_readAttribute_140 2 7 rfl rfl (by decide) in_Markup k_326 rfl ?_
                refine pb_callV (pc := 143) (I := i_Markup_readAttribute) (qb := 2) (ci := 8) (nA := 1) (rest := []) (wr := [(ui, .inl (G.2.2.2.1, 200, .inr (.inl df))), (tb, .inl (G.2.1, 12000, .inl tfb)), (uv, .inl (G.2.1, 24, .inl vf_149)), (ug, .inl (G.2.2.1, 200, .inl gf_162)), (sp, .inr (3, [.ref tn, .ref tz, .ref tb, .ref tg, .int c])), (tn, .inl (G.2.1, 384, .inl tfn)), (tz, .inl (G.2.2.1, 16, .inl tfz))]) d_Markup_readAttribute_143 (g_Mu_fail hl G h ui ug uv tb ct f_147 bg at_146 en vs_148 io hi ht_161 at_146) rfl rfl [2] [0, 1, 3, 4, 5, 6, 7] (by decide) rfl rfl rfl (by decide) (by decide) k_831 rfl k_125 k_828 k_830 k_36 ⟨rfl, hy_Markup_fail⟩ (by decide) rfl rfl (Nat.le_of_ble_eq_true rfl) (by decide) (fun v9 u168 ch167 => ?_)
                obtain ⟨f_169, rfl⟩ : ∃ z9, z9 = u168 := ⟨_, rfl⟩
                have ech167 := ch167
                have ech167 : v9 = some (.int 0) := ech167
                subst ech167
                refine pb_eq (pc' := 146) (lo' := [(4, .int r_137), (3, .int r_8), (2, .int at_), (0, .ref h), (1, .ref sp)]) (rest' := [.int 0]) (ws' := [(ui, .inl (G.2.2.2.1, 200, .inr (.inl df))), (tb, .inl (G.2.1, 12000, .inl tfb)), (uv, .inl (G.2.1, 24, .inl vf_149)), (ug, .inl (G.2.2.1, 200, .inl gf_162)), (sp, .inr (3, [.ref tn, .ref tz, .ref tb, .ref tg, .int c])), (tn, .inl (G.2.1, 384, .inl tfn)), (tz, .inl (G.2.2.1, 16, .inl tfz)), (h, .inr (8, [.ref ui, .ref ug, .ref uv, .ref tb, .int ct, .int f_169, .int bg, .int at_146, .int en, .int vs_148, .int io, .int hi, .int ht_161]))]) ?_
                exact pb_iret (pc := 146) hQ d_Markup_readAttribute_146 rfl rfl (0, at_146, f_169, vs_148, hi, ht_161, vf_149, gf_162, df) ⟨rfl, (by (try dsimp only); first | done | (with_reducible assumption) | omega (splitDisjunctions := false) | assumption | (clear fh140 fh153 fh164; first | omega (splitDisjunctions := false) | omega) | omega | decide), (by (try dsimp only); first | done | (with_reducible assumption) | omega (splitDisjunctions := false) | assumption | (clear fh140 fh153 fh164; first | omega (splitDisjunctions := false) | omega) | omega | decide), (by (try dsimp only); first | done | (with_reducible assumption) | omega (splitDisjunctions := false) | assumption | (clear fh140 fh153 fh164; first | omega (splitDisjunctions := false) | omega) | omega | decide), (by (try dsimp only); first | done | (with_reducible assumption) | omega (splitDisjunctions := false) | assumption | exact fun q90 => (by clear fh140 fh153 fh164; first | omega (splitDisjunctions := false) | omega) | omega | decide), fh155⟩ [7, 1, 2, 3, 0, 4, 5, 6] (by decide) rfl rfl (by decide) (by decide)
            · have tw157 : ¬ r_8.toInt = 0 := fun z9 => w157 ((ti_eq rfl (by decide)).mpr z9)
              refine pb_aload_n (pc := 120) d_Markup_readAttribute_120 3 rfl rfl ?_
              refine pb_callV (pc := 121) (I := i_Markup_readAttribute) (qb := 5) (ci := 8) (nA := 0) (rest := []) (wr := [(ug, .inl (G.2.2.1, 200, .inl gf)), (sp, .inr (3, [.ref tn, .ref tz, .ref tb, .ref tg, .int c])), (tn, .inl (G.2.1, 384, .inl tfn)), (tz, .inl (G.2.2.1, 16, .inl tfz)), (tb, .inl (G.2.1, 12000, .inl tfb))]) d_Markup_readAttribute_121 (g_Mu_keepId hl G h ui ug uv tb ct f_147 bg at_146 en vs_148 io hi ht vf_149 df (by first | (with_reducible assumption) | omega (splitDisjunctions := false) | assumption | (clear fh140 fh153; first | omega (splitDisjunctions := false) | omega) | omega | decide) fh155) rfl rfl [5, 7, 1] [0, 2, 3, 4, 6] (by decide) rfl rfl rfl (by decide) (by decide) k_881 rfl k_125 k_878 k_880 k_45 ⟨rfl, hy_Markup_keepId⟩ (by decide) rfl rfl (Nat.le_of_ble_eq_true rfl) (by decide) (fun v9 u171 ch170 => ?_)
              obtain ⟨r_172, hi_173, df_174⟩ := u171
              obtain ⟨ech170, ch170⟩ := ch170
              have ech170 : v9 = some (.int r_172) := ech170
              subst ech170
              obtain ⟨fh175, fh176, fh177⟩ : (r_172.toInt = 0 ∨ r_172.toInt = 1) ∧ (hi_173.toInt ≠ 0 → hi.toInt ≠ 0 ∨ ct.toInt < 200) ∧ (r_172.toInt = 1 → ct.toInt < 200) := ch170
              refine pb_eq (pc' := 124) (lo' := [(4, .int r_137), (3, .int r_8), (2, .int at_), (0, .ref h), (1, .ref sp)]) (rest' := [.int r_172]) (ws' := [(ug, .inl (G.2.2.1, 200, .inl gf)), (sp, .inr (3, [.ref tn, .ref tz, .ref tb, .ref tg, .int c])), (tn, .inl (G.2.1, 384, .inl tfn)), (tz, .inl (G.2.2.1, 16, .inl tfz)), (tb, .inl (G.2.1, 12000, .inl tfb)), (h, .inr (8, [.ref ui, .ref ug, .ref uv, .ref tb, .int ct, .int f_147, .int bg, .int at_146, .int en, .int vs_148, .int io, .int hi_173, .int ht])), (uv, .inl (G.2.1, 24, .inl vf_149)), (ui, .inl (G.2.2.2.1, 200, .inr (.inl df_174)))]) ?_
              refine pb_if_eq (pc := 124) (tgt := 138) d_Markup_readAttribute_124 (by decide) (fun w178 => ?_) (fun w178 => ?_)
              · have tw178 : r_172.toInt = 0 := (ti_eq rfl (by decide)).mp w178
                refine pb_aload_n (pc := 138) d_Markup_readAttribute_138 3 rfl rfl ?_
                refine pb_aload_n (pc := 139) d_Markup_readAttribute_139 3 rfl rfl ?_
                refine pb_get (pc := 140) d_Markup_readAttribute_140 5 7 rfl rfl (by decide) in_Markup k_326 rfl ?_
                refine pb_callV (pc := 143) (I := i_Markup_readAttribute) (qb := 5) (ci := 8) (nA := 1) (rest := []) (wr := [(ug, .inl (G.2.2.1, 200, .inl gf)), (sp, .inr (3, [.ref tn, .ref tz, .ref tb, .ref tg, .int c])), (tn, .inl (G.2.1, 384, .inl tfn)), (tz, .inl (G.2.2.1, 16, .inl tfz)), (tb, .inl (G.2.1, 12000, .inl tfb)), (uv, .inl (G.2.1, 24, .inl vf_149)), (ui, .inl (G.2.2.2.1, 200, .inr (.inl df_174)))]) d_Markup_readAttribute_143 (g_Mu_fail hl G h ui ug uv tb ct f_147 bg at_146 en vs_148 io hi_173 ht at_146) rfl rfl [5] [0, 1, 2, 3, 4, 6, 7] (by decide) rfl rfl rfl (by decide) (by decide) k_831 rfl k_125 k_828 k_830 k_36 ⟨rfl, hy_Markup_fail⟩ (by decide) rfl rfl (Nat.le_of_ble_eq_true rfl) (by decide) (fun v9 u180 ch179 => ?_)
                obtain ⟨f_181, rfl⟩ : ∃ z9, z9 = u180 := ⟨_, rfl⟩
                have ech179 := ch179
                have ech179 : v9 = some (.int 0) := ech179
                subst ech179
                refine pb_eq (pc' := 146) (lo' := [(4, .int r_137), (3, .int r_8), (2, .int at_), (0, .ref h), (1, .ref sp)]) (rest' := [.int 0]) (ws' := [(ug, .inl (G.2.2.1, 200, .inl gf)), (sp, .inr (3, [.ref tn, .ref tz, .ref tb, .ref tg, .int c])), (tn, .inl (G.2.1, 384, .inl tfn)), (tz, .inl (G.2.2.1, 16, .inl tfz)), (tb, .inl (G.2.1, 12000, .inl tfb)), (uv, .inl (G.2.1, 24, .inl vf_149)), (ui, .inl (G.2.2.2.1, 200, .inr (.inl df_174))), (h, .inr (8, [.ref ui, .ref ug, .ref uv, .ref tb, .int ct, .int f_181, .int bg, .int at_146, .int en, .int vs_148, .int io, .int hi_173, .int ht]))]) ?_
                exact pb_iret (pc := 146) hQ d_Markup_readAttribute_146 rfl rfl (0, at_146, f_181, vs_148, hi_173, ht, vf_149, gf, df_174) ⟨rfl, (by (try dsimp only); first | done | (with_reducible assumption) | omega (splitDisjunctions := false) | assumption | (clear fh140 fh153 fh176 fh177; first | omega (splitDisjunctions := false) | omega) | omega | decide), (by (try dsimp only); first | done | (with_reducible assumption) | omega (splitDisjunctions := false) | assumption | (clear fh140 fh153 fh176 fh177; first | omega (splitDisjunctions := false) | omega) | omega | decide), (by (try dsimp only); first | done | (with_reducible assumption) | omega (splitDisjunctions := false) | assumption | (clear fh140 fh153 fh176 fh177; first | omega (splitDisjunctions := false) | omega) | omega | decide), (by (try dsimp only); first | done | (with_reducible assumption) | omega (splitDisjunctions := false) | assumption | exact fun q90 => (by have y90 := fh176 q90; clear fh140 fh153 fh176 fh177; first | omega (splitDisjunctions := false) | omega) | omega | decide), fh155⟩ [7, 4, 5, 0, 6, 1, 2, 3] (by decide) rfl rfl (by decide) (by decide)
              · have tw178 : ¬ r_172.toInt = 0 := fun z9 => w178 ((ti_eq rfl (by decide)).mpr z9)
                refine pb_goto (pc := 127) (tgt := 147) d_Markup_readAttribute_127 (by decide) ?_
                refine pb_aload_n (pc := 147) d_Markup_readAttribute_147 3 rfl rfl ?_
                refine pb_dup (pc := 148) d_Markup_readAttribute_148 rfl ?_
                refine pb_get (pc := 149) d_Markup_readAttribute_149 5 7 rfl rfl (by decide) in_Markup k_326 rfl ?_
                refine pb_iconst (pc := 152) (v := 1) d_Markup_readAttribute_152 (by decide) ?_
                refine pb_iadd (pc := 153) d_Markup_readAttribute_153 ?_
                refine pb_topi (fun i182 ei182 => ?_)
                try have ti182 : i182.toInt = at_146.toInt + 1 := t2_add ei182 rfl (by decide) (by omega)
                refine pb_put (pc := 154) (ty := .int) (ws' := [(ug, .inl (G.2.2.1, 200, .inl gf)), (sp, .inr (3, [.ref tn, .ref tz, .ref tb, .ref tg, .int c])), (tn, .inl (G.2.1, 384, .inl tfn)), (tz, .inl (G.2.2.1, 16, .inl tfz)), (tb, .inl (G.2.1, 12000, .inl tfb)), (h, .inr (8, [.ref ui, .ref ug, .ref uv, .ref tb, .int ct, .int f_147, .int bg, .int i182, .int en, .int vs_148, .int io, .int hi_173, .int ht])), (uv, .inl (G.2.1, 24, .inl vf_149)), (ui, .inl (G.2.2.2.1, 200, .inr (.inl df_174)))]) d_Markup_readAttribute_154 5 7 t_Markup t_Markup_ok n_Markup rfl rfl (by decide) in_Markup k_326 rfl (by decide +kernel) rfl rfl (Nat.le_of_ble_eq_true rfl) rfl ?_
                refine pb_iconst (pc := 157) (v := 1) d_Markup_readAttribute_157 (by decide) ?_
                exact pb_iret (pc := 158) hQ d_Markup_readAttribute_158 rfl rfl (1, i182, f_147, vs_148, hi_173, ht, vf_149, gf, df_174) ⟨rfl, (by (try dsimp only); first | done | (with_reducible assumption) | omega (splitDisjunctions := false) | assumption | (clear fh140 fh153 fh176 fh177; first | omega (splitDisjunctions := false) | omega) | omega | decide), (by (try dsimp only); first | done | (with_reducible assumption) | omega (splitDisjunctions := false) | assumption | (clear fh140 fh153 fh176 fh177; first | omega (splitDisjunctions := false) | omega) | omega | decide), (by (try dsimp only); first | done | (with_reducible assumption) | omega (splitDisjunctions := false) | assumption | (clear fh140 fh153 fh176 fh177; first | omega (splitDisjunctions := false) | omega) | omega | decide), (by (try dsimp only); first | done | (with_reducible assumption) | omega (splitDisjunctions := false) | assumption | exact fun q90 => (by have y90 := fh176 q90; clear fh140 fh153 fh176 fh177; first | omega (splitDisjunctions := false) | omega) | omega | decide), fh155⟩ [5, 4, 6, 0, 7, 1, 2, 3] (by decide) rfl rfl (by decide) (by decide)
          · have tw156 : r_145.toInt = 0 := (ti_eq rfl (by decide)).mp w156
            refine pb_iconst (pc := 114) (v := 0) d_Markup_readAttribute_114 (by decide) ?_
            exact pb_iret (pc := 115) hQ d_Markup_readAttribute_115 rfl rfl (0, at_146, f_147, vs_148, hi, ht, vf_149, gf, df) ⟨rfl, (by (try dsimp only); first | done | (with_reducible assumption) | omega (splitDisjunctions := false) | assumption | (clear fh140 fh153; first | omega (splitDisjunctions := false) | omega) | omega | decide), (by (try dsimp only); first | done | (with_reducible assumption) | omega (splitDisjunctions := false) | assumption | (clear fh140 fh153; first | omega (splitDisjunctions := false) | omega) | omega | decide), (by (try dsimp only); first | done | (with_reducible assumption) | omega (splitDisjunctions := false) | assumption | (clear fh140 fh153; first | omega (splitDisjunctions := false) | omega) | omega | decide), (by (try dsimp only); first | done | (with_reducible assumption) | omega (splitDisjunctions := false) | assumption | exact fun q90 => (by clear fh140 fh153; first | omega (splitDisjunctions := false) | omega) | omega | decide), fh155⟩ [5, 6, 7, 0, 1, 2, 3, 4] (by decide) rfl rfl (by decide) (by decide)
        · have tw141 : ¬ r_137.toInt = 34 := fun z9 => w141 ((ti_eq rfl (by decide)).mpr z9)
          refine pb_iload (pc := 79) d_Markup_readAttribute_79 0 rfl ?_
          refine pb_bipush (pc := 81) (v := 39) d_Markup_readAttribute_81 (by decide) ?_
          refine pb_icmp_eq (pc := 83) (tgt := 95) d_Markup_readAttribute_83 (by decide) (fun w183 => ?_) (fun w183 => ?_)
          · have tw183 : r_137.toInt = 39 := (ti_eq rfl (by decide)).mp w183
            refine pb_aload_n (pc := 95) d_Markup_readAttribute_95 3 rfl rfl ?_
            refine pb_dup (pc := 96) d_Markup_readAttribute_96 rfl ?_
            refine pb_get (pc := 97) d_Markup_readAttribute_97 6 7 rfl rfl (by decide) in_Markup k_326 rfl ?_
            refine pb_iconst (pc := 100) (v := 1) d_Markup_readAttribute_100 (by decide) ?_
            refine pb_iadd (pc := 101) d_Markup_readAttribute_101 ?_
            refine pb_topi (fun i184 ei184 => ?_)
            try have ti184 : i184.toInt = at_129.toInt + 1 := t2_add ei184 rfl (by decide) (by omega)
            refine pb_put (pc := 102) (ty := .int) (ws' := [(uv, .inl (G.2.1, 24, .inl vf)), (ug, .inl (G.2.2.1, 200, .inl gf)), (ui, .inl (G.2.2.2.1, 200, .inr (.inl df))), (sp, .inr (3, [.ref tn, .ref tz, .ref tb, .ref tg, .int c])), (tn, .inl (G.2.1, 384, .inl tfn)), (tz, .inl (G.2.2.1, 16, .inl tfz)), (h, .inr (8, [.ref ui, .ref ug, .ref uv, .ref tb, .int ct, .int f_130, .int bg, .int i184, .int en, .int vs, .int io, .int hi, .int ht])), (tb, .inl (G.2.1, 12000, .inl tfb))]) d_Markup_readAttribute_102 6 7 t_Markup t_Markup_ok n_Markup rfl rfl (by decide) in_Markup k_326 rfl (by decide +kernel) rfl rfl (Nat.le_of_ble_eq_true rfl) rfl ?_
            refine pb_aload_n (pc := 105) d_Markup_readAttribute_105 3 rfl rfl ?_
            refine pb_iload (pc := 106) d_Markup_readAttribute_106 0 rfl ?_
            refine pb_callV (pc := 108) (I := i_Markup_readAttribute) (qb := 6) (ci := 8) (nA := 1) (rest := []) (wr := [(ug, .inl (G.2.2.1, 200, .inl gf)), (ui, .inl (G.2.2.2.1, 200, .inr (.inl df))), (sp, .inr (3, [.ref tn, .ref tz, .ref tb, .ref tg, .int c])), (tn, .inl (G.2.1, 384, .inl tfn)), (tz, .inl (G.2.2.1, 16, .inl tfz))]) d_Markup_readAttribute_108 (g_Mu_readValue hl G h ui ug uv tb ct f_130 bg i184 en vs io hi ht tfb vf r_137 (by first | (with_reducible assumption) | omega (splitDisjunctions := false) | assumption | (clear fh140; first | omega (splitDisjunctions := false) | omega) | omega | decide) (by first | (with_reducible assumption) | omega (splitDisjunctions := false) | assumption | (clear fh140; first | omega (splitDisjunctions := false) | omega) | omega | decide) (by first | (with_reducible assumption) | omega (splitDisjunctions := false) | assumption | (clear fh140; first | omega (splitDisjunctions := false) | omega) | omega | decide) (by first | (with_reducible assumption) | omega (splitDisjunctions := false) | assumption | (clear fh140; first | omega (splitDisjunctions := false) | omega) | omega | decide) F_tfb F_vf) rfl rfl [6, 7, 0] [1, 2, 3, 4, 5] (by decide) rfl rfl rfl (by decide) (by decide) k_863 rfl k_125 k_860 k_862 k_42 ⟨rfl, hy_Markup_readValue⟩ (by decide) rfl rfl (Nat.le_of_ble_eq_true rfl) (by decide) (fun v9 u186 ch185 => ?_)
            obtain ⟨r_187, at_188, f_189, vs_190, vf_191⟩ := u186
            obtain ⟨ech185, ch185⟩ := ch185
            have ech185 : v9 = some (.int r_187) := ech185
            subst ech185
            obtain ⟨fh192, fh193, fh194, fh195, fh196, fh197⟩ : (r_187.toInt = 0 ∨ r_187.toInt = 1) ∧ (i184.toInt ≤ at_188.toInt) ∧ (at_188.toInt ≤ en.toInt) ∧ (r_187.toInt = 1 → at_188.toInt < en.toInt) ∧ (0 ≤ vs_190.toInt) ∧ (sb_Fit vf_191) := ch185
            refine pb_eq (pc' := 111) (lo' := [(4, .int r_137), (3, .int r_8), (2, .int at_), (0, .ref h), (1, .ref sp)]) (rest' := [.int r_187]) (ws' := [(ug, .inl (G.2.2.1, 200, .inl gf)), (ui, .inl (G.2.2.2.1, 200, .inr (.inl df))), (sp, .inr (3, [.ref tn, .ref tz, .ref tb, .ref tg, .int c])), (tn, .inl (G.2.1, 384, .inl tfn)), (tz, .inl (G.2.2.1, 16, .inl tfz)), (h, .inr (8, [.ref ui, .ref ug, .ref uv, .ref tb, .int ct, .int f_189, .int bg, .int at_188, .int en, .int vs_190, .int io, .int hi, .int ht])), (tb, .inl (G.2.1, 12000, .inl tfb)), (uv, .inl (G.2.1, 24, .inl vf_191))]) ?_
            refine pb_if_ne (pc := 111) (tgt := 116) d_Markup_readAttribute_111 (by decide) (fun w198 => ?_) (fun w198 => ?_)
            · have tw198 : ¬ r_187.toInt = 0 := fun z9 => w198 ((ti_eq rfl (by decide)).mpr z9)
              refine pb_iload_n (pc := 116) d_Markup_readAttribute_116 1 rfl rfl ?_
              refine pb_if_eq (pc := 117) (tgt := 130) d_Markup_readAttribute_117 (by decide) (fun w199 => ?_) (fun w199 => ?_)
              · have tw199 : r_8.toInt = 0 := (ti_eq rfl (by decide)).mp w199
                refine pb_aload_n (pc := 130) d_Markup_readAttribute_130 3 rfl rfl ?_
                refine pb_aload_n (pc := 131) d_Markup_readAttribute_131 4 rfl rfl ?_
                refine pb_callV (pc := 132) (I := i_Markup_readAttribute) (qb := 5) (ci := 8) (nA := 1) (rest := []) (wr := [(ui, .inl (G.2.2.2.1, 200, .inr (.inl df))), (tb, .inl (G.2.1, 12000, .inl tfb))]) d_Markup_readAttribute_132 (g_Mu_keepGoal hl G h ui ug uv tb ct f_189 bg at_188 en vs_190 io hi ht vf_191 gf sp tn tz tb tg c tfn tfz tfg (by first | (with_reducible assumption) | omega (splitDisjunctions := false) | assumption | (clear fh140 fh195; first | omega (splitDisjunctions := false) | omega) | omega | decide) (by first | assumption | decide | omega) fh197 F_tfn) rfl rfl [5, 7, 0, 2, 3, 4] [1, 6] (by decide) rfl rfl rfl (by decide) (by decide) k_885 rfl k_125 k_882 k_884 k_46 ⟨rfl, hy_Markup_keepGoal⟩ (by decide) rfl rfl (Nat.le_of_ble_eq_true rfl) (by decide) (fun v9 u201 ch200 => ?_)
                obtain ⟨r_202, ht_203, gf_204⟩ := u201
                obtain ⟨ech200, ch200⟩ := ch200
                have ech200 : v9 = some (.int r_202) := ech200
                subst ech200
                obtain ⟨fh205, fh206⟩ : (r_202.toInt = 0 ∨ r_202.toInt = 1) ∧ (r_202.toInt = 1 → ct.toInt < 200) := ch200
                refine pb_eq (pc' := 135) (lo' := [(4, .int r_137), (3, .int r_8), (2, .int at_), (0, .ref h), (1, .ref sp)]) (rest' := [.int r_202]) (ws' := [(ui, .inl (G.2.2.2.1, 200, .inr (.inl df))), (tb, .inl (G.2.1, 12000, .inl tfb)), (h, .inr (8, [.ref ui, .ref ug, .ref uv, .ref tb, .int ct, .int f_189, .int bg, .int at_188, .int en, .int vs_190, .int io, .int hi, .int ht_203])), (uv, .inl (G.2.1, 24, .inl vf_191)), (ug, .inl (G.2.2.1, 200, .inl gf_204)), (sp, .inr (3, [.ref tn, .ref tz, .ref tb, .ref tg, .int c])), (tn, .inl (G.2.1, 384, .inl tfn)), (tz, .inl (G.2.2.1, 16, .inl tfz))]) ?_
                refine pb_if_ne (pc := 135) (tgt := 147) d_Markup_readAttribute_135 (by decide) (fun w207 => ?_) (fun w207 => ?_)
                · have tw207 : ¬ r_202.toInt = 0 := fun z9 => w207 ((ti_eq rfl (by decide)).mpr z9)
                  refine pb_aload_n (pc := 147) d_Markup_readAttribute_147 3 rfl rfl ?_
                  refine pb_dup (pc := 148) d_Markup_readAttribute_148 rfl ?_
                  refine pb_get (pc := 149) d_Markup_readAttribute_149 2 7 rfl rfl (by decide) in_Markup k_326 rfl ?_
                  refine pb_iconst (pc := 152) (v := 1) d_Markup_readAttribute_152 (by decide) ?_
                  refine pb_iadd (pc := 153) d_Markup_readAttribute_153 ?_
                  refine pb_topi (fun i208 ei208 => ?_)
                  try have ti208 : i208.toInt = at_188.toInt + 1 := t2_add ei208 rfl (by decide) (by omega)
                  refine pb_put (pc := 154) (ty := .int) (ws' := [(ui, .inl (G.2.2.2.1, 200, .inr (.inl df))), (tb, .inl (G.2.1, 12000, .inl tfb)), (h, .inr (8, [.ref ui, .ref ug, .ref uv, .ref tb, .int ct, .int f_189, .int bg, .int i208, .int en, .int vs_190, .int io, .int hi, .int ht_203])), (uv, .inl (G.2.1, 24, .inl vf_191)), (ug, .inl (G.2.2.1, 200, .inl gf_204)), (sp, .inr (3, [.ref tn, .ref tz, .ref tb, .ref tg, .int c])), (tn, .inl (G.2.1, 384, .inl tfn)), (tz, .inl (G.2.2.1, 16, .inl tfz))]) d_Markup_readAttribute_154 2 7 t_Markup t_Markup_ok n_Markup rfl rfl (by decide) in_Markup k_326 rfl (by decide +kernel) rfl rfl (Nat.le_of_ble_eq_true rfl) rfl ?_
                  refine pb_iconst (pc := 157) (v := 1) d_Markup_readAttribute_157 (by decide) ?_
                  exact pb_iret (pc := 158) hQ d_Markup_readAttribute_158 rfl rfl (1, i208, f_189, vs_190, hi, ht_203, vf_191, gf_204, df) ⟨rfl, (by (try dsimp only); first | done | (with_reducible assumption) | omega (splitDisjunctions := false) | assumption | (clear fh140 fh195 fh206; first | omega (splitDisjunctions := false) | omega) | omega | decide), (by (try dsimp only); first | done | (with_reducible assumption) | omega (splitDisjunctions := false) | assumption | (clear fh140 fh195 fh206; first | omega (splitDisjunctions := false) | omega) | omega | decide), (by (try dsimp only); first | done | (with_reducible assumption) | omega (splitDisjunctions := false) | assumption | (clear fh140 fh195 fh206; first | omega (splitDisjunctions := false) | omega) | omega | decide), (by (try dsimp only); first | done | (with_reducible assumption) | omega (splitDisjunctions := false) | assumption | exact fun q90 => (by clear fh140 fh195 fh206; first | omega (splitDisjunctions := false) | omega) | omega | decide), fh197⟩ [2, 1, 3, 4, 0, 5, 6, 7] (by decide) rfl rfl (by decide) (by decide)
                · have tw207 : r_202.toInt = 0 := (ti_eq rfl (by decide)).mp w207
                  refine pb_aload_n (pc := 138) d_Markup_readAttribute_138 3 rfl rfl ?_
                  refine pb_aload_n (pc := 139) d_Markup_readAttribute_139 3 rfl rfl ?_
                  refine pb_get (pc := 140) d_Markup_readAttribute_140 2 7 rfl rfl (by decide) in_Markup k_326 rfl ?_
                  refine pb_callV (pc := 143) (I := i_Markup_readAttribute) (qb := 2) (ci := 8) (nA := 1) (rest := []) (wr := [(ui, .inl (G.2.2.2.1, 200, .inr (.inl df))), (tb, .inl (G.2.1, 12000, .inl tfb)), (uv, .inl (G.2.1, 24, .inl vf_191)), (ug, .inl (G.2.2.1, 200, .inl gf_204)), (sp, .inr (3, [.ref tn, .ref tz, .ref tb, .ref tg, .int c])), (tn, .inl (G.2.1, 384, .inl tfn)), (tz, .inl (G.2.2.1, 16, .inl tfz))]) d_Markup_readAttribute_143 (g_Mu_fail hl G h ui ug uv tb ct f_189 bg at_188 en vs_190 io hi ht_203 at_188) rfl rfl [2] [0, 1, 3, 4, 5, 6, 7] (by decide) rfl rfl rfl (by decide) (by decide) k_831 rfl k_125 k_828 k_830 k_36 ⟨rfl, hy_Markup_fail⟩ (by decide) rfl rfl (Nat.le_of_ble_eq_true rfl) (by decide) (fun v9 u210 ch209 => ?_)
                  obtain ⟨f_211, rfl⟩ : ∃ z9, z9 = u210 := ⟨_, rfl⟩
                  have ech209 := ch209
                  have ech209 : v9 = some (.int 0) := ech209
                  subst ech209
                  refine pb_eq (pc' := 146) (lo' := [(4, .int r_137), (3, .int r_8), (2, .int at_), (0, .ref h), (1, .ref sp)]) (rest' := [.int 0]) (ws' := [(ui, .inl (G.2.2.2.1, 200, .inr (.inl df))), (tb, .inl (G.2.1, 12000, .inl tfb)), (uv, .inl (G.2.1, 24, .inl vf_191)), (ug, .inl (G.2.2.1, 200, .inl gf_204)), (sp, .inr (3, [.ref tn, .ref tz, .ref tb, .ref tg, .int c])), (tn, .inl (G.2.1, 384, .inl tfn)), (tz, .inl (G.2.2.1, 16, .inl tfz)), (h, .inr (8, [.ref ui, .ref ug, .ref uv, .ref tb, .int ct, .int f_211, .int bg, .int at_188, .int en, .int vs_190, .int io, .int hi, .int ht_203]))]) ?_
                  exact pb_iret (pc := 146) hQ d_Markup_readAttribute_146 rfl rfl (0, at_188, f_211, vs_190, hi, ht_203, vf_191, gf_204, df) ⟨rfl, (by (try dsimp only); first | done | (with_reducible assumption) | omega (splitDisjunctions := false) | assumption | (clear fh140 fh195 fh206; first | omega (splitDisjunctions := false) | omega) | omega | decide), (by (try dsimp only); first | done | (with_reducible assumption) | omega (splitDisjunctions := false) | assumption | (clear fh140 fh195 fh206; first | omega (splitDisjunctions := false) | omega) | omega | decide), (by (try dsimp only); first | done | (with_reducible assumption) | omega (splitDisjunctions := false) | assumption | (clear fh140 fh195 fh206; first | omega (splitDisjunctions := false) | omega) | omega | decide), (by (try dsimp only); first | done | (with_reducible assumption) | omega (splitDisjunctions := false) | assumption | exact fun q90 => (by clear fh140 fh195 fh206; first | omega (splitDisjunctions := false) | omega) | omega | decide), fh197⟩ [7, 1, 2, 3, 0, 4, 5, 6] (by decide) rfl rfl (by decide) (by decide)
              · have tw199 : ¬ r_8.toInt = 0 := fun z9 => w199 ((ti_eq rfl (by decide)).mpr z9)
                refine pb_aload_n (pc := 120) d_Markup_readAttribute_120 3 rfl rfl ?_
                refine pb_callV (pc := 121) (I := i_Markup_readAttribute) (qb := 5) (ci := 8) (nA := 0) (rest := []) (wr := [(ug, .inl (G.2.2.1, 200, .inl gf)), (sp, .inr (3, [.ref tn, .ref tz, .ref tb, .ref tg, .int c])), (tn, .inl (G.2.1, 384, .inl tfn)), (tz, .inl (G.2.2.1, 16, .inl tfz)), (tb, .inl (G.2.1, 12000, .inl tfb))]) d_Markup_readAttribute_121 (g_Mu_keepId hl G h ui ug uv tb ct f_189 bg at_188 en vs_190 io hi ht vf_191 df (by first | (with_reducible assumption) | omega (splitDisjunctions := false) | assumption | (clear fh140 fh195; first | omega (splitDisjunctions := false) | omega) | omega | decide) fh197) rfl rfl [5, 7, 1] [0, 2, 3, 4, 6] (by decide) rfl rfl rfl (by decide) (by decide) k_881 rfl k_125 k_878 k_880 k_45 ⟨rfl, hy_Markup_keepId⟩ (by decide) rfl rfl (Nat.le_of_ble_eq_true rfl) (by decide) (fun v9 u213 ch212 => ?_)
                obtain ⟨r_214, hi_215, df_216⟩ := u213
                obtain ⟨ech212, ch212⟩ := ch212
                have ech212 : v9 = some (.int r_214) := ech212
                subst ech212
                obtain ⟨fh217, fh218, fh219⟩ : (r_214.toInt = 0 ∨ r_214.toInt = 1) ∧ (hi_215.toInt ≠ 0 → hi.toInt ≠ 0 ∨ ct.toInt < 200) ∧ (r_214.toInt = 1 → ct.toInt < 200) := ch212
                refine pb_eq (pc' := 124) (lo' := [(4, .int r_137), (3, .int r_8), (2, .int at_), (0, .ref h), (1, .ref sp)]) (rest' := [.int r_214]) (ws' := [(ug, .inl (G.2.2.1, 200, .inl gf)), (sp, .inr (3, [.ref tn, .ref tz, .ref tb, .ref tg, .int c])), (tn, .inl (G.2.1, 384, .inl tfn)), (tz, .inl (G.2.2.1, 16, .inl tfz)), (tb, .inl (G.2.1, 12000, .inl tfb)), (h, .inr (8, [.ref ui, .ref ug, .ref uv, .ref tb, .int ct, .int f_189, .int bg, .int at_188, .int en, .int vs_190, .int io, .int hi_215, .int ht])), (uv, .inl (G.2.1, 24, .inl vf_191)), (ui, .inl (G.2.2.2.1, 200, .inr (.inl df_216)))]) ?_
                refine pb_if_eq (pc := 124) (tgt := 138) d_Markup_readAttribute_124 (by decide) (fun w220 => ?_) (fun w220 => ?_)
                · have tw220 : r_214.toInt = 0 := (ti_eq rfl (by decide)).mp w220
                  refine pb_aload_n (pc := 138) d_Markup_readAttribute_138 3 rfl rfl ?_
                  refine pb_aload_n (pc := 139) d_Markup_readAttribute_139 3 rfl rfl ?_
                  refine pb_get (pc := 140) d_Markup_readAttribute_140 5 7 rfl rfl (by decide) in_Markup k_326 rfl ?_
                  refine pb_callV (pc := 143) (I := i_Markup_readAttribute) (qb := 5) (ci := 8) (nA := 1) (rest := []) (wr := [(ug, .inl (G.2.2.1, 200, .inl gf)), (sp, .inr (3, [.ref tn, .ref tz, .ref tb, .ref tg, .int c])), (tn, .inl (G.2.1, 384, .inl tfn)), (tz, .inl (G.2.2.1, 16, .inl tfz)), (tb, .inl (G.2.1, 12000, .inl tfb)), (uv, .inl (G.2.1, 24, .inl vf_191)), (ui, .inl (G.2.2.2.1, 200, .inr (.inl df_216)))]) d_Markup_readAttribute_143 (g_Mu_fail hl G h ui ug uv tb ct f_189 bg at_188 en vs_190 io hi_215 ht at_188) rfl rfl [5] [0, 1, 2, 3, 4, 6, 7] (by decide) rfl rfl rfl (by decide) (by decide) k_831 rfl k_125 k_828 k_830 k_36 ⟨rfl, hy_Markup_fail⟩ (by decide) rfl rfl (Nat.le_of_ble_eq_true rfl) (by decide) (fun v9 u222 ch221 => ?_)
                  obtain ⟨f_223, rfl⟩ : ∃ z9, z9 = u222 := ⟨_, rfl⟩
                  have ech221 := ch221
                  have ech221 : v9 = some (.int 0) := ech221
                  subst ech221
                  refine pb_eq (pc' := 146) (lo' := [(4, .int r_137), (3, .int r_8), (2, .int at_), (0, .ref h), (1, .ref sp)]) (rest' := [.int 0]) (ws' := [(ug, .inl (G.2.2.1, 200, .inl gf)), (sp, .inr (3, [.ref tn, .ref tz, .ref tb, .ref tg, .int c])), (tn, .inl (G.2.1, 384, .inl tfn)), (tz, .inl (G.2.2.1, 16, .inl tfz)), (tb, .inl (G.2.1, 12000, .inl tfb)), (uv, .inl (G.2.1, 24, .inl vf_191)), (ui, .inl (G.2.2.2.1, 200, .inr (.inl df_216))), (h, .inr (8, [.ref ui, .ref ug, .ref uv, .ref tb, .int ct, .int f_223, .int bg, .int at_188, .int en, .int vs_190, .int io, .int hi_215, .int ht]))]) ?_
                  exact pb_iret (pc := 146) hQ d_Markup_readAttribute_146 rfl rfl (0, at_188, f_223, vs_190, hi_215, ht, vf_191, gf, df_216) ⟨rfl, (by (try dsimp only); first | done | (with_reducible assumption) | omega (splitDisjunctions := false) | assumption | (clear fh140 fh195 fh218 fh219; first | omega (splitDisjunctions := false) | omega) | omega | decide), (by (try dsimp only); first | done | (with_reducible assumption) | omega (splitDisjunctions := false) | assumption | (clear fh140 fh195 fh218 fh219; first | omega (splitDisjunctions := false) | omega) | omega | decide), (by (try dsimp only); first | done | (with_reducible assumption) | omega (splitDisjunctions := false) | assumption | (clear fh140 fh195 fh218 fh219; first | omega (splitDisjunctions := false) | omega) | omega | decide), (by (try dsimp only); first | done | (with_reducible assumption) | omega (splitDisjunctions := false) | assumption | exact fun q90 => (by have y90 := fh218 q90; clear fh140 fh195 fh218 fh219; first | omega (splitDisjunctions := false) | omega) | omega | decide), fh197⟩ [7, 4, 5, 0, 6, 1, 2, 3] (by decide) rfl rfl (by decide) (by decide)
                · have tw220 : ¬ r_214.toInt = 0 := fun z9 => w220 ((ti_eq rfl (by decide)).mpr z9)
                  refine pb_goto (pc := 127) (tgt := 147) d_Markup_readAttribute_127 (by decide) ?_
                  refine pb_aload_n (pc := 147) d_Markup_readAttribute_147 3 rfl rfl ?_
                  refine pb_dup (pc := 148) d_Markup_readAttribute_148 rfl ?_
                  refine pb_get (pc := 149) d_Markup_readAttribute_149 5 7 rfl rfl (by decide) in_Markup k_326 rfl ?_
                  refine pb_iconst (pc := 152) (v := 1) d_Markup_readAttribute_152 (by decide) ?_
                  refine pb_iadd (pc := 153) d_Markup_readAttribute_153 ?_
                  refine pb_topi (fun i224 ei224 => ?_)
                  try have ti224 : i224.toInt = at_188.toInt + 1 := t2_add ei224 rfl (by decide) (by omega)
                  refine pb_put (pc := 154) (ty := .int) (ws' := [(ug, .inl (G.2.2.1, 200, .inl gf)), (sp, .inr (3, [.ref tn, .ref tz, .ref tb, .ref tg, .int c])), (tn, .inl (G.2.1, 384, .inl tfn)), (tz, .inl (G.2.2.1, 16, .inl tfz)), (tb, .inl (G.2.1, 12000, .inl tfb)), (h, .inr (8, [.ref ui, .ref ug, .ref uv, .ref tb, .int ct, .int f_189, .int bg, .int i224, .int en, .int vs_190, .int io, .int hi_215, .int ht])), (uv, .inl (G.2.1, 24, .inl vf_191)), (ui, .inl (G.2.2.2.1, 200, .inr (.inl df_216)))]) d_Markup_readAttribute_154 5 7 t_Markup t_Markup_ok n_Markup rfl rfl (by decide) in_Markup k_326 rfl (by decide +kernel) rfl rfl (Nat.le_of_ble_eq_true rfl) rfl ?_
                  refine pb_iconst (pc := 157) (v := 1) d_Markup_readAttribute_157 (by decide) ?_
                  exact pb_iret (pc := 158) hQ d_Markup_readAttribute_158 rfl rfl (1, i224, f_189, vs_190, hi_215, ht, vf_191, gf, df_216) ⟨rfl, (by (try dsimp only); first | done | (with_reducible assumption) | omega (splitDisjunctions := false) | assumption | (clear fh140 fh195 fh218 fh219; first | omega (splitDisjunctions := false) | omega) | omega | decide), (by (try dsimp only); first | done | (with_reducible assumption) | omega (splitDisjunctions := false) | assumption | (clear fh140 fh195 fh218 fh219; first | omega (splitDisjunctions := false) | omega) | omega | decide), (by (try dsimp only); first | done | (with_reducible assumption) | omega (splitDisjunctions := false) | assumption | (clear fh140 fh195 fh218 fh219; first | omega (splitDisjunctions := false) | omega) | omega | decide), (by (try dsimp only); first | done | (with_reducible assumption) | omega (splitDisjunctions := false) | assumption | exact fun q90 => (by have y90 := fh218 q90; clear fh140 fh195 fh218 fh219; first | omega (splitDisjunctions := false) | omega) | omega | decide), fh197⟩ [5, 4, 6, 0, 7, 1, 2, 3] (by decide) rfl rfl (by decide) (by decide)
            · have tw198 : r_187.toInt = 0 := (ti_eq rfl (by decide)).mp w198
              refine pb_iconst (pc := 114) (v := 0) d_Markup_readAttribute_114 (by decide) ?_
              exact pb_iret (pc := 115) hQ d_Markup_readAttribute_115 rfl rfl (0, at_188, f_189, vs_190, hi, ht, vf_191, gf, df) ⟨rfl, (by (try dsimp only); first | done | (with_reducible assumption) | omega (splitDisjunctions := false) | assumption | (clear fh140 fh195; first | omega (splitDisjunctions := false) | omega) | omega | decide), (by (try dsimp only); first | done | (with_reducible assumption) | omega (splitDisjunctions := false) | assumption | (clear fh140 fh195; first | omega (splitDisjunctions := false) | omega) | omega | decide), (by (try dsimp only); first | done | (with_reducible assumption) | omega (splitDisjunctions := false) | assumption | (clear fh140 fh195; first | omega (splitDisjunctions := false) | omega) | omega | decide), (by (try dsimp only); first | done | (with_reducible assumption) | omega (splitDisjunctions := false) | assumption | exact fun q90 => (by clear fh140 fh195; first | omega (splitDisjunctions := false) | omega) | omega | decide), fh197⟩ [5, 6, 7, 0, 1, 2, 3, 4] (by decide) rfl rfl (by decide) (by decide)
          · have tw183 : ¬ r_137.toInt = 39 := fun z9 => w183 ((ti_eq rfl (by decide)).mpr z9)
            refine pb_aload_n (pc := 86) d_Markup_readAttribute_86 3 rfl rfl ?_
            refine pb_aload_n (pc := 87) d_Markup_readAttribute_87 3 rfl rfl ?_
            refine pb_get (pc := 88) d_Markup_readAttribute_88 6 7 rfl rfl (by decide) in_Markup k_326 rfl ?_
            refine pb_callV (pc := 91) (I := i_Markup_readAttribute) (qb := 6) (ci := 8) (nA := 1) (rest := []) (wr := [(uv, .inl (G.2.1, 24, .inl vf)), (ug, .inl (G.2.2.1, 200, .inl gf)), (ui, .inl (G.2.2.2.1, 200, .inr (.inl df))), (sp, .inr (3, [.ref tn, .ref tz, .ref tb, .ref tg, .int c])), (tn, .inl (G.2.1, 384, .inl tfn)), (tz, .inl (G.2.2.1, 16, .inl tfz)), (tb, .inl (G.2.1, 12000, .inl tfb))]) d_Markup_readAttribute_91 (g_Mu_fail hl G h ui ug uv tb ct f_130 bg at_129 en vs io hi ht at_129) rfl rfl [6] [0, 1, 2, 3, 4, 5, 7] (by decide) rfl rfl rfl (by decide) (by decide) k_831 rfl k_125 k_828 k_830 k_36 ⟨rfl, hy_Markup_fail⟩ (by decide) rfl rfl (Nat.le_of_ble_eq_true rfl) (by decide) (fun v9 u226 ch225 => ?_)
            obtain ⟨f_227, rfl⟩ : ∃ z9, z9 = u226 := ⟨_, rfl⟩
            have ech225 := ch225
            have ech225 : v9 = some (.int 0) := ech225
            subst ech225
            refine pb_eq (pc' := 94) (lo' := [(4, .int r_137), (3, .int r_8), (2, .int at_), (0, .ref h), (1, .ref sp)]) (rest' := [.int 0]) (ws' := [(uv, .inl (G.2.1, 24, .inl vf)), (ug, .inl (G.2.2.1, 200, .inl gf)), (ui, .inl (G.2.2.2.1, 200, .inr (.inl df))), (sp, .inr (3, [.ref tn, .ref tz, .ref tb, .ref tg, .int c])), (tn, .inl (G.2.1, 384, .inl tfn)), (tz, .inl (G.2.2.1, 16, .inl tfz)), (tb, .inl (G.2.1, 12000, .inl tfb)), (h, .inr (8, [.ref ui, .ref ug, .ref uv, .ref tb, .int ct, .int f_227, .int bg, .int at_129, .int en, .int vs, .int io, .int hi, .int ht]))]) ?_
            exact pb_iret (pc := 94) hQ d_Markup_readAttribute_94 rfl rfl (0, at_129, f_227, vs, hi, ht, vf, gf, df) ⟨rfl, (by (try dsimp only); first | done | (with_reducible assumption) | omega (splitDisjunctions := false) | assumption | (clear fh140; first | omega (splitDisjunctions := false) | omega) | omega | decide), (by (try dsimp only); first | done | (with_reducible assumption) | omega (splitDisjunctions := false) | assumption | (clear fh140; first | omega (splitDisjunctions := false) | omega) | omega | decide), (by (try dsimp only); first | done | (with_reducible assumption) | omega (splitDisjunctions := false) | assumption | (clear fh140; first | omega (splitDisjunctions := false) | omega) | omega | decide), (by (try dsimp only); first | done | (with_reducible assumption) | omega (splitDisjunctions := false) | assumption | exact fun q90 => (by clear fh140; first | omega (splitDisjunctions := false) | omega) | omega | decide), F_vf⟩ [7, 6, 0, 1, 2, 3, 4, 5] (by decide) rfl rfl (by decide) (by decide)
      · have tw134 : r_128.toInt = 0 := (ti_eq rfl (by decide)).mp w134
        refine pb_iconst (pc := 63) (v := 0) d_Markup_readAttribute_63 (by decide) ?_
        exact pb_iret (pc := 64) hQ d_Markup_readAttribute_64 rfl rfl (0, at_129, f_130, vs, hi, ht, vf, gf, df) ⟨rfl, (by (try dsimp only); first | done | (with_reducible assumption) | omega (splitDisjunctions := false) | assumption | omega | decide), (by (try dsimp only); first | done | (with_reducible assumption) | omega (splitDisjunctions := false) | assumption | omega | decide), (by (try dsimp only); first | done | (with_reducible assumption) | omega (splitDisjunctions := false) | assumption | omega | decide), (by (try dsimp only); first | done | (with_reducible assumption) | omega (splitDisjunctions := false) | assumption | omega | decide), F_vf⟩ [6, 7, 0, 1, 2, 3, 4, 5] (by decide) rfl rfl (by decide) (by decide)
    · have tw125 : ¬ hi.toInt = 0 := fun z9 => w125 ((ti_eq rfl (by decide)).mpr z9)
      refine pb_goto (pc := 28) (tgt := 48) d_Markup_readAttribute_28 (by decide) ?_
      refine pb_aload_n (pc := 48) d_Markup_readAttribute_48 2 rfl rfl ?_
      refine pb_iload_n (pc := 49) d_Markup_readAttribute_49 1 rfl rfl ?_
      refine pb_callV (pc := 50) (I := i_Markup_readAttribute) (qb := 6) (ci := 8) (nA := 1) (rest := []) (wr := [(uv, .inl (G.2.1, 24, .inl vf)), (ug, .inl (G.2.2.1, 200, .inl gf)), (ui, .inl (G.2.2.2.1, 200, .inr (.inl df))), (sp, .inr (3, [.ref tn, .ref tz, .ref tb, .ref tg, .int c])), (tn, .inl (G.2.1, 384, .inl tfn)), (tz, .inl (G.2.2.1, 16, .inl tfz)), (tb, .inl (G.2.1, 12000, .inl tfb))]) d_Markup_readAttribute_50 (g_Mu_fail hl G h ui ug uv tb ct fa bg at_3 en vs io hi ht at_) rfl rfl [6] [0, 1, 2, 3, 4, 5, 7] (by decide) rfl rfl rfl (by decide) (by decide) k_831 rfl k_125 k_828 k_830 k_36 ⟨rfl, hy_Markup_fail⟩ (by decide) rfl rfl (Nat.le_of_ble_eq_true rfl) (by decide) (fun v9 u229 ch228 => ?_)
      obtain ⟨f_230, rfl⟩ : ∃ z9, z9 = u229 := ⟨_, rfl⟩
      have ech228 := ch228
      have ech228 : v9 = some (.int 0) := ech228
      subst ech228
      refine pb_eq (pc' := 53) (lo' := [(3, .int r_8), (2, .int at_), (0, .ref h), (1, .ref sp)]) (rest' := [.int 0]) (ws' := [(uv, .inl (G.2.1, 24, .inl vf)), (ug, .inl (G.2.2.1, 200, .inl gf)), (ui, .inl (G.2.2.2.1, 200, .inr (.inl df))), (sp, .inr (3, [.ref tn, .ref tz, .ref tb, .ref tg, .int c])), (tn, .inl (G.2.1, 384, .inl tfn)), (tz, .inl (G.2.2.1, 16, .inl tfz)), (tb, .inl (G.2.1, 12000, .inl tfb)), (h, .inr (8, [.ref ui, .ref ug, .ref uv, .ref tb, .int ct, .int f_230, .int bg, .int at_3, .int en, .int vs, .int io, .int hi, .int ht]))]) ?_
      exact pb_iret (pc := 53) hQ d_Markup_readAttribute_53 rfl rfl (0, at_3, f_230, vs, hi, ht, vf, gf, df) ⟨rfl, (by (try dsimp only); first | done | (with_reducible assumption) | omega (splitDisjunctions := false) | assumption | omega | decide), (by (try dsimp only); first | done | (with_reducible assumption) | omega (splitDisjunctions := false) | assumption | omega | decide), (by (try dsimp only); first | done | (with_reducible assumption) | omega (splitDisjunctions := false) | assumption | omega | decide), (by (try dsimp only); first | done | (with_reducible assumption) | omega (splitDisjunctions := false) | assumption | omega | decide), F_vf⟩ [7, 6, 0, 1, 2, 3, 4, 5] (by decide) rfl rfl (by decide) (by decide)
