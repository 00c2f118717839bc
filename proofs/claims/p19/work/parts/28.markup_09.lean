/-! ROWS OF NUMBERS -/
theorem omg_fc99e3e96b {x0 : Int} {x1 : Int} {x2 : Int} {x3 : Int} {x4 : Int} {x5 : Int} (a0 : ((x0 ≤ x1) ∧ ((x1 ≤ (x0 + (4000 : Int))) ∧ (((1 : Int) ≤ x2) ∧ (x2 ≤ (24 : Int)))))) (a1 : (x3 = x0)) (a2 : (x4 = x1)) (a3 : (x3 ≤ x5)) (a4 : (x5 ≤ x4)) : (((-(2147483648 : Int)) ≤ (x4 - x5)) ∧ ((x4 - x5) < (2147483648 : Int))) := by omega
theorem omg_39dcde38e8 {x0 : Int} {x1 : Int} (a0 : (((x0 = (0 : Int)) ∧ ((0 : Int) ≤ x1)) ∨ ((¬ (x0 = (0 : Int))) ∧ (x1 = (-(1 : Int)))))) (a1 : (x0 = (0 : Int))) : ((0 : Int) ≤ x1) := by omega
theorem omg_2bcadcc449 {x0 : Int} {x1 : Int} {x2 : Int} {x3 : Int} {x4 : Int} (a0 : (((x0 = (0 : Int)) ∧ ((0 : Int) ≤ x1)) ∨ ((¬ (x0 = (0 : Int))) ∧ (x1 = (-(1 : Int)))))) (a1 : (¬ (x0 = (0 : Int)))) (a2 : (((x2 = (0 : Int)) ∧ ((0 : Int) ≤ x3)) ∨ ((¬ (x2 = (0 : Int))) ∧ (x3 = x1)))) (a3 : (¬ (x2 = (0 : Int)))) : (((¬ (x2 = (0 : Int))) ∧ ((x3 = (-(1 : Int))) ∧ (x4 = x4))) ∨ ((x2 = (0 : Int)) ∧ (((0 : Int) ≤ x3) ∧ (x4 = (0 : Int))))) := by omega
theorem omg_6f878adb10 {x0 : Int} {x1 : Int} {x2 : Int} {x3 : Int} (a0 : (x0 ≤ (0 : Int))) (a1 : ((x1 - x2) ≤ x0)) (a2 : ((x2 - x3) < (x1 - x3))) : False := by omega
theorem omg_7899061515 {x0 : Int} {x1 : Int} {x2 : Int} {x3 : Int} {x4 : Int} (a0 : (x0 = (0 : Int))) (a1 : (((x1 = (0 : Int)) ∧ ((0 : Int) ≤ x2)) ∨ ((¬ (x1 = (0 : Int))) ∧ (x2 = x3)))) (a2 : (x1 = (0 : Int))) : (((¬ (x1 = (0 : Int))) ∧ ((x2 = (-(1 : Int))) ∧ (x0 = x4))) ∨ ((x1 = (0 : Int)) ∧ (((0 : Int) ≤ x2) ∧ (x0 = (0 : Int))))) := by omega
theorem omg_c415863db8 {x0 : Int} {x1 : Int} {x2 : Int} {x3 : Int} (a0 : (x0 = (0 : Int))) (a1 : (¬ (x0 = (0 : Int)))) : (((¬ (x1 = (0 : Int))) ∧ ((x2 = (-(1 : Int))) ∧ (x3 = x3))) ∨ ((x1 = (0 : Int)) ∧ (((0 : Int) ≤ x2) ∧ (x3 = (0 : Int))))) := by omega
theorem omg_2c85e6cdb9 {x0 : Int} (a0 : (x0 = (0 : Int))) (a1 : (¬ (x0 = (0 : Int)))) : False := by omega
theorem omg_d7118fc080 {x0 : Int} {x1 : Int} (a0 : (¬ (x0 = (0 : Int)))) (a1 : (x0 = (0 : Int))) : ((0 : Int) ≤ x1) := by omega
theorem omg_bebe55adb3 {x0 : Int} {x1 : Int} {x2 : Int} {x3 : Int} {x4 : Int} {x5 : Int} {x6 : Int} {x7 : Int} {x8 : Int} {x9 : Int} {x10 : Int} (a0 : ((x0 ≤ x1) ∧ ((x1 ≤ (x0 + (4000 : Int))) ∧ (((1 : Int) ≤ x2) ∧ (x2 ≤ (24 : Int)))))) (a1 : (x3 = x0)) (a2 : (x3 = x4)) (a3 : (x5 = x1)) (a4 : (x5 = x6)) (a5 : (x7 = x4)) (a6 : (x8 = x6)) (a7 : (((20 : Int) * x9) ≤ (x10 - x7))) (a8 : ((x10 - x7) < (x8 - x7))) : (x9 < (200 : Int)) := by omega
theorem omg_28b31f9f32 {x0 : Int} {x1 : Nat} {x2 : Int} (a0 : ((Int.toNat x0) < (x1 + (1 : Nat)))) (a1 : (¬ (x0 ≤ (0 : Int)))) (a2 : (x2 = (x0 + (-(1 : Int))))) : ((Int.toNat x2) < x1) := by omega
theorem omg_7fa91c1c9f {x0 : Int} {x1 : Int} {x2 : Int} {x3 : Int} (a0 : (x0 ≤ x1)) (a1 : (x1 ≤ x2)) : ((x0 - x3) ≤ (x2 - x3)) := by omega
theorem omg_27088ef52b {x0 : Int} {x1 : Int} {x2 : Int} {x3 : Int} (a0 : (x0 = (0 : Int))) (a1 : (((x1 = (0 : Int)) ∧ ((0 : Int) ≤ x2)) ∨ ((¬ (x1 = (0 : Int))) ∧ (x2 = x3)))) (a2 : (x1 = (0 : Int))) : (((x0 = (0 : Int)) ∧ ((0 : Int) ≤ x2)) ∨ ((¬ (x0 = (0 : Int))) ∧ (x2 = (-(1 : Int))))) := by omega
theorem omg_0f1cf67f5f {x0 : Int} {x1 : Int} {x2 : Int} {x3 : Int} {x4 : Int} {x5 : Int} {x6 : Int} {x7 : Int} (a0 : ((¬ (x0 = (0 : Int))) → ((x1 - x2) ≤ x3))) (a1 : (¬ (x0 = (0 : Int)))) (a2 : (x4 ≤ x5)) (a3 : (x6 = (x3 + (-(1 : Int))))) (a4 : (((x2 - x7) + (20 : Int)) ≤ (x4 - x7))) : ((x1 - x5) ≤ x6) := by omega
theorem omg_0213372e09 {x0 : Int} {x1 : Int} {x2 : Int} {x3 : Int} (a0 : ((¬ (x0 = (0 : Int))) → (((20 : Int) * x1) ≤ (x2 - x3)))) (a1 : (¬ (x0 = (0 : Int)))) : (((20 : Int) * x1) ≤ (x2 - x3)) := by omega
theorem omg_455295d5e4 {x0 : Int} {x1 : Int} {x2 : Int} {x3 : Int} {x4 : Int} {x5 : Int} {x6 : Int} (a0 : (x0 = (1 : Int))) (a1 : (((x1 = (0 : Int)) ∧ ((0 : Int) ≤ x2)) ∨ ((¬ (x1 = (0 : Int))) ∧ (x2 = (-(1 : Int)))))) (a2 : (¬ (x1 = (0 : Int)))) (a3 : (((x3 = (0 : Int)) ∧ ((0 : Int) ≤ x4)) ∨ ((¬ (x3 = (0 : Int))) ∧ (x4 = x2)))) (a4 : (¬ (x3 = (0 : Int)))) (a5 : (((x5 = (0 : Int)) ∧ ((0 : Int) ≤ x6)) ∨ ((¬ (x5 = (0 : Int))) ∧ (x6 = x4)))) (a6 : (¬ (x5 = (0 : Int)))) : (((x0 = (0 : Int)) ∧ ((0 : Int) ≤ x6)) ∨ ((¬ (x0 = (0 : Int))) ∧ (x6 = (-(1 : Int))))) := by omega
theorem omg_e6f97a4910 {x0 : Int} {x1 : Int} {x2 : Int} {x3 : Int} (a0 : (x0 = (x1 - x2))) : ((¬ (x3 = (0 : Int))) → ((x1 - x2) ≤ x0)) := by omega
theorem omg_9e362addbb {x0 : Int} {x1 : Int} {x2 : Int} {x3 : Int} (a0 : (x0 = (0 : Int))) (a1 : (x1 ≤ x2)) : ((¬ (x3 = (0 : Int))) → (((20 : Int) * x0) ≤ (x2 - x1))) := by omega
theorem omg_5570867c72 {x0 : Int} {x1 : Int} {x2 : Int} (a0 : (x0 = (-(1 : Int)))) (a1 : (((x1 = (0 : Int)) ∧ ((0 : Int) ≤ x2)) ∨ ((¬ (x1 = (0 : Int))) ∧ (x2 = x0)))) : (((x1 = (0 : Int)) ∧ ((0 : Int) ≤ x2)) ∨ ((¬ (x1 = (0 : Int))) ∧ (x2 = (-(1 : Int))))) := by omega
theorem omg_c786a0cdbb {x0 : Int} {x1 : Int} {x2 : Int} {x3 : Int} {x4 : Int} (a0 : ((x0 ≤ x1) ∧ ((x1 ≤ (x0 + (4000 : Int))) ∧ (((1 : Int) ≤ x2) ∧ (x2 ≤ (24 : Int)))))) (a1 : (x3 = x0)) (a2 : (x4 = x1)) : ((x4 - x3) ≤ (4000 : Int)) := by omega
theorem omg_8837f4c4a9 {x0 : Int} {x1 : Int} {x2 : Int} {x3 : Int} (a0 : (((0 : Int) ≤ x0) ∧ ((x0 ≤ x1) ∧ (x1 ≤ (12000 : Int))))) (a1 : (x2 = x0)) (a2 : (x2 ≤ x3)) : ((0 : Int) ≤ x3) := by omega
theorem d_Markup_isFaulty_0 : decode prog_7_method_3_code 0 = .ok (.aload_n 0, 1) := by decide +kernel
theorem d_Markup_isFaulty_1 : decode prog_7_method_3_code 1 = .ok (.getfield 26, 3) := by decide +kernel
theorem d_Markup_isFaulty_4 : decode prog_7_method_3_code 4 = .ok (.ifCond .lt 7, 3) := by decide +kernel
theorem d_Markup_isFaulty_11 : decode prog_7_method_3_code 11 = .ok (.iconst 0, 1) := by decide +kernel
theorem d_Markup_isFaulty_12 : decode prog_7_method_3_code 12 = .ok (.ireturn, 1) := by decide +kernel
theorem d_Markup_isFaulty_7 : decode prog_7_method_3_code 7 = .ok (.iconst 1, 1) := by decide +kernel
theorem d_Markup_isFaulty_8 : decode prog_7_method_3_code 8 = .ok (.goto 4, 3) := by decide +kernel
abbrev y_Markup_isFaulty : MethodName := ⟨"PackageBook$Markup", "isFaulty", "()Z"⟩
abbrev i_Markup_isFaulty : pb_I := (y_Markup_isFaulty, prog_7_method_3_code, 1, (some Jvm.ClassFile.FieldType.boolean), [], { frames := 0, cells := 0, slots := 0, locals := 0 })
set_option maxRecDepth 100000 in
set_option maxHeartbeats 4000000 in
theorem g_Mu_isFaulty {l : Launch} (hl : l.stackTraces = false) (G : pb_G) (h : Nat) (ui : Nat) (ug : Nat) (uv : Nat) (ur : Nat) (ct : Int32) (fa : Int32) (bg : Int32) (at_ : Int32) (en : Int32) (vs : Int32) (io : Int32) (hi : Int32) (ht : Int32) : Cn l G i_Markup_isFaulty [.ref h] [(h, .inr (8, [.ref ui, .ref ug, .ref uv, .ref ur, .int ct, .int fa, .int bg, .int at_, .int en, .int vs, .int io, .int hi, .int ht]))] (S := Int32) (fun rv_ u => rv_ = some (.int u) ∧ (u.toInt = 0 ∨ u.toInt = 1) ∧ ((u.toInt = 1 ∧ 0 ≤ fa.toInt) ∨ (u.toInt = 0 ∧ fa.toInt < 0))) (fun u => [(h, .inr (8, [.ref ui, .ref ug, .ref uv, .ref ur, .int ct, .int fa, .int bg, .int at_, .int en, .int vs, .int io, .int hi, .int ht]))]) := by
  refine Cn.of hl (by decide +kernel) rfl (Nat.le_of_ble_eq_true rfl) (fun M hQ => ?_)
  refine pb_eq (pc' := 0) (lo' := [(0, .ref h)]) (rest' := []) (ws' := [(h, .inr (8, [.ref ui, .ref ug, .ref uv, .ref ur, .int ct, .int fa, .int bg, .int at_, .int en, .int vs, .int io, .int hi, .int ht]))]) ?_
  have zl0 : (0 : Int32).toInt = 0 := by decide
  have zl1 : (1 : Int32).toInt = 1 := by decide
  refine pb_aload_n (pc := 0) d_Markup_isFaulty_0 0 rfl rfl ?_
  refine pb_get (pc := 1) d_Markup_isFaulty_1 0 5 rfl rfl (by decide) in_Markup k_323 rfl ?_
  refine pb_if_lt (pc := 4) (tgt := 11) d_Markup_isFaulty_4 (by decide) (fun w1 => ?_) (fun w1 => ?_)
  · have tw1 : fa.toInt < 0 := (ti_lt rfl (by decide)).mp w1
    refine pb_iconst (pc := 11) (v := 0) d_Markup_isFaulty_11 (by decide) ?_
    exact pb_iret (pc := 12) hQ d_Markup_isFaulty_12 rfl rfl (0) ⟨rfl, (by (try dsimp only); first | done | (with_reducible assumption) | omega (splitDisjunctions := false) | assumption | omega | decide), (by (try dsimp only); first | done | (with_reducible assumption) | omega (splitDisjunctions := false) | assumption | omega | decide)⟩ [0] (by decide) rfl rfl (by decide) (by decide)
  · have tw1 : ¬ fa.toInt < 0 := fun z9 => w1 ((ti_lt rfl (by decide)).mpr z9)
    refine pb_iconst (pc := 7) (v := 1) d_Markup_isFaulty_7 (by decide) ?_
    refine pb_goto (pc := 8) (tgt := 12) d_Markup_isFaulty_8 (by decide) ?_
    exact pb_iret (pc := 12) hQ d_Markup_isFaulty_12 rfl rfl (1) ⟨rfl, (by (try dsimp only); first | done | (with_reducible assumption) | omega (splitDisjunctions := false) | assumption | omega | decide), (by (try dsimp only); first | done | (with_reducible assumption) | omega (splitDisjunctions := false) | assumption | omega | decide)⟩ [0] (by decide) rfl rfl (by decide) (by decide)

theorem d_Markup_isRepeated_0 : decode prog_7_method_4_code 0 = .ok (.iconst 0, 1) := by decide +kernel
theorem d_Markup_isRepeated_1 : decode prog_7_method_4_code 1 = .ok (.istore_n 2, 1) := by decide +kernel
theorem d_Markup_isRepeated_2 : decode prog_7_method_4_code 2 = .ok (.iload_n 2, 1) := by decide +kernel
theorem d_Markup_isRepeated_3 : decode prog_7_method_4_code 3 = .ok (.iload_n 1, 1) := by decide +kernel
theorem d_Markup_isRepeated_4 : decode prog_7_method_4_code 4 = .ok (.if_icmp .ge 27, 3) := by decide +kernel
theorem d_Markup_isRepeated_31 : decode prog_7_method_4_code 31 = .ok (.iconst 0, 1) := by decide +kernel
theorem d_Markup_isRepeated_32 : decode prog_7_method_4_code 32 = .ok (.ireturn, 1) := by decide +kernel
theorem d_Markup_isRepeated_7 : decode prog_7_method_4_code 7 = .ok (.aload_n 0, 1) := by decide +kernel
theorem d_Markup_isRepeated_8 : decode prog_7_method_4_code 8 = .ok (.getfield 11, 3) := by decide +kernel
theorem d_Markup_isRepeated_11 : decode prog_7_method_4_code 11 = .ok (.iload_n 2, 1) := by decide +kernel
theorem d_Markup_isRepeated_12 : decode prog_7_method_4_code 12 = .ok (.laload, 1) := by decide +kernel
theorem d_Markup_isRepeated_13 : decode prog_7_method_4_code 13 = .ok (.aload_n 0, 1) := by decide +kernel
theorem d_Markup_isRepeated_14 : decode prog_7_method_4_code 14 = .ok (.getfield 11, 3) := by decide +kernel
theorem d_Markup_isRepeated_17 : decode prog_7_method_4_code 17 = .ok (.iload_n 1, 1) := by decide +kernel
theorem d_Markup_isRepeated_18 : decode prog_7_method_4_code 18 = .ok (.laload, 1) := by decide +kernel
theorem d_Markup_isRepeated_19 : decode prog_7_method_4_code 19 = .ok (.lcmp, 1) := by decide +kernel
theorem d_Markup_isRepeated_20 : decode prog_7_method_4_code 20 = .ok (.ifCond .ne 5, 3) := by decide +kernel
theorem d_Markup_isRepeated_25 : decode prog_7_method_4_code 25 = .ok (.iinc 2 1, 3) := by decide +kernel
theorem d_Markup_isRepeated_28 : decode prog_7_method_4_code 28 = .ok (.goto (-26), 3) := by decide +kernel
theorem d_Markup_isRepeated_23 : decode prog_7_method_4_code 23 = .ok (.iconst 1, 1) := by decide +kernel
theorem d_Markup_isRepeated_24 : decode prog_7_method_4_code 24 = .ok (.ireturn, 1) := by decide +kernel
abbrev y_Markup_isRepeated : MethodName := ⟨"PackageBook$Markup", "isRepeated", "(I)Z"⟩
abbrev i_Markup_isRepeated : pb_I := (y_Markup_isRepeated, prog_7_method_4_code, 3, (some Jvm.ClassFile.FieldType.boolean), [], { frames := 0, cells := 0, slots := 0, locals := 0 })
set_option maxRecDepth 100000 in
set_option maxHeartbeats 4000000 in
theorem g_Mu_isRepeated {l : Launch} (hl : l.stackTraces = false) (G : pb_G) (h : Nat) (ui : Nat) (ug : Nat) (uv : Nat) (ur : Nat) (ct : Int32) (fa : Int32) (bg : Int32) (at_ : Int32) (en : Int32) (vs : Int32) (io : Int32) (hi : Int32) (ht : Int32) (df : Nat → Int64) (k : Int32) (k0 : 0 ≤ k.toInt) (k1 : k.toInt < 200) : Cn l G i_Markup_isRepeated [.ref h, .int k] [(h, .inr (8, [.ref ui, .ref ug, .ref uv, .ref ur, .int ct, .int fa, .int bg, .int at_, .int en, .int vs, .int io, .int hi, .int ht])), (ui, .inl (G.2.2.2.1, 200, .inr (.inl df)))] (S := Int32) (fun rv_ u => rv_ = some (.int u) ∧ (u.toInt = 0 ∨ u.toInt = 1)) (fun u => [(h, .inr (8, [.ref ui, .ref ug, .ref uv, .ref ur, .int ct, .int fa, .int bg, .int at_, .int en, .int vs, .int io, .int hi, .int ht])), (ui, .inl (G.2.2.2.1, 200, .inr (.inl df)))]) := by
  refine Cn.of hl (by decide +kernel) rfl (Nat.le_of_ble_eq_true rfl) (fun M hQ => ?_)
  refine pb_eq (pc' := 0) (lo' := [(0, .ref h), (1, .int k)]) (rest' := []) (ws' := [(h, .inr (8, [.ref ui, .ref ug, .ref uv, .ref ur, .int ct, .int fa, .int bg, .int at_, .int en, .int vs, .int io, .int hi, .int ht])), (ui, .inl (G.2.2.2.1, 200, .inr (.inl df)))]) ?_
  have zl0 : (0 : Int32).toInt = 0 := by decide
  have zl1 : (1 : Int32).toInt = 1 := by decide
  refine pb_iconst (pc := 0) (v := 0) d_Markup_isRepeated_0 (by decide) ?_
  refine pb_istore_n (pc := 1) (lo' := [(2, .int 0), (0, .ref h), (1, .int k)]) d_Markup_isRepeated_1 rfl (by decide) rfl ?_
  have hL2_1 : ∀ (N9 : Nat) (j : Int32), (0 ≤ j.toInt) → ((k.toInt - j.toInt).toNat) < N9 → pb_P l G M i_Markup_isRepeated 2 [(2, .int j), (0, .ref h), (1, .int k)] [] [(h, .inr (8, [.ref ui, .ref ug, .ref uv, .ref ur, .int ct, .int fa, .int bg, .int at_, .int en, .int vs, .int io, .int hi, .int ht])), (ui, .inl (G.2.2.2.1, 200, .inr (.inl df)))] 0 0 := by
    intro N9
    induction N9 with
    | zero => intro j j0 hm9; exact absurd hm9 (Nat.not_lt_zero _)
    | succ N9 ih2 =>
      intro j j0 hm9
      refine pb_iload_n (pc := 2) d_Markup_isRepeated_2 0 rfl rfl ?_
      refine pb_iload_n (pc := 3) d_Markup_isRepeated_3 2 rfl rfl ?_
      refine pb_icmp_ge (pc := 4) (tgt := 31) d_Markup_isRepeated_4 (by decide) (fun w2 => ?_) (fun w2 => ?_)
      · have tw2 : k.toInt ≤ j.toInt := (ti_le rfl rfl).mp w2
        refine pb_iconst (pc := 31) (v := 0) d_Markup_isRepeated_31 (by decide) ?_
        exact pb_iret (pc := 32) hQ d_Markup_isRepeated_32 rfl rfl (0) ⟨rfl, (by (try dsimp only); first | done | (with_reducible assumption) | omega (splitDisjunctions := false) | assumption | omega | decide)⟩ [0, 1] (by decide) rfl rfl (by decide) (by decide)
      · have tw2 : ¬ k.toInt ≤ j.toInt := fun z9 => w2 ((ti_le rfl rfl).mpr z9)
        refine pb_aload_n (pc := 7) d_Markup_isRepeated_7 1 rfl rfl ?_
        refine pb_get (pc := 8) d_Markup_isRepeated_8 0 0 rfl rfl (by decide) in_Markup k_316 rfl ?_
        refine pb_iload_n (pc := 11) d_Markup_isRepeated_11 0 rfl rfl ?_
        refine pb_lald (pc := 12) d_Markup_isRepeated_12 1 rfl (vp_in_iff.mpr (by omega)) ?_
        refine pb_topl (fun j3 ej3 => ?_)
        refine pb_aload_n (pc := 13) d_Markup_isRepeated_13 1 rfl rfl ?_
        refine pb_get (pc := 14) d_Markup_isRepeated_14 0 0 rfl rfl (by decide) in_Markup k_316 rfl ?_
        refine pb_iload_n (pc := 17) d_Markup_isRepeated_17 2 rfl rfl ?_
        refine pb_lald (pc := 18) d_Markup_isRepeated_18 1 rfl (vp_in_iff.mpr (by omega)) ?_
        refine pb_topl (fun j4 ej4 => ?_)
        refine pb_lcmp (pc := 19) d_Markup_isRepeated_19 ?_
        refine pb_topi (fun i5 ei5 => ?_)
        have ti5 : (i5.toInt < 0 ↔ j3.toInt < j4.toInt) ∧ (i5.toInt = 0 ↔ j3.toInt = j4.toInt) ∧ (0 < i5.toInt ↔ j4.toInt < j3.toInt) := tl_cmp ei5 rfl rfl
        refine pb_if_ne (pc := 20) (tgt := 25) d_Markup_isRepeated_20 (by decide) (fun w6 => ?_) (fun w6 => ?_)
        · have tw6 : ¬ i5.toInt = 0 := fun z9 => w6 ((ti_eq rfl (by decide)).mpr z9)
          refine pb_iincN (pc := 25) (c := 1) d_Markup_isRepeated_25 0 rfl (by decide) (by decide) (fun i7 ei7 => ?_)
          have ti7 : i7.toInt = j.toInt + 1 := t2_add ei7 rfl (by decide) (by first | omega | (have r90 := ti_rng i7; have r91 := ti_rng k; omega))
          refine pb_eq (pc' := 28) (lo' := [(2, .int i7), (0, .ref h), (1, .int k)]) (rest' := []) (ws' := [(h, .inr (8, [.ref ui, .ref ug, .ref uv, .ref ur, .int ct, .int fa, .int bg, .int at_, .int en, .int vs, .int io, .int hi, .int ht])), (ui, .inl (G.2.2.2.1, 200, .inr (.inl df)))]) ?_
          refine pb_goto (pc := 28) (tgt := 2) d_Markup_isRepeated_28 (by decide) ?_
          exact ih2 i7 (by first | (with_reducible assumption) | omega (splitDisjunctions := false) | assumption | omega | decide) (by (exact omg_7c8a06b1f5 hm9 tw2 ti7))
        · have tw6 : i5.toInt = 0 := (ti_eq rfl (by decide)).mp w6
          refine pb_iconst (pc := 23) (v := 1) d_Markup_isRepeated_23 (by decide) ?_
          exact pb_iret (pc := 24) hQ d_Markup_isRepeated_24 rfl rfl (1) ⟨rfl, (by (try dsimp only); first | done | (with_reducible assumption) | omega (splitDisjunctions := false) | assumption | omega | decide)⟩ [0, 1] (by decide) rfl rfl (by decide) (by decide)
  exact hL2_1 _ 0 (by first | (with_reducible assumption) | omega (splitDisjunctions := false) | assumption | omega | decide) (Nat.lt_succ_self _)

theorem d_Markup_allGoals_0 : decode prog_7_method_5_code 0 = .ok (.iconst 0, 1) := by decide +kernel
theorem d_Markup_allGoals_1 : decode prog_7_method_5_code 1 = .ok (.istore_n 1, 1) := by decide +kernel
theorem d_Markup_allGoals_2 : decode prog_7_method_5_code 2 = .ok (.iconst 0, 1) := by decide +kernel
theorem d_Markup_allGoals_3 : decode prog_7_method_5_code 3 = .ok (.istore_n 2, 1) := by decide +kernel
theorem d_Markup_allGoals_4 : decode prog_7_method_5_code 4 = .ok (.iload_n 2, 1) := by decide +kernel
theorem d_Markup_allGoals_5 : decode prog_7_method_5_code 5 = .ok (.aload_n 0, 1) := by decide +kernel
theorem d_Markup_allGoals_6 : decode prog_7_method_5_code 6 = .ok (.getfield 35, 3) := by decide +kernel
theorem d_Markup_allGoals_9 : decode prog_7_method_5_code 9 = .ok (.if_icmp .ge 29, 3) := by decide +kernel
theorem d_Markup_allGoals_38 : decode prog_7_method_5_code 38 = .ok (.iload_n 1, 1) := by decide +kernel
theorem d_Markup_allGoals_39 : decode prog_7_method_5_code 39 = .ok (.ireturn, 1) := by decide +kernel
theorem d_Markup_allGoals_12 : decode prog_7_method_5_code 12 = .ok (.aload_n 0, 1) := by decide +kernel
theorem d_Markup_allGoals_13 : decode prog_7_method_5_code 13 = .ok (.getfield 15, 3) := by decide +kernel
theorem d_Markup_allGoals_16 : decode prog_7_method_5_code 16 = .ok (.iload_n 2, 1) := by decide +kernel
theorem d_Markup_allGoals_17 : decode prog_7_method_5_code 17 = .ok (.iaload, 1) := by decide +kernel
theorem d_Markup_allGoals_18 : decode prog_7_method_5_code 18 = .ok (.ifCond .lt 14, 3) := by decide +kernel
theorem d_Markup_allGoals_32 : decode prog_7_method_5_code 32 = .ok (.iinc 2 1, 3) := by decide +kernel
theorem d_Markup_allGoals_35 : decode prog_7_method_5_code 35 = .ok (.goto (-31), 3) := by decide +kernel
theorem d_Markup_allGoals_21 : decode prog_7_method_5_code 21 = .ok (.iload_n 1, 1) := by decide +kernel
theorem d_Markup_allGoals_22 : decode prog_7_method_5_code 22 = .ok (.iconst 1, 1) := by decide +kernel
theorem d_Markup_allGoals_23 : decode prog_7_method_5_code 23 = .ok (.aload_n 0, 1) := by decide +kernel
theorem d_Markup_allGoals_24 : decode prog_7_method_5_code 24 = .ok (.getfield 15, 3) := by decide +kernel
theorem d_Markup_allGoals_27 : decode prog_7_method_5_code 27 = .ok (.iload_n 2, 1) := by decide +kernel
theorem d_Markup_allGoals_28 : decode prog_7_method_5_code 28 = .ok (.iaload, 1) := by decide +kernel
theorem d_Markup_allGoals_29 : decode prog_7_method_5_code 29 = .ok (.ishl, 1) := by decide +kernel
theorem d_Markup_allGoals_30 : decode prog_7_method_5_code 30 = .ok (.ior, 1) := by decide +kernel
theorem d_Markup_allGoals_31 : decode prog_7_method_5_code 31 = .ok (.istore_n 1, 1) := by decide +kernel
abbrev y_Markup_allGoals : MethodName := ⟨"PackageBook$Markup", "allGoals", "()I"⟩
abbrev i_Markup_allGoals : pb_I := (y_Markup_allGoals, prog_7_method_5_code, 3, (some Jvm.ClassFile.FieldType.int), [], { frames := 0, cells := 0, slots := 0, locals := 0 })
set_option maxRecDepth 100000 in
set_option maxHeartbeats 4000000 in
theorem g_Mu_allGoals {l : Launch} (hl : l.stackTraces = false) (G : pb_G) (h : Nat) (ui : Nat) (ug : Nat) (uv : Nat) (ur : Nat) (ct : Int32) (fa : Int32) (bg : Int32) (at_ : Int32) (en : Int32) (vs : Int32) (io : Int32) (hi : Int32) (ht : Int32) (gf : Nat → Int32) (c1 : ct.toInt ≤ 200) : Cn l G i_Markup_allGoals [.ref h] [(h, .inr (8, [.ref ui, .ref ug, .ref uv, .ref ur, .int ct, .int fa, .int bg, .int at_, .int en, .int vs, .int io, .int hi, .int ht])), (ug, .inl (G.2.2.1, 200, .inl gf))] (S := Int32) (fun rv_ u => rv_ = some (.int u)) (fun u => [(h, .inr (8, [.ref ui, .ref ug, .ref uv, .ref ur, .int ct, .int fa, .int bg, .int at_, .int en, .int vs, .int io, .int hi, .int ht])), (ug, .inl (G.2.2.1, 200, .inl gf))]) := by
  refine Cn.of hl (by decide +kernel) rfl (Nat.le_of_ble_eq_true rfl) (fun M hQ => ?_)
  refine pb_eq (pc' := 0) (lo' := [(0, .ref h)]) (rest' := []) (ws' := [(h, .inr (8, [.ref ui, .ref ug, .ref uv, .ref ur, .int ct, .int fa, .int bg, .int at_, .int en, .int vs, .int io, .int hi, .int ht])), (ug, .inl (G.2.2.1, 200, .inl gf))]) ?_
  have zl0 : (0 : Int32).toInt = 0 := by decide
  have zl1 : (1 : Int32).toInt = 1 := by decide
  refine pb_iconst (pc := 0) (v := 0) d_Markup_allGoals_0 (by decide) ?_
  refine pb_istore_n (pc := 1) (lo' := [(1, .int 0), (0, .ref h)]) d_Markup_allGoals_1 rfl (by decide) rfl ?_
  refine pb_iconst (pc := 2) (v := 0) d_Markup_allGoals_2 (by decide) ?_
  refine pb_istore_n (pc := 3) (lo' := [(2, .int 0), (1, .int 0), (0, .ref h)]) d_Markup_allGoals_3 rfl (by decide) rfl ?_
  have hL4_1 : ∀ (N9 : Nat) (al : Int32) (j : Int32), (0 ≤ j.toInt) → ((ct.toInt - j.toInt).toNat) < N9 → pb_P l G M i_Markup_allGoals 4 [(1, .int al), (2, .int j), (0, .ref h)] [] [(h, .inr (8, [.ref ui, .ref ug, .ref uv, .ref ur, .int ct, .int fa, .int bg, .int at_, .int en, .int vs, .int io, .int hi, .int ht])), (ug, .inl (G.2.2.1, 200, .inl gf))] 0 0 := by
    intro N9
    induction N9 with
    | zero => intro al j j0 hm9; exact absurd hm9 (Nat.not_lt_zero _)
    | succ N9 ih4 =>
      intro al j j0 hm9
      refine pb_iload_n (pc := 4) d_Markup_allGoals_4 1 rfl rfl ?_
      refine pb_aload_n (pc := 5) d_Markup_allGoals_5 2 rfl rfl ?_
      refine pb_get (pc := 6) d_Markup_allGoals_6 0 4 rfl rfl (by decide) in_Markup k_321 rfl ?_
      refine pb_icmp_ge (pc := 9) (tgt := 38) d_Markup_allGoals_9 (by decide) (fun w2 => ?_) (fun w2 => ?_)
      · have tw2 : ct.toInt ≤ j.toInt := (ti_le rfl rfl).mp w2
        refine pb_iload_n (pc := 38) d_Markup_allGoals_38 0 rfl rfl ?_
        exact pb_iret (pc := 39) hQ d_Markup_allGoals_39 rfl rfl (al) rfl [0, 1] (by decide) rfl rfl (by decide) (by decide)
      · have tw2 : ¬ ct.toInt ≤ j.toInt := fun z9 => w2 ((ti_le rfl rfl).mpr z9)
        refine pb_aload_n (pc := 12) d_Markup_allGoals_12 2 rfl rfl ?_
        refine pb_get (pc := 13) d_Markup_allGoals_13 0 1 rfl rfl (by decide) in_Markup k_317 rfl ?_
        refine pb_iload_n (pc := 16) d_Markup_allGoals_16 1 rfl rfl ?_
        refine pb_iald (pc := 17) d_Markup_allGoals_17 1 rfl (vp_in_iff.mpr (by omega)) ?_
        refine pb_topi (fun i3 ei3 => ?_)
        have ti3 : i3.toInt = gx gf (j.toInt) := gx_ld ei3 rfl
        refine pb_if_lt (pc := 18) (tgt := 32) d_Markup_allGoals_18 (by decide) (fun w4 => ?_) (fun w4 => ?_)
        · have tw4 : i3.toInt < 0 := (ti_lt rfl (by decide)).mp w4
          refine pb_iincN (pc := 32) (c := 1) d_Markup_allGoals_32 1 rfl (by decide) (by decide) (fun i5 ei5 => ?_)
          have ti5 : i5.toInt = j.toInt + 1 := t2_add ei5 rfl (by decide) (by first | omega | (have r90 := ti_rng i5; have r91 := ti_rng al; omega))
          refine pb_eq (pc' := 35) (lo' := [(2, .int i5), (1, .int al), (0, .ref h)]) (rest' := []) (ws' := [(h, .inr (8, [.ref ui, .ref ug, .ref uv, .ref ur, .int ct, .int fa, .int bg, .int at_, .int en, .int vs, .int io, .int hi, .int ht])), (ug, .inl (G.2.2.1, 200, .inl gf))]) ?_
          refine pb_goto (pc := 35) (tgt := 4) d_Markup_allGoals_35 (by decide) ?_
          refine pb_re (ws' := [(h, .inr (8, [.ref ui, .ref ug, .ref uv, .ref ur, .int ct, .int fa, .int bg, .int at_, .int en, .int vs, .int io, .int hi, .int ht])), (ug, .inl (G.2.2.1, 200, .inl gf))]) (lo' := [(1, .int al), (2, .int i5), (0, .ref h)]) [0, 1] [1, 0, 2] (by decide) rfl rfl rfl ?_
          exact ih4 al i5 (by first | (with_reducible assumption) | omega (splitDisjunctions := false) | assumption | omega | decide) (by omega)
        · have tw4 : ¬ i3.toInt < 0 := fun z9 => w4 ((ti_lt rfl (by decide)).mpr z9)
          refine pb_iload_n (pc := 21) d_Markup_allGoals_21 0 rfl rfl ?_
          refine pb_iconst (pc := 22) (v := 1) d_Markup_allGoals_22 (by decide) ?_
          refine pb_aload_n (pc := 23) d_Markup_allGoals_23 2 rfl rfl ?_
          refine pb_get (pc := 24) d_Markup_allGoals_24 0 1 rfl rfl (by decide) in_Markup k_317 rfl ?_
          refine pb_iload_n (pc := 27) d_Markup_allGoals_27 1 rfl rfl ?_
          refine pb_iald (pc := 28) d_Markup_allGoals_28 1 rfl (vp_in_iff.mpr (by omega)) ?_
          refine pb_topi (fun i6 ei6 => ?_)
          have ti6 : i6.toInt = gx gf (j.toInt) := gx_ld ei6 rfl
          refine pb_ishl (pc := 29) d_Markup_allGoals_29 ?_
          refine pb_topi (fun i7 ei7 => ?_)
          refine pb_ior (pc := 30) d_Markup_allGoals_30 ?_
          refine pb_topi (fun i8 ei8 => ?_)
          refine pb_istore_n (pc := 31) (lo' := [(1, .int i8), (2, .int j), (0, .ref h)]) d_Markup_allGoals_31 rfl (by decide) rfl ?_
          refine pb_iincN (pc := 32) (c := 1) d_Markup_allGoals_32 1 rfl (by decide) (by decide) (fun i9 ei9 => ?_)
          have ti9 : i9.toInt = j.toInt + 1 := t2_add ei9 rfl (by decide) (by first | omega | (have r90 := ti_rng i9; have r91 := ti_rng i8; omega))
          refine pb_eq (pc' := 35) (lo' := [(2, .int i9), (1, .int i8), (0, .ref h)]) (rest' := []) (ws' := [(h, .inr (8, [.ref ui, .ref ug, .ref uv, .ref ur, .int ct, .int fa, .int bg, .int at_, .int en, .int vs, .int io, .int hi, .int ht])), (ug, .inl (G.2.2.1, 200, .inl gf))]) ?_
          refine pb_goto (pc := 35) (tgt := 4) d_Markup_allGoals_35 (by decide) ?_
          refine pb_re (ws' := [(h, .inr (8, [.ref ui, .ref ug, .ref uv, .ref ur, .int ct, .int fa, .int bg, .int at_, .int en, .int vs, .int io, .int hi, .int ht])), (ug, .inl (G.2.2.1, 200, .inl gf))]) (lo' := [(1, .int i8), (2, .int i9), (0, .ref h)]) [0, 1] [1, 0, 2] (by decide) rfl rfl rfl ?_
          exact ih4 i8 i9 (by first | (with_reducible assumption) | omega (splitDisjunctions := false) | assumption | omega | decide) (by omega)
  refine pb_re (ws' := [(h, .inr (8, [.ref ui, .ref ug, .ref uv, .ref ur, .int ct, .int fa, .int bg, .int at_, .int en, .int vs, .int io, .int hi, .int ht])), (ug, .inl (G.2.2.1, 200, .inl gf))]) (lo' := [(1, .int 0), (2, .int 0), (0, .ref h)]) [0, 1] [1, 0, 2] (by decide) rfl rfl rfl ?_
  exact hL4_1 _ 0 0 (by first | (with_reducible assumption) | omega (splitDisjunctions := false) | assumption | omega | decide) (Nat.lt_succ_self _)

theorem d_Markup_load_0 : decode prog_7_method_2_code 0 = .ok (.aload_n 0, 1) := by decide +kernel
theorem d_Markup_load_1 : decode prog_7_method_2_code 1 = .ok (.aload_n 1, 1) := by decide +kernel
theorem d_Markup_load_2 : decode prog_7_method_2_code 2 = .ok (.getfield 30, 3) := by decide +kernel
theorem k_396 : (Jvm.Cond.fieldLinkNest "PackageBook$Markup" (30 : Nat) "PackageBook$Shelf" "bytes" "[B" "PackageBook") ∈ uN := uN_of 396 (by decide +kernel) (by decide +kernel)
theorem d_Markup_load_5 : decode prog_7_method_2_code 5 = .ok (.putfield 23, 3) := by decide +kernel
theorem d_Markup_load_8 : decode prog_7_method_2_code 8 = .ok (.aload_n 0, 1) := by decide +kernel
theorem d_Markup_load_9 : decode prog_7_method_2_code 9 = .ok (.iconst 0, 1) := by decide +kernel
theorem d_Markup_load_10 : decode prog_7_method_2_code 10 = .ok (.putfield 35, 3) := by decide +kernel
theorem d_Markup_load_13 : decode prog_7_method_2_code 13 = .ok (.aload_n 0, 1) := by decide +kernel
theorem d_Markup_load_14 : decode prog_7_method_2_code 14 = .ok (.iconst (-1), 1) := by decide +kernel
theorem d_Markup_load_15 : decode prog_7_method_2_code 15 = .ok (.putfield 26, 3) := by decide +kernel
theorem d_Markup_load_18 : decode prog_7_method_2_code 18 = .ok (.aload_n 1, 1) := by decide +kernel
theorem d_Markup_load_19 : decode prog_7_method_2_code 19 = .ok (.iload_n 2, 1) := by decide +kernel
theorem d_Markup_load_20 : decode prog_7_method_2_code 20 = .ok (.invokevirtual 38, 3) := by decide +kernel
theorem k_794 : (Jvm.Cond.methodLink "PackageBook$Markup" (38 : Nat) ({ cls := "PackageBook$Shelf", name := "tellerOf", desc := "(I)I" } : Jvm.MethodName)) ∈ uW := uW_of 794 (by decide +kernel) (by decide +kernel)
theorem k_797 : (Jvm.Cond.code ({ cls := "PackageBook$Shelf", name := "tellerOf", desc := "(I)I" } : Jvm.MethodName) prog_10_method_15_code (4 : Nat) (Option.some Jvm.ClassFile.FieldType.int)) ∈ uW := uW_of 797 (by decide +kernel) (by decide +kernel)
theorem k_795 : (Jvm.Cond.instanceMethod ({ cls := "PackageBook$Shelf", name := "tellerOf", desc := "(I)I" } : Jvm.MethodName)) ∈ uW := uW_of 795 (by decide +kernel) (by decide +kernel)
theorem k_796 : (Jvm.Cond.selects "PackageBook$Shelf" ({ cls := "PackageBook$Shelf", name := "tellerOf", desc := "(I)I" } : Jvm.MethodName) ({ cls := "PackageBook$Shelf", name := "tellerOf", desc := "(I)I" } : Jvm.MethodName)) ∈ uW := uW_of 796 (by decide +kernel) (by decide +kernel)
theorem hy_Shelf_tellerOf : (y_Shelf_tellerOf).cls ≠ "java/lang/invoke/MethodHandle" ∧ (y_Shelf_tellerOf).cls ≠ "java/lang/invoke/VarHandle" ∧ (parseMethodDescriptor (y_Shelf_tellerOf).desc).map (fun d => d.parameters.length) = some 1 := by decide +kernel
theorem d_Markup_load_23 : decode prog_7_method_2_code 23 = .ok (.istore_n 3, 1) := by decide +kernel
theorem d_Markup_load_24 : decode prog_7_method_2_code 24 = .ok (.iload_n 3, 1) := by decide +kernel
theorem d_Markup_load_25 : decode prog_7_method_2_code 25 = .ok (.ifCond .ge 4, 3) := by decide +kernel
theorem d_Markup_load_29 : decode prog_7_method_2_code 29 = .ok (.aload_n 0, 1) := by decide +kernel
theorem d_Markup_load_30 : decode prog_7_method_2_code 30 = .ok (.aload_n 1, 1) := by decide +kernel
theorem d_Markup_load_31 : decode prog_7_method_2_code 31 = .ok (.getfield 42, 3) := by decide +kernel
theorem k_400 : (Jvm.Cond.fieldLinkNest "PackageBook$Markup" (42 : Nat) "PackageBook$Shelf" "begins" "[I" "PackageBook") ∈ uN := uN_of 400 (by decide +kernel) (by decide +kernel)
theorem d_Markup_load_34 : decode prog_7_method_2_code 34 = .ok (.iload_n 3, 1) := by decide +kernel
theorem d_Markup_load_35 : decode prog_7_method_2_code 35 = .ok (.iaload, 1) := by decide +kernel
theorem d_Markup_load_36 : decode prog_7_method_2_code 36 = .ok (.putfield 45, 3) := by decide +kernel
theorem d_Markup_load_39 : decode prog_7_method_2_code 39 = .ok (.aload_n 0, 1) := by decide +kernel
theorem d_Markup_load_40 : decode prog_7_method_2_code 40 = .ok (.aload_n 0, 1) := by decide +kernel
theorem d_Markup_load_41 : decode prog_7_method_2_code 41 = .ok (.getfield 45, 3) := by decide +kernel
theorem d_Markup_load_44 : decode prog_7_method_2_code 44 = .ok (.putfield 48, 3) := by decide +kernel
theorem d_Markup_load_47 : decode prog_7_method_2_code 47 = .ok (.aload_n 0, 1) := by decide +kernel
theorem d_Markup_load_48 : decode prog_7_method_2_code 48 = .ok (.aload_n 1, 1) := by decide +kernel
theorem d_Markup_load_49 : decode prog_7_method_2_code 49 = .ok (.getfield 42, 3) := by decide +kernel
theorem d_Markup_load_52 : decode prog_7_method_2_code 52 = .ok (.iload_n 3, 1) := by decide +kernel
theorem d_Markup_load_53 : decode prog_7_method_2_code 53 = .ok (.iconst 1, 1) := by decide +kernel
theorem d_Markup_load_54 : decode prog_7_method_2_code 54 = .ok (.iadd, 1) := by decide +kernel
theorem d_Markup_load_55 : decode prog_7_method_2_code 55 = .ok (.iaload, 1) := by decide +kernel
theorem d_Markup_load_56 : decode prog_7_method_2_code 56 = .ok (.putfield 51, 3) := by decide +kernel
theorem d_Markup_load_59 : decode prog_7_method_2_code 59 = .ok (.aload_n 0, 1) := by decide +kernel
theorem d_Markup_load_60 : decode prog_7_method_2_code 60 = .ok (.invokevirtual 54, 3) := by decide +kernel
theorem k_798 : (Jvm.Cond.methodLink "PackageBook$Markup" (54 : Nat) ({ cls := "PackageBook$Markup", name := "readHead", desc := "()Z" } : Jvm.MethodName)) ∈ uW := uW_of 798 (by decide +kernel) (by decide +kernel)
theorem k_801 : (Jvm.Cond.code ({ cls := "PackageBook$Markup", name := "readHead", desc := "()Z" } : Jvm.MethodName) prog_7_method_6_code (1 : Nat) (Option.some Jvm.ClassFile.FieldType.boolean)) ∈ uW := uW_of 801 (by decide +kernel) (by decide +kernel)
theorem k_800 : (Jvm.Cond.instanceMethod ({ cls := "PackageBook$Markup", name := "readHead", desc := "()Z" } : Jvm.MethodName)) ∈ uW := uW_of 800 (by decide +kernel) (by decide +kernel)
theorem k_30 : Cond.selects "PackageBook$Markup" ⟨"PackageBook$Markup", "readHead", "()Z"⟩ ⟨"PackageBook$Markup", "readHead", "()Z"⟩ ∈ uW := uW_of 30 (by decide +kernel) (by decide +kernel)
theorem hy_Markup_readHead : (y_Markup_readHead).cls ≠ "java/lang/invoke/MethodHandle" ∧ (y_Markup_readHead).cls ≠ "java/lang/invoke/VarHandle" ∧ (parseMethodDescriptor (y_Markup_readHead).desc).map (fun d => d.parameters.length) = some 0 := by decide +kernel
theorem d_Markup_load_63 : decode prog_7_method_2_code 63 = .ok (.istore 4, 2) := by decide +kernel
theorem d_Markup_load_65 : decode prog_7_method_2_code 65 = .ok (.aload_n 0, 1) := by decide +kernel
theorem d_Markup_load_66 : decode prog_7_method_2_code 66 = .ok (.getfield 51, 3) := by decide +kernel
theorem d_Markup_load_69 : decode prog_7_method_2_code 69 = .ok (.aload_n 0, 1) := by decide +kernel
theorem d_Markup_load_70 : decode prog_7_method_2_code 70 = .ok (.getfield 48, 3) := by decide +kernel
theorem d_Markup_load_73 : decode prog_7_method_2_code 73 = .ok (.isub, 1) := by decide +kernel
theorem d_Markup_load_74 : decode prog_7_method_2_code 74 = .ok (.istore 5, 2) := by decide +kernel
theorem d_Markup_load_76 : decode prog_7_method_2_code 76 = .ok (.iload 5, 2) := by decide +kernel
theorem d_Markup_load_78 : decode prog_7_method_2_code 78 = .ok (.ifCond .le 43, 3) := by decide +kernel
theorem d_Markup_load_121 : decode prog_7_method_2_code 121 = .ok (.iload 4, 2) := by decide +kernel
theorem d_Markup_load_123 : decode prog_7_method_2_code 123 = .ok (.ifCond .eq 10, 3) := by decide +kernel
theorem d_Markup_load_133 : decode prog_7_method_2_code 133 = .ok (.aload_n 0, 1) := by decide +kernel
theorem d_Markup_load_134 : decode prog_7_method_2_code 134 = .ok (.iconst 0, 1) := by decide +kernel
theorem d_Markup_load_135 : decode prog_7_method_2_code 135 = .ok (.putfield 35, 3) := by decide +kernel
theorem d_Markup_load_138 : decode prog_7_method_2_code 138 = .ok (.return_, 1) := by decide +kernel
theorem d_Markup_load_126 : decode prog_7_method_2_code 126 = .ok (.aload_n 0, 1) := by decide +kernel
theorem d_Markup_load_127 : decode prog_7_method_2_code 127 = .ok (.invokevirtual 68, 3) := by decide +kernel
theorem k_893 : (Jvm.Cond.methodLink "PackageBook$Markup" (68 : Nat) ({ cls := "PackageBook$Markup", name := "readTail", desc := "()Z" } : Jvm.MethodName)) ∈ uW := uW_of 893 (by decide +kernel) (by decide +kernel)
theorem k_896 : (Jvm.Cond.code ({ cls := "PackageBook$Markup", name := "readTail", desc := "()Z" } : Jvm.MethodName) prog_7_method_8_code (1 : Nat) (Option.some Jvm.ClassFile.FieldType.boolean)) ∈ uW := uW_of 896 (by decide +kernel) (by decide +kernel)
theorem k_895 : (Jvm.Cond.instanceMethod ({ cls := "PackageBook$Markup", name := "readTail", desc := "()Z" } : Jvm.MethodName)) ∈ uW := uW_of 895 (by decide +kernel) (by decide +kernel)
theorem k_48 : Cond.selects "PackageBook$Markup" ⟨"PackageBook$Markup", "readTail", "()Z"⟩ ⟨"PackageBook$Markup", "readTail", "()Z"⟩ ∈ uW := uW_of 48 (by decide +kernel) (by decide +kernel)
theorem hy_Markup_readTail : (y_Markup_readTail).cls ≠ "java/lang/invoke/MethodHandle" ∧ (y_Markup_readTail).cls ≠ "java/lang/invoke/VarHandle" ∧ (parseMethodDescriptor (y_Markup_readTail).desc).map (fun d => d.parameters.length) = some 0 := by decide +kernel
theorem d_Markup_load_130 : decode prog_7_method_2_code 130 = .ok (.ifCond .ne 8, 3) := by decide +kernel
theorem d_Markup_load_81 : decode prog_7_method_2_code 81 = .ok (.iload 4, 2) := by decide +kernel
theorem d_Markup_load_83 : decode prog_7_method_2_code 83 = .ok (.ifCond .eq 38, 3) := by decide +kernel
theorem d_Markup_load_86 : decode prog_7_method_2_code 86 = .ok (.aload_n 0, 1) := by decide +kernel
theorem d_Markup_load_87 : decode prog_7_method_2_code 87 = .ok (.invokevirtual 58, 3) := by decide +kernel
theorem k_836 : (Jvm.Cond.methodLink "PackageBook$Markup" (58 : Nat) ({ cls := "PackageBook$Markup", name := "isElementNext", desc := "()Z" } : Jvm.MethodName)) ∈ uW := uW_of 836 (by decide +kernel) (by decide +kernel)
theorem k_839 : (Jvm.Cond.code ({ cls := "PackageBook$Markup", name := "isElementNext", desc := "()Z" } : Jvm.MethodName) prog_7_method_7_code (1 : Nat) (Option.some Jvm.ClassFile.FieldType.boolean)) ∈ uW := uW_of 839 (by decide +kernel) (by decide +kernel)
theorem k_838 : (Jvm.Cond.instanceMethod ({ cls := "PackageBook$Markup", name := "isElementNext", desc := "()Z" } : Jvm.MethodName)) ∈ uW := uW_of 838 (by decide +kernel) (by decide +kernel)
theorem k_37 : Cond.selects "PackageBook$Markup" ⟨"PackageBook$Markup", "isElementNext", "()Z"⟩ ⟨"PackageBook$Markup", "isElementNext", "()Z"⟩ ∈ uW := uW_of 37 (by decide +kernel) (by decide +kernel)
theorem hy_Markup_isElementNext : (y_Markup_isElementNext).cls ≠ "java/lang/invoke/MethodHandle" ∧ (y_Markup_isElementNext).cls ≠ "java/lang/invoke/VarHandle" ∧ (parseMethodDescriptor (y_Markup_isElementNext).desc).map (fun d => d.parameters.length) = some 0 := by decide +kernel
theorem d_Markup_load_90 : decode prog_7_method_2_code 90 = .ok (.ifCond .eq 31, 3) := by decide +kernel
theorem d_Markup_load_93 : decode prog_7_method_2_code 93 = .ok (.aload_n 0, 1) := by decide +kernel
theorem d_Markup_load_94 : decode prog_7_method_2_code 94 = .ok (.aload_n 1, 1) := by decide +kernel
theorem d_Markup_load_95 : decode prog_7_method_2_code 95 = .ok (.invokevirtual 61, 3) := by decide +kernel
theorem k_840 : (Jvm.Cond.methodLink "PackageBook$Markup" (61 : Nat) ({ cls := "PackageBook$Markup", name := "readElement", desc := "(LPackageBook$Shelf;)Z" } : Jvm.MethodName)) ∈ uW := uW_of 840 (by decide +kernel) (by decide +kernel)
theorem k_843 : (Jvm.Cond.code ({ cls := "PackageBook$Markup", name := "readElement", desc := "(LPackageBook$Shelf;)Z" } : Jvm.MethodName) prog_7_method_10_code (4 : Nat) (Option.some Jvm.ClassFile.FieldType.boolean)) ∈ uW := uW_of 843 (by decide +kernel) (by decide +kernel)
theorem k_842 : (Jvm.Cond.instanceMethod ({ cls := "PackageBook$Markup", name := "readElement", desc := "(LPackageBook$Shelf;)Z" } : Jvm.MethodName)) ∈ uW := uW_of 842 (by decide +kernel) (by decide +kernel)
theorem k_38 : Cond.selects "PackageBook$Markup" ⟨"PackageBook$Markup", "readElement", "(LPackageBook$Shelf;)Z"⟩ ⟨"PackageBook$Markup", "readElement", "(LPackageBook$Shelf;)Z"⟩ ∈ uW := uW_of 38 (by decide +kernel) (by decide +kernel)
theorem hy_Markup_readElement : (y_Markup_readElement).cls ≠ "java/lang/invoke/MethodHandle" ∧ (y_Markup_readElement).cls ≠ "java/lang/invoke/VarHandle" ∧ (parseMethodDescriptor (y_Markup_readElement).desc).map (fun d => d.parameters.length) = some 1 := by decide +kernel
theorem d_Markup_load_98 : decode prog_7_method_2_code 98 = .ok (.ifCond .eq 14, 3) := by decide +kernel
theorem d_Markup_load_112 : decode prog_7_method_2_code 112 = .ok (.iconst 0, 1) := by decide +kernel
theorem d_Markup_load_113 : decode prog_7_method_2_code 113 = .ok (.istore 4, 2) := by decide +kernel
theorem d_Markup_load_115 : decode prog_7_method_2_code 115 = .ok (.iinc 5 (-1), 3) := by decide +kernel
theorem d_Markup_load_118 : decode prog_7_method_2_code 118 = .ok (.goto (-42), 3) := by decide +kernel
theorem d_Markup_load_101 : decode prog_7_method_2_code 101 = .ok (.aload_n 0, 1) := by decide +kernel
theorem d_Markup_load_102 : decode prog_7_method_2_code 102 = .ok (.invokevirtual 65, 3) := by decide +kernel
theorem d_Markup_load_105 : decode prog_7_method_2_code 105 = .ok (.ifCond .eq 7, 3) := by decide +kernel
theorem d_Markup_load_108 : decode prog_7_method_2_code 108 = .ok (.iconst 1, 1) := by decide +kernel
theorem d_Markup_load_109 : decode prog_7_method_2_code 109 = .ok (.goto 4, 3) := by decide +kernel
theorem d_Markup_load_28 : decode prog_7_method_2_code 28 = .ok (.return_, 1) := by decide +kernel
abbrev y_Markup_load : MethodName := ⟨"PackageBook$Markup", "load", "(LPackageBook$Shelf;I)V"⟩
abbrev i_Markup_load : pb_I := (y_Markup_load, prog_7_method_2_code, 6, (Option.none : Option Jvm.ClassFile.FieldType), [], { frames := 9, cells := 0, slots := 0, locals := 200 })
set_option maxRecDepth 100000 in
set_option maxHeartbeats 4000000 in
theorem g_Mu_load {l : Launch} (hl : l.stackTraces = false) (G : pb_G) (h : Nat) (ui : Nat) (ug : Nat) (uv : Nat) (ur : Nat) (ct : Int32) (fa : Int32) (bg : Int32) (at_ : Int32) (en : Int32) (vs : Int32) (io : Int32) (hi : Int32) (ht : Int32) (vf : Nat → Int32) (gf : Nat → Int32) (df : Nat → Int64) (sp : Nat) (tn : Nat) (tz : Nat) (tb : Nat) (tg : Nat) (c : Int32) (tfn : Nat → Int32) (tfz : Nat → Int32) (tfb : Nat → Int32) (tfg : Nat → Int32) (i : Int32) (I : sh_I c.toInt tfz tfg) (i0 : 0 ≤ i.toInt) (i1 : i.toInt < c.toInt) (F_vf : sb_Fit vf) (F_tfn : sb_Fit tfn) (F_tfb : sb_Fit tfb) : Cn l G i_Markup_load [.ref h, .ref sp, .int i] [(h, .inr (8, [.ref ui, .ref ug, .ref uv, .ref ur, .int ct, .int fa, .int bg, .int at_, .int en, .int vs, .int io, .int hi, .int ht])), (uv, .inl (G.2.1, 24, .inl vf)), (ug, .inl (G.2.2.1, 200, .inl gf)), (ui, .inl (G.2.2.2.1, 200, .inr (.inl df))), (sp, .inr (3, [.ref tn, .ref tz, .ref tb, .ref tg, .int c])), (tn, .inl (G.2.1, 384, .inl tfn)), (tz, .inl (G.2.2.1, 16, .inl tfz)), (tb, .inl (G.2.1, 12000, .inl tfb)), (tg, .inl (G.2.2.1, 17, .inl tfg))] (S := Int32 × Int32 × Int32 × Int32 × Int32 × Int32 × Int32 × Int32 × Int32 × (Nat → Int32) × (Nat → Int32) × (Nat → Int64)) (fun rv_ u => rv_ = none ∧ (0 ≤ u.1.toInt) ∧ (u.1.toInt ≤ 200) ∧ (hid_ (∃ t : Int, isF_ (cN_ c.toInt tfn tfz) (gx tfz i.toInt + 5) (tn6_ (cN_ c.toInt tfn tfz) i.toInt) t ∧ lo6_ (cN_ c.toInt tfn tfz) t tfb tfg u.1.toInt u.2.1.toInt u.2.2.2.2.2.2.2.2.2.2.1)) ∧ (sb_Fit u.2.2.2.2.2.2.2.2.2.1)) (fun u => [(h, .inr (8, [.ref ui, .ref ug, .ref uv, .ref tb, .int u.1, .int u.2.1, .int u.2.2.1, .int u.2.2.2.1, .int u.2.2.2.2.1, .int u.2.2.2.2.2.1, .int u.2.2.2.2.2.2.1, .int u.2.2.2.2.2.2.2.1, .int u.2.2.2.2.2.2.2.2.1])), (uv, .inl (G.2.1, 24, .inl u.2.2.2.2.2.2.2.2.2.1)), (ug, .inl (G.2.2.1, 200, .inl u.2.2.2.2.2.2.2.2.2.2.1)), (ui, .inl (G.2.2.2.1, 200, .inr (.inl u.2.2.2.2.2.2.2.2.2.2.2))), (sp, .inr (3, [.ref tn, .ref tz, .ref tb, .ref tg, .int c])), (tn, .inl (G.2.1, 384, .inl tfn)), (tz, .inl (G.2.2.1, 16, .inl tfz)), (tb, .inl (G.2.1, 12000, .inl tfb)), (tg, .inl (G.2.2.1, 17, .inl tfg))]) := by
  refine Cn.of hl (by decide +kernel) rfl (Nat.le_of_ble_eq_true rfl) (fun M hQ => ?_)
  refine pb_eq (pc' := 0) (lo' := [(0, .ref h), (1, .ref sp), (2, .int i)]) (rest' := []) (ws' := [(h, .inr (8, [.ref ui, .ref ug, .ref uv, .ref ur, .int ct, .int fa, .int bg, .int at_, .int en, .int vs, .int io, .int hi, .int ht])), (uv, .inl (G.2.1, 24, .inl vf)), (ug, .inl (G.2.2.1, 200, .inl gf)), (ui, .inl (G.2.2.2.1, 200, .inr (.inl df))), (sp, .inr (3, [.ref tn, .ref tz, .ref tb, .ref tg, .int c])), (tn, .inl (G.2.1, 384, .inl tfn)), (tz, .inl (G.2.2.1, 16, .inl tfz)), (tb, .inl (G.2.1, 12000, .inl tfb)), (tg, .inl (G.2.2.1, 17, .inl tfg))]) ?_
  have zm1 : ((-1) : Int32).toInt = (-1) := by decide
  have zl0 : (0 : Int32).toInt = 0 := by decide
  have zl1 : (1 : Int32).toInt = 1 := by decide
  have p2 := I.2.1
  refine pb_aload_n (pc := 0) d_Markup_load_0 0 rfl rfl ?_
  refine pb_aload_n (pc := 1) d_Markup_load_1 1 rfl rfl ?_
  refine pb_getN (pc := 2) d_Markup_load_2 4 2 rfl rfl (by decide) in_Shelf k_396 rfl ?_
  refine pb_put (pc := 5) (ty := (.array .byte)) (ws' := [(h, .inr (8, [.ref ui, .ref ug, .ref uv, .ref tb, .int ct, .int fa, .int bg, .int at_, .int en, .int vs, .int io, .int hi, .int ht])), (uv, .inl (G.2.1, 24, .inl vf)), (ug, .inl (G.2.2.1, 200, .inl gf)), (ui, .inl (G.2.2.2.1, 200, .inr (.inl df))), (sp, .inr (3, [.ref tn, .ref tz, .ref tb, .ref tg, .int c])), (tn, .inl (G.2.1, 384, .inl tfn)), (tz, .inl (G.2.2.1, 16, .inl tfz)), (tb, .inl (G.2.1, 12000, .inl tfb)), (tg, .inl (G.2.2.1, 17, .inl tfg))]) d_Markup_load_5 0 3 t_Markup t_Markup_ok n_Markup rfl rfl (by decide) in_Markup k_320 rfl (by decide +kernel) rfl rfl (Nat.le_of_ble_eq_true rfl) rfl ?_
  refine pb_aload_n (pc := 8) d_Markup_load_8 0 rfl rfl ?_
  refine pb_iconst (pc := 9) (v := 0) d_Markup_load_9 (by decide) ?_
  refine pb_put (pc := 10) (ty := .int) (ws' := [(h, .inr (8, [.ref ui, .ref ug, .ref uv, .ref tb, .int 0, .int fa, .int bg, .int at_, .int en, .int vs, .int io, .int hi, .int ht])), (uv, .inl (G.2.1, 24, .inl vf)), (ug, .inl (G.2.2.1, 200, .inl gf)), (ui, .inl (G.2.2.2.1, 200, .inr (.inl df))), (sp, .inr (3, [.ref tn, .ref tz, .ref tb, .ref tg, .int c])), (tn, .inl (G.2.1, 384, .inl tfn)), (tz, .inl (G.2.2.1, 16, .inl tfz)), (tb, .inl (G.2.1, 12000, .inl tfb)), (tg, .inl (G.2.2.1, 17, .inl tfg))]) d_Markup_load_10 0 4 t_Markup t_Markup_ok n_Markup rfl rfl (by decide) in_Markup k_321 rfl (by decide +kernel) rfl rfl (Nat.le_of_ble_eq_true rfl) rfl ?_
  refine pb_aload_n (pc := 13) d_Markup_load_13 0 rfl rfl ?_
  refine pb_iconst (pc := 14) (v := (-1)) d_Markup_load_14 (by decide) ?_
  refine pb_put (pc := 15) (ty := .int) (ws' := [(h, .inr (8, [.ref ui, .ref ug, .ref uv, .ref tb, .int 0, .int (-1), .int bg, .int at_, .int en, .int vs, .int io, .int hi, .int ht])), (uv, .inl (G.2.1, 24, .inl vf)), (ug, .inl (G.2.2.1, 200, .inl gf)), (ui, .inl (G.2.2.2.1, 200, .inr (.inl df))), (sp, .inr (3, [.ref tn, .ref tz, .ref tb, .ref tg, .int c])), (tn, .inl (G.2.1, 384, .inl tfn)), (tz, .inl (G.2.2.1, 16, .inl tfz)), (tb, .inl (G.2.1, 12000, .inl tfb)), (tg, .inl (G.2.2.1, 17, .inl tfg))]) d_Markup_load_15 0 5 t_Markup t_Markup_ok n_Markup rfl rfl (by decide) in_Markup k_323 rfl (by decide +kernel) rfl rfl (Nat.le_of_ble_eq_true rfl) rfl ?_
  refine pb_aload_n (pc := 18) d_Markup_load_18 1 rfl rfl ?_
  refine pb_iload_n (pc := 19) d_Markup_load_19 2 rfl rfl ?_
  refine pb_callV (pc := 20) (I := i_Markup_load) (qb := 4) (ci := 3) (nA := 1) (rest := []) (wr := [(h, .inr (8, [.ref ui, .ref ug, .ref uv, .ref tb, .int 0, .int (-1), .int bg, .int at_, .int en, .int vs, .int io, .int hi, .int ht])), (uv, .inl (G.2.1, 24, .inl vf)), (ug, .inl (G.2.2.1, 200, .inl gf)), (ui, .inl (G.2.2.2.1, 200, .inr (.inl df))), (tb, .inl (G.2.1, 12000, .inl tfb)), (tg, .inl (G.2.2.1, 17, .inl tfg))]) d_Markup_load_20 (g_Shelf_tellerOf hl G sp tn tz tb tg c tfn tfz tfg i (by first | assumption | decide | omega) (by first | (with_reducible assumption) | omega (splitDisjunctions := false) | assumption | omega | decide) (by first | (with_reducible assumption) | omega (splitDisjunctions := false) | assumption | omega | decide) F_tfn) rfl rfl [4, 5, 6] [0, 1, 2, 3, 7, 8] (by decide) rfl rfl rfl (by decide) (by decide) k_797 rfl k_127 k_794 k_795 k_796 ⟨rfl, hy_Shelf_tellerOf⟩ (by decide) rfl rfl (Nat.le_of_ble_eq_true rfl) (by decide) (fun v9 u2 ch1 => ?_)
  obtain ⟨r_3, rfl⟩ : ∃ z9, z9 = u2 := ⟨_, rfl⟩
  obtain ⟨ech1, ch1⟩ := ch1
  have ech1 : v9 = some (.int r_3) := ech1
  subst ech1
  obtain ⟨fh4, fh5, fh6⟩ : (-1 ≤ r_3.toInt) ∧ (r_3.toInt < c.toInt) ∧ (isF_ (cN_ c.toInt tfn tfz) (gx tfz i.toInt + 5) (tn6_ (cN_ c.toInt tfn tfz) i.toInt) r_3.toInt) := ch1
  have tlF := fh6
  obtain ⟨tT, eT⟩ : ∃ z : Int, z = r_3.toInt := ⟨_, rfl⟩
  rw [← eT] at tlF
  refine pb_eq (pc' := 23) (lo' := [(0, .ref h), (1, .ref sp), (2, .int i)]) (rest' := [.int r_3]) (ws' := [(h, .inr (8, [.ref ui, .ref ug, .ref uv, .ref tb, .int 0, .int (-1), .int bg, .int at_, .int en, .int vs, .int io, .int hi, .int ht])), (uv, .inl (G.2.1, 24, .inl vf)), (ug, .inl (G.2.2.1, 200, .inl gf)), (ui, .inl (G.2.2.2.1, 200, .inr (.inl df))), (tb, .inl (G.2.1, 12000, .inl tfb)), (tg, .inl (G.2.2.1, 17, .inl tfg)), (sp, .inr (3, [.ref tn, .ref tz, .ref tb, .ref tg, .int c])), (tn, .inl (G.2.1, 384, .inl tfn)), (tz, .inl (G.2.2.1, 16, .inl tfz))]) ?_
  refine pb_istore_n (pc := 23) (lo' := [(3, .int r_3), (0, .ref h), (1, .ref sp), (2, .int i)]) d_Markup_load_23 rfl (by decide) rfl ?_
  refine pb_iload_n (pc := 24) d_Markup_load_24 0 rfl rfl ?_
  refine pb_if_ge (pc := 25) (tgt := 29) d_Markup_load_25 (by decide) (fun w7 => ?_) (fun w7 => ?_)
  · have tw7 : 0 ≤ r_3.toInt := (ti_le (by decide) rfl).mp w7
    have y1 := sh_rng I (k := r_3.toInt) (by omega) (by omega)
    have y2 := sh_rng I (k := r_3.toInt + 1) (by omega) (by omega)
    have y3 := I.2.2.2.2 r_3.toInt (by omega) (by omega)
    refine pb_aload_n (pc := 29) d_Markup_load_29 1 rfl rfl ?_
    refine pb_aload_n (pc := 30) d_Markup_load_30 2 rfl rfl ?_
    refine pb_getN (pc := 31) d_Markup_load_31 6 3 rfl rfl (by decide) in_Shelf k_400 rfl ?_
    refine pb_iload_n (pc := 34) d_Markup_load_34 0 rfl rfl ?_
    refine pb_iald (pc := 35) d_Markup_load_35 5 rfl (vp_in_iff.mpr (by omega)) ?_
    refine pb_topi (fun i8 ei8 => ?_)
    have ti8 : i8.toInt = gx tfg (r_3.toInt) := gx_ld ei8 rfl
    have bgF : i8.toInt = gx tfg tT := by rw [eT]; omega
    refine pb_put (pc := 36) (ty := .int) (ws' := [(h, .inr (8, [.ref ui, .ref ug, .ref uv, .ref tb, .int 0, .int (-1), .int i8, .int at_, .int en, .int vs, .int io, .int hi, .int ht])), (uv, .inl (G.2.1, 24, .inl vf)), (ug, .inl (G.2.2.1, 200, .inl gf)), (ui, .inl (G.2.2.2.1, 200, .inr (.inl df))), (tb, .inl (G.2.1, 12000, .inl tfb)), (tg, .inl (G.2.2.1, 17, .inl tfg)), (sp, .inr (3, [.ref tn, .ref tz, .ref tb, .ref tg, .int c])), (tn, .inl (G.2.1, 384, .inl tfn)), (tz, .inl (G.2.2.1, 16, .inl tfz))]) d_Markup_load_36 0 6 t_Markup t_Markup_ok n_Markup rfl rfl (by decide) in_Markup k_325 rfl (by decide +kernel) rfl rfl (Nat.le_of_ble_eq_true rfl) rfl ?_
    refine pb_aload_n (pc := 39) d_Markup_load_39 1 rfl rfl ?_
    refine pb_aload_n (pc := 40) d_Markup_load_40 1 rfl rfl ?_
    refine pb_get (pc := 41) d_Markup_load_41 0 6 rfl rfl (by decide) in_Markup k_325 rfl ?_
    refine pb_put (pc := 44) (ty := .int) (ws' := [(h, .inr (8, [.ref ui, .ref ug, .ref uv, .ref tb, .int 0, .int (-1), .int i8, .int i8, .int en, .int vs, .int io, .int hi, .int ht])), (uv, .inl (G.2.1, 24, .inl vf)), (ug, .inl (G.2.2.1, 200, .inl gf)), (ui, .inl (G.2.2.2.1, 200, .inr (.inl df))), (tb, .inl (G.2.1, 12000, .inl tfb)), (tg, .inl (G.2.2.1, 17, .inl tfg)), (sp, .inr (3, [.ref tn, .ref tz, .ref tb, .ref tg, .int c])), (tn, .inl (G.2.1, 384, .inl tfn)), (tz, .inl (G.2.2.1, 16, .inl tfz))]) d_Markup_load_44 0 7 t_Markup t_Markup_ok n_Markup rfl rfl (by decide) in_Markup k_326 rfl (by decide +kernel) rfl rfl (Nat.le_of_ble_eq_true rfl) rfl ?_
    refine pb_aload_n (pc := 47) d_Markup_load_47 1 rfl rfl ?_
    refine pb_aload_n (pc := 48) d_Markup_load_48 2 rfl rfl ?_
    refine pb_getN (pc := 49) d_Markup_load_49 6 3 rfl rfl (by decide) in_Shelf k_400 rfl ?_
    refine pb_iload_n (pc := 52) d_Markup_load_52 0 rfl rfl ?_
    refine pb_iconst (pc := 53) (v := 1) d_Markup_load_53 (by decide) ?_
    refine pb_iadd (pc := 54) d_Markup_load_54 ?_
    refine pb_topi (fun i9 ei9 => ?_)
    try have ti9 : i9.toInt = r_3.toInt + 1 := t2_add ei9 rfl (by decide) (by omega)
    refine pb_iald (pc := 55) d_Markup_load_55 5 rfl (vp_in_iff.mpr (by omega)) ?_
    refine pb_topi (fun i10 ei10 => ?_)
    have ti10 : i10.toInt = gx tfg (r_3.toInt + 1) := gx_ld ei10 (by omega)
    have enF0 : i10.toInt = gx tfg (tT + 1) := by rw [eT]; omega
    refine pb_put (pc := 56) (ty := .int) (ws' := [(h, .inr (8, [.ref ui, .ref ug, .ref uv, .ref tb, .int 0, .int (-1), .int i8, .int i8, .int i10, .int vs, .int io, .int hi, .int ht])), (uv, .inl (G.2.1, 24, .inl vf)), (ug, .inl (G.2.2.1, 200, .inl gf)), (ui, .inl (G.2.2.2.1, 200, .inr (.inl df))), (tb, .inl (G.2.1, 12000, .inl tfb)), (tg, .inl (G.2.2.1, 17, .inl tfg)), (sp, .inr (3, [.ref tn, .ref tz, .ref tb, .ref tg, .int c])), (tn, .inl (G.2.1, 384, .inl tfn)), (tz, .inl (G.2.2.1, 16, .inl tfz))]) d_Markup_load_56 0 8 t_Markup t_Markup_ok n_Markup rfl rfl (by decide) in_Markup k_327 rfl (by decide +kernel) rfl rfl (Nat.le_of_ble_eq_true rfl) rfl ?_
    refine pb_aload_n (pc := 59) d_Markup_load_59 1 rfl rfl ?_
    refine pb_callV (pc := 60) (I := i_Markup_load) (qb := 0) (ci := 8) (nA := 0) (rest := []) (wr := [(uv, .inl (G.2.1, 24, .inl vf)), (ug, .inl (G.2.2.1, 200, .inl gf)), (ui, .inl (G.2.2.2.1, 200, .inr (.inl df))), (tg, .inl (G.2.2.1, 17, .inl tfg)), (sp, .inr (3, [.ref tn, .ref tz, .ref tb, .ref tg, .int c])), (tn, .inl (G.2.1, 384, .inl tfn)), (tz, .inl (G.2.2.1, 16, .inl tfz))]) d_Markup_load_60 (g_Mu_readHead hl G h ui ug uv tb 0 (-1) i8 i8 i10 vs io hi ht tfb (by first | (with_reducible assumption) | omega (splitDisjunctions := false) | assumption | omega | decide) (by first | (with_reducible assumption) | omega (splitDisjunctions := false) | assumption | omega | decide) (by first | (with_reducible assumption) | omega (splitDisjunctions := false) | assumption | omega | decide) (by first | (with_reducible assumption) | omega (splitDisjunctions := false) | assumption | omega | decide) (by first | (with_reducible assumption) | omega (splitDisjunctions := false) | assumption | omega | decide) (by first | (with_reducible assumption) | omega (splitDisjunctions := false) | assumption | omega | decide) F_tfb) rfl rfl [0, 4] [1, 2, 3, 5, 6, 7, 8] (by decide) rfl rfl rfl (by decide) (by decide) k_801 rfl k_125 k_798 k_800 k_30 ⟨rfl, hy_Markup_readHead⟩ (by decide) rfl rfl (Nat.le_of_ble_eq_true rfl) (by decide) (fun v9 u12 ch11 => ?_)
    obtain ⟨r_13, at_14, f_15, io_16⟩ := u12
    obtain ⟨ech11, ch11⟩ := ch11
    have ech11 : v9 = some (.int r_13) := ech11
    subst ech11
    obtain ⟨fh17, fh18, fh19, fh20, fh21⟩ : (r_13.toInt = 0 ∨ r_13.toInt = 1) ∧ (i8.toInt ≤ at_14.toInt) ∧ (at_14.toInt ≤ i10.toInt) ∧ (hd6_ (mB_ tfb i8.toInt) (i10.toInt - i8.toInt) r_13.toInt io_16.toInt (at_14.toInt - i8.toInt)) ∧ (ft_ r_13.toInt ((-1) : Int32).toInt f_15.toInt) := ch11
    have hdF := fh20
    have hdQ := fh21
    refine pb_eq (pc' := 63) (lo' := [(3, .int r_3), (0, .ref h), (1, .ref sp), (2, .int i)]) (rest' := [.int r_13]) (ws' := [(uv, .inl (G.2.1, 24, .inl vf)), (ug, .inl (G.2.2.1, 200, .inl gf)), (ui, .inl (G.2.2.2.1, 200, .inr (.inl df))), (tg, .inl (G.2.2.1, 17, .inl tfg)), (sp, .inr (3, [.ref tn, .ref tz, .ref tb, .ref tg, .int c])), (tn, .inl (G.2.1, 384, .inl tfn)), (tz, .inl (G.2.2.1, 16, .inl tfz)), (h, .inr (8, [.ref ui, .ref ug, .ref uv, .ref tb, .int 0, .int f_15, .int i8, .int at_14, .int i10, .int vs, .int io_16, .int hi, .int ht])), (tb, .inl (G.2.1, 12000, .inl tfb))]) ?_
    refine pb_istore (pc := 63) (lo' := [(4, .int r_13), (3, .int r_3), (0, .ref h), (1, .ref sp), (2, .int i)]) d_Markup_load_63 (by decide) rfl ?_
    refine pb_aload_n (pc := 65) d_Markup_load_65 2 rfl rfl ?_
    refine pb_get (pc := 66) d_Markup_load_66 7 8 rfl rfl (by decide) in_Markup k_327 rfl ?_
    refine pb_aload_n (pc := 69) d_Markup_load_69 2 rfl rfl ?_
    refine pb_get (pc := 70) d_Markup_load_70 7 7 rfl rfl (by decide) in_Markup k_326 rfl ?_
    refine pb_isub (pc := 73) d_Markup_load_73 ?_
    refine pb_topi (fun i22 ei22 => ?_)
    try have ti22 : i22.toInt = i10.toInt - at_14.toInt := t2_sub ei22 rfl rfl (by (exact omg_fc99e3e96b y3 ti8 ti10 fh18 fh19))
    refine pb_istore (pc := 74) (lo' := [(5, .int i22), (4, .int r_13), (3, .int r_3), (0, .ref h), (1, .ref sp), (2, .int i)]) d_Markup_load_74 (by decide) rfl ?_
    have hL76_23 : ∀ (N9 : Nat) (l_ : Int32) (rt : Int32) (ct3 : Int32) (fa3 : Int32) (bg3 : Int32) (at3 : Int32) (en3 : Int32) (vs3 : Int32) (io3 : Int32) (hi3 : Int32) (ht3 : Int32) (vf3 : Nat → Int32) (gf3 : Nat → Int32) (df3 : Nat → Int64), (sb_Fit vf3) → (0 ≤ at3.toInt) → (at3.toInt ≤ en3.toInt) → (en3.toInt ≤ 12000) → (0 ≤ ct3.toInt) → (ct3.toInt ≤ 200) → (0 ≤ bg3.toInt) → (bg3.toInt ≤ at3.toInt) → (bg3.toInt = gx tfg tT) → (en3.toInt = gx tfg (tT + 1)) → (en3.toInt - bg3.toInt ≤ 4000) → (cM6_ (mB_ tfb bg3.toInt) (en3.toInt - bg3.toInt) (cN_ c.toInt tfn tfz) rt.toInt io3.toInt (at3.toInt - bg3.toInt) ct3.toInt gf3) → ((rt.toInt = 0 ∧ 0 ≤ fa3.toInt) ∨ (¬ rt.toInt = 0 ∧ fa3.toInt = -1)) → (¬ rt.toInt = 0 → 20 * ct3.toInt ≤ at3.toInt - bg3.toInt) → (¬ rt.toInt = 0 → en3.toInt - at3.toInt ≤ l_.toInt) → (l_.toInt.toNat) < N9 → pb_P l G M i_Markup_load 76 [(5, .int l_), (4, .int rt), (0, .ref h), (1, .ref sp), (2, .int i)] [] [(h, .inr (8, [.ref ui, .ref ug, .ref uv, .ref tb, .int ct3, .int fa3, .int bg3, .int at3, .int en3, .int vs3, .int io3, .int hi3, .int ht3])), (uv, .inl (G.2.1, 24, .inl vf3)), (ug, .inl (G.2.2.1, 200, .inl gf3)), (ui, .inl (G.2.2.2.1, 200, .inr (.inl df3))), (sp, .inr (3, [.ref tn, .ref tz, .ref tb, .ref tg, .int c])), (tn, .inl (G.2.1, 384, .inl tfn)), (tz, .inl (G.2.2.1, 16, .inl tfz)), (tb, .inl (G.2.1, 12000, .inl tfb)), (tg, .inl (G.2.2.1, 17, .inl tfg))] 0 0 := by
      intro N9
      induction N9 with
      | zero => intro l_ rt ct3 fa3 bg3 at3 en3 vs3 io3 hi3 ht3 vf3 gf3 df3 F_vf3 k0 k1 k2 k3 k4 b3_ b4_ bg_ en_ e4 kM kq k20 kl_ hm9; exact absurd hm9 (Nat.not_lt_zero _)
      | succ N9 ih76 =>
        intro l_ rt ct3 fa3 bg3 at3 en3 vs3 io3 hi3 ht3 vf3 gf3 df3 F_vf3 k0 k1 k2 k3 k4 b3_ b4_ bg_ en_ e4 kM kq k20 kl_ hm9
        have rl_ := ti_rng l_
        refine pb_iload (pc := 76) d_Markup_load_76 0 rfl ?_
        refine pb_if_le (pc := 78) (tgt := 121) d_Markup_load_78 (by decide) (fun w24 => ?_) (fun w24 => ?_)
        · have tw24 : l_.toInt ≤ 0 := (ti_le rfl (by decide)).mp w24
          refine pb_iload (pc := 121) d_Markup_load_121 1 rfl ?_
          refine pb_if_eq (pc := 123) (tgt := 133) d_Markup_load_123 (by decide) (fun w25 => ?_) (fun w25 => ?_)
          · have tw25 : rt.toInt = 0 := (ti_eq rfl (by decide)).mp w25
            refine pb_aload_n (pc := 133) d_Markup_load_133 2 rfl rfl ?_
            refine pb_iconst (pc := 134) (v := 0) d_Markup_load_134 (by decide) ?_
            refine pb_put (pc := 135) (ty := .int) (ws' := [(h, .inr (8, [.ref ui, .ref ug, .ref uv, .ref tb, .int 0, .int fa3, .int bg3, .int at3, .int en3, .int vs3, .int io3, .int hi3, .int ht3])), (uv, .inl (G.2.1, 24, .inl vf3)), (ug, .inl (G.2.2.1, 200, .inl gf3)), (ui, .inl (G.2.2.2.1, 200, .inr (.inl df3))), (sp, .inr (3, [.ref tn, .ref tz, .ref tb, .ref tg, .int c])), (tn, .inl (G.2.1, 384, .inl tfn)), (tz, .inl (G.2.2.1, 16, .inl tfz)), (tb, .inl (G.2.1, 12000, .inl tfb)), (tg, .inl (G.2.2.1, 17, .inl tfg))]) d_Markup_load_135 0 4 t_Markup t_Markup_ok n_Markup rfl rfl (by decide) in_Markup k_321 rfl (by decide +kernel) rfl rfl (Nat.le_of_ble_eq_true rfl) rfl ?_
            exact pb_vret (pc := 138) hQ d_Markup_load_138 rfl (0, fa3, bg3, at3, en3, vs3, io3, hi3, ht3, vf3, gf3, df3) ⟨rfl, (by (try dsimp only); first | done | (with_reducible assumption) | omega (splitDisjunctions := false) | assumption | omega | decide), (by (try dsimp only); first | done | (with_reducible assumption) | omega (splitDisjunctions := false) | assumption | omega | decide), (show hid_ (∃ t : Int, isF_ (cN_ c.toInt tfn tfz) (gx tfz i.toInt + 5) (tn6_ (cN_ c.toInt tfn tfz) i.toInt) t ∧ lo6_ (cN_ c.toInt tfn tfz) t tfb tfg (0 : Int32).toInt fa3.toInt gf3) from (hid_i ⟨_, tlF, lo_m (b3 := bg3.toInt) (e3 := en3.toInt) (by omega) (by omega) (by omega) (by first | exact cR_t kM (by omega) (by first | (intro q9; have q8 := enF.mpr q9; omega) | (intro q9; have q6 := kl_ (by omega); have q8 := cm_in (B := mB_ tfb bg3.toInt) (n := en3.toInt - bg3.toInt) (j := at3.toInt - bg3.toInt) (by omega); omega)) tlG (by unfold ft_ at tlQ; omega) | exact cR_n kM (by omega) (by (exact omg_39dcde38e8 kq tw25)) zl0)⟩)), F_vf3⟩ [0, 1, 2, 3, 4, 5, 6, 7, 8] (by decide) rfl rfl (by decide) (by decide)
          · have tw25 : ¬ rt.toInt = 0 := fun z9 => w25 ((ti_eq rfl (by decide)).mpr z9)
            refine pb_aload_n (pc := 126) d_Markup_load_126 2 rfl rfl ?_
            refine pb_callV (pc := 127) (I := i_Markup_load) (qb := 0) (ci := 8) (nA := 0) (rest := []) (wr := [(uv, .inl (G.2.1, 24, .inl vf3)), (ug, .inl (G.2.2.1, 200, .inl gf3)), (ui, .inl (G.2.2.2.1, 200, .inr (.inl df3))), (sp, .inr (3, [.ref tn, .ref tz, .ref tb, .ref tg, .int c])), (tn, .inl (G.2.1, 384, .inl tfn)), (tz, .inl (G.2.2.1, 16, .inl tfz)), (tg, .inl (G.2.2.1, 17, .inl tfg))]) d_Markup_load_127 (g_Mu_readTail hl G h ui ug uv tb ct3 fa3 bg3 at3 en3 vs3 io3 hi3 ht3 tfb (by first | (with_reducible assumption) | omega (splitDisjunctions := false) | assumption | omega | decide) (by first | (with_reducible assumption) | omega (splitDisjunctions := false) | assumption | omega | decide) (by first | (with_reducible assumption) | omega (splitDisjunctions := false) | assumption | omega | decide) (by first | (with_reducible assumption) | omega (splitDisjunctions := false) | assumption | omega | decide) (by first | (with_reducible assumption) | omega (splitDisjunctions := false) | assumption | omega | decide) F_tfb) rfl rfl [0, 7] [1, 2, 3, 4, 5, 6, 8] (by decide) rfl rfl rfl (by decide) (by decide) k_896 rfl k_125 k_893 k_895 k_48 ⟨rfl, hy_Markup_readTail⟩ (by decide) rfl rfl (Nat.le_of_ble_eq_true rfl) (by decide) (fun v9 u27 ch26 => ?_)
            obtain ⟨r_28, at_29, f_30⟩ := u27
            obtain ⟨ech26, ch26⟩ := ch26
            have ech26 : v9 = some (.int r_28) := ech26
            subst ech26
            obtain ⟨fh31, fh32, fh33, fh34, fh35⟩ : (r_28.toInt = 0 ∨ r_28.toInt = 1) ∧ (at3.toInt ≤ at_29.toInt) ∧ (at_29.toInt ≤ en3.toInt) ∧ (tl6_ (mB_ tfb bg3.toInt) (en3.toInt - bg3.toInt) io3.toInt r_28.toInt (at3.toInt - bg3.toInt)) ∧ (ft_ r_28.toInt fa3.toInt f_30.toInt) := ch26
            have tlG := fh34
            have tlQ := fh35
            refine pb_eq (pc' := 130) (lo' := [(5, .int l_), (4, .int rt), (0, .ref h), (1, .ref sp), (2, .int i)]) (rest' := [.int r_28]) (ws' := [(uv, .inl (G.2.1, 24, .inl vf3)), (ug, .inl (G.2.2.1, 200, .inl gf3)), (ui, .inl (G.2.2.2.1, 200, .inr (.inl df3))), (sp, .inr (3, [.ref tn, .ref tz, .ref tb, .ref tg, .int c])), (tn, .inl (G.2.1, 384, .inl tfn)), (tz, .inl (G.2.2.1, 16, .inl tfz)), (tg, .inl (G.2.2.1, 17, .inl tfg)), (h, .inr (8, [.ref ui, .ref ug, .ref uv, .ref tb, .int ct3, .int f_30, .int bg3, .int at_29, .int en3, .int vs3, .int io3, .int hi3, .int ht3])), (tb, .inl (G.2.1, 12000, .inl tfb))]) ?_
            refine pb_if_ne (pc := 130) (tgt := 138) d_Markup_load_130 (by decide) (fun w36 => ?_) (fun w36 => ?_)
            · have tw36 : ¬ r_28.toInt = 0 := fun z9 => w36 ((ti_eq rfl (by decide)).mpr z9)
              exact pb_vret (pc := 138) hQ d_Markup_load_138 rfl (ct3, f_30, bg3, at_29, en3, vs3, io3, hi3, ht3, vf3, gf3, df3) ⟨rfl, (by (try dsimp only); first | done | (with_reducible assumption) | omega (splitDisjunctions := false) | assumption | omega | decide), (by (try dsimp only); first | done | (with_reducible assumption) | omega (splitDisjunctions := false) | assumption | omega | decide), (show hid_ (∃ t : Int, isF_ (cN_ c.toInt tfn tfz) (gx tfz i.toInt + 5) (tn6_ (cN_ c.toInt tfn tfz) i.toInt) t ∧ lo6_ (cN_ c.toInt tfn tfz) t tfb tfg ct3.toInt f_30.toInt gf3) from (hid_i ⟨_, tlF, lo_m (b3 := bg3.toInt) (e3 := en3.toInt) (by omega) (by omega) (by omega) (by first | exact cR_t kM (by omega) (by first | (intro q9; have q8 := enF.mpr q9; omega) | (intro q9; have q6 := kl_ (by omega); have q8 := cm_in (B := mB_ tfb bg3.toInt) (n := en3.toInt - bg3.toInt) (j := at3.toInt - bg3.toInt) (by omega); (exact omg_6f878adb10 tw24 q6 q8))) tlG (by unfold ft_ at tlQ; (exact omg_2bcadcc449 kq tw25 tlQ tw36)) | exact cR_n kM (by omega) (by omega) zl0)⟩)), F_vf3⟩ [7, 0, 1, 2, 3, 4, 5, 8, 6] (by decide) rfl rfl (by decide) (by decide)
            · have tw36 : r_28.toInt = 0 := (ti_eq rfl (by decide)).mp w36
              refine pb_aload_n (pc := 133) d_Markup_load_133 2 rfl rfl ?_
              refine pb_iconst (pc := 134) (v := 0) d_Markup_load_134 (by decide) ?_
              refine pb_put (pc := 135) (ty := .int) (ws' := [(uv, .inl (G.2.1, 24, .inl vf3)), (ug, .inl (G.2.2.1, 200, .inl gf3)), (ui, .inl (G.2.2.2.1, 200, .inr (.inl df3))), (sp, .inr (3, [.ref tn, .ref tz, .ref tb, .ref tg, .int c])), (tn, .inl (G.2.1, 384, .inl tfn)), (tz, .inl (G.2.2.1, 16, .inl tfz)), (tg, .inl (G.2.2.1, 17, .inl tfg)), (h, .inr (8, [.ref ui, .ref ug, .ref uv, .ref tb, .int 0, .int f_30, .int bg3, .int at_29, .int en3, .int vs3, .int io3, .int hi3, .int ht3])), (tb, .inl (G.2.1, 12000, .inl tfb))]) d_Markup_load_135 7 4 t_Markup t_Markup_ok n_Markup rfl rfl (by decide) in_Markup k_321 rfl (by decide +kernel) rfl rfl (Nat.le_of_ble_eq_true rfl) rfl ?_
              exact pb_vret (pc := 138) hQ d_Markup_load_138 rfl (0, f_30, bg3, at_29, en3, vs3, io3, hi3, ht3, vf3, gf3, df3) ⟨rfl, (by (try dsimp only); first | done | (with_reducible assumption) | omega (splitDisjunctions := false) | assumption | omega | decide), (by (try dsimp only); first | done | (with_reducible assumption) | omega (splitDisjunctions := false) | assumption | omega | decide), (show hid_ (∃ t : Int, isF_ (cN_ c.toInt tfn tfz) (gx tfz i.toInt + 5) (tn6_ (cN_ c.toInt tfn tfz) i.toInt) t ∧ lo6_ (cN_ c.toInt tfn tfz) t tfb tfg (0 : Int32).toInt f_30.toInt gf3) from (hid_i ⟨_, tlF, lo_m (b3 := bg3.toInt) (e3 := en3.toInt) (by omega) (by omega) (by omega) (by first | exact cR_t kM (by omega) (by first | (intro q9; have q8 := enF.mpr q9; omega) | (intro q9; have q6 := kl_ (by omega); have q8 := cm_in (B := mB_ tfb bg3.toInt) (n := en3.toInt - bg3.toInt) (j := at3.toInt - bg3.toInt) (by omega); (exact omg_6f878adb10 tw24 q6 q8))) tlG (by unfold ft_ at tlQ; (exact omg_7899061515 zl0 tlQ tw36)) | exact cR_n kM (by omega) (by omega) zl0)⟩)), F_vf3⟩ [7, 0, 1, 2, 3, 4, 5, 8, 6] (by decide) rfl rfl (by decide) (by decide)
        · have tw24 : ¬ l_.toInt ≤ 0 := fun z9 => w24 ((ti_le rfl (by decide)).mpr z9)
          refine pb_iload (pc := 81) d_Markup_load_81 1 rfl ?_
          refine pb_if_eq (pc := 83) (tgt := 121) d_Markup_load_83 (by decide) (fun w37 => ?_) (fun w37 => ?_)
          · have tw37 : rt.toInt = 0 := (ti_eq rfl (by decide)).mp w37
            refine pb_iload (pc := 121) d_Markup_load_121 1 rfl ?_
            refine pb_if_eq (pc := 123) (tgt := 133) d_Markup_load_123 (by decide) (fun w38 => ?_) (fun w38 => ?_)
            · have tw38 : rt.toInt = 0 := (ti_eq rfl (by decide)).mp w38
              refine pb_aload_n (pc := 133) d_Markup_load_133 2 rfl rfl ?_
              refine pb_iconst (pc := 134) (v := 0) d_Markup_load_134 (by decide) ?_
              refine pb_put (pc := 135) (ty := .int) (ws' := [(h, .inr (8, [.ref ui, .ref ug, .ref uv, .ref tb, .int 0, .int fa3, .int bg3, .int at3, .int en3, .int vs3, .int io3, .int hi3, .int ht3])), (uv, .inl (G.2.1, 24, .inl vf3)), (ug, .inl (G.2.2.1, 200, .inl gf3)), (ui, .inl (G.2.2.2.1, 200, .inr (.inl df3))), (sp, .inr (3, [.ref tn, .ref tz, .ref tb, .ref tg, .int c])), (tn, .inl (G.2.1, 384, .inl tfn)), (tz, .inl (G.2.2.1, 16, .inl tfz)), (tb, .inl (G.2.1, 12000, .inl tfb)), (tg, .inl (G.2.2.1, 17, .inl tfg))]) d_Markup_load_135 0 4 t_Markup t_Markup_ok n_Markup rfl rfl (by decide) in_Markup k_321 rfl (by decide +kernel) rfl rfl (Nat.le_of_ble_eq_true rfl) rfl ?_
              exact pb_vret (pc := 138) hQ d_Markup_load_138 rfl (0, fa3, bg3, at3, en3, vs3, io3, hi3, ht3, vf3, gf3, df3) ⟨rfl, (by (try dsimp only); first | done | (with_reducible assumption) | omega (splitDisjunctions := false) | assumption | omega | decide), (by (try dsimp only); first | done | (with_reducible assumption) | omega (splitDisjunctions := false) | assumption | omega | decide), (show hid_ (∃ t : Int, isF_ (cN_ c.toInt tfn tfz) (gx tfz i.toInt + 5) (tn6_ (cN_ c.toInt tfn tfz) i.toInt) t ∧ lo6_ (cN_ c.toInt tfn tfz) t tfb tfg (0 : Int32).toInt fa3.toInt gf3) from (hid_i ⟨_, tlF, lo_m (b3 := bg3.toInt) (e3 := en3.toInt) (by omega) (by omega) (by omega) (by first | exact cR_t kM (by omega) (by first | (intro q9; have q8 := enF.mpr q9; omega) | (intro q9; have q6 := kl_ (by omega); have q8 := cm_in (B := mB_ tfb bg3.toInt) (n := en3.toInt - bg3.toInt) (j := at3.toInt - bg3.toInt) (by omega); omega)) tlG (by unfold ft_ at tlQ; omega) | exact cR_n kM (by omega) (by (exact omg_39dcde38e8 kq tw37)) zl0)⟩)), F_vf3⟩ [0, 1, 2, 3, 4, 5, 6, 7, 8] (by decide) rfl rfl (by decide) (by decide)
            · have tw38 : ¬ rt.toInt = 0 := fun z9 => w38 ((ti_eq rfl (by decide)).mpr z9)
              refine pb_aload_n (pc := 126) d_Markup_load_126 2 rfl rfl ?_
              refine pb_callV (pc := 127) (I := i_Markup_load) (qb := 0) (ci := 8) (nA := 0) (rest := []) (wr := [(uv, .inl (G.2.1, 24, .inl vf3)), (ug, .inl (G.2.2.1, 200, .inl gf3)), (ui, .inl (G.2.2.2.1, 200, .inr (.inl df3))), (sp, .inr (3, [.ref tn, .ref tz, .ref tb, .ref tg, .int c])), (tn, .inl (G.2.1, 384, .inl tfn)), (tz, .inl (G.2.2.1, 16, .inl tfz)), (tg, .inl (G.2.2.1, 17, .inl tfg))]) d_Markup_load_127 (g_Mu_readTail hl G h ui ug uv tb ct3 fa3 bg3 at3 en3 vs3 io3 hi3 ht3 tfb (by first | (with_reducible assumption) | omega (splitDisjunctions := false) | assumption | omega | decide) (by first | (with_reducible assumption) | omega (splitDisjunctions := false) | assumption | omega | decide) (by first | (with_reducible assumption) | omega (splitDisjunctions := false) | assumption | omega | decide) (by first | (with_reducible assumption) | omega (splitDisjunctions := false) | assumption | omega | decide) (by first | (with_reducible assumption) | omega (splitDisjunctions := false) | assumption | omega | decide) F_tfb) rfl rfl [0, 7] [1, 2, 3, 4, 5, 6, 8] (by decide) rfl rfl rfl (by decide) (by decide) k_896 rfl k_125 k_893 k_895 k_48 ⟨rfl, hy_Markup_readTail⟩ (by decide) rfl rfl (Nat.le_of_ble_eq_true rfl) (by decide) (fun v9 u40 ch39 => ?_)
              obtain ⟨r_41, at_42, f_43⟩ := u40
              obtain ⟨ech39, ch39⟩ := ch39
              have ech39 : v9 = some (.int r_41) := ech39
              subst ech39
              obtain ⟨fh44, fh45, fh46, fh47, fh48⟩ : (r_41.toInt = 0 ∨ r_41.toInt = 1) ∧ (at3.toInt ≤ at_42.toInt) ∧ (at_42.toInt ≤ en3.toInt) ∧ (tl6_ (mB_ tfb bg3.toInt) (en3.toInt - bg3.toInt) io3.toInt r_41.toInt (at3.toInt - bg3.toInt)) ∧ (ft_ r_41.toInt fa3.toInt f_43.toInt) := ch39
              have tlG := fh47
              have tlQ := fh48
              refine pb_eq (pc' := 130) (lo' := [(5, .int l_), (4, .int rt), (0, .ref h), (1, .ref sp), (2, .int i)]) (rest' := [.int r_41]) (ws' := [(uv, .inl (G.2.1, 24, .inl vf3)), (ug, .inl (G.2.2.1, 200, .inl gf3)), (ui, .inl (G.2.2.2.1, 200, .inr (.inl df3))), (sp, .inr (3, [.ref tn, .ref tz, .ref tb, .ref tg, .int c])), (tn, .inl (G.2.1, 384, .inl tfn)), (tz, .inl (G.2.2.1, 16, .inl tfz)), (tg, .inl (G.2.2.1, 17, .inl tfg)), (h, .inr (8, [.ref ui, .ref ug, .ref uv, .ref tb, .int ct3, .int f_43, .int bg3, .int at_42, .int en3, .int vs3, .int io3, .int hi3, .int ht3])), (tb, .inl (G.2.1, 12000, .inl tfb))]) ?_
              refine pb_if_ne (pc := 130) (tgt := 138) d_Markup_load_130 (by decide) (fun w49 => ?_) (fun w49 => ?_)
              · have tw49 : ¬ r_41.toInt = 0 := fun z9 => w49 ((ti_eq rfl (by decide)).mpr z9)
                exact pb_vret (pc := 138) hQ d_Markup_load_138 rfl (ct3, f_43, bg3, at_42, en3, vs3, io3, hi3, ht3, vf3, gf3, df3) ⟨rfl, (by (try dsimp only); first | done | (with_reducible assumption) | omega (splitDisjunctions := false) | assumption | omega | decide), (by (try dsimp only); first | done | (with_reducible assumption) | omega (splitDisjunctions := false) | assumption | omega | decide), (show hid_ (∃ t : Int, isF_ (cN_ c.toInt tfn tfz) (gx tfz i.toInt + 5) (tn6_ (cN_ c.toInt tfn tfz) i.toInt) t ∧ lo6_ (cN_ c.toInt tfn tfz) t tfb tfg ct3.toInt f_43.toInt gf3) from (hid_i ⟨_, tlF, lo_m (b3 := bg3.toInt) (e3 := en3.toInt) (by omega) (by omega) (by omega) (by first | exact cR_t kM (by omega) (by first | (intro q9; have q8 := enF.mpr q9; omega) | (intro q9; have q6 := kl_ (by omega); have q8 := cm_in (B := mB_ tfb bg3.toInt) (n := en3.toInt - bg3.toInt) (j := at3.toInt - bg3.toInt) (by omega); (exact omg_2c85e6cdb9 tw37 tw38))) tlG (by unfold ft_ at tlQ; (exact omg_c415863db8 tw37 tw38)) | exact cR_n kM (by omega) (by omega) zl0)⟩)), F_vf3⟩ [7, 0, 1, 2, 3, 4, 5, 8, 6] (by decide) rfl rfl (by decide) (by decide)
              · have tw49 : r_41.toInt = 0 := (ti_eq rfl (by decide)).mp w49
                refine pb_aload_n (pc := 133) d_Markup_load_133 2 rfl rfl ?_
                refine pb_iconst (pc := 134) (v := 0) d_Markup_load_134 (by decide) ?_
                refine pb_put (pc := 135) (ty := .int) (ws' := [(uv, .inl (G.2.1, 24, .inl vf3)), (ug, .inl (G.2.2.1, 200, .inl gf3)), (ui, .inl (G.2.2.2.1, 200, .inr (.inl df3))), (sp, .inr (3, [.ref tn, .ref tz, .ref tb, .ref tg, .int c])), (tn, .inl (G.2.1, 384, .inl tfn)), (tz, .inl (G.2.2.1, 16, .inl tfz)), (tg, .inl (G.2.2.1, 17, .inl tfg)), (h, .inr (8, [.ref ui, .ref ug, .ref uv, .ref tb, .int 0, .int f_43, .int bg3, .int at_42, .int en3, .int vs3, .int io3, .int hi3, .int ht3])), (tb, .inl (G.2.1, 12000, .inl tfb))]) d_Markup_load_135 7 4 t_Markup t_Markup_ok n_Markup rfl rfl (by decide) in_Markup k_321 rfl (by decide +kernel) rfl rfl (Nat.le_of_ble_eq_true rfl) rfl ?_
                exact pb_vret (pc := 138) hQ d_Markup_load_138 rfl (0, f_43, bg3, at_42, en3, vs3, io3, hi3, ht3, vf3, gf3, df3) ⟨rfl, (by (try dsimp only); first | done | (with_reducible assumption) | omega (splitDisjunctions := false) | assumption | omega | decide), (by (try dsimp only); first | done | (with_reducible assumption) | omega (splitDisjunctions := false) | assumption | omega | decide), (show hid_ (∃ t : Int, isF_ (cN_ c.toInt tfn tfz) (gx tfz i.toInt + 5) (tn6_ (cN_ c.toInt tfn tfz) i.toInt) t ∧ lo6_ (cN_ c.toInt tfn tfz) t tfb tfg (0 : Int32).toInt f_43.toInt gf3) from (hid_i ⟨_, tlF, lo_m (b3 := bg3.toInt) (e3 := en3.toInt) (by omega) (by omega) (by omega) (by first | exact cR_t kM (by omega) (by first | (intro q9; have q8 := enF.mpr q9; omega) | (intro q9; have q6 := kl_ (by omega); have q8 := cm_in (B := mB_ tfb bg3.toInt) (n := en3.toInt - bg3.toInt) (j := at3.toInt - bg3.toInt) (by omega); omega)) tlG (by unfold ft_ at tlQ; (exact omg_7899061515 zl0 tlQ tw49)) | exact cR_n kM (by omega) (by omega) zl0)⟩)), F_vf3⟩ [7, 0, 1, 2, 3, 4, 5, 8, 6] (by decide) rfl rfl (by decide) (by decide)
          · have tw37 : ¬ rt.toInt = 0 := fun z9 => w37 ((ti_eq rfl (by decide)).mpr z9)
            refine pb_aload_n (pc := 86) d_Markup_load_86 2 rfl rfl ?_
            refine pb_callV (pc := 87) (I := i_Markup_load) (qb := 0) (ci := 8) (nA := 0) (rest := []) (wr := [(uv, .inl (G.2.1, 24, .inl vf3)), (ug, .inl (G.2.2.1, 200, .inl gf3)), (ui, .inl (G.2.2.2.1, 200, .inr (.inl df3))), (sp, .inr (3, [.ref tn, .ref tz, .ref tb, .ref tg, .int c])), (tn, .inl (G.2.1, 384, .inl tfn)), (tz, .inl (G.2.2.1, 16, .inl tfz)), (tg, .inl (G.2.2.1, 17, .inl tfg))]) d_Markup_load_87 (g_Mu_isElementNext hl G h ui ug uv tb ct3 fa3 bg3 at3 en3 vs3 io3 hi3 ht3 tfb (by first | (with_reducible assumption) | omega (splitDisjunctions := false) | assumption | omega | decide) (by first | (with_reducible assumption) | omega (splitDisjunctions := false) | assumption | omega | decide) (by first | (with_reducible assumption) | omega (splitDisjunctions := false) | assumption | omega | decide) (by first | (with_reducible assumption) | omega (splitDisjunctions := false) | assumption | omega | decide) (by first | (with_reducible assumption) | omega (splitDisjunctions := false) | assumption | omega | decide) F_tfb) rfl rfl [0, 7] [1, 2, 3, 4, 5, 6, 8] (by decide) rfl rfl rfl (by decide) (by decide) k_839 rfl k_125 k_836 k_838 k_37 ⟨rfl, hy_Markup_isElementNext⟩ (by decide) rfl rfl (Nat.le_of_ble_eq_true rfl) (by decide) (fun v9 u51 ch50 => ?_)
            obtain ⟨r_52, rfl⟩ : ∃ z9, z9 = u51 := ⟨_, rfl⟩
            obtain ⟨ech50, ch50⟩ := ch50
            have ech50 : v9 = some (.int r_52) := ech50
            subst ech50
            obtain ⟨fh53, fh54⟩ : (r_52.toInt = 0 ∨ r_52.toInt = 1) ∧ (hid_ (r_52.toInt = 1 ↔ (¬ io3.toInt = 0 ∧ cm_ (mB_ tfb bg3.toInt) (en3.toInt - bg3.toInt) (at3.toInt - bg3.toInt) = 60 ∧ ¬ cm_ (mB_ tfb bg3.toInt) (en3.toInt - bg3.toInt) ((at3.toInt - bg3.toInt) + 1) = 47))) := ch50
            have enF := hid_o fh54
            refine pb_eq (pc' := 90) (lo' := [(5, .int l_), (4, .int rt), (0, .ref h), (1, .ref sp), (2, .int i)]) (rest' := [.int r_52]) (ws' := [(uv, .inl (G.2.1, 24, .inl vf3)), (ug, .inl (G.2.2.1, 200, .inl gf3)), (ui, .inl (G.2.2.2.1, 200, .inr (.inl df3))), (sp, .inr (3, [.ref tn, .ref tz, .ref tb, .ref tg, .int c])), (tn, .inl (G.2.1, 384, .inl tfn)), (tz, .inl (G.2.2.1, 16, .inl tfz)), (tg, .inl (G.2.2.1, 17, .inl tfg)), (h, .inr (8, [.ref ui, .ref ug, .ref uv, .ref tb, .int ct3, .int fa3, .int bg3, .int at3, .int en3, .int vs3, .int io3, .int hi3, .int ht3])), (tb, .inl (G.2.1, 12000, .inl tfb))]) ?_
            refine pb_if_eq (pc := 90) (tgt := 121) d_Markup_load_90 (by decide) (fun w55 => ?_) (fun w55 => ?_)
            · have tw55 : r_52.toInt = 0 := (ti_eq rfl (by decide)).mp w55
              refine pb_iload (pc := 121) d_Markup_load_121 1 rfl ?_
              refine pb_if_eq (pc := 123) (tgt := 133) d_Markup_load_123 (by decide) (fun w56 => ?_) (fun w56 => ?_)
              · have tw56 : rt.toInt = 0 := (ti_eq rfl (by decide)).mp w56
                refine pb_aload_n (pc := 133) d_Markup_load_133 2 rfl rfl ?_
                refine pb_iconst (pc := 134) (v := 0) d_Markup_load_134 (by decide) ?_
                refine pb_put (pc := 135) (ty := .int) (ws' := [(uv, .inl (G.2.1, 24, .inl vf3)), (ug, .inl (G.2.2.1, 200, .inl gf3)), (ui, .inl (G.2.2.2.1, 200, .inr (.inl df3))), (sp, .inr (3, [.ref tn, .ref tz, .ref tb, .ref tg, .int c])), (tn, .inl (G.2.1, 384, .inl tfn)), (tz, .inl (G.2.2.1, 16, .inl tfz)), (tg, .inl (G.2.2.1, 17, .inl tfg)), (h, .inr (8, [.ref ui, .ref ug, .ref uv, .ref tb, .int 0, .int fa3, .int bg3, .int at3, .int en3, .int vs3, .int io3, .int hi3, .int ht3])), (tb, .inl (G.2.1, 12000, .inl tfb))]) d_Markup_load_135 7 4 t_Markup t_Markup_ok n_Markup rfl rfl (by decide) in_Markup k_321 rfl (by decide +kernel) rfl rfl (Nat.le_of_ble_eq_true rfl) rfl ?_
                exact pb_vret (pc := 138) hQ d_Markup_load_138 rfl (0, fa3, bg3, at3, en3, vs3, io3, hi3, ht3, vf3, gf3, df3) ⟨rfl, (by (try dsimp only); first | done | (with_reducible assumption) | omega (splitDisjunctions := false) | assumption | omega | decide), (by (try dsimp only); first | done | (with_reducible assumption) | omega (splitDisjunctions := false) | assumption | omega | decide), (show hid_ (∃ t : Int, isF_ (cN_ c.toInt tfn tfz) (gx tfz i.toInt + 5) (tn6_ (cN_ c.toInt tfn tfz) i.toInt) t ∧ lo6_ (cN_ c.toInt tfn tfz) t tfb tfg (0 : Int32).toInt fa3.toInt gf3) from (hid_i ⟨_, tlF, lo_m (b3 := bg3.toInt) (e3 := en3.toInt) (by omega) (by omega) (by omega) (by first | exact cR_t kM (by omega) (by first | (intro q9; have q8 := enF.mpr q9; omega) | (intro q9; have q6 := kl_ (by omega); have q8 := cm_in (B := mB_ tfb bg3.toInt) (n := en3.toInt - bg3.toInt) (j := at3.toInt - bg3.toInt) (by omega); omega)) tlG (by unfold ft_ at tlQ; omega) | exact cR_n kM (by omega) (by (exact omg_d7118fc080 tw37 tw56)) zl0)⟩)), F_vf3⟩ [7, 0, 1, 2, 3, 4, 5, 8, 6] (by decide) rfl rfl (by decide) (by decide)
              · have tw56 : ¬ rt.toInt = 0 := fun z9 => w56 ((ti_eq rfl (by decide)).mpr z9)
                refine pb_aload_n (pc := 126) d_Markup_load_126 2 rfl rfl ?_
                refine pb_callV (pc := 127) (I := i_Markup_load) (qb := 7) (ci := 8) (nA := 0) (rest := []) (wr := [(uv, .inl (G.2.1, 24, .inl vf3)), (ug, .inl (G.2.2.1, 200, .inl gf3)), (ui, .inl (G.2.2.2.1, 200, .inr (.inl df3))), (sp, .inr (3, [.ref tn, .ref tz, .ref tb, .ref tg, .int c])), (tn, .inl (G.2.1, 384, .inl tfn)), (tz, .inl (G.2.2.1, 16, .inl tfz)), (tg, .inl (G.2.2.1, 17, .inl tfg))]) d_Markup_load_127 (g_Mu_readTail hl G h ui ug uv tb ct3 fa3 bg3 at3 en3 vs3 io3 hi3 ht3 tfb (by first | (with_reducible assumption) | omega (splitDisjunctions := false) | assumption | omega | decide) (by first | (with_reducible assumption) | omega (splitDisjunctions := false) | assumption | omega | decide) (by first | (with_reducible assumption) | omega (splitDisjunctions := false) | assumption | omega | decide) (by first | (with_reducible assumption) | omega (splitDisjunctions := false) | assumption | omega | decide) (by first | (with_reducible assumption) | omega (splitDisjunctions := false) | assumption | omega | decide) F_tfb) rfl rfl [7, 8] [0, 1, 2, 3, 4, 5, 6] (by decide) rfl rfl rfl (by decide) (by decide) k_896 rfl k_125 k_893 k_895 k_48 ⟨rfl, hy_Markup_readTail⟩ (by decide) rfl rfl (Nat.le_of_ble_eq_true rfl) (by decide) (fun v9 u58 ch57 => ?_)
                obtain ⟨r_59, at_60, f_61⟩ := u58
                obtain ⟨ech57, ch57⟩ := ch57
                have ech57 : v9 = some (.int r_59) := ech57
                subst ech57
                obtain ⟨fh62, fh63, fh64, fh65, fh66⟩ : (r_59.toInt = 0 ∨ r_59.toInt = 1) ∧ (at3.toInt ≤ at_60.toInt) ∧ (at_60.toInt ≤ en3.toInt) ∧ (tl6_ (mB_ tfb bg3.toInt) (en3.toInt - bg3.toInt) io3.toInt r_59.toInt (at3.toInt - bg3.toInt)) ∧ (ft_ r_59.toInt fa3.toInt f_61.toInt) := ch57
                have tlG := fh65
                have tlQ := fh66
                refine pb_eq (pc' := 130) (lo' := [(5, .int l_), (4, .int rt), (0, .ref h), (1, .ref sp), (2, .int i)]) (rest' := [.int r_59]) (ws' := [(uv, .inl (G.2.1, 24, .inl vf3)), (ug, .inl (G.2.2.1, 200, .inl gf3)), (ui, .inl (G.2.2.2.1, 200, .inr (.inl df3))), (sp, .inr (3, [.ref tn, .ref tz, .ref tb, .ref tg, .int c])), (tn, .inl (G.2.1, 384, .inl tfn)), (tz, .inl (G.2.2.1, 16, .inl tfz)), (tg, .inl (G.2.2.1, 17, .inl tfg)), (h, .inr (8, [.ref ui, .ref ug, .ref uv, .ref tb, .int ct3, .int f_61, .int bg3, .int at_60, .int en3, .int vs3, .int io3, .int hi3, .int ht3])), (tb, .inl (G.2.1, 12000, .inl tfb))]) ?_
                refine pb_if_ne (pc := 130) (tgt := 138) d_Markup_load_130 (by decide) (fun w67 => ?_) (fun w67 => ?_)
                · have tw67 : ¬ r_59.toInt = 0 := fun z9 => w67 ((ti_eq rfl (by decide)).mpr z9)
                  exact pb_vret (pc := 138) hQ d_Markup_load_138 rfl (ct3, f_61, bg3, at_60, en3, vs3, io3, hi3, ht3, vf3, gf3, df3) ⟨rfl, (by (try dsimp only); first | done | (with_reducible assumption) | omega (splitDisjunctions := false) | assumption | omega | decide), (by (try dsimp only); first | done | (with_reducible assumption) | omega (splitDisjunctions := false) | assumption | omega | decide), (show hid_ (∃ t : Int, isF_ (cN_ c.toInt tfn tfz) (gx tfz i.toInt + 5) (tn6_ (cN_ c.toInt tfn tfz) i.toInt) t ∧ lo6_ (cN_ c.toInt tfn tfz) t tfb tfg ct3.toInt f_61.toInt gf3) from (hid_i ⟨_, tlF, lo_m (b3 := bg3.toInt) (e3 := en3.toInt) (by omega) (by omega) (by omega) (by first | exact cR_t kM (by omega) (by first | (intro q9; have q8 := enF.mpr q9; omega) | (intro q9; have q6 := kl_ (by omega); have q8 := cm_in (B := mB_ tfb bg3.toInt) (n := en3.toInt - bg3.toInt) (j := at3.toInt - bg3.toInt) (by omega); omega)) tlG (by unfold ft_ at tlQ; (exact omg_2bcadcc449 kq tw56 tlQ tw67)) | exact cR_n kM (by omega) (by omega) zl0)⟩)), F_vf3⟩ [7, 0, 1, 2, 3, 4, 5, 8, 6] (by decide) rfl rfl (by decide) (by decide)
                · have tw67 : r_59.toInt = 0 := (ti_eq rfl (by decide)).mp w67
                  refine pb_aload_n (pc := 133) d_Markup_load_133 2 rfl rfl ?_
                  refine pb_iconst (pc := 134) (v := 0) d_Markup_load_134 (by decide) ?_
                  refine pb_put (pc := 135) (ty := .int) (ws' := [(uv, .inl (G.2.1, 24, .inl vf3)), (ug, .inl (G.2.2.1, 200, .inl gf3)), (ui, .inl (G.2.2.2.1, 200, .inr (.inl df3))), (sp, .inr (3, [.ref tn, .ref tz, .ref tb, .ref tg, .int c])), (tn, .inl (G.2.1, 384, .inl tfn)), (tz, .inl (G.2.2.1, 16, .inl tfz)), (tg, .inl (G.2.2.1, 17, .inl tfg)), (h, .inr (8, [.ref ui, .ref ug, .ref uv, .ref tb, .int 0, .int f_61, .int bg3, .int at_60, .int en3, .int vs3, .int io3, .int hi3, .int ht3])), (tb, .inl (G.2.1, 12000, .inl tfb))]) d_Markup_load_135 7 4 t_Markup t_Markup_ok n_Markup rfl rfl (by decide) in_Markup k_321 rfl (by decide +kernel) rfl rfl (Nat.le_of_ble_eq_true rfl) rfl ?_
                  exact pb_vret (pc := 138) hQ d_Markup_load_138 rfl (0, f_61, bg3, at_60, en3, vs3, io3, hi3, ht3, vf3, gf3, df3) ⟨rfl, (by (try dsimp only); first | done | (with_reducible assumption) | omega (splitDisjunctions := false) | assumption | omega | decide), (by (try dsimp only); first | done | (with_reducible assumption) | omega (splitDisjunctions := false) | assumption | omega | decide), (show hid_ (∃ t : Int, isF_ (cN_ c.toInt tfn tfz) (gx tfz i.toInt + 5) (tn6_ (cN_ c.toInt tfn tfz) i.toInt) t ∧ lo6_ (cN_ c.toInt tfn tfz) t tfb tfg (0 : Int32).toInt f_61.toInt gf3) from (hid_i ⟨_, tlF, lo_m (b3 := bg3.toInt) (e3 := en3.toInt) (by omega) (by omega) (by omega) (by first | exact cR_t kM (by omega) (by first | (intro q9; have q8 := enF.mpr q9; omega) | (intro q9; have q6 := kl_ (by omega); have q8 := cm_in (B := mB_ tfb bg3.toInt) (n := en3.toInt - bg3.toInt) (j := at3.toInt - bg3.toInt) (by omega); omega)) tlG (by unfold ft_ at tlQ; (exact omg_7899061515 zl0 tlQ tw67)) | exact cR_n kM (by omega) (by omega) zl0)⟩)), F_vf3⟩ [7, 0, 1, 2, 3, 4, 5, 8, 6] (by decide) rfl rfl (by decide) (by decide)
            · have tw55 : ¬ r_52.toInt = 0 := fun z9 => w55 ((ti_eq rfl (by decide)).mpr z9)
              refine pb_aload_n (pc := 93) d_Markup_load_93 2 rfl rfl ?_
              refine pb_aload_n (pc := 94) d_Markup_load_94 3 rfl rfl ?_
              refine pb_callV (pc := 95) (I := i_Markup_load) (qb := 7) (ci := 8) (nA := 1) (rest := []) (wr := [(tg, .inl (G.2.2.1, 17, .inl tfg))]) d_Markup_load_95 (g_Mu_readElement hl G h ui ug uv ct3 fa3 bg3 at3 en3 vs3 io3 hi3 ht3 tfb vf3 gf3 df3 sp tn tz tb tg c tfn tfz tfg (by first | (with_reducible assumption) | omega (splitDisjunctions := false) | assumption | omega | decide) (by first | (with_reducible assumption) | omega (splitDisjunctions := false) | assumption | omega | decide) (by first | (with_reducible assumption) | omega (splitDisjunctions := false) | assumption | omega | decide) (by first | (with_reducible assumption) | omega (splitDisjunctions := false) | assumption | omega | decide) (by first | (with_reducible assumption) | omega (splitDisjunctions := false) | assumption | omega | decide) (by first | (with_reducible assumption) | omega (splitDisjunctions := false) | assumption | omega | decide) (by first | (with_reducible assumption) | omega (splitDisjunctions := false) | assumption | omega | decide) (by first | assumption | decide | omega) (by have q9 := k20 (by omega); have q8 := cm_in (B := mB_ tfb bg3.toInt) (n := en3.toInt - bg3.toInt) (j := at3.toInt - bg3.toInt) (by have q7 := (enF.mp (by (exact omg_d9c3f42b32 fh53 tw55))).2.1; omega); (exact omg_bebe55adb3 y3 ti8 bgF ti10 enF0 bg_ en_ q9 q8)) F_tfb F_vf3 F_tfn) rfl rfl [7, 8, 0, 1, 2, 3, 4, 5] [6] (by decide) rfl rfl rfl (by decide) (by decide) k_843 rfl k_125 k_840 k_842 k_38 ⟨rfl, hy_Markup_readElement⟩ (by decide) rfl rfl (Nat.le_of_ble_eq_true rfl) (by decide) (fun v9 u69 ch68 => ?_)
              obtain ⟨r_70, ct_71, at_72, f_73, vs_74, hi_75, ht_76, vf_77, gf_78, df_79⟩ := u69
              obtain ⟨ech68, ch68⟩ := ch68
              have ech68 : v9 = some (.int r_70) := ech68
              subst ech68
              obtain ⟨fh80, fh81, fh82, fh83, fh84, fh85, fh86, fh87⟩ : (r_70.toInt = 0 ∨ r_70.toInt = 1) ∧ (at3.toInt ≤ at_72.toInt) ∧ (at_72.toInt ≤ en3.toInt) ∧ (0 ≤ ct_71.toInt) ∧ (ct_71.toInt ≤ 200) ∧ (cE6_ (mB_ tfb bg3.toInt) (en3.toInt - bg3.toInt) (cN_ c.toInt tfn tfz) (at3.toInt - bg3.toInt) r_70.toInt (at_72.toInt - bg3.toInt) ct3.toInt ct_71.toInt gf3 gf_78) ∧ (ft_ r_70.toInt fa3.toInt f_73.toInt) ∧ (sb_Fit vf_77) := ch68
              have elF := fh85
              have elQ := fh86
              refine pb_eq (pc' := 98) (lo' := [(5, .int l_), (4, .int rt), (0, .ref h), (1, .ref sp), (2, .int i)]) (rest' := [.int r_70]) (ws' := [(tg, .inl (G.2.2.1, 17, .inl tfg)), (h, .inr (8, [.ref ui, .ref ug, .ref uv, .ref tb, .int ct_71, .int f_73, .int bg3, .int at_72, .int en3, .int vs_74, .int io3, .int hi_75, .int ht_76])), (tb, .inl (G.2.1, 12000, .inl tfb)), (uv, .inl (G.2.1, 24, .inl vf_77)), (ug, .inl (G.2.2.1, 200, .inl gf_78)), (ui, .inl (G.2.2.2.1, 200, .inr (.inl df_79))), (sp, .inr (3, [.ref tn, .ref tz, .ref tb, .ref tg, .int c])), (tn, .inl (G.2.1, 384, .inl tfn)), (tz, .inl (G.2.2.1, 16, .inl tfz))]) ?_
              refine pb_if_eq (pc := 98) (tgt := 112) d_Markup_load_98 (by decide) (fun w88 => ?_) (fun w88 => ?_)
              · have tw88 : r_70.toInt = 0 := (ti_eq rfl (by decide)).mp w88
                refine pb_iconst (pc := 112) (v := 0) d_Markup_load_112 (by decide) ?_
                refine pb_istore (pc := 113) (lo' := [(4, .int 0), (5, .int l_), (0, .ref h), (1, .ref sp), (2, .int i)]) d_Markup_load_113 (by decide) rfl ?_
                refine pb_iincN (pc := 115) (c := (-1)) d_Markup_load_115 1 rfl (by decide) (by decide) (fun i89 ei89 => ?_)
                have ti89 : i89.toInt = l_.toInt + (-1) := t2_add ei89 rfl (by decide) (by first | omega | (have r90 := ti_rng i89; have r91 := ti_rng i; omega))
                refine pb_eq (pc' := 118) (lo' := [(5, .int i89), (4, .int 0), (0, .ref h), (1, .ref sp), (2, .int i)]) (rest' := []) (ws' := [(tg, .inl (G.2.2.1, 17, .inl tfg)), (h, .inr (8, [.ref ui, .ref ug, .ref uv, .ref tb, .int ct_71, .int f_73, .int bg3, .int at_72, .int en3, .int vs_74, .int io3, .int hi_75, .int ht_76])), (tb, .inl (G.2.1, 12000, .inl tfb)), (uv, .inl (G.2.1, 24, .inl vf_77)), (ug, .inl (G.2.2.1, 200, .inl gf_78)), (ui, .inl (G.2.2.2.1, 200, .inr (.inl df_79))), (sp, .inr (3, [.ref tn, .ref tz, .ref tb, .ref tg, .int c])), (tn, .inl (G.2.1, 384, .inl tfn)), (tz, .inl (G.2.2.1, 16, .inl tfz))]) ?_
                refine pb_goto (pc := 118) (tgt := 76) d_Markup_load_118 (by decide) ?_
                refine pb_re (ws' := [(h, .inr (8, [.ref ui, .ref ug, .ref uv, .ref tb, .int ct_71, .int f_73, .int bg3, .int at_72, .int en3, .int vs_74, .int io3, .int hi_75, .int ht_76])), (uv, .inl (G.2.1, 24, .inl vf_77)), (ug, .inl (G.2.2.1, 200, .inl gf_78)), (ui, .inl (G.2.2.2.1, 200, .inr (.inl df_79))), (sp, .inr (3, [.ref tn, .ref tz, .ref tb, .ref tg, .int c])), (tn, .inl (G.2.1, 384, .inl tfn)), (tz, .inl (G.2.2.1, 16, .inl tfz)), (tb, .inl (G.2.1, 12000, .inl tfb)), (tg, .inl (G.2.2.1, 17, .inl tfg))]) (lo' := [(5, .int i89), (4, .int 0), (0, .ref h), (1, .ref sp), (2, .int i)]) [1, 3, 4, 5, 6, 7, 8, 2, 0] [0, 1, 2, 3, 4] (by decide) rfl rfl rfl ?_
                exact ih76 i89 0 ct_71 f_73 bg3 at_72 en3 vs_74 io3 hi_75 ht_76 vf_77 gf_78 df_79 fh87 (by first | (with_reducible assumption) | omega (splitDisjunctions := false) | assumption | omega | decide) (by first | (with_reducible assumption) | omega (splitDisjunctions := false) | assumption | omega | decide) (by first | (with_reducible assumption) | omega (splitDisjunctions := false) | assumption | omega | decide) (by first | (with_reducible assumption) | omega (splitDisjunctions := false) | assumption | omega | decide) (by first | (with_reducible assumption) | omega (splitDisjunctions := false) | assumption | omega | decide) (by first | (with_reducible assumption) | omega (splitDisjunctions := false) | assumption | omega | decide) (by first | (with_reducible assumption) | omega (splitDisjunctions := false) | assumption | omega | decide) (by first | (with_reducible assumption) | omega (splitDisjunctions := false) | assumption | omega | decide) (by first | (with_reducible assumption) | omega (splitDisjunctions := false) | assumption | omega | decide) (by first | (with_reducible assumption) | omega (splitDisjunctions := false) | assumption | omega | decide) (by first | exact cM_s kM (by omega) (by omega) (enF.mp (by omega)) elF (by omega) g1F (by omega) (by omega) | exact cM_g kM (by omega) (enF.mp (by omega)) elF (by omega) g1F (by omega) zl0 | exact cM_e kM (by omega) (enF.mp (by (exact omg_d9c3f42b32 fh53 tw55))) elF (by omega) zl0) (by first | (unfold ft_ at elQ g1FQ; omega) | (unfold ft_ at elQ; (exact omg_27088ef52b zl0 elQ tw88))) (by first | exact fun _ => ce_20 (by omega) elF (by omega) g1F (by omega) (by omega) | exact fun q9 => absurd q9 (by omega)) (by first | exact fun _ => (by have q9 := ce_p elF (by omega) (by (exact omg_7fa91c1c9f fh81 fh82)); omega) | exact fun q9 => absurd zl0 q9) (by (exact omg_28b31f9f32 hm9 tw24 ti89))
              · have tw88 : ¬ r_70.toInt = 0 := fun z9 => w88 ((ti_eq rfl (by decide)).mpr z9)
                refine pb_aload_n (pc := 101) d_Markup_load_101 2 rfl rfl ?_
                refine pb_callV (pc := 102) (I := i_Markup_load) (qb := 1) (ci := 8) (nA := 0) (rest := []) (wr := [(tg, .inl (G.2.2.1, 17, .inl tfg)), (uv, .inl (G.2.1, 24, .inl vf_77)), (ug, .inl (G.2.2.1, 200, .inl gf_78)), (ui, .inl (G.2.2.2.1, 200, .inr (.inl df_79))), (sp, .inr (3, [.ref tn, .ref tz, .ref tb, .ref tg, .int c])), (tn, .inl (G.2.1, 384, .inl tfn)), (tz, .inl (G.2.2.1, 16, .inl tfz))]) d_Markup_load_102 (g_Mu_skipGaps hl G h ui ug uv tb ct_71 f_73 bg3 at_72 en3 vs_74 io3 hi_75 ht_76 tfb (by first | (with_reducible assumption) | omega (splitDisjunctions := false) | assumption | omega | decide) (by first | (with_reducible assumption) | omega (splitDisjunctions := false) | assumption | omega | decide) (by first | (with_reducible assumption) | omega (splitDisjunctions := false) | assumption | omega | decide) (by first | (with_reducible assumption) | omega (splitDisjunctions := false) | assumption | omega | decide) (by first | (with_reducible assumption) | omega (splitDisjunctions := false) | assumption | omega | decide) F_tfb) rfl rfl [1, 2] [0, 3, 4, 5, 6, 7, 8] (by decide) rfl rfl rfl (by decide) (by decide) k_805 rfl k_125 k_802 k_804 k_31 ⟨rfl, hy_Markup_skipGaps⟩ (by decide) rfl rfl (Nat.le_of_ble_eq_true rfl) (by decide) (fun v9 u91 ch90 => ?_)
                obtain ⟨r_92, at_93, f_94⟩ := u91
                obtain ⟨ech90, ch90⟩ := ch90
                have ech90 : v9 = some (.int r_92) := ech90
                subst ech90
                obtain ⟨fh95, fh96, fh97, fh98, fh99⟩ : (r_92.toInt = 0 ∨ r_92.toInt = 1) ∧ (at_72.toInt ≤ at_93.toInt) ∧ (at_93.toInt ≤ en3.toInt) ∧ (oy_ r_92.toInt (at_93.toInt - bg3.toInt) = gF (mB_ tfb bg3.toInt) (en3.toInt - bg3.toInt) (at_72.toInt - bg3.toInt)) ∧ (ft_ r_92.toInt f_73.toInt f_94.toInt) := ch90
                have g1F := fh98
                have g1FQ := fh99
                refine pb_eq (pc' := 105) (lo' := [(5, .int l_), (4, .int rt), (0, .ref h), (1, .ref sp), (2, .int i)]) (rest' := [.int r_92]) (ws' := [(tg, .inl (G.2.2.1, 17, .inl tfg)), (uv, .inl (G.2.1, 24, .inl vf_77)), (ug, .inl (G.2.2.1, 200, .inl gf_78)), (ui, .inl (G.2.2.2.1, 200, .inr (.inl df_79))), (sp, .inr (3, [.ref tn, .ref tz, .ref tb, .ref tg, .int c])), (tn, .inl (G.2.1, 384, .inl tfn)), (tz, .inl (G.2.2.1, 16, .inl tfz)), (h, .inr (8, [.ref ui, .ref ug, .ref uv, .ref tb, .int ct_71, .int f_94, .int bg3, .int at_93, .int en3, .int vs_74, .int io3, .int hi_75, .int ht_76])), (tb, .inl (G.2.1, 12000, .inl tfb))]) ?_
                refine pb_if_eq (pc := 105) (tgt := 112) d_Markup_load_105 (by decide) (fun w100 => ?_) (fun w100 => ?_)
                · have tw100 : r_92.toInt = 0 := (ti_eq rfl (by decide)).mp w100
                  refine pb_iconst (pc := 112) (v := 0) d_Markup_load_112 (by decide) ?_
                  refine pb_istore (pc := 113) (lo' := [(4, .int 0), (5, .int l_), (0, .ref h), (1, .ref sp), (2, .int i)]) d_Markup_load_113 (by decide) rfl ?_
                  refine pb_iincN (pc := 115) (c := (-1)) d_Markup_load_115 1 rfl (by decide) (by decide) (fun i101 ei101 => ?_)
                  have ti101 : i101.toInt = l_.toInt + (-1) := t2_add ei101 rfl (by decide) (by first | omega | (have r90 := ti_rng i101; have r91 := ti_rng i; omega))
                  refine pb_eq (pc' := 118) (lo' := [(5, .int i101), (4, .int 0), (0, .ref h), (1, .ref sp), (2, .int i)]) (rest' := []) (ws' := [(tg, .inl (G.2.2.1, 17, .inl tfg)), (uv, .inl (G.2.1, 24, .inl vf_77)), (ug, .inl (G.2.2.1, 200, .inl gf_78)), (ui, .inl (G.2.2.2.1, 200, .inr (.inl df_79))), (sp, .inr (3, [.ref tn, .ref tz, .ref tb, .ref tg, .int c])), (tn, .inl (G.2.1, 384, .inl tfn)), (tz, .inl (G.2.2.1, 16, .inl tfz)), (h, .inr (8, [.ref ui, .ref ug, .ref uv, .ref tb, .int ct_71, .int f_94, .int bg3, .int at_93, .int en3, .int vs_74, .int io3, .int hi_75, .int ht_76])), (tb, .inl (G.2.1, 12000, .inl tfb))]) ?_
                  refine pb_goto (pc := 118) (tgt := 76) d_Markup_load_118 (by decide) ?_
                  refine pb_re (ws' := [(h, .inr (8, [.ref ui, .ref ug, .ref uv, .ref tb, .int ct_71, .int f_94, .int bg3, .int at_93, .int en3, .int vs_74, .int io3, .int hi_75, .int ht_76])), (uv, .inl (G.2.1, 24, .inl vf_77)), (ug, .inl (G.2.2.1, 200, .inl gf_78)), (ui, .inl (G.2.2.2.1, 200, .inr (.inl df_79))), (sp, .inr (3, [.ref tn, .ref tz, .ref tb, .ref tg, .int c])), (tn, .inl (G.2.1, 384, .inl tfn)), (tz, .inl (G.2.2.1, 16, .inl tfz)), (tb, .inl (G.2.1, 12000, .inl tfb)), (tg, .inl (G.2.2.1, 17, .inl tfg))]) (lo' := [(5, .int i101), (4, .int 0), (0, .ref h), (1, .ref sp), (2, .int i)]) [7, 1, 2, 3, 4, 5, 6, 8, 0] [0, 1, 2, 3, 4] (by decide) rfl rfl rfl ?_
                  exact ih76 i101 0 ct_71 f_94 bg3 at_93 en3 vs_74 io3 hi_75 ht_76 vf_77 gf_78 df_79 fh87 (by first | (with_reducible assumption) | (exact omg_11807178da k0 fh81 fh96) | assumption | omega | decide) (by first | (with_reducible assumption) | omega (splitDisjunctions := false) | assumption | omega | decide) (by first | (with_reducible assumption) | omega (splitDisjunctions := false) | assumption | omega | decide) (by first | (with_reducible assumption) | omega (splitDisjunctions := false) | assumption | omega | decide) (by first | (with_reducible assumption) | omega (splitDisjunctions := false) | assumption | omega | decide) (by first | (with_reducible assumption) | omega (splitDisjunctions := false) | assumption | omega | decide) (by first | (with_reducible assumption) | omega (splitDisjunctions := false) | assumption | omega | decide) (by first | (with_reducible assumption) | omega (splitDisjunctions := false) | assumption | omega | decide) (by first | (with_reducible assumption) | omega (splitDisjunctions := false) | assumption | omega | decide) (by first | (with_reducible assumption) | omega (splitDisjunctions := false) | assumption | omega | decide) (by first | exact cM_s kM (by omega) (by omega) (enF.mp (by (exact omg_d9c3f42b32 fh53 tw55))) elF (by omega) g1F (by omega) (by omega) | exact cM_g kM (by omega) (enF.mp (by (exact omg_d9c3f42b32 fh53 tw55))) elF (by omega) g1F (by omega) zl0 | exact cM_e kM (by omega) (enF.mp (by omega)) elF (by omega) zl0) (by first | (unfold ft_ at elQ g1FQ; (exact omg_27088ef52b zl0 g1FQ tw100)) | (unfold ft_ at elQ; omega)) (by first | exact fun _ => ce_20 (by omega) elF (by omega) g1F (by omega) (by omega) | exact fun q9 => absurd q9 (by omega)) (by first | exact fun _ => (by have q9 := ce_p elF (by omega) (by omega); omega) | exact fun q9 => absurd zl0 q9) (by (exact omg_28b31f9f32 hm9 tw24 ti101))
                · have tw100 : ¬ r_92.toInt = 0 := fun z9 => w100 ((ti_eq rfl (by decide)).mpr z9)
                  refine pb_iconst (pc := 108) (v := 1) d_Markup_load_108 (by decide) ?_
                  refine pb_goto (pc := 109) (tgt := 113) d_Markup_load_109 (by decide) ?_
                  refine pb_istore (pc := 113) (lo' := [(4, .int 1), (5, .int l_), (0, .ref h), (1, .ref sp), (2, .int i)]) d_Markup_load_113 (by decide) rfl ?_
                  refine pb_iincN (pc := 115) (c := (-1)) d_Markup_load_115 1 rfl (by decide) (by decide) (fun i102 ei102 => ?_)
                  have ti102 : i102.toInt = l_.toInt + (-1) := t2_add ei102 rfl (by decide) (by first | omega | (have r90 := ti_rng i102; have r91 := ti_rng i; omega))
                  refine pb_eq (pc' := 118) (lo' := [(5, .int i102), (4, .int 1), (0, .ref h), (1, .ref sp), (2, .int i)]) (rest' := []) (ws' := [(tg, .inl (G.2.2.1, 17, .inl tfg)), (uv, .inl (G.2.1, 24, .inl vf_77)), (ug, .inl (G.2.2.1, 200, .inl gf_78)), (ui, .inl (G.2.2.2.1, 200, .inr (.inl df_79))), (sp, .inr (3, [.ref tn, .ref tz, .ref tb, .ref tg, .int c])), (tn, .inl (G.2.1, 384, .inl tfn)), (tz, .inl (G.2.2.1, 16, .inl tfz)), (h, .inr (8, [.ref ui, .ref ug, .ref uv, .ref tb, .int ct_71, .int f_94, .int bg3, .int at_93, .int en3, .int vs_74, .int io3, .int hi_75, .int ht_76])), (tb, .inl (G.2.1, 12000, .inl tfb))]) ?_
                  refine pb_goto (pc := 118) (tgt := 76) d_Markup_load_118 (by decide) ?_
                  refine pb_re (ws' := [(h, .inr (8, [.ref ui, .ref ug, .ref uv, .ref tb, .int ct_71, .int f_94, .int bg3, .int at_93, .int en3, .int vs_74, .int io3, .int hi_75, .int ht_76])), (uv, .inl (G.2.1, 24, .inl vf_77)), (ug, .inl (G.2.2.1, 200, .inl gf_78)), (ui, .inl (G.2.2.2.1, 200, .inr (.inl df_79))), (sp, .inr (3, [.ref tn, .ref tz, .ref tb, .ref tg, .int c])), (tn, .inl (G.2.1, 384, .inl tfn)), (tz, .inl (G.2.2.1, 16, .inl tfz)), (tb, .inl (G.2.1, 12000, .inl tfb)), (tg, .inl (G.2.2.1, 17, .inl tfg))]) (lo' := [(5, .int i102), (4, .int 1), (0, .ref h), (1, .ref sp), (2, .int i)]) [7, 1, 2, 3, 4, 5, 6, 8, 0] [0, 1, 2, 3, 4] (by decide) rfl rfl rfl ?_
                  exact ih76 i102 1 ct_71 f_94 bg3 at_93 en3 vs_74 io3 hi_75 ht_76 vf_77 gf_78 df_79 fh87 (by first | (with_reducible assumption) | (exact omg_11807178da k0 fh81 fh96) | assumption | omega | decide) (by first | (with_reducible assumption) | omega (splitDisjunctions := false) | assumption | omega | decide) (by first | (with_reducible assumption) | omega (splitDisjunctions := false) | assumption | omega | decide) (by first | (with_reducible assumption) | omega (splitDisjunctions := false) | assumption | omega | decide) (by first | (with_reducible assumption) | omega (splitDisjunctions := false) | assumption | omega | decide) (by first | (with_reducible assumption) | omega (splitDisjunctions := false) | assumption | omega | decide) (by first | (with_reducible assumption) | (exact omg_a4bf40eb0d b4_ fh81 fh96) | assumption | omega | decide) (by first | (with_reducible assumption) | omega (splitDisjunctions := false) | assumption | omega | decide) (by first | (with_reducible assumption) | omega (splitDisjunctions := false) | assumption | omega | decide) (by first | (with_reducible assumption) | omega (splitDisjunctions := false) | assumption | omega | decide) (by first | exact cM_s kM (by omega) (by (exact omg_7fa91c1c9f fh81 fh82)) (enF.mp (by (exact omg_d9c3f42b32 fh53 tw55))) elF (by omega) g1F (by omega) (by omega) | exact cM_g kM (by omega) (enF.mp (by omega)) elF (by omega) g1F (by omega) zl0 | exact cM_e kM (by omega) (enF.mp (by omega)) elF (by omega) zl0) (by first | (unfold ft_ at elQ g1FQ; (exact omg_455295d5e4 zl1 kq tw37 elQ tw88 g1FQ tw100)) | (unfold ft_ at elQ; omega)) (by first | exact fun _ => ce_20 (by omega) elF (by omega) g1F (by omega) (by (exact omg_0213372e09 k20 tw37)) | exact fun q9 => absurd q9 (by omega)) (by first | exact fun _ => (by have q9 := ce_p elF (by omega) (by omega); (exact omg_0f1cf67f5f kl_ tw37 fh96 ti102 q9)) | exact fun q9 => absurd zl0 q9) (by (exact omg_28b31f9f32 hm9 tw24 ti102))
    refine pb_re (ws' := [(h, .inr (8, [.ref ui, .ref ug, .ref uv, .ref tb, .int 0, .int f_15, .int i8, .int at_14, .int i10, .int vs, .int io_16, .int hi, .int ht])), (uv, .inl (G.2.1, 24, .inl vf)), (ug, .inl (G.2.2.1, 200, .inl gf)), (ui, .inl (G.2.2.2.1, 200, .inr (.inl df))), (sp, .inr (3, [.ref tn, .ref tz, .ref tb, .ref tg, .int c])), (tn, .inl (G.2.1, 384, .inl tfn)), (tz, .inl (G.2.2.1, 16, .inl tfz)), (tb, .inl (G.2.1, 12000, .inl tfb)), (tg, .inl (G.2.2.1, 17, .inl tfg))]) (lo' := [(5, .int i22), (4, .int r_13), (0, .ref h), (1, .ref sp), (2, .int i)]) [7, 0, 1, 2, 4, 5, 6, 8, 3] [0, 1, 3, 4, 5] (by decide) rfl rfl rfl ?_
    exact hL76_23 _ i22 r_13 0 f_15 i8 at_14 i10 vs io_16 hi ht vf gf df F_vf (by first | (with_reducible assumption) | (exact omg_8837f4c4a9 y1 ti8 fh18) | assumption | omega | decide) (by first | (with_reducible assumption) | omega (splitDisjunctions := false) | assumption | omega | decide) (by first | (with_reducible assumption) | omega (splitDisjunctions := false) | assumption | omega | decide) (by first | (with_reducible assumption) | omega (splitDisjunctions := false) | assumption | omega | decide) (by first | (with_reducible assumption) | omega (splitDisjunctions := false) | assumption | omega | decide) (by first | (with_reducible assumption) | omega (splitDisjunctions := false) | assumption | omega | decide) (by first | (with_reducible assumption) | omega (splitDisjunctions := false) | assumption | omega | decide) (by first | (with_reducible assumption) | omega (splitDisjunctions := false) | assumption | omega | decide) (by first | (with_reducible assumption) | omega (splitDisjunctions := false) | assumption | omega | decide) (by first | (with_reducible assumption) | (exact omg_c786a0cdbb y3 ti8 ti10) | assumption | omega | decide) (cM_0 hdF zl0) (by unfold ft_ at hdQ; have q9 : (-1 : Int32).toInt = -1 := (by decide); (exact omg_5570867c72 zm1 hdQ)) (by first | (with_reducible assumption) | (exact omg_9e362addbb zl0 fh18) | assumption | omega | decide) (by first | (with_reducible assumption) | (exact omg_e6f97a4910 ti22) | assumption | omega | decide) (Nat.lt_succ_self _)
  · have tw7 : ¬ 0 ≤ r_3.toInt := fun z9 => w7 ((ti_le (by decide) rfl).mpr z9)
    exact pb_vret (pc := 28) hQ d_Markup_load_28 rfl (0, (-1), bg, at_, en, vs, io, hi, ht, vf, gf, df) ⟨rfl, (by (try dsimp only); first | done | (with_reducible assumption) | omega (splitDisjunctions := false) | assumption | omega | decide), (by (try dsimp only); first | done | (with_reducible assumption) | omega (splitDisjunctions := false) | assumption | omega | decide), (show hid_ (∃ t : Int, isF_ (cN_ c.toInt tfn tfz) (gx tfz i.toInt + 5) (tn6_ (cN_ c.toInt tfn tfz) i.toInt) t ∧ lo6_ (cN_ c.toInt tfn tfz) t tfb tfg (0 : Int32).toInt ((-1) : Int32).toInt gf) from (hid_i ⟨_, tlF, lo_0 (by omega) zl0 (by decide)⟩)), F_vf⟩ [0, 1, 2, 3, 6, 7, 8, 4, 5] (by decide) rfl rfl (by decide) (by decide)
