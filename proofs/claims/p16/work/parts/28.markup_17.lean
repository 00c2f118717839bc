/-! ROWS OF NUMBERS -/
theorem omg_d221a634de {x0 : Int} {x1 : Int} (a0 : (x0 = (0 : Int))) (a1 : ((0 : Int) ≤ x1)) : (¬ (x1 < x0)) := by omega
theorem omg_fc99e3e96b {x0 : Int} {x1 : Int} {x2 : Int} {x3 : Int} {x4 : Int} {x5 : Int} (a0 : ((x0 ≤ x1) ∧ ((x1 ≤ (x0 + (4000 : Int))) ∧ (((1 : Int) ≤ x2) ∧ (x2 ≤ (24 : Int)))))) (a1 : (x3 = x0)) (a2 : (x4 = x1)) (a3 : (x3 ≤ x5)) (a4 : (x5 ≤ x4)) : (((-(2147483648 : Int)) ≤ (x4 - x5)) ∧ ((x4 - x5) < (2147483648 : Int))) := by omega
theorem omg_39dcde38e8 {x0 : Int} {x1 : Int} (a0 : (((x0 = (0 : Int)) ∧ ((0 : Int) ≤ x1)) ∨ ((¬ (x0 = (0 : Int))) ∧ (x1 = (-(1 : Int)))))) (a1 : (x0 = (0 : Int))) : ((0 : Int) ≤ x1) := by omega
theorem omg_2bcadcc449 {x0 : Int} {x1 : Int} {x2 : Int} {x3 : Int} {x4 : Int} (a0 : (((x0 = (0 : Int)) ∧ ((0 : Int) ≤ x1)) ∨ ((¬ (x0 = (0 : Int))) ∧ (x1 = (-(1 : Int)))))) (a1 : (¬ (x0 = (0 : Int)))) (a2 : (((x2 = (0 : Int)) ∧ ((0 : Int) ≤ x3)) ∨ ((¬ (x2 = (0 : Int))) ∧ (x3 = x1)))) (a3 : (¬ (x2 = (0 : Int)))) : (((¬ (x2 = (0 : Int))) ∧ ((x3 = (-(1 : Int))) ∧ (x4 = x4))) ∨ ((x2 = (0 : Int)) ∧ (((0 : Int) ≤ x3) ∧ (x4 = (0 : Int))))) := by omega
theorem omg_6f878adb10 {x0 : Int} {x1 : Int} {x2 : Int} {x3 : Int} (a0 : (x0 ≤ (0 : Int))) (a1 : ((x1 - x2) ≤ x0)) (a2 : ((x2 - x3) < (x1 - x3))) : False := by omega
theorem omg_7899061515 {x0 : Int} {x1 : Int} {x2 : Int} {x3 : Int} {x4 : Int} (a0 : (x0 = (0 : Int))) (a1 : (((x1 = (0 : Int)) ∧ ((0 : Int) ≤ x2)) ∨ ((¬ (x1 = (0 : Int))) ∧ (x2 = x3)))) (a2 : (x1 = (0 : Int))) : (((¬ (x1 = (0 : Int))) ∧ ((x2 = (-(1 : Int))) ∧ (x0 = x4))) ∨ ((x1 = (0 : Int)) ∧ (((0 : Int) ≤ x2) ∧ (x0 = (0 : Int))))) := by omega
theorem omg_c415863db8 {x0 : Int} {x1 : Int} {x2 : Int} {x3 : Int} (a0 : (x0 = (0 : Int))) (a1 : (¬ (x0 = (0 : Int)))) : (((¬ (x1 = (0 : Int))) ∧ ((x2 = (-(1 : Int))) ∧ (x3 = x3))) ∨ ((x1 = (0 : Int)) ∧ (((0 : Int) ≤ x2) ∧ (x3 = (0 : Int))))) := by omega
theorem omg_2c85e6cdb9 {x0 : Int} (a0 : (x0 = (0 : Int))) (a1 : (¬ (x0 = (0 : Int)))) : False := by omega
theorem omg_d7118fc080 {x0 : Int} {x1 : Int} (a0 : (¬ (x0 = (0 : Int)))) (a1 : (x0 = (0 : Int))) : ((0 : Int) ≤ x1) := by omega
theorem omg_bebe55adb3 {x0 : Int} {x1 : Int} {x2 : Int} {x3 : Int} {x4 : Int} {x5 : Int} {x6 : Int} {x7 : Int} {x8 : Int} {x9 : Int} {x10 : Int} (a0 : ((x0 ≤ x1) ∧ ((x1 ≤ (x0 + (4000 : Int))) ∧ (((1 : Int) ≤ x2) ∧ (x2 ≤ (24 : Int)))))) (a1 : (x3 = x0)) (a2 : (x3 = x4)) (a3 : (x5 = x1)) (a4 : (x5 = x6)) (a5 : (x7 = x4)) (a6 : (x8 = x6)) (a7 : (((20 : Int) * x9) ≤ (x10 - x7))) (a8 : ((x10 - x7) < (x8 - x7))) : (x9 < (200 : Int)) := by omega
theorem omg_373a9902bf {x0 : Int} (a0 : (((-(2147483648 : Int)) ≤ x0) ∧ (x0 < (2147483648 : Int)))) (a1 : (¬ (x0 ≤ (0 : Int)))) : (((-(2147483648 : Int)) ≤ (x0 + (-(1 : Int)))) ∧ ((x0 + (-(1 : Int))) < (2147483648 : Int))) := by omega
theorem omg_28b31f9f32 {x0 : Int} {x1 : Nat} {x2 : Int} (a0 : ((Int.toNat x0) < (x1 + (1 : Nat)))) (a1 : (¬ (x0 ≤ (0 : Int)))) (a2 : (x2 = (x0 + (-(1 : Int))))) : ((Int.toNat x2) < x1) := by omega
theorem omg_27088ef52b {x0 : Int} {x1 : Int} {x2 : Int} {x3 : Int} (a0 : (x0 = (0 : Int))) (a1 : (((x1 = (0 : Int)) ∧ ((0 : Int) ≤ x2)) ∨ ((¬ (x1 = (0 : Int))) ∧ (x2 = x3)))) (a2 : (x1 = (0 : Int))) : (((x0 = (0 : Int)) ∧ ((0 : Int) ≤ x2)) ∨ ((¬ (x0 = (0 : Int))) ∧ (x2 = (-(1 : Int))))) := by omega
theorem omg_0f1cf67f5f {x0 : Int} {x1 : Int} {x2 : Int} {x3 : Int} {x4 : Int} {x5 : Int} {x6 : Int} {x7 : Int} (a0 : ((¬ (x0 = (0 : Int))) → ((x1 - x2) ≤ x3))) (a1 : (¬ (x0 = (0 : Int)))) (a2 : (x4 ≤ x5)) (a3 : (x6 = (x3 + (-(1 : Int))))) (a4 : (((x2 - x7) + (20 : Int)) ≤ (x4 - x7))) : ((x1 - x5) ≤ x6) := by omega
theorem omg_0213372e09 {x0 : Int} {x1 : Int} {x2 : Int} {x3 : Int} (a0 : ((¬ (x0 = (0 : Int))) → (((20 : Int) * x1) ≤ (x2 - x3)))) (a1 : (¬ (x0 = (0 : Int)))) : (((20 : Int) * x1) ≤ (x2 - x3)) := by omega
theorem omg_455295d5e4 {x0 : Int} {x1 : Int} {x2 : Int} {x3 : Int} {x4 : Int} {x5 : Int} {x6 : Int} (a0 : (x0 = (1 : Int))) (a1 : (((x1 = (0 : Int)) ∧ ((0 : Int) ≤ x2)) ∨ ((¬ (x1 = (0 : Int))) ∧ (x2 = (-(1 : Int)))))) (a2 : (¬ (x1 = (0 : Int)))) (a3 : (((x3 = (0 : Int)) ∧ ((0 : Int) ≤ x4)) ∨ ((¬ (x3 = (0 : Int))) ∧ (x4 = x2)))) (a4 : (¬ (x3 = (0 : Int)))) (a5 : (((x5 = (0 : Int)) ∧ ((0 : Int) ≤ x6)) ∨ ((¬ (x5 = (0 : Int))) ∧ (x6 = x4)))) (a6 : (¬ (x5 = (0 : Int)))) : (((x0 = (0 : Int)) ∧ ((0 : Int) ≤ x6)) ∨ ((¬ (x0 = (0 : Int))) ∧ (x6 = (-(1 : Int))))) := by omega
theorem omg_e6f97a4910 {x0 : Int} {x1 : Int} {x2 : Int} {x3 : Int} (a0 : (x0 = (x1 - x2))) : ((¬ (x3 = (0 : Int))) → ((x1 - x2) ≤ x0)) := by omega
theorem omg_9e362addbb {x0 : Int} {x1 : Int} {x2 : Int} {x3 : Int} (a0 : (x0 = (0 : Int))) (a1 : (x1 ≤ x2)) : ((¬ (x3 = (0 : Int))) → (((20 : Int) * x0) ≤ (x2 - x1))) := by omega
theorem omg_5570867c72 {x0 : Int} {x1 : Int} {x2 : Int} (a0 : (x0 = (-(1 : Int)))) (a1 : (((x1 = (0 : Int)) ∧ ((0 : Int) ≤ x2)) ∨ ((¬ (x1 = (0 : Int))) ∧ (x2 = x0)))) : (((x1 = (0 : Int)) ∧ ((0 : Int) ≤ x2)) ∨ ((¬ (x1 = (0 : Int))) ∧ (x2 = (-(1 : Int))))) := by omega
theorem omg_c786a0cdbb {x0 : Int} {x1 : Int} {x2 : Int} {x3 : Int} {x4 : Int} (a0 : ((x0 ≤ x1) ∧ ((x1 ≤ (x0 + (4000 : Int))) ∧ (((1 : Int) ≤ x2) ∧ (x2 ≤ (24 : Int)))))) (a1 : (x3 = x0)) (a2 : (x4 = x1)) : ((x4 - x3) ≤ (4000 : Int)) := by omega
theorem omg_8837f4c4a9 {x0 : Int} {x1 : Int} {x2 : Int} {x3 : Int} (a0 : (((0 : Int) ≤ x0) ∧ ((x0 ≤ x1) ∧ (x1 ≤ (12000 : Int))))) (a1 : (x2 = x0)) (a2 : (x2 ≤ x3)) : ((0 : Int) ≤ x3) := by omega
theorem d_Markup_isFaulty_0 : decode prog_7_method_3_code 0 = .ok (.aload_n 0, 1) := by decide +kernel
theorem d_Markup_isFaulty_1 : decode prog_7_method_3_code 1 = .ok (.getfield 26, 3) := by decide +kernel
theorem d_Markup_isFaulty_4 : decode prog_7_method_3_code 4 = .ok (.ifCond .lt 7, 3) := by decide +kernel
theorem d_Markup_isFaulty_11 : decode prog_7_method_3_code 11 = .ok (.iconst 0, 1) := by decide +kernel
theorem d_Markup_isFaulty_12 : decode prog_7_method_3_code 12 = .ok (.ireturn, 1) := by decide +kernel
theorem d_Markup_isFaulty_7 : decode prog_7_method_3_code 7 = .ok (.iconst 1, 1) := by decide +kernel
theorem d_Markup_isFaulty_8 : decode prog_7_method_3_code 8 = .ok (.goto 4, 3) := by decide +kernel
abbrev y_Markup_isFaulty : MethodName := ⟨"PackageBook$Markup", "isFaulty", "()Z"⟩
abbrev i_Markup_isFaulty : pb_I := (y_Markup_isFaulty, prog_7_method_3_code, 1, (some Jvm.ClassFile.FieldType.boolean), [], { frames := 0, cells := 0, slots := 0, locals := 0 })
set_option maxRecDepth 100000 in
set_option maxHeartbeats 4000000 in
theorem g_Mu_isFaulty {l : Launch} (hl : l.stackTraces = false) (G : pb_G) (h : Nat) (ui : Nat) (ug : Nat) (uv : Nat) (ur : Nat) (ct : Int32) (fa : Int32) (bg : Int32) (at_ : Int32) (en : Int32) (vs : Int32) (io : Int32) (hi : Int32) (ht : Int32) : Cn l G i_Markup_isFaulty [.ref h] [(h, .inr (8, [.ref ui, .ref ug, .ref uv, .ref ur, .int ct, .int fa, .int bg, .int at_, .int en, .int vs, .int io, .int hi, .int ht]))] (S := Int32) (fun rv_ u => rv_ = some (.int u) ∧ (u.toInt = 0 ∨ u.toInt = 1) ∧ ((u.toInt = 1 ∧ 0 ≤ fa.toInt) ∨ (u.toInt = 0 ∧ fa.toInt < 0))) (fun u => [(h, .inr (8, [.ref ui, .ref ug, .ref uv, .ref ur, .int ct, .int fa, .int bg, .int at_, .int en, .int vs, .int io, .int hi, .int ht]))]) := by
  refine Cn.of hl (by decide +kernel) rfl (Nat.le_of_ble_eq_true rfl) (fun M hQ => ?_)
  refine pb_eq (pc' := 0) (lo' := [(0, .ref h)]) (rest' := []) (ws' := [(h, .inr (8, [.ref ui, .ref ug, .ref uv, .ref ur, .int ct, .int fa, .int bg, .int at_, .int en, .int vs, .int io, .int hi, .int ht]))]) ?_
  have zl0 : (0 : Int32).toInt = 0 := by decide
  have zl1 : (1 : Int32).toInt = 1 := by decide
  refine pb_aload_n (pc := 0) d_Markup_isFaulty_0 0 rfl rfl ?_
  refine pb_get (pc := 1) d_Markup_isFaulty_1 0 5 rfl rfl (by decide) in_Markup k_323 rfl ?_
  refine pb_if_lt (pc := 4) (tgt := 11) d_Markup_isFaulty_4 (by decide) (fun w1 => ?_) (fun w1 => ?_)
  · have tw1 : fa.toInt < 0 := (ti_lt rfl (by decide)).mp w1
    refine pb_iconst (pc := 11) (v := 0) d_Markup_isFaulty_11 (by decide) ?_
    exact pb_iret (pc := 12) hQ d_Markup_isFaulty_12 rfl rfl (0) ⟨rfl, (by (try dsimp only); first | done | (with_reducible assumption) | omega (splitDisjunctions := false) | assumption | omega | decide), (by (try dsimp only); first | done | (with_reducible assumption) | omega (splitDisjunctions := false) | assumption | omega | decide)⟩ [0] (by decide) rfl rfl (by decide) (by decide)
  · have tw1 : ¬ fa.toInt < 0 := fun z9 => w1 ((ti_lt rfl (by decide)).mpr z9)
    refine pb_iconst (pc := 7) (v := 1) d_Markup_isFaulty_7 (by decide) ?_
    refine pb_goto (pc := 8) (tgt := 12) d_Markup_isFaulty_8 (by decide) ?_
    exact pb_iret (pc := 12) hQ d_Markup_isFaulty_12 rfl rfl (1) ⟨rfl, (by (try dsimp only); first | done | (with_reducible assumption) | omega (splitDisjunctions := false) | assumption | omega | decide), (by (try dsimp only); first | done | (with_reducible assumption) | omega (splitDisjunctions := false) | assumption | omega | decide)⟩ [0] (by decide) rfl rfl (by decide) (by decide)

theorem d_Markup_isRepeated_0 : decode prog_7_method_4_code 0 = .ok (.iconst 0, 1) := by decide +kernel
theorem d_Markup_isRepeated_1 : decode prog_7_method_4_code 1 = .ok (.istore_n 2, 1) := by decide +kernel
theorem d_Markup_isRepeated_2 : decode prog_7_method_4_code 2 = .ok (.iload_n 2, 1) := by decide +kernel
theorem d_Markup_isRepeated_3 : decode prog_7_method_4_code 3 = .ok (.iload_n 1, 1) := by decide +kernel
theorem d_Markup_isRepeated_4 : decode prog_7_method_4_code 4 = .ok (.if_icmp .ge 27, 3) := by decide +kernel
theorem d_Markup_isRepeated_31 : decode prog_7_method_4_code 31 = .ok (.iconst 0, 1) := by decide +kernel
theorem d_Markup_isRepeated_32 : decode prog_7_method_4_code 32 = .ok (.ireturn, 1) := by decide +kernel
theorem d_Markup_isRepeated_7 : decode prog_7_method_4_code 7 = .ok (.aload_n 0, 1) := by decide +kernel
theorem d_Markup_isRepeated_8 : decode prog_7_method_4_code 8 = .ok (.getfield 11, 3) := by decide +kernel
theorem d_Markup_isRepeated_11 : decode prog_7_method_4_code 11 = .ok (.iload_n 2, 1) := by decide +kernel
theorem d_Markup_isRepeated_12 : decode prog_7_method_4_code 12 = .ok (.laload, 1) := by decide +kernel
theorem d_Markup_isRepeated_13 : decode prog_7_method_4_code 13 = .ok (.aload_n 0, 1) := by decide +kernel
theorem d_Markup_isRepeated_14 : decode prog_7_method_4_code 14 = .ok (.getfield 11, 3) := by decide +kernel
theorem d_Markup_isRepeated_17 : decode prog_7_method_4_code 17 = .ok (.iload_n 1, 1) := by decide +kernel
theorem d_Markup_isRepeated_18 : decode prog_7_method_4_code 18 = .ok (.laload, 1) := by decide +kernel
theorem d_Markup_isRepeated_19 : decode prog_7_method_4_code 19 = .ok (.lcmp, 1) := by decide +kernel
theorem d_Markup_isRepeated_20 : decode prog_7_method_4_code 20 = .ok (.ifCond .ne 5, 3) := by decide +kernel
theorem d_Markup_isRepeated_25 : decode prog_7_method_4_code 25 = .ok (.iinc 2 1, 3) := by decide +kernel
theorem d_Markup_isRepeated_28 : decode prog_7_method_4_code 28 = .ok (.goto (-26), 3) := by decide +kernel
theorem d_Markup_isRepeated_23 : decode prog_7_method_4_code 23 = .ok (.iconst 1, 1) := by decide +kernel
theorem d_Markup_isRepeated_24 : decode prog_7_method_4_code 24 = .ok (.ireturn, 1) := by decide +kernel
abbrev y_Markup_isRepeated : MethodName := ⟨"PackageBook$Markup", "isRepeated", "(I)Z"⟩
abbrev i_Markup_isRepeated : pb_I := (y_Markup_isRepeated, prog_7_method_4_code, 3, (some Jvm.ClassFile.FieldType.boolean), [], { frames := 0, cells := 0, slots := 0, locals := 0 })
set_option maxRecDepth 100000 in
set_option maxHeartbeats 4000000 in
theorem g_Mu_isRepeated {l : Launch} (hl : l.stackTraces = false) (G : pb_G) (h : Nat) (ui : Nat) (ug : Nat) (uv : Nat) (ur : Nat) (ct : Int32) (fa : Int32) (bg : Int32) (at_ : Int32) (en : Int32) (vs : Int32) (io : Int32) (hi : Int32) (ht : Int32) (df : Nat → Int64) (k : Int32) (k0 : 0 ≤ k.toInt) (k1 : k.toInt < 200) : Cn l G i_Markup_isRepeated [.ref h, .int k] [(h, .inr (8, [.ref ui, .ref ug, .ref uv, .ref ur, .int ct, .int fa, .int bg, .int at_, .int en, .int vs, .int io, .int hi, .int ht])), (ui, .inl (G.2.2.2.1, 200, .inr (.inl df)))] (S := Int32) (fun rv_ u => rv_ = some (.int u) ∧ (u.toInt = 0 ∨ u.toInt = 1) ∧ (hid_ ((u.toInt = 1 ∧ ∃ j : Int, 0 ≤ j ∧ j < k.toInt ∧ gl7 df j = gl7 df k.toInt) ∨ (u.toInt = 0 ∧ ∀ j : Int, 0 ≤ j → j < k.toInt → ¬ gl7 df j = gl7 df k.toInt)))) (fun u => [(h, .inr (8, [.ref ui, .ref ug, .ref uv, .ref ur, .int ct, .int fa, .int bg, .int at_, .int en, .int vs, .int io, .int hi, .int ht])), (ui, .inl (G.2.2.2.1, 200, .inr (.inl df)))]) := by
  refine Cn.of hl (by decide +kernel) rfl (Nat.le_of_ble_eq_true rfl) (fun M hQ => ?_)
  refine pb_eq (pc' := 0) (lo' := [(0, .ref h), (1, .int k)]) (rest' := []) (ws' := [(h, .inr (8, [.ref ui, .ref ug, .ref uv, .ref ur, .int ct, .int fa, .int bg, .int at_, .int en, .int vs, .int io, .int hi, .int ht])), (ui, .inl (G.2.2.2.1, 200, .inr (.inl df)))]) ?_
  have zl0 : (0 : Int32).toInt = 0 := by decide
  have zl1 : (1 : Int32).toInt = 1 := by decide
  refine pb_iconst (pc := 0) (v := 0) d_Markup_isRepeated_0 (by decide) ?_
  refine pb_istore_n (pc := 1) (lo' := [(2, .int 0), (0, .ref h), (1, .int k)]) d_Markup_isRepeated_1 rfl (by decide) rfl ?_
  have hL2_1 : ∀ (N9 : Nat) (j : Int32), (0 ≤ j.toInt) → (j.toInt ≤ k.toInt) → (∀ x : Int, 0 ≤ x → x < j.toInt → ¬ gl7 df x = gl7 df k.toInt) → ((k.toInt - j.toInt).toNat) < N9 → pb_P l G M i_Markup_isRepeated 2 [(2, .int j), (0, .ref h), (1, .int k)] [] [(h, .inr (8, [.ref ui, .ref ug, .ref uv, .ref ur, .int ct, .int fa, .int bg, .int at_, .int en, .int vs, .int io, .int hi, .int ht])), (ui, .inl (G.2.2.2.1, 200, .inr (.inl df)))] 0 0 := by
    intro N9
    induction N9 with
    | zero => intro j j0 j1 jn hm9; exact absurd hm9 (Nat.not_lt_zero _)
    | succ N9 ih2 =>
      intro j j0 j1 jn hm9
      refine pb_iload_n (pc := 2) d_Markup_isRepeated_2 0 rfl rfl ?_
      refine pb_iload_n (pc := 3) d_Markup_isRepeated_3 2 rfl rfl ?_
      refine pb_icmp_ge (pc := 4) (tgt := 31) d_Markup_isRepeated_4 (by decide) (fun w2 => ?_) (fun w2 => ?_)
      · have tw2 : k.toInt ≤ j.toInt := (ti_le rfl rfl).mp w2
        refine pb_iconst (pc := 31) (v := 0) d_Markup_isRepeated_31 (by decide) ?_
        exact pb_iret (pc := 32) hQ d_Markup_isRepeated_32 rfl rfl (0) ⟨rfl, (by (try dsimp only); first | done | (with_reducible assumption) | omega (splitDisjunctions := false) | assumption | omega | decide), (show hid_ (((0 : Int32).toInt = 1 ∧ ∃ j : Int, 0 ≤ j ∧ j < k.toInt ∧ gl7 df j = gl7 df k.toInt) ∨ ((0 : Int32).toInt = 0 ∧ ∀ j : Int, 0 ≤ j → j < k.toInt → ¬ gl7 df j = gl7 df k.toInt)) from (hid_i (Or.inr ⟨zl0, fun x x0 x1 => jn x x0 (by omega)⟩)))⟩ [0, 1] (by decide) rfl rfl (by decide) (by decide)
      · have tw2 : ¬ k.toInt ≤ j.toInt := fun z9 => w2 ((ti_le rfl rfl).mpr z9)
        refine pb_aload_n (pc := 7) d_Markup_isRepeated_7 1 rfl rfl ?_
        refine pb_get (pc := 8) d_Markup_isRepeated_8 0 0 rfl rfl (by decide) in_Markup k_316 rfl ?_
        refine pb_iload_n (pc := 11) d_Markup_isRepeated_11 0 rfl rfl ?_
        refine pb_lald (pc := 12) d_Markup_isRepeated_12 1 rfl (vp_in_iff.mpr (by omega)) ?_
        refine pb_topl (fun j3 ej3 => ?_)
        have ga7 := gl7_ld ej3 rfl
        refine pb_aload_n (pc := 13) d_Markup_isRepeated_13 1 rfl rfl ?_
        refine pb_get (pc := 14) d_Markup_isRepeated_14 0 0 rfl rfl (by decide) in_Markup k_316 rfl ?_
        refine pb_iload_n (pc := 17) d_Markup_isRepeated_17 2 rfl rfl ?_
        refine pb_lald (pc := 18) d_Markup_isRepeated_18 1 rfl (vp_in_iff.mpr (by omega)) ?_
        refine pb_topl (fun j4 ej4 => ?_)
        have gb7 := gl7_ld ej4 rfl
        refine pb_lcmp (pc := 19) d_Markup_isRepeated_19 ?_
        refine pb_topi (fun i5 ei5 => ?_)
        have ti5 : (i5.toInt < 0 ↔ j3.toInt < j4.toInt) ∧ (i5.toInt = 0 ↔ j3.toInt = j4.toInt) ∧ (0 < i5.toInt ↔ j4.toInt < j3.toInt) := tl_cmp ei5 rfl rfl
        obtain ⟨lc1, lc2, lc3⟩ := ti5
        refine pb_if_ne (pc := 20) (tgt := 25) d_Markup_isRepeated_20 (by decide) (fun w6 => ?_) (fun w6 => ?_)
        · have tw6 : ¬ i5.toInt = 0 := fun z9 => w6 ((ti_eq rfl (by decide)).mpr z9)
          refine pb_iincN (pc := 25) (c := 1) d_Markup_isRepeated_25 0 rfl (by decide) (by decide) (fun i7 ei7 => ?_)
          have ti7 : i7.toInt = j.toInt + 1 := t2_add ei7 rfl (by decide) (by first | omega | (have r90 := ti_rng i7; have r91 := ti_rng k; omega))
          refine pb_eq (pc' := 28) (lo' := [(2, .int i7), (0, .ref h), (1, .int k)]) (rest' := []) (ws' := [(h, .inr (8, [.ref ui, .ref ug, .ref uv, .ref ur, .int ct, .int fa, .int bg, .int at_, .int en, .int vs, .int io, .int hi, .int ht])), (ui, .inl (G.2.2.2.1, 200, .inr (.inl df)))]) ?_
          refine pb_goto (pc := 28) (tgt := 2) d_Markup_isRepeated_28 (by decide) ?_
          exact ih2 i7 (by first | (with_reducible assumption) | omega (splitDisjunctions := false) | assumption | omega | decide) (by first | (with_reducible assumption) | omega (splitDisjunctions := false) | assumption | omega | decide) (fun x x0 x1 => by by_cases c9 : x = j.toInt; rw [c9]; omega; exact jn x x0 (by omega)) (by (exact omg_7c8a06b1f5 hm9 tw2 ti7))
        · have tw6 : i5.toInt = 0 := (ti_eq rfl (by decide)).mp w6
          refine pb_iconst (pc := 23) (v := 1) d_Markup_isRepeated_23 (by decide) ?_
          exact pb_iret (pc := 24) hQ d_Markup_isRepeated_24 rfl rfl (1) ⟨rfl, (by (try dsimp only); first | done | (with_reducible assumption) | omega (splitDisjunctions := false) | assumption | omega | decide), (show hid_ (((1 : Int32).toInt = 1 ∧ ∃ j : Int, 0 ≤ j ∧ j < k.toInt ∧ gl7 df j = gl7 df k.toInt) ∨ ((1 : Int32).toInt = 0 ∧ ∀ j : Int, 0 ≤ j → j < k.toInt → ¬ gl7 df j = gl7 df k.toInt)) from (hid_i (Or.inl ⟨zl1, j.toInt, j0, by omega, by omega⟩)))⟩ [0, 1] (by decide) rfl rfl (by decide) (by decide)
  exact hL2_1 _ 0 (by first | (with_reducible assumption) | omega (splitDisjunctions := false) | assumption | omega | decide) (by first | (with_reducible assumption) | omega (splitDisjunctions := false) | assumption | omega | decide) (fun x x0 x1 => absurd x1 (by (exact omg_d221a634de zl0 x0))) (Nat.lt_succ_self _)

theorem d_Markup_allGoals_0 : decode prog_7_method_5_code 0 = .ok (.iconst 0, 1) := by decide +kernel
theorem d_Markup_allGoals_1 : decode prog_7_method_5_code 1 = .ok (.istore_n 1, 1) := by decide +kernel
theorem d_Markup_allGoals_2 : decode prog_7_method_5_code 2 = .ok (.iconst 0, 1) := by decide +kernel
theorem d_Markup_allGoals_3 : decode prog_7_method_5_code 3 = .ok (.istore_n 2, 1) := by decide +kernel
theorem d_Markup_allGoals_4 : decode prog_7_method_5_code 4 = .ok (.iload_n 2, 1) := by decide +kernel
theorem d_Markup_allGoals_5 : decode prog_7_method_5_code 5 = .ok (.aload_n 0, 1) := by decide +kernel
theorem d_Markup_allGoals_6 : decode prog_7_method_5_code 6 = .ok (.getfield 35, 3) := by decide +kernel
theorem d_Markup_allGoals_9 : decode prog_7_method_5_code 9 = .ok (.if_icmp .ge 29, 3) := by decide +kernel
theorem d_Markup_allGoals_38 : decode prog_7_method_5_code 38 = .ok (.iload_n 1, 1) := by decide +kernel
theorem d_Markup_allGoals_39 : decode prog_7_method_5_code 39 = .ok (.ireturn, 1) := by decide +kernel
theorem d_Markup_allGoals_12 : decode prog_7_method_5_code 12 = .ok (.aload_n 0, 1) := by decide +kernel
theorem d_Markup_allGoals_13 : decode prog_7_method_5_code 13 = .ok (.getfield 15, 3) := by decide +kernel
theorem d_Markup_allGoals_16 : decode prog_7_method_5_code 16 = .ok (.iload_n 2, 1) := by decide +kernel
theorem d_Markup_allGoals_17 : decode prog_7_method_5_code 17 = .ok (.iaload, 1) := by decide +kernel
theorem d_Markup_allGoals_18 : decode prog_7_method_5_code 18 = .ok (.ifCond .lt 14, 3) := by decide +kernel
theorem d_Markup_allGoals_32 : decode prog_7_method_5_code 32 = .ok (.iinc 2 1, 3) := by decide +kernel
theorem d_Markup_allGoals_35 : decode prog_7_method_5_code 35 = .ok (.goto (-31), 3) := by decide +kernel
theorem d_Markup_allGoals_21 : decode prog_7_method_5_code 21 = .ok (.iload_n 1, 1) := by decide +kernel
theorem d_Markup_allGoals_22 : decode prog_7_method_5_code 22 = .ok (.iconst 1, 1) := by decide +kernel
theorem d_Markup_allGoals_23 : decode prog_7_method_5_code 23 = .ok (.aload_n 0, 1) := by decide +kernel
theorem d_Markup_allGoals_24 : decode prog_7_method_5_code 24 = .ok (.getfield 15, 3) := by decide +kernel
theorem d_Markup_allGoals_27 : decode prog_7_method_5_code 27 = .ok (.iload_n 2, 1) := by decide +kernel
theorem d_Markup_allGoals_28 : decode prog_7_method_5_code 28 = .ok (.iaload, 1) := by decide +kernel
theorem d_Markup_allGoals_29 : decode prog_7_method_5_code 29 = .ok (.ishl, 1) := by decide +kernel
theorem d_Markup_allGoals_30 : decode prog_7_method_5_code 30 = .ok (.ior, 1) := by decide +kernel
theorem d_Markup_allGoals_31 : decode prog_7_method_5_code 31 = .ok (.istore_n 1, 1) := by decide +kernel
abbrev y_Markup_allGoals : MethodName := ⟨"PackageBook$Markup", "allGoals", "()I"⟩
abbrev i_Markup_allGoals : pb_I := (y_Markup_allGoals, prog_7_method_5_code, 3, (some Jvm.ClassFile.FieldType.int), [], { frames := 0, cells := 0, slots := 0, locals := 0 })
set_option maxRecDepth 100000 in
set_option maxHeartbeats 4000000 in
theorem g_Mu_allGoals {l : Launch} (hl : l.stackTraces = false) (G : pb_G) (h : Nat) (ui : Nat) (ug : Nat) (uv : Nat) (ur : Nat) (ct : Int32) (fa : Int32) (bg : Int32) (at_ : Int32) (en : Int32) (vs : Int32) (io : Int32) (hi : Int32) (ht : Int32) (gf : Nat → Int32) (c1 : ct.toInt ≤ 200) (c0 : 0 ≤ ct.toInt) (g7 : ∀ x : Int, 0 ≤ x → x < ct.toInt → gx gf x < 16) : Cn l G i_Markup_allGoals [.ref h] [(h, .inr (8, [.ref ui, .ref ug, .ref uv, .ref ur, .int ct, .int fa, .int bg, .int at_, .int en, .int vs, .int io, .int hi, .int ht])), (ug, .inl (G.2.2.1, 200, .inl gf))] (S := Int32) (fun rv_ u => rv_ = some (.int u) ∧ (hid_ ((0 ≤ u.toInt ∧ u.toInt < 65536) ∧ ∀ y : Int, 0 ≤ y → (bt7_ u y ↔ ∃ x : Int, 0 ≤ x ∧ x < ct.toInt ∧ gx gf x = y)))) (fun u => [(h, .inr (8, [.ref ui, .ref ug, .ref uv, .ref ur, .int ct, .int fa, .int bg, .int at_, .int en, .int vs, .int io, .int hi, .int ht])), (ug, .inl (G.2.2.1, 200, .inl gf))]) := by
  refine Cn.of hl (by decide +kernel) rfl (Nat.le_of_ble_eq_true rfl) (fun M hQ => ?_)
  refine pb_eq (pc' := 0) (lo' := [(0, .ref h)]) (rest' := []) (ws' := [(h, .inr (8, [.ref ui, .ref ug, .ref uv, .ref ur, .int ct, .int fa, .int bg, .int at_, .int en, .int vs, .int io, .int hi, .int ht])), (ug, .inl (G.2.2.1, 200, .inl gf))]) ?_
  have zl0 : (0 : Int32).toInt = 0 := by decide
  have zl1 : (1 : Int32).toInt = 1 := by decide
  refine pb_iconst (pc := 0) (v := 0) d_Markup_allGoals_0 (by decide) ?_
  refine pb_istore_n (pc := 1) (lo' := [(1, .int 0), (0, .ref h)]) d_Markup_allGoals_1 rfl (by decide) rfl ?_
  refine pb_iconst (pc := 2) (v := 0) d_Markup_allGoals_2 (by decide) ?_
  refine pb_istore_n (pc := 3) (lo' := [(2, .int 0), (1, .int 0), (0, .ref h)]) d_Markup_allGoals_3 rfl (by decide) rfl ?_
  have hL4_1 : ∀ (N9 : Nat) (al : Int32) (j : Int32), (0 ≤ j.toInt) → (j.toInt ≤ ct.toInt) → (0 ≤ al.toInt ∧ al.toInt < 65536) → (∀ y : Int, 0 ≤ y → (bt7_ al y ↔ ∃ x : Int, 0 ≤ x ∧ x < j.toInt ∧ gx gf x = y)) → ((ct.toInt - j.toInt).toNat) < N9 → pb_P l G M i_Markup_allGoals 4 [(1, .int al), (2, .int j), (0, .ref h)] [] [(h, .inr (8, [.ref ui, .ref ug, .ref uv, .ref ur, .int ct, .int fa, .int bg, .int at_, .int en, .int vs, .int io, .int hi, .int ht])), (ug, .inl (G.2.2.1, 200, .inl gf))] 0 0 := by
    intro N9
    induction N9 with
    | zero => intro al j j0 j1 al0 aj hm9; exact absurd hm9 (Nat.not_lt_zero _)
    | succ N9 ih4 =>
      intro al j j0 j1 al0 aj hm9
      refine pb_iload_n (pc := 4) d_Markup_allGoals_4 1 rfl rfl ?_
      refine pb_aload_n (pc := 5) d_Markup_allGoals_5 2 rfl rfl ?_
      refine pb_get (pc := 6) d_Markup_allGoals_6 0 4 rfl rfl (by decide) in_Markup k_321 rfl ?_
      refine pb_icmp_ge (pc := 9) (tgt := 38) d_Markup_allGoals_9 (by decide) (fun w2 => ?_) (fun w2 => ?_)
      · have tw2 : ct.toInt ≤ j.toInt := (ti_le rfl rfl).mp w2
        refine pb_iload_n (pc := 38) d_Markup_allGoals_38 0 rfl rfl ?_
        exact pb_iret (pc := 39) hQ d_Markup_allGoals_39 rfl rfl (al) ⟨rfl, (show hid_ ((0 ≤ al.toInt ∧ al.toInt < 65536) ∧ ∀ y : Int, 0 ≤ y → (bt7_ al y ↔ ∃ x : Int, 0 ≤ x ∧ x < ct.toInt ∧ gx gf x = y)) from (hid_i ⟨al0, fun y y0 => by rw [show ct.toInt = j.toInt by omega]; exact aj y y0⟩))⟩ [0, 1] (by decide) rfl rfl (by decide) (by decide)
      · have tw2 : ¬ ct.toInt ≤ j.toInt := fun z9 => w2 ((ti_le rfl rfl).mpr z9)
        refine pb_aload_n (pc := 12) d_Markup_allGoals_12 2 rfl rfl ?_
        refine pb_get (pc := 13) d_Markup_allGoals_13 0 1 rfl rfl (by decide) in_Markup k_317 rfl ?_
        refine pb_iload_n (pc := 16) d_Markup_allGoals_16 1 rfl rfl ?_
        refine pb_iald (pc := 17) d_Markup_allGoals_17 1 rfl (vp_in_iff.mpr (by omega)) ?_
        refine pb_topi (fun i3 ei3 => ?_)
        have ti3 : i3.toInt = gx gf (j.toInt) := gx_ld ei3 rfl
        refine pb_if_lt (pc := 18) (tgt := 32) d_Markup_allGoals_18 (by decide) (fun w4 => ?_) (fun w4 => ?_)
        · have tw4 : i3.toInt < 0 := (ti_lt rfl (by decide)).mp w4
          refine pb_iincN (pc := 32) (c := 1) d_Markup_allGoals_32 1 rfl (by decide) (by decide) (fun i5 ei5 => ?_)
          have ti5 : i5.toInt = j.toInt + 1 := t2_add ei5 rfl (by decide) (by first | omega | (have r90 := ti_rng i5; have r91 := ti_rng al; omega))
          refine pb_eq (pc' := 35) (lo' := [(2, .int i5), (1, .int al), (0, .ref h)]) (rest' := []) (ws' := [(h, .inr (8, [.ref ui, .ref ug, .ref uv, .ref ur, .int ct, .int fa, .int bg, .int at_, .int en, .int vs, .int io, .int hi, .int ht])), (ug, .inl (G.2.2.1, 200, .inl gf))]) ?_
          refine pb_goto (pc := 35) (tgt := 4) d_Markup_allGoals_35 (by decide) ?_
          refine pb_re (ws' := [(h, .inr (8, [.ref ui, .ref ug, .ref uv, .ref ur, .int ct, .int fa, .int bg, .int at_, .int en, .int vs, .int io, .int hi, .int ht])), (ug, .inl (G.2.2.1, 200, .inl gf))]) (lo' := [(1, .int al), (2, .int i5), (0, .ref h)]) [0, 1] [1, 0, 2] (by decide) rfl rfl rfl ?_
          exact ih4 al i5 (by first | (with_reducible assumption) | omega (splitDisjunctions := false) | assumption | omega | decide) (by first | (with_reducible assumption) | omega (splitDisjunctions := false) | assumption | omega | decide) (by first | (with_reducible assumption) | omega (splitDisjunctions := false) | assumption | omega | decide) (by first | exact al7_y aj (by omega) j0 sl7.2 (by omega) or7 (by omega) (by omega) | exact al7_n aj (by omega) (by omega)) (by (exact omg_7c8a06b1f5 hm9 tw2 ti5))
        · have tw4 : ¬ i3.toInt < 0 := fun z9 => w4 ((ti_lt rfl (by decide)).mpr z9)
          refine pb_iload_n (pc := 21) d_Markup_allGoals_21 0 rfl rfl ?_
          refine pb_iconst (pc := 22) (v := 1) d_Markup_allGoals_22 (by decide) ?_
          refine pb_aload_n (pc := 23) d_Markup_allGoals_23 2 rfl rfl ?_
          refine pb_get (pc := 24) d_Markup_allGoals_24 0 1 rfl rfl (by decide) in_Markup k_317 rfl ?_
          refine pb_iload_n (pc := 27) d_Markup_allGoals_27 1 rfl rfl ?_
          refine pb_iald (pc := 28) d_Markup_allGoals_28 1 rfl (vp_in_iff.mpr (by omega)) ?_
          refine pb_topi (fun i6 ei6 => ?_)
          have ti6 : i6.toInt = gx gf (j.toInt) := gx_ld ei6 rfl
          refine pb_ishl (pc := 29) d_Markup_allGoals_29 ?_
          refine pb_topi (fun i7 ei7 => ?_)
          have gj7 := g7 j.toInt (by omega) (by omega)
          have sl7 := bt7_sl ei7 (by omega) (by omega)
          have sl8 := sl7.1
          refine pb_ior (pc := 30) d_Markup_allGoals_30 ?_
          refine pb_topi (fun i8 ei8 => ?_)
          have ti8 : 0 ≤ i8.toInt ∧ i8.toInt < 65536 := ti_or 16 ei8 rfl rfl (by omega) (by omega) (by omega) (by omega) (by decide)
          have or7 := ei8
          refine pb_istore_n (pc := 31) (lo' := [(1, .int i8), (2, .int j), (0, .ref h)]) d_Markup_allGoals_31 rfl (by decide) rfl ?_
          refine pb_iincN (pc := 32) (c := 1) d_Markup_allGoals_32 1 rfl (by decide) (by decide) (fun i9 ei9 => ?_)
          have ti9 : i9.toInt = j.toInt + 1 := t2_add ei9 rfl (by decide) (by first | omega | (have r90 := ti_rng i9; have r91 := ti_rng i8; omega))
          refine pb_eq (pc' := 35) (lo' := [(2, .int i9), (1, .int i8), (0, .ref h)]) (rest' := []) (ws' := [(h, .inr (8, [.ref ui, .ref ug, .ref uv, .ref ur, .int ct, .int fa, .int bg, .int at_, .int en, .int vs, .int io, .int hi, .int ht])), (ug, .inl (G.2.2.1, 200, .inl gf))]) ?_
          refine pb_goto (pc := 35) (tgt := 4) d_Markup_allGoals_35 (by decide) ?_
          refine pb_re (ws' := [(h, .inr (8, [.ref ui, .ref ug, .ref uv, .ref ur, .int ct, .int fa, .int bg, .int at_, .int en, .int vs, .int io, .int hi, .int ht])), (ug, .inl (G.2.2.1, 200, .inl gf))]) (lo' := [(1, .int i8), (2, .int i9), (0, .ref h)]) [0, 1] [1, 0, 2] (by decide) rfl rfl rfl ?_
          exact ih4 i8 i9 (by first | (with_reducible assumption) | omega (splitDisjunctions := false) | assumption | omega | decide) (by first | (with_reducible assumption) | omega (splitDisjunctions := false) | assumption | omega | decide) (by first | (with_reducible assumption) | omega (splitDisjunctions := false) | assumption | omega | decide) (by first | exact al7_y aj (by omega) j0 sl7.2 (by omega) or7 (by omega) (by omega) | exact al7_n aj (by omega) (by omega)) (by (exact omg_7c8a06b1f5 hm9 tw2 ti9))
  refine pb_re (ws' := [(h, .inr (8, [.ref ui, .ref ug, .ref uv, .ref ur, .int ct, .int fa, .int bg, .int at_, .int en, .int vs, .int io, .int hi, .int ht])), (ug, .inl (G.2.2.1, 200, .inl gf))]) (lo' := [(1, .int 0), (2, .int 0), (0, .ref h)]) [0, 1] [1, 0, 2] (by decide) rfl rfl rfl ?_
  exact hL4_1 _ 0 0 (by first | (with_reducible assumption) | omega (splitDisjunctions := false) | assumption | omega | decide) (by first | (with_reducible assumption) | omega (splitDisjunctions := false) | assumption | omega | decide) (by first | (with_reducible assumption) | omega (splitDisjunctions := false) | assumption | omega | decide) (fun y y0 => ⟨fun q9 => absurd q9 (bt7_0 y), fun q9 => by obtain ⟨x, x0, x1, _⟩ := q9; omega⟩) (Nat.lt_succ_self _)

theorem d_Markup_load_0 : decode prog_7_method_2_code 0 = .ok (.aload_n 0, 1) := by decide +kernel
theorem d_Markup_load_1 : decode prog_7_method_2_code 1 = .ok (.aload_n 1, 1) := by decide +kernel
theorem d_Markup_load_2 : decode prog_7_method_2_code 2 = .ok (.getfield 30, 3) := by decide +kernel
theorem k_396 : (Jvm.Cond.fieldLinkNest "PackageBook$Markup" (30 : Nat) "PackageBook$Shelf" "bytes" "[B" "PackageBook") ∈ uN := uN_c1 39 rfl (by decide +kernel)
theorem d_Markup_load_5 : decode prog_7_method_2_code 5 = .ok (.putfield 23, 3) := by decide +kernel
theorem d_Markup_load_8 : decode prog_7_method_2_code 8 = .ok (.aload_n 0, 1) := by decide +kernel
theorem d_Markup_load_9 : decode prog_7_method_2_code 9 = .ok (.iconst 0, 1) := by decide +kernel
theorem d_Markup_load_10 : decode prog_7_method_2_code 10 = .ok (.putfield 35, 3) := by decide +kernel
theorem d_Markup_load_13 : decode prog_7_method_2_code 13 = .ok (.aload_n 0, 1) := by decide +kernel
theorem d_Markup_load_14 : decode prog_7_method_2_code 14 = .ok (.iconst (-1), 1) := by decide +kernel
theorem d_Markup_load_15 : decode prog_7_method_2_code 15 = .ok (.putfield 26, 3) := by decide +kernel
theorem d_Markup_load_18 : decode prog_7_method_2_code 18 = .ok (.aload_n 1, 1) := by decide +kernel
theorem d_Markup_load_19 : decode prog_7_method_2_code 19 = .ok (.iload_n 2, 1) := by decide +kernel
theorem d_Markup_load_20 : decode prog_7_method_2_code 20 = .ok (.invokevirtual 38, 3) := by decide +kernel
theorem k_794 : (Jvm.Cond.methodLink "PackageBook$Markup" (38 : Nat) ({ cls := "PackageBook$Shelf", name := "tellerOf", desc := "(I)I" } : Jvm.MethodName)) ∈ uW := uW_c2 197 rfl (by decide +kernel)
theorem k_797 : (Jvm.Cond.code ({ cls := "PackageBook$Shelf", name := "tellerOf", desc := "(I)I" } : Jvm.MethodName) prog_10_method_15_code (4 : Nat) (Option.some Jvm.ClassFile.FieldType.int)) ∈ uW := uW_c2 200 rfl (by decide +kernel)
theorem k_795 : (Jvm.Cond.instanceMethod ({ cls := "PackageBook$Shelf", name := "tellerOf", desc := "(I)I" } : Jvm.MethodName)) ∈ uW := uW_c2 198 rfl (by decide +kernel)
theorem k_796 : (Jvm.Cond.selects "PackageBook$Shelf" ({ cls := "PackageBook$Shelf", name := "tellerOf", desc := "(I)I" } : Jvm.MethodName) ({ cls := "PackageBook$Shelf", name := "tellerOf", desc := "(I)I" } : Jvm.MethodName)) ∈ uW := uW_c2 199 rfl (by decide +kernel)
theorem hy_Shelf_tellerOf : (y_Shelf_tellerOf).cls ≠ "java/lang/invoke/MethodHandle" ∧ (y_Shelf_tellerOf).cls ≠ "java/lang/invoke/VarHandle" ∧ (parseMethodDescriptor (y_Shelf_tellerOf).desc).map (fun d => d.parameters.length) = some 1 := by decide +kernel
theorem d_Markup_load_23 : decode prog_7_method_2_code 23 = .ok (.istore_n 3, 1) := by decide +kernel
theorem d_Markup_load_24 : decode prog_7_method_2_code 24 = .ok (.iload_n 3, 1) := by decide +kernel
theorem d_Markup_load_25 : decode prog_7_method_2_code 25 = .ok (.ifCond .ge 4, 3) := by decide +kernel
theorem d_Markup_load_29 : decode prog_7_method_2_code 29 = .ok (.aload_n 0, 1) := by decide +kernel
theorem d_Markup_load_30 : decode prog_7_method_2_code 30 = .ok (.aload_n 1, 1) := by decide +kernel
theorem d_Markup_load_31 : decode prog_7_method_2_code 31 = .ok (.getfield 42, 3) := by decide +kernel
theorem k_400 : (Jvm.Cond.fieldLinkNest "PackageBook$Markup" (42 : Nat) "PackageBook$Shelf" "begins" "[I" "PackageBook") ∈ uN := uN_c1 43 rfl (by decide +kernel)
theorem d_Markup_load_34 : decode prog_7_method_2_code 34 = .ok (.iload_n 3, 1) := by decide +kernel
theorem d_Markup_load_35 : decode prog_7_method_2_code 35 = .ok (.iaload, 1) := by decide +kernel
theorem d_Markup_load_36 : decode prog_7_method_2_code 36 = .ok (.putfield 45, 3) := by decide +kernel
theorem d_Markup_load_39 : decode prog_7_method_2_code 39 = .ok (.aload_n 0, 1) := by decide +kernel
theorem d_Markup_load_40 : decode prog_7_method_2_code 40 = .ok (.aload_n 0, 1) := by decide +kernel
theorem d_Markup_load_41 : decode prog_7_method_2_code 41 = .ok (.getfield 45, 3) := by decide +kernel
theorem d_Markup_load_44 : decode prog_7_method_2_code 44 = .ok (.putfield 48, 3) := by decide +kernel
theorem d_Markup_load_47 : decode prog_7_method_2_code 47 = .ok (.aload_n 0, 1) := by decide +kernel
theorem d_Markup_load_48 : decode prog_7_method_2_code 48 = .ok (.aload_n 1, 1) := by decide +kernel
theorem d_Markup_load_49 : decode prog_7_method_2_code 49 = .ok (.getfield 42, 3) := by decide +kernel
theorem d_Markup_load_52 : decode prog_7_method_2_code 52 = .ok (.iload_n 3, 1) := by decide +kernel
theorem d_Markup_load_53 : decode prog_7_method_2_code 53 = .ok (.iconst 1, 1) := by decide +kernel
theorem d_Markup_load_54 : decode prog_7_method_2_code 54 = .ok (.iadd, 1) := by decide +kernel
theorem d_Markup_load_55 : decode prog_7_method_2_code 55 = .ok (.iaload, 1) := by decide +kernel
theorem d_Markup_load_56 : decode prog_7_method_2_code 56 = .ok (.putfield 51, 3) := by decide +kernel
theorem d_Markup_load_59 : decode prog_7_method_2_code 59 = .ok (.aload_n 0, 1) := by decide +kernel
theorem d_Markup_load_60 : decode prog_7_method_2_code 60 = .ok (.invokevirtual 54, 3) := by decide +kernel
theorem k_798 : (Jvm.Cond.methodLink "PackageBook$Markup" (54 : Nat) ({ cls := "PackageBook$Markup", name := "readHead", desc := "()Z" } : Jvm.MethodName)) ∈ uW := uW_c2 201 rfl (by decide +kernel)
theorem k_801 : (Jvm.Cond.code ({ cls := "PackageBook$Markup", name := "readHead", desc := "()Z" } : Jvm.MethodName) prog_7_method_6_code (1 : Nat) (Option.some Jvm.ClassFile.FieldType.boolean)) ∈ uW := uW_c2 204 rfl (by decide +kernel)
theorem k_800 : (Jvm.Cond.instanceMethod ({ cls := "PackageBook$Markup", name := "readHead", desc := "()Z" } : Jvm.MethodName)) ∈ uW := uW_c2 203 rfl (by decide +kernel)
theorem k_30 : Cond.selects "PackageBook$Markup" ⟨"PackageBook$Markup", "readHead", "()Z"⟩ ⟨"PackageBook$Markup", "readHead", "()Z"⟩ ∈ uW := uW_of 30 (by decide +kernel) (by decide +kernel)
theorem hy_Markup_readHead : (y_Markup_readHead).cls ≠ "java/lang/invoke/MethodHandle" ∧ (y_Markup_readHead).cls ≠ "java/lang/invoke/VarHandle" ∧ (parseMethodDescriptor (y_Markup_readHead).desc).map (fun d => d.parameters.length) = some 0 := by decide +kernel
theorem d_Markup_load_63 : decode prog_7_method_2_code 63 = .ok (.istore 4, 2) := by decide +kernel
theorem d_Markup_load_65 : decode prog_7_method_2_code 65 = .ok (.aload_n 0, 1) := by decide +kernel
theorem d_Markup_load_66 : decode prog_7_method_2_code 66 = .ok (.getfield 51, 3) := by decide +kernel
theorem d_Markup_load_69 : decode prog_7_method_2_code 69 = .ok (.aload_n 0, 1) := by decide +kernel
theorem d_Markup_load_70 : decode prog_7_method_2_code 70 = .ok (.getfield 48, 3) := by decide +kernel
theorem d_Markup_load_73 : decode prog_7_method_2_code 73 = .ok (.isub, 1) := by decide +kernel
theorem d_Markup_load_74 : decode prog_7_method_2_code 74 = .ok (.istore 5, 2) := by decide +kernel
theorem d_Markup_load_76 : decode prog_7_method_2_code 76 = .ok (.iload 5, 2) := by decide +kernel
theorem d_Markup_load_78 : decode prog_7_method_2_code 78 = .ok (.ifCond .le 43, 3) := by decide +kernel
theorem d_Markup_load_121 : decode prog_7_method_2_code 121 = .ok (.iload 4, 2) := by decide +kernel
theorem d_Markup_load_123 : decode prog_7_method_2_code 123 = .ok (.ifCond .eq 10, 3) := by decide +kernel
theorem d_Markup_load_133 : decode prog_7_method_2_code 133 = .ok (.aload_n 0, 1) := by decide +kernel
theorem d_Markup_load_134 : decode prog_7_method_2_code 134 = .ok (.iconst 0, 1) := by decide +kernel
theorem d_Markup_load_135 : decode prog_7_method_2_code 135 = .ok (.putfield 35, 3) := by decide +kernel
theorem d_Markup_load_138 : decode prog_7_method_2_code 138 = .ok (.return_, 1) := by decide +kernel
theorem d_Markup_load_126 : decode prog_7_method_2_code 126 = .ok (.aload_n 0, 1) := by decide +kernel
theorem d_Markup_load_127 : decode prog_7_method_2_code 127 = .ok (.invokevirtual 68, 3) := by decide +kernel
theorem k_893 : (Jvm.Cond.methodLink "PackageBook$Markup" (68 : Nat) ({ cls := "PackageBook$Markup", name := "readTail", desc := "()Z" } : Jvm.MethodName)) ∈ uW := uW_c3 56 rfl (by decide +kernel)
theorem k_896 : (Jvm.Cond.code ({ cls := "PackageBook$Markup", name := "readTail", desc := "()Z" } : Jvm.MethodName) prog_7_method_8_code (1 : Nat) (Option.some Jvm.ClassFile.FieldType.boolean)) ∈ uW := uW_c3 59 rfl (by decide +kernel)
theorem k_895 : (Jvm.Cond.instanceMethod ({ cls := "PackageBook$Markup", name := "readTail", desc := "()Z" } : Jvm.MethodName)) ∈ uW := uW_c3 58 rfl (by decide +kernel)
theorem k_48 : Cond.selects "PackageBook$Markup" ⟨"PackageBook$Markup", "readTail", "()Z"⟩ ⟨"PackageBook$Markup", "readTail", "()Z"⟩ ∈ uW := uW_of 48 (by decide +kernel) (by decide +kernel)
theorem hy_Markup_readTail : (y_Markup_readTail).cls ≠ "java/lang/invoke/MethodHandle" ∧ (y_Markup_readTail).cls ≠ "java/lang/invoke/VarHandle" ∧ (parseMethodDescriptor (y_Markup_readTail).desc).map (fun d => d.parameters.length) = some 0 := by decide +kernel
theorem d_Markup_load_130 : decode prog_7_method_2_code 130 = .ok (.ifCond .ne 8, 3) := by decide +kernel
theorem d_Markup_load_81 : decode prog_7_method_2_code 81 = .ok (.iload 4, 2) := by decide +kernel
theorem d_Markup_load_83 : decode prog_7_method_2_code 83 = .ok (.ifCond .eq 38, 3) := by decide +kernel
theorem d_Markup_load_86 : decode prog_7_method_2_code 86 = .ok (.aload_n 0, 1) := by decide +kernel
theorem d_Markup_load_87 : decode prog_7_method_2_code 87 = .ok (.invokevirtual 58, 3) := by decide +kernel
theorem k_836 : (Jvm.Cond.methodLink "PackageBook$Markup" (58 : Nat) ({ cls := "PackageBook$Markup", name := "isElementNext", desc := "()Z" } : Jvm.MethodName)) ∈ uW := uW_c2 239 rfl (by decide +kernel)
theorem k_839 : (Jvm.Cond.code ({ cls := "PackageBook$Markup", name := "isElementNext", desc := "()Z" } : Jvm.MethodName) prog_7_method_7_code (1 : Nat) (Option.some Jvm.ClassFile.FieldType.boolean)) ∈ uW := uW_c3 2 rfl (by decide +kernel)
theorem k_838 : (Jvm.Cond.instanceMethod ({ cls := "PackageBook$Markup", name := "isElementNext", desc := "()Z" } : Jvm.MethodName)) ∈ uW := uW_c3 1 rfl (by decide +kernel)
theorem k_37 : Cond.selects "PackageBook$Markup" ⟨"PackageBook$Markup", "isElementNext", "()Z"⟩ ⟨"PackageBook$Markup", "isElementNext", "()Z"⟩ ∈ uW := uW_of 37 (by decide +kernel) (by decide +kernel)
theorem hy_Markup_isElementNext : (y_Markup_isElementNext).cls ≠ "java/lang/invoke/MethodHandle" ∧ (y_Markup_isElementNext).cls ≠ "java/lang/invoke/VarHandle" ∧ (parseMethodDescriptor (y_Markup_isElementNext).desc).map (fun d => d.parameters.length) = some 0 := by decide +kernel
theorem d_Markup_load_90 : decode prog_7_method_2_code 90 = .ok (.ifCond .eq 31, 3) := by decide +kernel
theorem d_Markup_load_93 : decode prog_7_method_2_code 93 = .ok (.aload_n 0, 1) := by decide +kernel
theorem d_Markup_load_94 : decode prog_7_method_2_code 94 = .ok (.aload_n 1, 1) := by decide +kernel
theorem d_Markup_load_95 : decode prog_7_method_2_code 95 = .ok (.invokevirtual 61, 3) := by decide +kernel
theorem k_840 : (Jvm.Cond.methodLink "PackageBook$Markup" (61 : Nat) ({ cls := "PackageBook$Markup", name := "readElement", desc := "(LPackageBook$Shelf;)Z" } : Jvm.MethodName)) ∈ uW := uW_c3 3 rfl (by decide +kernel)
theorem k_843 : (Jvm.Cond.code ({ cls := "PackageBook$Markup", name := "readElement", desc := "(LPackageBook$Shelf;)Z" } : Jvm.MethodName) prog_7_method_10_code (4 : Nat) (Option.some Jvm.ClassFile.FieldType.boolean)) ∈ uW := uW_c3 6 rfl (by decide +kernel)
theorem k_842 : (Jvm.Cond.instanceMethod ({ cls := "PackageBook$Markup", name := "readElement", desc := "(LPackageBook$Shelf;)Z" } : Jvm.MethodName)) ∈ uW := uW_c3 5 rfl (by decide +kernel)
theorem k_38 : Cond.selects "PackageBook$Markup" ⟨"PackageBook$Markup", "readElement", "(LPackageBook$Shelf;)Z"⟩ ⟨"PackageBook$Markup", "readElement", "(LPackageBook$Shelf;)Z"⟩ ∈ uW := uW_of 38 (by decide +kernel) (by decide +kernel)
theorem hy_Markup_readElement : (y_Markup_readElement).cls ≠ "java/lang/invoke/MethodHandle" ∧ (y_Markup_readElement).cls ≠ "java/lang/invoke/VarHandle" ∧ (parseMethodDescriptor (y_Markup_readElement).desc).map (fun d => d.parameters.length) = some 1 := by decide +kernel
theorem d_Markup_load_98 : decode prog_7_method_2_code 98 = .ok (.ifCond .eq 14, 3) := by decide +kernel
theorem d_Markup_load_112 : decode prog_7_method_2_code 112 = .ok (.iconst 0, 1) := by decide +kernel
theorem d_Markup_load_113 : decode prog_7_method_2_code 113 = .ok (.istore 4, 2) := by decide +kernel
theorem d_Markup_load_115 : decode prog_7_method_2_code 115 = .ok (.iinc 5 (-1), 3) := by decide +kernel
theorem d_Markup_load_118 : decode prog_7_method_2_code 118 = .ok (.goto (-42), 3) := by decide +kernel
theorem d_Markup_load_101 : decode prog_7_method_2_code 101 = .ok (.aload_n 0, 1) := by decide +kernel
theorem d_Markup_load_102 : decode prog_7_method_2_code 102 = .ok (.invokevirtual 65, 3) := by decide +kernel
theorem d_Markup_load_105 : decode prog_7_method_2_code 105 = .ok (.ifCond .eq 7, 3) := by decide +kernel
theorem d_Markup_load_108 : decode prog_7_method_2_code 108 = .ok (.iconst 1, 1) := by decide +kernel
theorem d_Markup_load_109 : decode prog_7_method_2_code 109 = .ok (.goto 4, 3) := by decide +kernel
theorem d_Markup_load_28 : decode prog_7_method_2_code 28 = .ok (.return_, 1) := by decide +kernel
abbrev y_Markup_load : MethodName := ⟨"PackageBook$Markup", "load", "(LPackageBook$Shelf;I)V"⟩
abbrev i_Markup_load : pb_I := (y_Markup_load, prog_7_method_2_code, 6, (Option.none : Option Jvm.ClassFile.FieldType), [], { frames := 9, cells := 0, slots := 0, locals := 200 })
set_option maxRecDepth 100000 in
set_option maxHeartbeats 4000000 in
theorem g_Mu_load {l : Launch} (hl : l.stackTraces = false) (G : pb_G) (h : Nat) (ui : Nat) (ug : Nat) (uv : Nat) (ur : Nat) (ct : Int32) (fa : Int32) (bg : Int32) (at_ : Int32) (en : Int32) (vs : Int32) (io : Int32) (hi : Int32) (ht : Int32) (vf : Nat → Int32) (gf : Nat → Int32) (df : Nat → Int64) (sp : Nat) (tn : Nat) (tz : Nat) (tb : Nat) (tg : Nat) (c : Int32) (tfn : Nat → Int32) (tfz : Nat → Int32) (tfb : Nat → Int32) (tfg : Nat → Int32) (i : Int32) (I : sh_I c.toInt tfz tfg) (i0 : 0 ≤ i.toInt) (i1 : i.toInt < c.toInt) (F_vf : sb_Fit vf) (F_tfn : sb_Fit tfn) (F_tfb : sb_Fit tfb) : Cn l G i_Markup_load [.ref h, .ref sp, .int i] [(h, .inr (8, [.ref ui, .ref ug, .ref uv, .ref ur, .int ct, .int fa, .int bg, .int at_, .int en, .int vs, .int io, .int hi, .int ht])), (uv, .inl (G.2.1, 24, .inl vf)), (ug, .inl (G.2.2.1, 200, .inl gf)), (ui, .inl (G.2.2.2.1, 200, .inr (.inl df))), (sp, .inr (3, [.ref tn, .ref tz, .ref tb, .ref tg, .int c])), (tn, .inl (G.2.1, 384, .inl tfn)), (tz, .inl (G.2.2.1, 16, .inl tfz)), (tb, .inl (G.2.1, 12000, .inl tfb)), (tg, .inl (G.2.2.1, 17, .inl tfg))] (S := Int32 × Int32 × Int32 × Int32 × Int32 × Int32 × Int32 × Int32 × Int32 × (Nat → Int32) × (Nat → Int32) × (Nat → Int64)) (fun rv_ u => rv_ = none ∧ (0 ≤ u.1.toInt) ∧ (u.1.toInt ≤ 200) ∧ (hid_ (∃ t : Int, isF_ (cN_ c.toInt tfn tfz) (gx tfz i.toInt + 5) (tn6_ (cN_ c.toInt tfn tfz) i.toInt) t ∧ lo6_ (cN_ c.toInt tfn tfz) t tfb tfg u.1.toInt u.2.1.toInt u.2.2.2.2.2.2.2.2.2.2.1)) ∧ (hid_ (∃ t : Int, isF_ (cN_ c.toInt tfn tfz) (gx tfz i.toInt + 5) (tn6_ (cN_ c.toInt tfn tfz) i.toInt) t ∧ lo7_ t tfb tfg u.2.2.2.2.2.2.2.2.2.2.2)) ∧ (sb_Fit u.2.2.2.2.2.2.2.2.2.1)) (fun u => [(h, .inr (8, [.ref ui, .ref ug, .ref uv, .ref tb, .int u.1, .int u.2.1, .int u.2.2.1, .int u.2.2.2.1, .int u.2.2.2.2.1, .int u.2.2.2.2.2.1, .int u.2.2.2.2.2.2.1, .int u.2.2.2.2.2.2.2.1, .int u.2.2.2.2.2.2.2.2.1])), (uv, .inl (G.2.1, 24, .inl u.2.2.2.2.2.2.2.2.2.1)), (ug, .inl (G.2.2.1, 200, .inl u.2.2.2.2.2.2.2.2.2.2.1)), (ui, .inl (G.2.2.2.1, 200, .inr (.inl u.2.2.2.2.2.2.2.2.2.2.2))), (sp, .inr (3, [.ref tn, .ref tz, .ref tb, .ref tg, .int c])), (tn, .inl (G.2.1, 384, .inl tfn)), (tz, .inl (G.2.2.1, 16, .inl tfz)), (tb, .inl (G.2.1, 12000, .inl tfb)), (tg, .inl (G.2.2.1, 17, .inl tfg))]) := by
  refine Cn.of hl (by decide +kernel) rfl (Nat.le_of_ble_eq_true rfl) (fun M hQ => ?_)
  refine pb_eq (pc' := 0) (lo' := [(0, .ref h), (1, .ref sp), (2, .int i)]) (rest' := []) (ws' := [(h, .inr (8, [.ref ui, .ref ug, .ref uv, .ref ur, .int ct, .int fa, .int bg, .int at_, .int en, .int vs, .int io, .int hi, .int ht])), (uv, .inl (G.2.1, 24, .inl vf)), (ug, .inl (G.2.2.1, 200, .inl gf)), (ui, .inl (G.2.2.2.1, 200, .inr (.inl df))), (sp, .inr (3, [.ref tn, .ref tz, .ref tb, .ref tg, .int c])), (tn, .inl (G.2.1, 384, .inl tfn)), (tz, .inl (G.2.2.1, 16, .inl tfz)), (tb, .inl (G.2.1, 12000, .inl tfb)), (tg, .inl (G.2.2.1, 17, .inl tfg))]) ?_
  have zm1 : ((-1) : Int32).toInt = (-1) := by decide
  have zl0 : (0 : Int32).toInt = 0 := by decide
  have zl1 : (1 : Int32).toInt = 1 := by decide
  have p2 := I.2.1
  refine pb_aload_n (pc := 0) d_Markup_load_0 0 rfl rfl ?_
  refine pb_aload_n (pc := 1) d_Markup_load_1 1 rfl rfl ?_
  refine pb_getN (pc := 2) d_Markup_load_2 4 2 rfl rfl (by decide) in_Shelf k_396 rfl ?_
  refine pb_put (pc := 5) (ty := (.array .byte)) (ws' := [(h, .inr (8, [.ref ui, .ref ug, .ref uv, .ref tb, .int ct, .int fa, .int bg, .int at_, .int en, .int vs, .int io, .int hi, .int ht])), (uv, .inl (G.2.1, 24, .inl vf)), (ug, .inl (G.2.2.1, 200, .inl gf)), (ui, .inl (G.2.2.2.1, 200, .inr (.inl df))), (sp, .inr (3, [.ref tn, .ref tz, .ref tb, .ref tg, .int c])), (tn, .inl (G.2.1, 384, .inl tfn)), (tz, .inl (G.2.2.1, 16, .inl tfz)), (tb, .inl (G.2.1, 12000, .inl tfb)), (tg, .inl (G.2.2.1, 17, .inl tfg))]) d_Markup_load_5 0 3 t_Markup t_Markup_ok n_Markup rfl rfl (by decide) in_Markup k_320 rfl (by decide +kernel) rfl rfl (Nat.le_of_ble_eq_true rfl) rfl ?_
  refine pb_aload_n (pc := 8) d_Markup_load_8 0 rfl rfl ?_
  refine pb_iconst (pc := 9) (v := 0) d_Markup_load_9 (by decide) ?_
  refine pb_put (pc := 10) (ty := .int) (ws' := [(h, .inr (8, [.ref ui, .ref ug, .ref uv, .ref tb, .int 0, .int fa, .int bg, .int at_, .int en, .int vs, .int io, .int hi, .int ht])), (uv, .inl (G.2.1, 24, .inl vf)), (ug, .inl (G.2.2.1, 200, .inl gf)), (ui, .inl (G.2.2.2.1, 200, .inr (.inl df))), (sp, .inr (3, [.ref tn, .ref tz, .ref tb, .ref tg, .int c])), (tn, .inl (G.2.1, 384, .inl tfn)), (tz, .inl (G.2.2.1, 16, .inl tfz)), (tb, .inl (G.2.1, 12000, .inl tfb)), (tg, .inl (G.2.2.1, 17, .inl tfg))]) d_Markup_load_10 0 4 t_Markup t_Markup_ok n_Markup rfl rfl (by decide) in_Markup k_321 rfl (by decide +kernel) rfl rfl (Nat.le_of_ble_eq_true rfl) rfl ?_
  refine pb_aload_n (pc := 13) d_Markup_load_13 0 rfl rfl ?_
  refine pb_iconst (pc := 14) (v := (-1)) d_Markup_load_14 (by decide) ?_
  refine pb_put (pc := 15) (ty := .int) (ws' := [(h, .inr (8, [.ref ui, .ref ug, .ref uv, .ref tb, .int 0, .int (-1), .int bg, .int at_, .int en, .int vs, .int io, .int hi, .int ht])), (uv, .inl (G.2.1, 24, .inl vf)), (ug, .inl (G.2.2.1, 200, .inl gf)), (ui, .inl (G.2.2.2.1, 200, .inr (.inl df))), (sp, .inr (3, [.ref tn, .ref tz, .ref tb, .ref tg, .int c])), (tn, .inl (G.2.1, 384, .inl tfn)), (tz, .inl (G.2.2.1, 16, .inl tfz)), (tb, .inl (G.2.1, 12000, .inl tfb)), (tg, .inl (G.2.2.1, 17, .inl tfg))]) d_Markup_load_15 0 5 t_Markup t_Markup_ok n_Markup rfl rfl (by decide) in_Markup k_323 rfl (by decide +kernel) rfl rfl (Nat.le_of_ble_eq_true rfl) rfl ?_
  refine pb_aload_n (pc := 18) d_Markup_load_18 1 rfl rfl ?_
  refine pb_iload_n (pc := 19) d_Markup_load_19 2 rfl rfl ?_
  refine pb_callV (pc := 20) (I := i_Markup_load) (qb := 4) (ci := 3) (nA := 1) (rest := []) (wr := [(h, .inr (8, [.ref ui, .ref ug, .ref uv, .ref tb, .int 0, .int (-1), .int bg, .int at_, .int en, .int vs, .int io, .int hi, .int ht])), (uv, .inl (G.2.1, 24, .inl vf)), (ug, .inl (G.2.2.1, 200, .inl gf)), (ui, .inl (G.2.2.2.1, 200, .inr (.inl df))), (tb, .inl (G.2.1, 12000, .inl tfb)), (tg, .inl (G.2.2.1, 17, .inl tfg))]) d_Markup_load_20 (g_Shelf_tellerOf hl G sp tn tz tb tg c tfn tfz tfg i (by first | assumption | decide | omega) (by first | (with_reducible assumption) | omega (splitDisjunctions := false) | assumption | omega | decide) (by first | (with_reducible assumption) | omega (splitDisjunctions := false) | assumption | omega | decide) F_tfn) rfl rfl [4, 5, 6] [0, 1, 2, 3, 7, 8] (by decide) rfl rfl rfl (by decide) (by decide) k_797 rfl k_127 k_794 k_795 k_796 ⟨rfl, hy_Shelf_tellerOf⟩ (by decide) rfl rfl (Nat.le_of_ble_eq_true rfl) (by decide) (fun v9 u2 ch1 => ?_)
  obtain ⟨r_3, rfl⟩ : ∃ z9, z9 = u2 := ⟨_, rfl⟩
  obtain ⟨ech1, ch1⟩ := ch1
  have ech1 : v9 = some (.int r_3) := ech1
  subst ech1
  obtain ⟨fh4, fh5, fh6⟩ : (-1 ≤ r_3.toInt) ∧ (r_3.toInt < c.toInt) ∧ (isF_ (cN_ c.toInt tfn tfz) (gx tfz i.toInt + 5) (tn6_ (cN_ c.toInt tfn tfz) i.toInt) r_3.toInt) := ch1
  have tlF := fh6
  obtain ⟨tT, eT⟩ : ∃ z : Int, z = r_3.toInt := ⟨_, rfl⟩
  rw [← eT] at tlF
  refine pb_eq (pc' := 23) (lo' := [(0, .ref h), (1, .ref sp), (2, .int i)]) (rest' := [.int r_3]) (ws' := [(h, .inr (8, [.ref ui, .ref ug, .ref uv, .ref tb, .int 0, .int (-1), .int bg, .int at_, .int en, .int vs, .int io, .int hi, .int ht])), (uv, .inl (G.2.1, 24, .inl vf)), (ug, .inl (G.2.2.1, 200, .inl gf)), (ui, .inl (G.2.2.2.1, 200, .inr (.inl df))), (tb, .inl (G.2.1, 12000, .inl tfb)), (tg, .inl (G.2.2.1, 17, .inl tfg)), (sp, .inr (3, [.ref tn, .ref tz, .ref tb, .ref tg, .int c])), (tn, .inl (G.2.1, 384, .inl tfn)), (tz, .inl (G.2.2.1, 16, .inl tfz))]) ?_
  refine pb_istore_n (pc := 23) (lo' := [(3, .int r_3), (0, .ref h), (1, .ref sp), (2, .int i)]) d_Markup_load_23 rfl (by decide) rfl ?_
  refine pb_iload_n (pc := 24) d_Markup_load_24 0 rfl rfl ?_
  refine pb_if_ge (pc := 25) (tgt := 29) d_Markup_load_25 (by decide) (fun w7 => ?_) (fun w7 => ?_)
  · have tw7 : 0 ≤ r_3.toInt := (ti_le (by decide) rfl).mp w7
    have y1 := sh_rng I (k := r_3.toInt) (by omega) (by omega)
    have y2 := sh_rng I (k := r_3.toInt + 1) (by omega) (by omega)
    have y3 := I.2.2.2.2 r_3.toInt (by omega) (by omega)
    refine pb_aload_n (pc := 29) d_Markup_load_29 1 rfl rfl ?_
    refine pb_aload_n (pc := 30) d_Markup_load_30 2 rfl rfl ?_
    refine pb_getN (pc := 31) d_Markup_load_31 6 3 rfl rfl (by decide) in_Shelf k_400 rfl ?_
    refine pb_iload_n (pc := 34) d_Markup_load_34 0 rfl rfl ?_
    refine pb_iald (pc := 35) d_Markup_load_35 5 rfl (vp_in_iff.mpr (by omega)) ?_
    refine pb_topi (fun i8 ei8 => ?_)
    have ti8 : i8.toInt = gx tfg (r_3.toInt) := gx_ld ei8 rfl
    have bgF : i8.toInt = gx tfg tT := by rw [eT]; omega
    refine pb_put (pc := 36) (ty := .int) (ws' := [(h, .inr (8, [.ref ui, .ref ug, .ref uv, .ref tb, .int 0, .int (-1), .int i8, .int at_, .int en, .int vs, .int io, .int hi, .int ht])), (uv, .inl (G.2.1, 24, .inl vf)), (ug, .inl (G.2.2.1, 200, .inl gf)), (ui, .inl (G.2.2.2.1, 200, .inr (.inl df))), (tb, .inl (G.2.1, 12000, .inl tfb)), (tg, .inl (G.2.2.1, 17, .inl tfg)), (sp, .inr (3, [.ref tn, .ref tz, .ref tb, .ref tg, .int c])), (tn, .inl (G.2.1, 384, .inl tfn)), (tz, .inl (G.2.2.1, 16, .inl tfz))]) d_Markup_load_36 0 6 t_Markup t_Markup_ok n_Markup rfl rfl (by decide) in_Markup k_325 rfl (by decide +kernel) rfl rfl (Nat.le_of_ble_eq_true rfl) rfl ?_
    refine pb_aload_n (pc := 39) d_Markup_load_39 1 rfl rfl ?_
    refine pb_aload_n (pc := 40) d_Markup_load_40 1 rfl rfl ?_
    refine pb_get (pc := 41) d_Markup_load_41 0 6 rfl rfl (by decide) in_Markup k_325 rfl ?_
    refine pb_put (pc := 44) (ty := .int) (ws' := [(h, .inr (8, [.ref ui, .ref ug, .ref uv, .ref tb, .int 0, .int (-1), .int i8, .int i8, .int en, .int vs, .int io, .int hi, .int ht])), (uv, .inl (G.2.1, 24, .inl vf)), (ug, .inl (G.2.2.1, 200, .inl gf)), (ui, .inl (G.2.2.2.1, 200, .inr (.inl df))), (tb, .inl (G.2.1, 12000, .inl tfb)), (tg, .inl (G.2.2.1, 17, .inl tfg)), (sp, .inr (3, [.ref tn, .ref tz, .ref tb, .ref tg, .int c])), (tn, .inl (G.2.1, 384, .inl tfn)), (tz, .inl (G.2.2.1, 16, .inl tfz))]) d_Markup_load_44 0 7 t_Markup t_Markup_ok n_Markup rfl rfl (by decide) in_Markup k_326 rfl (by decide +kernel) rfl rfl (Nat.le_of_ble_eq_true rfl) rfl ?_
    refine pb_aload_n (pc := 47) d_Markup_load_47 1 rfl rfl ?_
    refine pb_aload_n (pc := 48) d_Markup_load_48 2 rfl rfl ?_
    refine pb_getN (pc := 49) d_Markup_load_49 6 3 rfl rfl (by decide) in_Shelf k_400 rfl ?_
    refine pb_iload_n (pc := 52) d_Markup_load_52 0 rfl rfl ?_
    refine pb_iconst (pc := 53) (v := 1) d_Markup_load_53 (by decide) ?_
    refine pb_iadd (pc := 54) d_Markup_load_54 ?_
    refine pb_topi (fun i9 ei9 => ?_)
    try have ti9 : i9.toInt = r_3.toInt + 1 := t2_add ei9 rfl (by decide) (by omega)
    refine pb_iald (pc := 55) d_Markup_load_55 5 rfl (vp_in_iff.mpr (by omega)) ?_
    refine pb_topi (fun i10 ei10 => ?_)
    have ti10 : i10.toInt = gx tfg (r_3.toInt + 1) := gx_ld ei10 (by omega)
    have enF0 : i10.toInt = gx tfg (tT + 1) := by rw [eT]; omega
    refine pb_put (pc := 56) (ty := .int) (ws' := [(h, .inr (8, [.ref ui, .ref ug, .ref uv, .ref tb, .int 0, .int (-1), .int i8, .int i8, .int i10, .int vs, .int io, .int hi, .int ht])), (uv, .inl (G.2.1, 24, .inl vf)), (ug, .inl (G.2.2.1, 200, .inl gf)), (ui, .inl (G.2.2.2.1, 200, .inr (.inl df))), (tb, .inl (G.2.1, 12000, .inl tfb)), (tg, .inl (G.2.2.1, 17, .inl tfg)), (sp, .inr (3, [.ref tn, .ref tz, .ref tb, .ref tg, .int c])), (tn, .inl (G.2.1, 384, .inl tfn)), (tz, .inl (G.2.2.1, 16, .inl tfz))]) d_Markup_load_56 0 8 t_Markup t_Markup_ok n_Markup rfl rfl (by decide) in_Markup k_327 rfl (by decide +kernel) rfl rfl (Nat.le_of_ble_eq_true rfl) rfl ?_
    refine pb_aload_n (pc := 59) d_Markup_load_59 1 rfl rfl ?_
    refine pb_callV (pc := 60) (I := i_Markup_load) (qb := 0) (ci := 8) (nA := 0) (rest := []) (wr := [(uv, .inl (G.2.1, 24, .inl vf)), (ug, .inl (G.2.2.1, 200, .inl gf)), (ui, .inl (G.2.2.2.1, 200, .inr (.inl df))), (tg, .inl (G.2.2.1, 17, .inl tfg)), (sp, .inr (3, [.ref tn, .ref tz, .ref tb, .ref tg, .int c])), (tn, .inl (G.2.1, 384, .inl tfn)), (tz, .inl (G.2.2.1, 16, .inl tfz))]) d_Markup_load_60 (g_Mu_readHead hl G h ui ug uv tb 0 (-1) i8 i8 i10 vs io hi ht tfb (by first | (with_reducible assumption) | omega (splitDisjunctions := false) | assumption | omega | decide) (by first | (with_reducible assumption) | omega (splitDisjunctions := false) | assumption | omega | decide) (by first | (with_reducible assumption) | omega (splitDisjunctions := false) | assumption | omega | decide) (by first | (with_reducible assumption) | omega (splitDisjunctions := false) | assumption | omega | decide) (by first | (with_reducible assumption) | omega (splitDisjunctions := false) | assumption | omega | decide) (by first | (with_reducible assumption) | omega (splitDisjunctions := false) | assumption | omega | decide) F_tfb) rfl rfl [0, 4] [1, 2, 3, 5, 6, 7, 8] (by decide) rfl rfl rfl (by decide) (by decide) k_801 rfl k_125 k_798 k_800 k_30 ⟨rfl, hy_Markup_readHead⟩ (by decide) rfl rfl (Nat.le_of_ble_eq_true rfl) (by decide) (fun v9 u12 ch11 => ?_)
    obtain ⟨r_13, at_14, f_15, io_16⟩ := u12
    obtain ⟨ech11, ch11⟩ := ch11
    have ech11 : v9 = some (.int r_13) := ech11
    subst ech11
    obtain ⟨fh17, fh18, fh19, fh20, fh21⟩ : (r_13.toInt = 0 ∨ r_13.toInt = 1) ∧ (i8.toInt ≤ at_14.toInt) ∧ (at_14.toInt ≤ i10.toInt) ∧ (hd6_ (mB_ tfb i8.toInt) (i10.toInt - i8.toInt) r_13.toInt io_16.toInt (at_14.toInt - i8.toInt)) ∧ (ft_ r_13.toInt ((-1) : Int32).toInt f_15.toInt) := ch11
    have hdF := fh20
    have hdQ := fh21
    refine pb_eq (pc' := 63) (lo' := [(3, .int r_3), (0, .ref h), (1, .ref sp), (2, .int i)]) (rest' := [.int r_13]) (ws' := [(uv, .inl (G.2.1, 24, .inl vf)), (ug, .inl (G.2.2.1, 200, .inl gf)), (ui, .inl (G.2.2.2.1, 200, .inr (.inl df))), (tg, .inl (G.2.2.1, 17, .inl tfg)), (sp, .inr (3, [.ref tn, .ref tz, .ref tb, .ref tg, .int c])), (tn, .inl (G.2.1, 384, .inl tfn)), (tz, .inl (G.2.2.1, 16, .inl tfz)), (h, .inr (8, [.ref ui, .ref ug, .ref uv, .ref tb, .int 0, .int f_15, .int i8, .int at_14, .int i10, .int vs, .int io_16, .int hi, .int ht])), (tb, .inl (G.2.1, 12000, .inl tfb))]) ?_
    refine pb_istore (pc := 63) (lo' := [(4, .int r_13), (3, .int r_3), (0, .ref h), (1, .ref sp), (2, .int i)]) d_Markup_load_63 (by decide) rfl ?_
    refine pb_aload_n (pc := 65) d_Markup_load_65 2 rfl rfl ?_
    refine pb_get (pc := 66) d_Markup_load_66 7 8 rfl rfl (by decide) in_Markup k_327 rfl ?_
    refine pb_aload_n (pc := 69) d_Markup_load_69 2 rfl rfl ?_
    refine pb_get (pc := 70) d_Markup_load_70 7 7 rfl rfl (by decide) in_Markup k_326 rfl ?_
    refine pb_isub (pc := 73) d_Markup_load_73 ?_
    refine pb_topi (fun i22 ei22 => ?_)
    try have ti22 : i22.toInt = i10.toInt - at_14.toInt := t2_sub ei22 rfl rfl (by (exact omg_fc99e3e96b y3 ti8 ti10 fh18 fh19))
    refine pb_istore (pc := 74) (lo' := [(5, .int i22), (4, .int r_13), (3, .int r_3), (0, .ref h), (1, .ref sp), (2, .int i)]) d_Markup_load_74 (by decide) rfl ?_
    have hL76_23 : ∀ (N9 : Nat) (l_ : Int32) (rt : Int32) (ct3 : Int32) (fa3 : Int32) (bg3 : Int32) (at3 : Int32) (en3 : Int32) (vs3 : Int32) (io3 : Int32) (hi3 : Int32) (ht3 : Int32) (vf3 : Nat → Int32) (gf3 : Nat → Int32) (df3 : Nat → Int64), (sb_Fit vf3) → (0 ≤ at3.toInt) → (at3.toInt ≤ en3.toInt) → (en3.toInt ≤ 12000) → (0 ≤ ct3.toInt) → (ct3.toInt ≤ 200) → (0 ≤ bg3.toInt) → (bg3.toInt ≤ at3.toInt) → (bg3.toInt = gx tfg tT) → (en3.toInt = gx tfg (tT + 1)) → (en3.toInt - bg3.toInt ≤ 4000) → (cM6_ (mB_ tfb bg3.toInt) (en3.toInt - bg3.toInt) (cN_ c.toInt tfn tfz) rt.toInt io3.toInt (at3.toInt - bg3.toInt) ct3.toInt gf3) → ((rt.toInt = 0 ∧ 0 ≤ fa3.toInt) ∨ (¬ rt.toInt = 0 ∧ fa3.toInt = -1)) → (¬ rt.toInt = 0 → 20 * ct3.toInt ≤ at3.toInt - bg3.toInt) → (¬ rt.toInt = 0 → en3.toInt - at3.toInt ≤ l_.toInt) → (cM7_ (mB_ tfb bg3.toInt) (en3.toInt - bg3.toInt) rt.toInt io3.toInt (at3.toInt - bg3.toInt) ct3.toInt df3) → (l_.toInt.toNat) < N9 → pb_P l G M i_Markup_load 76 [(5, .int l_), (4, .int rt), (0, .ref h), (1, .ref sp), (2, .int i)] [] [(h, .inr (8, [.ref ui, .ref ug, .ref uv, .ref tb, .int ct3, .int fa3, .int bg3, .int at3, .int en3, .int vs3, .int io3, .int hi3, .int ht3])), (uv, .inl (G.2.1, 24, .inl vf3)), (ug, .inl (G.2.2.1, 200, .inl gf3)), (ui, .inl (G.2.2.2.1, 200, .inr (.inl df3))), (sp, .inr (3, [.ref tn, .ref tz, .ref tb, .ref tg, .int c])), (tn, .inl (G.2.1, 384, .inl tfn)), (tz, .inl (G.2.2.1, 16, .inl tfz)), (tb, .inl (G.2.1, 12000, .inl tfb)), (tg, .inl (G.2.2.1, 17, .inl tfg))] 0 0 := by
      intro N9
      induction N9 with
      | zero => intro l_ rt ct3 fa3 bg3 at3 en3 vs3 io3 hi3 ht3 vf3 gf3 df3 F_vf3 k0 k1 k2 k3 k4 b3_ b4_ bg_ en_ e4 kM kq k20 kl_ kM7 hm9; exact absurd hm9 (Nat.not_lt_zero _)
      | succ N9 ih76 =>
        intro l_ rt ct3 fa3 bg3 at3 en3 vs3 io3 hi3 ht3 vf3 gf3 df3 F_vf3 k0 k1 k2 k3 k4 b3_ b4_ bg_ en_ e4 kM kq k20 kl_ kM7 hm9
        have rl_ := ti_rng l_
        refine pb_iload (pc := 76) d_Markup_load_76 0 rfl ?_
        refine pb_if_le (pc := 78) (tgt := 121) d_Markup_load_78 (by decide) (fun w24 => ?_) (fun w24 => ?_)
        · have tw24 : l_.toInt ≤ 0 := (ti_le rfl (by decide)).mp w24
          refine pb_iload (pc := 121) d_Markup_load_121 1 rfl ?_
          refine pb_if_eq (pc := 123) (tgt := 133) d_Markup_load_123 (by decide) (fun w25 => ?_) (fun w25 => ?_)
          · have tw25 : rt.toInt = 0 := (ti_eq rfl (by decide)).mp w25
            refine pb_aload_n (pc := 133) d_Markup_load_133 2 rfl rfl ?_
            refine pb_iconst (pc := 134) (v := 0) d_Markup_load_134 (by decide) ?_
            refine pb_put (pc := 135) (ty := .int) (ws' := [(h, .inr (8, [.ref ui, .ref ug, .ref uv, .ref tb, .int 0, .int fa3, .int bg3, .int at3, .int en3, .int vs3, .int io3, .int hi3, .int ht3])), (uv, .inl (G.2.1, 24, .inl vf3)), (ug, .inl (G.2.2.1, 200, .inl gf3)), (ui, .inl (G.2.2.2.1, 200, .inr (.inl df3))), (sp, .inr (3, [.ref tn, .ref tz, .ref tb, .ref tg, .int c])), (tn, .inl (G.2.1, 384, .inl tfn)), (tz, .inl (G.2.2.1, 16, .inl tfz)), (tb, .inl (G.2.1, 12000, .inl tfb)), (tg, .inl (G.2.2.1, 17, .inl tfg))]) d_Markup_load_135 0 4 t_Markup t_Markup_ok n_Markup rfl rfl (by decide) in_Markup k_321 rfl (by decide +kernel) rfl rfl (Nat.le_of_ble_eq_true rfl) rfl ?_
            exact pb_vret (pc := 138) hQ d_Markup_load_138 rfl (0, fa3, bg3, at3, en3, vs3, io3, hi3, ht3, vf3, gf3, df3) ⟨rfl, (by (try dsimp only); first | done | (with_reducible assumption) | omega (splitDisjunctions := false) | assumption | omega | decide), (by (try dsimp only); first | done | (with_reducible assumption) | omega (splitDisjunctions := false) | assumption | omega | decide), (show hid_ (∃ t : Int, isF_ (cN_ c.toInt tfn tfz) (gx tfz i.toInt + 5) (tn6_ (cN_ c.toInt tfn tfz) i.toInt) t ∧ lo6_ (cN_ c.toInt tfn tfz) t tfb tfg (0 : Int32).toInt fa3.toInt gf3) from (hid_i ⟨_, tlF, lo_m (b3 := bg3.toInt) (e3 := en3.toInt) (by omega) (by omega) (by omega) (by first | exact cR_t kM (by omega) (by first | (intro q9; have q8 := enF.mpr q9; omega) | (intro q9; have q6 := kl_ (by omega); have q8 := cm_in (B := mB_ tfb bg3.toInt) (n := en3.toInt - bg3.toInt) (j := at3.toInt - bg3.toInt) (by omega); omega)) tlG (by unfold ft_ at tlQ; omega) | exact cR_n kM (by omega) (by (exact omg_39dcde38e8 kq tw25)) zl0)⟩)), (show hid_ (∃ t : Int, isF_ (cN_ c.toInt tfn tfz) (gx tfz i.toInt + 5) (tn6_ (cN_ c.toInt tfn tfz) i.toInt) t ∧ lo7_ t tfb tfg df3) from (hid_i ⟨_, tlF, lo7_m (b3 := bg3.toInt) (e3 := en3.toInt) (by omega) (by omega) (by omega) (fun K9 e9 => by first | exact cR7_t kM7 kM (by omega) (by first | (intro q9; have q8 := enF.mpr q9; omega) | (intro q9; have q6 := kl_ (by omega); have q8 := cm_in (B := mB_ tfb bg3.toInt) (n := en3.toInt - bg3.toInt) (j := at3.toInt - bg3.toInt) (by omega); omega)) e9 | exact cR7_n kM (by omega) e9)⟩)), F_vf3⟩ [0, 1, 2, 3, 4, 5, 6, 7, 8] (by decide) rfl rfl (by decide) (by decide)
          · have tw25 : ¬ rt.toInt = 0 := fun z9 => w25 ((ti_eq rfl (by decide)).mpr z9)
            refine pb_aload_n (pc := 126) d_Markup_load_126 2 rfl rfl ?_
            refine pb_callV (pc := 127) (I := i_Markup_load) (qb := 0) (ci := 8) (nA := 0) (rest := []) (wr := [(uv, .inl (G.2.1, 24, .inl vf3)), (ug, .inl (G.2.2.1, 200, .inl gf3)), (ui, .inl (G.2.2.2.1, 200, .inr (.inl df3))), (sp, .inr (3, [.ref tn, .ref tz, .ref tb, .ref tg, .int c])), (tn, .inl (G.2.1, 384, .inl tfn)), (tz, .inl (G.2.2.1, 16, .inl tfz)), (tg, .inl (G.2.2.1, 17, .inl tfg))]) d_Markup_load_127 (g_Mu_readTail hl G h ui ug uv tb ct3 fa3 bg3 at3 en3 vs3 io3 hi3 ht3 tfb (by first | (with_reducible assumption) | omega (splitDisjunctions := false) | assumption | omega | decide) (by first | (with_reducible assumption) | omega (splitDisjunctions := false) | assumption | omega | decide) (by first | (with_reducible assumption) | omega (splitDisjunctions := false) | assumption | omega | decide) (by first | (with_reducible assumption) | omega (splitDisjunctions := false) | assumption | omega | decide) (by first | (with_reducible assumption) | omega (splitDisjunctions := false) | assumption | omega | decide) F_tfb) rfl rfl [0, 7] [1, 2, 3, 4, 5, 6, 8] (by decide) rfl rfl rfl (by decide) (by decide) k_896 rfl k_125 k_893 k_895 k_48 ⟨rfl, hy_Markup_readTail⟩ (by decide) rfl rfl (Nat.le_of_ble_eq_true rfl) (by decide) (fun v9 u27 ch26 => ?_)
            obtain ⟨r_28, at_29, f_30⟩ := u27
            obtain ⟨ech26, ch26⟩ := ch26
            have ech26 : v9 = some (.int r_28) := ech26
            subst ech26
            obtain ⟨fh31, fh32, fh33, fh34, fh35⟩ : (r_28.toInt = 0 ∨ r_28.toInt = 1) ∧ (at3.toInt ≤ at_29.toInt) ∧ (at_29.toInt ≤ en3.toInt) ∧ (tl6_ (mB_ tfb bg3.toInt) (en3.toInt - bg3.toInt) io3.toInt r_28.toInt (at3.toInt - bg3.toInt)) ∧ (ft_ r_28.toInt fa3.toInt f_30.toInt) := ch26
            have tlG := fh34
            have tlQ := fh35
            refine pb_eq (pc' := 130) (lo' := [(5, .int l_), (4, .int rt), (0, .ref h), (1, .ref sp), (2, .int i)]) (rest' := [.int r_28]) (ws' := [(uv, .inl (G.2.1, 24, .inl vf3)), (ug, .inl (G.2.2.1, 200, .inl gf3)), (ui, .inl (G.2.2.2.1, 200, .inr (.inl df3))), (sp, .inr (3, [.ref tn, .ref tz, .ref tb, .ref tg, .int c])), (tn, .inl (G.2.1, 384, .inl tfn)), (tz, .inl (G.2.2.1, 16, .inl tfz)), (tg, .inl (G.2.2.1, 17, .inl tfg)), (h, .inr (8, [.ref ui, .ref ug, .ref uv, .ref tb, .int ct3, .int f_30, .int bg3, .int at_29, .int en3, .int vs3, .int io3, .int hi3, .int ht3])), (tb, .inl (G.2.1, 12000, .inl tfb))]) ?_
            refine pb_if_ne (pc := 130) (tgt := 138) d_Markup_load_130 (by decide) (fun w36 => ?_) (fun w36 => ?_)
            · have tw36 : ¬ r_28.toInt = 0 := fun z9 => w36 ((ti_eq rfl (by decide)).mpr z9)
              exact pb_vret (pc := 138) hQ d_Markup_load_138 rfl (ct3, f_30, bg3, at_29, en3, vs3, io3, hi3, ht3, vf3, gf3, df3) ⟨rfl, (by (try dsimp only); first | done | (with_reducible assumption) | omega (splitDisjunctions := false) | assumption | omega | decide), (by (try dsimp only); first | done | (with_reducible assumption) | omega (splitDisjunctions := false) | assumption | omega | decide), (show hid_ (∃ t : Int, isF_ (cN_ c.toInt tfn tfz) (gx tfz i.toInt + 5) (tn6_ (cN_ c.toInt tfn tfz) i.toInt) t ∧ lo6_ (cN_ c.toInt tfn tfz) t tfb tfg ct3.toInt f_30.toInt gf3) from (hid_i ⟨_, tlF, lo_m (b3 := bg3.toInt) (e3 := en3.toInt) (by omega) (by omega) (by omega) (by first | exact cR_t kM (by omega) (by first | (intro q9; have q8 := enF.mpr q9; omega) | (intro q9; have q6 := kl_ (by omega); have q8 := cm_in (B := mB_ tfb bg3.toInt) (n := en3.toInt - bg3.toInt) (j := at3.toInt - bg3.toInt) (by omega); (exact omg_6f878adb10 tw24 q6 q8))) tlG (by unfold ft_ at tlQ; (exact omg_2bcadcc449 kq tw25 tlQ tw36)) | exact cR_n kM (by omega) (by omega) zl0)⟩)), (show hid_ (∃ t : Int, isF_ (cN_ c.toInt tfn tfz) (gx tfz i.toInt + 5) (tn6_ (cN_ c.toInt tfn tfz) i.toInt) t ∧ lo7_ t tfb tfg df3) from (hid_i ⟨_, tlF, lo7_m (b3 := bg3.toInt) (e3 := en3.toInt) (by omega) (by omega) (by omega) (fun K9 e9 => by first | exact cR7_t kM7 kM (by omega) (by first | (intro q9; have q8 := enF.mpr q9; omega) | (intro q9; have q6 := kl_ (by omega); have q8 := cm_in (B := mB_ tfb bg3.toInt) (n := en3.toInt - bg3.toInt) (j := at3.toInt - bg3.toInt) (by omega); omega)) e9 | exact cR7_n kM (by omega) e9)⟩)), F_vf3⟩ [7, 0, 1, 2, 3, 4, 5, 8, 6] (by decide) rfl rfl (by decide) (by decide)
            · have tw36 : r_28.toInt = 0 := (ti_eq rfl (by decide)).mp w36
              refine pb_aload_n (pc := 133) d_Markup_load_133 2 rfl rfl ?_
              refine pb_iconst (pc := 134) (v := 0) d_Markup_load_134 (by decide) ?_
              refine pb_put (pc := 135) (ty := .int) (ws' := [(uv, .inl (G.2.1, 24, .inl vf3)), (ug, .inl (G.2.2.1, 200, .inl gf3)), (ui, .inl (G.2.2.2.1, 200, .inr (.inl df3))), (sp, .inr (3, [.ref tn, .ref tz, .ref tb, .ref tg, .int c])), (tn, .inl (G.2.1, 384, .inl tfn)), (tz, .inl (G.2.2.1, 16, .inl tfz)), (tg, .inl (G.2.2.1, 17, .inl tfg)), (h, .inr (8, [.ref ui, .ref ug, .ref uv, .ref tb, .int 0, .int f_30, .int bg3, .int at_29, .int en3, .int vs3, .int io3, .int hi3, .int ht3])), (tb, .inl (G.2.1, 12000, .inl tfb))]) d_Markup_load_135 7 4 t_Markup t_Markup_ok n_Markup rfl rfl (by decide) in_Markup k_321 rfl (by decide +kernel) rfl rfl (Nat.le_of_ble_eq_true rfl) rfl ?_
              exact pb_vret (pc := 138) hQ d_Markup_load_138 rfl (0, f_30, bg3, at_29, en3, vs3, io3, hi3, ht3, vf3, gf3, df3) ⟨rfl, (by (try dsimp only); first | done | (with_reducible assumption) | omega (splitDisjunctions := false) | assumption | omega | decide), (by (try dsimp only); first | done | (with_reducible assumption) | omega (splitDisjunctions := false) | assumption | omega | decide), (show hid_ (∃ t : Int, isF_ (cN_ c.toInt tfn tfz) (gx tfz i.toInt + 5) (tn6_ (cN_ c.toInt tfn tfz) i.toInt) t ∧ lo6_ (cN_ c.toInt tfn tfz) t tfb tfg (0 : Int32).toInt f_30.toInt gf3) from (hid_i ⟨_, tlF, lo_m (b3 := bg3.toInt) (e3 := en3.toInt) (by omega) (by omega) (by omega) (by first | exact cR_t kM (by omega) (by first | (intro q9; have q8 := enF.mpr q9; omega) | (intro q9; have q6 := kl_ (by omega); have q8 := cm_in (B := mB_ tfb bg3.toInt) (n := en3.toInt - bg3.toInt) (j := at3.toInt - bg3.toInt) (by omega); (exact omg_6f878adb10 tw24 q6 q8))) tlG (by unfold ft_ at tlQ; (exact omg_7899061515 zl0 tlQ tw36)) | exact cR_n kM (by omega) (by omega) zl0)⟩)), (show hid_ (∃ t : Int, isF_ (cN_ c.toInt tfn tfz) (gx tfz i.toInt + 5) (tn6_ (cN_ c.toInt tfn tfz) i.toInt) t ∧ lo7_ t tfb tfg df3) from (hid_i ⟨_, tlF, lo7_m (b3 := bg3.toInt) (e3 := en3.toInt) (by omega) (by omega) (by omega) (fun K9 e9 => by first | exact cR7_t kM7 kM (by omega) (by first | (intro q9; have q8 := enF.mpr q9; omega) | (intro q9; have q6 := kl_ (by omega); have q8 := cm_in (B := mB_ tfb bg3.toInt) (n := en3.toInt - bg3.toInt) (j := at3.toInt - bg3.toInt) (by omega); omega)) e9 | exact cR7_n kM (by omega) e9)⟩)), F_vf3⟩ [7, 0, 1, 2, 3, 4, 5, 8, 6] (by decide) rfl rfl (by decide) (by decide)
        · have tw24 : ¬ l_.toInt ≤ 0 := fun z9 => w24 ((ti_le rfl (by decide)).mpr z9)
          refine pb_iload (pc := 81) d_Markup_load_81 1 rfl ?_
          refine pb_if_eq (pc := 83) (tgt := 121) d_Markup_load_83 (by decide) (fun w37 => ?_) (fun w37 => ?_)
          · have tw37 : rt.toInt = 0 := (ti_eq rfl (by decide)).mp w37
            refine pb_iload (pc := 121) d_Markup_load_121 1 rfl ?_
            refine pb_if_eq (pc := 123) (tgt := 133) d_Markup_load_123 (by decide) (fun w38 => ?_) (fun w38 => ?_)
            · have tw38 : rt.toInt = 0 := (ti_eq rfl (by decide)).mp w38
              refine pb_aload_n (pc := 133) d_Markup_load_133 2 rfl rfl ?_
              refine pb_iconst (pc := 134) (v := 0) d_Markup_load_134 (by decide) ?_
              refine pb_put (pc := 135) (ty := .int) (ws' := [(h, .inr (8, [.ref ui, .ref ug, .ref uv, .ref tb, .int 0, .int fa3, .int bg3, .int at3, .int en3, .int vs3, .int io3, .int hi3, .int ht3])), (uv, .inl (G.2.1, 24, .inl vf3)), (ug, .inl (G.2.2.1, 200, .inl gf3)), (ui, .inl (G.2.2.2.1, 200, .inr (.inl df3))), (sp, .inr (3, [.ref tn, .ref tz, .ref tb, .ref tg, .int c])), (tn, .inl (G.2.1, 384, .inl tfn)), (tz, .inl (G.2.2.1, 16, .inl tfz)), (tb, .inl (G.2.1, 12000, .inl tfb)), (tg, .inl (G.2.2.1, 17, .inl tfg))]) d_Markup_load_135 0 4 t_Markup t_Markup_ok n_Markup rfl rfl (by decide) in_Markup k_321 rfl (by decide +kernel) rfl rfl (Nat.le_of_ble_eq_true rfl) rfl ?_
              exact pb_vret (pc := 138) hQ d_Markup_load_138 rfl (0, fa3, bg3, at3, en3, vs3, io3, hi3, ht3, vf3, gf3, df3) ⟨rfl, (by (try dsimp only); first | done | (with_reducible assumption) | omega (splitDisjunctions := false) | assumption | omega | decide), (by (try dsimp only); first | done | (with_reducible assumption) | omega (splitDisjunctions := false) | assumption | omega | decide), (show hid_ (∃ t : Int, isF_ (cN_ c.toInt tfn tfz) (gx tfz i.toInt + 5) (tn6_ (cN_ c.toInt tfn tfz) i.toInt) t ∧ lo6_ (cN_ c.toInt tfn tfz) t tfb tfg (0 : Int32).toInt fa3.toInt gf3) from (hid_i ⟨_, tlF, lo_m (b3 := bg3.toInt) (e3 := en3.toInt) (by omega) (by omega) (by omega) (by first | exact cR_t kM (by omega) (by first | (intro q9; have q8 := enF.mpr q9; omega) | (intro q9; have q6 := kl_ (by omega); have q8 := cm_in (B := mB_ tfb bg3.toInt) (n := en3.toInt - bg3.toInt) (j := at3.toInt - bg3.toInt) (by omega); omega)) tlG (by unfold ft_ at tlQ; omega) | exact cR_n kM (by omega) (by (exact omg_39dcde38e8 kq tw37)) zl0)⟩)), (show hid_ (∃ t : Int, isF_ (cN_ c.toInt tfn tfz) (gx tfz i.toInt + 5) (tn6_ (cN_ c.toInt tfn tfz) i.toInt) t ∧ lo7_ t tfb tfg df3) from (hid_i ⟨_, tlF, lo7_m (b3 := bg3.toInt) (e3 := en3.toInt) (by omega) (by omega) (by omega) (fun K9 e9 => by first | exact cR7_t kM7 kM (by omega) (by first | (intro q9; have q8 := enF.mpr q9; omega) | (intro q9; have q6 := kl_ (by omega); have q8 := cm_in (B := mB_ tfb bg3.toInt) (n := en3.toInt - bg3.toInt) (j := at3.toInt - bg3.toInt) (by omega); omega)) e9 | exact cR7_n kM (by omega) e9)⟩)), F_vf3⟩ [0, 1, 2, 3, 4, 5, 6, 7, 8] (by decide) rfl rfl (by decide) (by decide)
            · have tw38 : ¬ rt.toInt = 0 := fun z9 => w38 ((ti_eq rfl (by decide)).mpr z9)
              refine pb_aload_n (pc := 126) d_Markup_load_126 2 rfl rfl ?_
              refine pb_callV (pc := 127) (I := i_Markup_load) (qb := 0) (ci := 8) (nA := 0) (rest := []) (wr := [(uv, .inl (G.2.1, 24, .inl vf3)), (ug, .inl (G.2.2.1, 200, .inl gf3)), (ui, .inl (G.2.2.2.1, 200, .inr (.inl df3))), (sp, .inr (3, [.ref tn, .ref tz, .ref tb, .ref tg, .int c])), (tn, .inl (G.2.1, 384, .inl tfn)), (tz, .inl (G.2.2.1, 16, .inl tfz)), (tg, .inl (G.2.2.1, 17, .inl tfg))]) d_Markup_load_127 (g_Mu_readTail hl G h ui ug uv tb ct3 fa3 bg3 at3 en3 vs3 io3 hi3 ht3 tfb (by first | (with_reducible assumption) | omega (splitDisjunctions := false) | assumption | omega | decide) (by first | (with_reducible assumption) | omega (splitDisjunctions := false) | assumption | omega | decide) (by first | (with_reducible assumption) | omega (splitDisjunctions := false) | assumption | omega | decide) (by first | (with_reducible assumption) | omega (splitDisjunctions := false) | assumption | omega | decide) (by first | (with_reducible assumption) | omega (splitDisjunctions := false) | assumption | omega | decide) F_tfb) rfl rfl [0, 7] [1, 2, 3, 4, 5, 6, 8] (by decide) rfl rfl rfl (by decide) (by decide) k_896 rfl k_125 k_893 k_895 k_48 ⟨rfl, hy_Markup_readTail⟩ (by decide) rfl rfl (Nat.le_of_ble_eq_true rfl) (by decide) (fun v9 u40 ch39 => ?_)
              obtain ⟨r_41, at_42, f_43⟩ := u40
              obtain ⟨ech39, ch39⟩ := ch39
              have ech39 : v9 = some (.int r_41) := ech39
              subst ech39
              obtain ⟨fh44, fh45, fh46, fh47, fh48⟩ : (r_41.toInt = 0 ∨ r_41.toInt = 1) ∧ (at3.toInt ≤ at_42.toInt) ∧ (at_42.toInt ≤ en3.toInt) ∧ (tl6_ (mB_ tfb bg3.toInt) (en3.toInt - bg3.toInt) io3.toInt r_41.toInt (at3.toInt - bg3.toInt)) ∧ (ft_ r_41.toInt fa3.toInt f_43.toInt) := ch39
              have tlG := fh47
              have tlQ := fh48
              refine pb_eq (pc' := 130) (lo' := [(5, .int l_), (4, .int rt), (0, .ref h), (1, .ref sp), (2, .int i)]) (rest' := [.int r_41]) (ws' := [(uv, .inl (G.2.1, 24, .inl vf3)), (ug, .inl (G.2.2.1, 200, .inl gf3)), (ui, .inl (G.2.2.2.1, 200, .inr (.inl df3))), (sp, .inr (3, [.ref tn, .ref tz, .ref tb, .ref tg, .int c])), (tn, .inl (G.2.1, 384, .inl tfn)), (tz, .inl (G.2.2.1, 16, .inl tfz)), (tg, .inl (G.2.2.1, 17, .inl tfg)), (h, .inr (8, [.ref ui, .ref ug, .ref uv, .ref tb, .int ct3, .int f_43, .int bg3, .int at_42, .int en3, .int vs3, .int io3, .int hi3, .int ht3])), (tb, .inl (G.2.1, 12000, .inl tfb))]) ?_
              refine pb_if_ne (pc := 130) (tgt := 138) d_Markup_load_130 (by decide) (fun w49 => ?_) (fun w49 => ?_)
              · have tw49 : ¬ r_41.toInt = 0 := fun z9 => w49 ((ti_eq rfl (by decide)).mpr z9)
                exact pb_vret (pc := 138) hQ d_Markup_load_138 rfl (ct3, f_43, bg3, at_42, en3, vs3, io3, hi3, ht3, vf3, gf3, df3) ⟨rfl, (by (try dsimp only); first | done | (with_reducible assumption) | omega (splitDisjunctions := false) | assumption | omega | decide), (by (try dsimp only); first | done | (with_reducible assumption) | omega (splitDisjunctions := false) | assumption | omega | decide), (show hid_ (∃ t : Int, isF_ (cN_ c.toInt tfn tfz) (gx tfz i.toInt + 5) (tn6_ (cN_ c.toInt tfn tfz) i.toInt) t ∧ lo6_ (cN_ c.toInt tfn tfz) t tfb tfg ct3.toInt f_43.toInt gf3) from (hid_i ⟨_, tlF, lo_m (b3 := bg3.toInt) (e3 := en3.toInt) (by omega) (by omega) (by omega) (by first | exact cR_t kM (by omega) (by first | (intro q9; have q8 := enF.mpr q9; omega) | (intro q9; have q6 := kl_ (by omega); have q8 := cm_in (B := mB_ tfb bg3.toInt) (n := en3.toInt - bg3.toInt) (j := at3.toInt - bg3.toInt) (by omega); (exact omg_2c85e6cdb9 tw37 tw38))) tlG (by unfold ft_ at tlQ; (exact omg_c415863db8 tw37 tw38)) | exact cR_n kM (by omega) (by omega) zl0)⟩)), (show hid_ (∃ t : Int, isF_ (cN_ c.toInt tfn tfz) (gx tfz i.toInt + 5) (tn6_ (cN_ c.toInt tfn tfz) i.toInt) t ∧ lo7_ t tfb tfg df3) from (hid_i ⟨_, tlF, lo7_m (b3 := bg3.toInt) (e3 := en3.toInt) (by omega) (by omega) (by omega) (fun K9 e9 => by first | exact cR7_t kM7 kM (by omega) (by first | (intro q9; have q8 := enF.mpr q9; omega) | (intro q9; have q6 := kl_ (by omega); have q8 := cm_in (B := mB_ tfb bg3.toInt) (n := en3.toInt - bg3.toInt) (j := at3.toInt - bg3.toInt) (by omega); omega)) e9 | exact cR7_n kM (by omega) e9)⟩)), F_vf3⟩ [7, 0, 1, 2, 3, 4, 5, 8, 6] (by decide) rfl rfl (by decide) (by decide)
              · have tw49 : r_41.toInt = 0 := (ti_eq rfl (by decide)).mp w49
                refine pb_aload_n (pc := 133) d_Markup_load_133 2 rfl rfl ?_
                refine pb_iconst (pc := 134) (v := 0) d_Markup_load_134 (by decide) ?_
                refine pb_put (pc := 135) (ty := .int) (ws' := [(uv, .inl (G.2.1, 24, .inl vf3)), (ug, .inl (G.2.2.1, 200, .inl gf3)), (ui, .inl (G.2.2.2.1, 200, .inr (.inl df3))), (sp, .inr (3, [.ref tn, .ref tz, .ref tb, .ref tg, .int c])), (tn, .inl (G.2.1, 384, .inl tfn)), (tz, .inl (G.2.2.1, 16, .inl tfz)), (tg, .inl (G.2.2.1, 17, .inl tfg)), (h, .inr (8, [.ref ui, .ref ug, .ref uv, .ref tb, .int 0, .int f_43, .int bg3, .int at_42, .int en3, .int vs3, .int io3, .int hi3, .int ht3])), (tb, .inl (G.2.1, 12000, .inl tfb))]) d_Markup_load_135 7 4 t_Markup t_Markup_ok n_Markup rfl rfl (by decide) in_Markup k_321 rfl (by decide +kernel) rfl rfl (Nat.le_of_ble_eq_true rfl) rfl ?_
                exact pb_vret (pc := 138) hQ d_Markup_load_138 rfl (0, f_43, bg3, at_42, en3, vs3, io3, hi3, ht3, vf3, gf3, df3) ⟨rfl, (by (try dsimp only); first | done | (with_reducible assumption) | omega (splitDisjunctions := false) | assumption | omega | decide), (by (try dsimp only); first | done | (with_reducible assumption) | omega (splitDisjunctions := false) | assumption | omega | decide), (show hid_ (∃ t : Int, isF_ (cN_ c.toInt tfn tfz) (gx tfz i.toInt + 5) (tn6_ (cN_ c.toInt tfn tfz) i.toInt) t ∧ lo6_ (cN_ c.toInt tfn tfz) t tfb tfg (0 : Int32).toInt f_43.toInt gf3) from (hid_i ⟨_, tlF, lo_m (b3 := bg3.toInt) (e3 := en3.toInt) (by omega) (by omega) (by omega) (by first | exact cR_t kM (by omega) (by first | (intro q9; have q8 := enF.mpr q9; omega) | (intro q9; have q6 := kl_ (by omega); have q8 := cm_in (B := mB_ tfb bg3.toInt) (n := en3.toInt - bg3.toInt) (j := at3.toInt - bg3.toInt) (by omega); omega)) tlG (by unfold ft_ at tlQ; (exact omg_7899061515 zl0 tlQ tw49)) | exact cR_n kM (by omega) (by omega) zl0)⟩)), (show hid_ (∃ t : Int, isF_ (cN_ c.toInt tfn tfz) (gx tfz i.toInt + 5) (tn6_ (cN_ c.toInt tfn tfz) i.toInt) t ∧ lo7_ t tfb tfg df3) from (hid_i ⟨_, tlF, lo7_m (b3 := bg3.toInt) (e3 := en3.toInt) (by omega) (by omega) (by omega) (fun K9 e9 => by first | exact cR7_t kM7 kM (by omega) (by first | (intro q9; have q8 := enF.mpr q9; omega) | (intro q9; have q6 := kl_ (by omega); have q8 := cm_in (B := mB_ tfb bg3.toInt) (n := en3.toInt - bg3.toInt) (j := at3.toInt - bg3.toInt) (by omega); omega)) e9 | exact cR7_n kM (by omega) e9)⟩)), F_vf3⟩ [7, 0, 1, 2, 3, 4, 5, 8, 6] (by decide) rfl rfl (by decide) (by decide)
          · have tw37 : ¬ rt.toInt = 0 := fun z9 => w37 ((ti_eq rfl (by decide)).mpr z9)
            refine pb_aload_n (pc := 86) d_Markup_load_86 2 rfl rfl ?_
            refine pb_callV (pc := 87) (I := i_Markup_load) (qb := 0) (ci := 8) (nA := 0) (rest := []) (wr := [(uv, .inl (G.2.1, 24, .inl vf3)), (ug, .inl (G.2.2.1, 200, .inl gf3)), (ui, .inl (G.2.2.2.1, 200, .inr (.inl df3))), (sp, .inr (3, [.ref tn, .ref tz, .ref tb, .ref tg, .int c])), (tn, .inl (G.2.1, 384, .inl tfn)), (tz, .inl (G.2.2.1, 16, .inl tfz)), (tg, .inl (G.2.2.1, 17, .inl tfg))]) d_Markup_load_87 (g_Mu_isElementNext hl G h ui ug uv tb ct3 fa3 bg3 at3 en3 vs3 io3 hi3 ht3 tfb (by first | (with_reducible assumption) | omega (splitDisjunctions := false) | assumption | omega | decide) (by first | (with_reducible assumption) | omega (splitDisjunctions := false) | assumption | omega | decide) (by first | (with_reducible assumption) | omega (splitDisjunctions := false) | assumption | omega | decide) (by first | (with_reducible assumption) | omega (splitDisjunctions := false) | assumption | omega | decide) (by first | (with_reducible assumption) | omega (splitDisjunctions := false) | assumption | omega | decide) F_tfb) rfl rfl [0, 7] [1, 2, 3, 4, 5, 6, 8] (by decide) rfl rfl rfl (by decide) (by decide) k_839 rfl k_125 k_836 k_838 k_37 ⟨rfl, hy_Markup_isElementNext⟩ (by decide) rfl rfl (Nat.le_of_ble_eq_true rfl) (by decide) (fun v9 u51 ch50 => ?_)
            obtain ⟨r_52, rfl⟩ : ∃ z9, z9 = u51 := ⟨_, rfl⟩
            obtain ⟨ech50, ch50⟩ := ch50
            have ech50 : v9 = some (.int r_52) := ech50
            subst ech50
            obtain ⟨fh53, fh54⟩ : (r_52.toInt = 0 ∨ r_52.toInt = 1) ∧ (hid_ (r_52.toInt = 1 ↔ (¬ io3.toInt = 0 ∧ cm_ (mB_ tfb bg3.toInt) (en3.toInt - bg3.toInt) (at3.toInt - bg3.toInt) = 60 ∧ ¬ cm_ (mB_ tfb bg3.toInt) (en3.toInt - bg3.toInt) ((at3.toInt - bg3.toInt) + 1) = 47))) := ch50
            have enF := hid_o fh54
            refine pb_eq (pc' := 90) (lo' := [(5, .int l_), (4, .int rt), (0, .ref h), (1, .ref sp), (2, .int i)]) (rest' := [.int r_52]) (ws' := [(uv, .inl (G.2.1, 24, .inl vf3)), (ug, .inl (G.2.2.1, 200, .inl gf3)), (ui, .inl (G.2.2.2.1, 200, .inr (.inl df3))), (sp, .inr (3, [.ref tn, .ref tz, .ref tb, .ref tg, .int c])), (tn, .inl (G.2.1, 384, .inl tfn)), (tz, .inl (G.2.2.1, 16, .inl tfz)), (tg, .inl (G.2.2.1, 17, .inl tfg)), (h, .inr (8, [.ref ui, .ref ug, .ref uv, .ref tb, .int ct3, .int fa3, .int bg3, .int at3, .int en3, .int vs3, .int io3, .int hi3, .int ht3])), (tb, .inl (G.2.1, 12000, .inl tfb))]) ?_
            refine pb_if_eq (pc := 90) (tgt := 121) d_Markup_load_90 (by decide) (fun w55 => ?_) (fun w55 => ?_)
            · have tw55 : r_52.toInt = 0 := (ti_eq rfl (by decide)).mp w55
              refine pb_iload (pc := 121) d_Markup_load_121 1 rfl ?_
              refine pb_if_eq (pc := 123) (tgt := 133) d_Markup_load_123 (by decide) (fun w56 => ?_) (fun w56 => ?_)
              · have tw56 : rt.toInt = 0 := (ti_eq rfl (by decide)).mp w56
                refine pb_aload_n (pc := 133) d_Markup_load_133 2 rfl rfl ?_
                refine pb_iconst (pc := 134) (v := 0) d_Markup_load_134 (by decide) ?_
                refine pb_put (pc := 135) (ty := .int) (ws' := [(uv, .inl (G.2.1, 24, .inl vf3)), (ug, .inl (G.2.2.1, 200, .inl gf3)), (ui, .inl (G.2.2.2.1, 200, .inr (.inl df3))), (sp, .inr (3, [.ref tn, .ref tz, .ref tb, .ref tg, .int c])), (tn, .inl (G.2.1, 384, .inl tfn)), (tz, .inl (G.2.2.1, 16, .inl tfz)), (tg, .inl (G.2.2.1, 17, .inl tfg)), (h, .inr (8, [.ref ui, .ref ug, .ref uv, .ref tb, .int 0, .int fa3, .int bg3, .int at3, .int en3, .int vs3, .int io3, .int hi3, .int ht3])), (tb, .inl (G.2.1, 12000, .inl tfb))]) d_Markup_load_135 7 4 t_Markup t_Markup_ok n_Markup rfl rfl (by decide) in_Markup k_321 rfl (by decide +kernel) rfl rfl (Nat.le_of_ble_eq_true rfl) rfl ?_
                exact pb_vret (pc := 138) hQ d_Markup_load_138 rfl (0, fa3, bg3, at3, en3, vs3, io3, hi3, ht3, vf3, gf3, df3) ⟨rfl, (by (try dsimp only); first | done | (with_reducible assumption) | omega (splitDisjunctions := false) | assumption | omega | decide), (by (try dsimp only); first | done | (with_reducible assumption) | omega (splitDisjunctions := false) | assumption | omega | decide), (show hid_ (∃ t : Int, isF_ (cN_ c.toInt tfn tfz) (gx tfz i.toInt + 5) (tn6_ (cN_ c.toInt tfn tfz) i.toInt) t ∧ lo6_ (cN_ c.toInt tfn tfz) t tfb tfg (0 : Int32).toInt fa3.toInt gf3) from (hid_i ⟨_, tlF, lo_m (b3 := bg3.toInt) (e3 := en3.toInt) (by omega) (by omega) (by omega) (by first | exact cR_t kM (by omega) (by first | (intro q9; have q8 := enF.mpr q9; omega) | (intro q9; have q6 := kl_ (by omega); have q8 := cm_in (B := mB_ tfb bg3.toInt) (n := en3.toInt - bg3.toInt) (j := at3.toInt - bg3.toInt) (by omega); omega)) tlG (by unfold ft_ at tlQ; omega) | exact cR_n kM (by omega) (by (exact omg_d7118fc080 tw37 tw56)) zl0)⟩)), (show hid_ (∃ t : Int, isF_ (cN_ c.toInt tfn tfz) (gx tfz i.toInt + 5) (tn6_ (cN_ c.toInt tfn tfz) i.toInt) t ∧ lo7_ t tfb tfg df3) from (hid_i ⟨_, tlF, lo7_m (b3 := bg3.toInt) (e3 := en3.toInt) (by omega) (by omega) (by omega) (fun K9 e9 => by first | exact cR7_t kM7 kM (by omega) (by first | (intro q9; have q8 := enF.mpr q9; omega) | (intro q9; have q6 := kl_ (by omega); have q8 := cm_in (B := mB_ tfb bg3.toInt) (n := en3.toInt - bg3.toInt) (j := at3.toInt - bg3.toInt) (by omega); omega)) e9 | exact cR7_n kM (by omega) e9)⟩)), F_vf3⟩ [7, 0, 1, 2, 3, 4, 5, 8, 6] (by decide) rfl rfl (by decide) (by decide)
              · have tw56 : ¬ rt.toInt = 0 := fun z9 => w56 ((ti_eq rfl (by decide)).mpr z9)
                refine pb_aload_n (pc := 126) d_Markup_load_126 2 rfl rfl ?_
                refine pb_callV (pc := 127) (I := i_Markup_load) (qb := 7) (ci := 8) (nA := 0) (rest := []) (wr := [(uv, .inl (G.2.1, 24, .inl vf3)), (ug, .inl (G.2.2.1, 200, .inl gf3)), (ui, .inl (G.2.2.2.1, 200, .inr (.inl df3))), (sp, .inr (3, [.ref tn, .ref tz, .ref tb, .ref tg, .int c])), (tn, .inl (G.2.1, 384, .inl tfn)), (tz, .inl (G.2.2.1, 16, .inl tfz)), (tg, .inl (G.2.2.1, 17, .inl tfg))]) d_Markup_load_127 (g_Mu_readTail hl G h ui ug uv tb ct3 fa3 bg3 at3 en3 vs3 io3 hi3 ht3 tfb (by first | (with_reducible assumption) | omega (splitDisjunctions := false) | assumption | omega | decide) (by first | (with_reducible assumption) | omega (splitDisjunctions := false) | assumption | omega | decide) (by first | (with_reducible assumption) | omega (splitDisjunctions := false) | assumption | omega | decide) (by first | (with_reducible assumption) | omega (splitDisjunctions := false) | assumption | omega | decide) (by first | (with_reducible assumption) | omega (splitDisjunctions := false) | assumption | omega | decide) F_tfb) rfl rfl [7, 8] [0, 1, 2, 3, 4, 5, 6] (by decide) rfl rfl rfl (by decide) (by decide) k_896 rfl k_125 k_893 k_895 k_48 ⟨rfl, hy_Markup_readTail⟩ (by decide) rfl rfl (Nat.le_of_ble_eq_true rfl) (by decide) (fun v9 u58 ch57 => ?_)
                obtain ⟨r_59, at_60, f_61⟩ := u58
                obtain ⟨ech57, ch57⟩ := ch57
                have ech57 : v9 = some (.int r_59) := ech57
                subst ech57
                obtain ⟨fh62, fh63, fh64, fh65, fh66⟩ : (r_59.toInt = 0 ∨ r_59.toInt = 1) ∧ (at3.toInt ≤ at_60.toInt) ∧ (at_60.toInt ≤ en3.toInt) ∧ (tl6_ (mB_ tfb bg3.toInt) (en3.toInt - bg3.toInt) io3.toInt r_59.toInt (at3.toInt - bg3.toInt)) ∧ (ft_ r_59.toInt fa3.toInt f_61.toInt) := ch57
                have tlG := fh65
                have tlQ := fh66
                refine pb_eq (pc' := 130) (lo' := [(5, .int l_), (4, .int rt), (0, .ref h), (1, .ref sp), (2, .int i)]) (rest' := [.int r_59]) (ws' := [(uv, .inl (G.2.1, 24, .inl vf3)), (ug, .inl (G.2.2.1, 200, .inl gf3)), (ui, .inl (G.2.2.2.1, 200, .inr (.inl df3))), (sp, .inr (3, [.ref tn, .ref tz, .ref tb, .ref tg, .int c])), (tn, .inl (G.2.1, 384, .inl tfn)), (tz, .inl (G.2.2.1, 16, .inl tfz)), (tg, .inl (G.2.2.1, 17, .inl tfg)), (h, .inr (8, [.ref ui, .ref ug, .ref uv, .ref tb, .int ct3, .int f_61, .int bg3, .int at_60, .int en3, .int vs3, .int io3, .int hi3, .int ht3])), (tb, .inl (G.2.1, 12000, .inl tfb))]) ?_
                refine pb_if_ne (pc := 130) (tgt := 138) d_Markup_load_130 (by decide) (fun w67 => ?_) (fun w67 => ?_)
                · have tw67 : ¬ r_59.toInt = 0 := fun z9 => w67 ((ti_eq rfl (by decide)).mpr z9)
                  exact pb_vret (pc := 138) hQ d_Markup_load_138 rfl (ct3, f_61, bg3, at_60, en3, vs3, io3, hi3, ht3, vf3, gf3, df3) ⟨rfl, (by (try dsimp only); first | done | (with_reducible assumption) | omega (splitDisjunctions := false) | assumption | omega | decide), (by (try dsimp only); first | done | (with_reducible assumption) | omega (splitDisjunctions := false) | assumption | omega | decide), (show hid_ (∃ t : Int, isF_ (cN_ c.toInt tfn tfz) (gx tfz i.toInt + 5) (tn6_ (cN_ c.toInt tfn tfz) i.toInt) t ∧ lo6_ (cN_ c.toInt tfn tfz) t tfb tfg ct3.toInt f_61.toInt gf3) from (hid_i ⟨_, tlF, lo_m (b3 := bg3.toInt) (e3 := en3.toInt) (by omega) (by omega) (by omega) (by first | exact cR_t kM (by omega) (by first | (intro q9; have q8 := enF.mpr q9; omega) | (intro q9; have q6 := kl_ (by omega); have q8 := cm_in (B := mB_ tfb bg3.toInt) (n := en3.toInt - bg3.toInt) (j := at3.toInt - bg3.toInt) (by omega); omega)) tlG (by unfold ft_ at tlQ; (exact omg_2bcadcc449 kq tw56 tlQ tw67)) | exact cR_n kM (by omega) (by omega) zl0)⟩)), (show hid_ (∃ t : Int, isF_ (cN_ c.toInt tfn tfz) (gx tfz i.toInt + 5) (tn6_ (cN_ c.toInt tfn tfz) i.toInt) t ∧ lo7_ t tfb tfg df3) from (hid_i ⟨_, tlF, lo7_m (b3 := bg3.toInt) (e3 := en3.toInt) (by omega) (by omega) (by omega) (fun K9 e9 => by first | exact cR7_t kM7 kM (by omega) (by first | (intro q9; have q8 := enF.mpr q9; omega) | (intro q9; have q6 := kl_ (by omega); have q8 := cm_in (B := mB_ tfb bg3.toInt) (n := en3.toInt - bg3.toInt) (j := at3.toInt - bg3.toInt) (by omega); omega)) e9 | exact cR7_n kM (by omega) e9)⟩)), F_vf3⟩ [7, 0, 1, 2, 3, 4, 5, 8, 6] (by decide) rfl rfl (by decide) (by decide)
                · have tw67 : r_59.toInt = 0 := (ti_eq rfl (by decide)).mp w67
                  refine pb_aload_n (pc := 133) d_Markup_load_133 2 rfl rfl ?_
                  refine pb_iconst (pc := 134) (v := 0) d_Markup_load_134 (by decide) ?_
                  refine pb_put (pc := 135) (ty := .int) (ws' := [(uv, .inl (G.2.1, 24, .inl vf3)), (ug, .inl (G.2.2.1, 200, .inl gf3)), (ui, .inl (G.2.2.2.1, 200, .inr (.inl df3))), (sp, .inr (3, [.ref tn, .ref tz, .ref tb, .ref tg, .int c])), (tn, .inl (G.2.1, 384, .inl tfn)), (tz, .inl (G.2.2.1, 16, .inl tfz)), (tg, .inl (G.2.2.1, 17, .inl tfg)), (h, .inr (8, [.ref ui, .ref ug, .ref uv, .ref tb, .int 0, .int f_61, .int bg3, .int at_60, .int en3, .int vs3, .int io3, .int hi3, .int ht3])), (tb, .inl (G.2.1, 12000, .inl tfb))]) d_Markup_load_135 7 4 t_Markup t_Markup_ok n_Markup rfl rfl (by decide) in_Markup k_321 rfl (by decide +kernel) rfl rfl (Nat.le_of_ble_eq_true rfl) rfl ?_
                  exact pb_vret (pc := 138) hQ d_Markup_load_138 rfl (0, f_61, bg3, at_60, en3, vs3, io3, hi3, ht3, vf3, gf3, df3) ⟨rfl, (by (try dsimp only); first | done | (with_reducible assumption) | omega (splitDisjunctions := false) | assumption | omega | decide), (by (try dsimp only); first | done | (with_reducible assumption) | omega (splitDisjunctions := false) | assumption | omega | decide), (show hid_ (∃ t : Int, isF_ (cN_ c.toInt tfn tfz) (gx tfz i.toInt + 5) (tn6_ (cN_ c.toInt tfn tfz) i.toInt) t ∧ lo6_ (cN_ c.toInt tfn tfz) t tfb tfg (0 : Int32).toInt f_61.toInt gf3) from (hid_i ⟨_, tlF, lo_m (b3 := bg3.toInt) (e3 := en3.toInt) (by omega) (by omega) (by omega) (by first | exact cR_t kM (by omega) (by first | (intro q9; have q8 := enF.mpr q9; omega) | (intro q9; have q6 := kl_ (by omega); have q8 := cm_in (B := mB_ tfb bg3.toInt) (n := en3.toInt - bg3.toInt) (j := at3.toInt - bg3.toInt) (by omega); omega)) tlG (by unfold ft_ at tlQ; (exact omg_7899061515 zl0 tlQ tw67)) | exact cR_n kM (by omega) (by omega) zl0)⟩)), (show hid_ (∃ t : Int, isF_ (cN_ c.toInt tfn tfz) (gx tfz i.toInt + 5) (tn6_ (cN_ c.toInt tfn tfz) i.toInt) t ∧ lo7_ t tfb tfg df3) from (hid_i ⟨_, tlF, lo7_m (b3 := bg3.toInt) (e3 := en3.toInt) (by omega) (by omega) (by omega) (fun K9 e9 => by first | exact cR7_t kM7 kM (by omega) (by first | (intro q9; have q8 := enF.mpr q9; omega) | (intro q9; have q6 := kl_ (by omega); have q8 := cm_in (B := mB_ tfb bg3.toInt) (n := en3.toInt - bg3.toInt) (j := at3.toInt - bg3.toInt) (by omega); omega)) e9 | exact cR7_n kM (by omega) e9)⟩)), F_vf3⟩ [7, 0, 1, 2, 3, 4, 5, 8, 6] (by decide) rfl rfl (by decide) (by decide)
            · have tw55 : ¬ r_52.toInt = 0 := fun z9 => w55 ((ti_eq rfl (by decide)).mpr z9)
              refine pb_aload_n (pc := 93) d_Markup_load_93 2 rfl rfl ?_
              refine pb_aload_n (pc := 94) d_Markup_load_94 3 rfl rfl ?_
              refine pb_callV (pc := 95) (I := i_Markup_load) (qb := 7) (ci := 8) (nA := 1) (rest := []) (wr := [(tg, .inl (G.2.2.1, 17, .inl tfg))]) d_Markup_load_95 (g_Mu_readElement hl G h ui ug uv ct3 fa3 bg3 at3 en3 vs3 io3 hi3 ht3 tfb vf3 gf3 df3 sp tn tz tb tg c tfn tfz tfg (by first | (with_reducible assumption) | omega (splitDisjunctions := false) | assumption | omega | decide) (by first | (with_reducible assumption) | omega (splitDisjunctions := false) | assumption | omega | decide) (by first | (with_reducible assumption) | omega (splitDisjunctions := false) | assumption | omega | decide) (by first | (with_reducible assumption) | omega (splitDisjunctions := false) | assumption | omega | decide) (by first | (with_reducible assumption) | omega (splitDisjunctions := false) | assumption | omega | decide) (by first | (with_reducible assumption) | omega (splitDisjunctions := false) | assumption | omega | decide) (by first | (with_reducible assumption) | omega (splitDisjunctions := false) | assumption | omega | decide) (by first | assumption | decide | omega) (by have q9 := k20 (by omega); have q8 := cm_in (B := mB_ tfb bg3.toInt) (n := en3.toInt - bg3.toInt) (j := at3.toInt - bg3.toInt) (by have q7 := (enF.mp (by (exact omg_d9c3f42b32 fh53 tw55))).2.1; omega); (exact omg_bebe55adb3 y3 ti8 bgF ti10 enF0 bg_ en_ q9 q8)) F_tfb F_vf3 F_tfn) rfl rfl [7, 8, 0, 1, 2, 3, 4, 5] [6] (by decide) rfl rfl rfl (by decide) (by decide) k_843 rfl k_125 k_840 k_842 k_38 ⟨rfl, hy_Markup_readElement⟩ (by decide) rfl rfl (Nat.le_of_ble_eq_true rfl) (by decide) (fun v9 u69 ch68 => ?_)
              obtain ⟨r_70, ct_71, at_72, f_73, vs_74, hi_75, ht_76, vf_77, gf_78, df_79⟩ := u69
              obtain ⟨ech68, ch68⟩ := ch68
              have ech68 : v9 = some (.int r_70) := ech68
              subst ech68
              obtain ⟨fh80, fh81, fh82, fh83, fh84, fh85, fh86, fh87, fh88⟩ : (r_70.toInt = 0 ∨ r_70.toInt = 1) ∧ (at3.toInt ≤ at_72.toInt) ∧ (at_72.toInt ≤ en3.toInt) ∧ (0 ≤ ct_71.toInt) ∧ (ct_71.toInt ≤ 200) ∧ (cE6_ (mB_ tfb bg3.toInt) (en3.toInt - bg3.toInt) (cN_ c.toInt tfn tfz) (at3.toInt - bg3.toInt) r_70.toInt (at_72.toInt - bg3.toInt) ct3.toInt ct_71.toInt gf3 gf_78) ∧ (ft_ r_70.toInt fa3.toInt f_73.toInt) ∧ (cE7_ (mB_ tfb bg3.toInt) (en3.toInt - bg3.toInt) (at3.toInt - bg3.toInt) r_70.toInt ct3.toInt df3 df_79) ∧ (sb_Fit vf_77) := ch68
              have elF := fh85
              have elQ := fh86
              have elF7 := fh87
              refine pb_eq (pc' := 98) (lo' := [(5, .int l_), (4, .int rt), (0, .ref h), (1, .ref sp), (2, .int i)]) (rest' := [.int r_70]) (ws' := [(tg, .inl (G.2.2.1, 17, .inl tfg)), (h, .inr (8, [.ref ui, .ref ug, .ref uv, .ref tb, .int ct_71, .int f_73, .int bg3, .int at_72, .int en3, .int vs_74, .int io3, .int hi_75, .int ht_76])), (tb, .inl (G.2.1, 12000, .inl tfb)), (uv, .inl (G.2.1, 24, .inl vf_77)), (ug, .inl (G.2.2.1, 200, .inl gf_78)), (ui, .inl (G.2.2.2.1, 200, .inr (.inl df_79))), (sp, .inr (3, [.ref tn, .ref tz, .ref tb, .ref tg, .int c])), (tn, .inl (G.2.1, 384, .inl tfn)), (tz, .inl (G.2.2.1, 16, .inl tfz))]) ?_
              refine pb_if_eq (pc := 98) (tgt := 112) d_Markup_load_98 (by decide) (fun w89 => ?_) (fun w89 => ?_)
              · have tw89 : r_70.toInt = 0 := (ti_eq rfl (by decide)).mp w89
                refine pb_iconst (pc := 112) (v := 0) d_Markup_load_112 (by decide) ?_
                refine pb_istore (pc := 113) (lo' := [(4, .int 0), (5, .int l_), (0, .ref h), (1, .ref sp), (2, .int i)]) d_Markup_load_113 (by decide) rfl ?_
                refine pb_iincN (pc := 115) (c := (-1)) d_Markup_load_115 1 rfl (by decide) (by decide) (fun i90 ei90 => ?_)
                have ti90 : i90.toInt = l_.toInt + (-1) := t2_add ei90 rfl (by decide) (by first | (exact omg_373a9902bf rl_ tw24) | (have r90 := ti_rng i90; have r91 := ti_rng i; omega))
                refine pb_eq (pc' := 118) (lo' := [(5, .int i90), (4, .int 0), (0, .ref h), (1, .ref sp), (2, .int i)]) (rest' := []) (ws' := [(tg, .inl (G.2.2.1, 17, .inl tfg)), (h, .inr (8, [.ref ui, .ref ug, .ref uv, .ref tb, .int ct_71, .int f_73, .int bg3, .int at_72, .int en3, .int vs_74, .int io3, .int hi_75, .int ht_76])), (tb, .inl (G.2.1, 12000, .inl tfb)), (uv, .inl (G.2.1, 24, .inl vf_77)), (ug, .inl (G.2.2.1, 200, .inl gf_78)), (ui, .inl (G.2.2.2.1, 200, .inr (.inl df_79))), (sp, .inr (3, [.ref tn, .ref tz, .ref tb, .ref tg, .int c])), (tn, .inl (G.2.1, 384, .inl tfn)), (tz, .inl (G.2.2.1, 16, .inl tfz))]) ?_
                refine pb_goto (pc := 118) (tgt := 76) d_Markup_load_118 (by decide) ?_
                refine pb_re (ws' := [(h, .inr (8, [.ref ui, .ref ug, .ref uv, .ref tb, .int ct_71, .int f_73, .int bg3, .int at_72, .int en3, .int vs_74, .int io3, .int hi_75, .int ht_76])), (uv, .inl (G.2.1, 24, .inl vf_77)), (ug, .inl (G.2.2.1, 200, .inl gf_78)), (ui, .inl (G.2.2.2.1, 200, .inr (.inl df_79))), (sp, .inr (3, [.ref tn, .ref tz, .ref tb, .ref tg, .int c])), (tn, .inl (G.2.1, 384, .inl tfn)), (tz, .inl (G.2.2.1, 16, .inl tfz)), (tb, .inl (G.2.1, 12000, .inl tfb)), (tg, .inl (G.2.2.1, 17, .inl tfg))]) (lo' := [(5, .int i90), (4, .int 0), (0, .ref h), (1, .ref sp), (2, .int i)]) [1, 3, 4, 5, 6, 7, 8, 2, 0] [0, 1, 2, 3, 4] (by decide) rfl rfl rfl ?_
                exact ih76 i90 0 ct_71 f_73 bg3 at_72 en3 vs_74 io3 hi_75 ht_76 vf_77 gf_78 df_79 fh88 (by first | (with_reducible assumption) | omega (splitDisjunctions := false) | assumption | omega | decide) (by first | (with_reducible assumption) | omega (splitDisjunctions := false) | assumption | omega | decide) (by first | (with_reducible assumption) | omega (splitDisjunctions := false) | assumption | omega | decide) (by first | (with_reducible assumption) | omega (splitDisjunctions := false) | assumption | omega | decide) (by first | (with_reducible assumption) | omega (splitDisjunctions := false) | assumption | omega | decide) (by first | (with_reducible assumption) | omega (splitDisjunctions := false) | assumption | omega | decide) (by first | (with_reducible assumption) | (exact omg_853b29726c b4_ fh81) | assumption | omega | decide) (by first | (with_reducible assumption) | omega (splitDisjunctions := false) | assumption | omega | decide) (by first | (with_reducible assumption) | omega (splitDisjunctions := false) | assumption | omega | decide) (by first | (with_reducible assumption) | omega (splitDisjunctions := false) | assumption | omega | decide) (by first | exact cM_s kM (by omega) (by omega) (enF.mp (by omega)) elF (by omega) g1F (by omega) (by omega) | exact cM_g kM (by omega) (enF.mp (by omega)) elF (by omega) g1F (by omega) zl0 | exact cM_e kM (by omega) (enF.mp (by (exact omg_d9c3f42b32 fh53 tw55))) elF (by omega) zl0) (by first | (unfold ft_ at elQ g1FQ; omega) | (unfold ft_ at elQ; (exact omg_27088ef52b zl0 elQ tw89))) (by first | exact fun _ => ce_20 (by omega) elF (by omega) g1F (by omega) (by omega) | exact fun q9 => absurd q9 (by omega)) (by first | exact fun _ => (by have q9 := ce_p elF (by omega) (by omega); omega) | exact fun q9 => absurd zl0 q9) (by first | exact cM7_s kM7 (by omega) (by omega) (enF.mp (by omega)) elF elF7 (by omega) g1F (by omega) | exact cM7_z zl0) (by (exact omg_28b31f9f32 hm9 tw24 ti90))
              · have tw89 : ¬ r_70.toInt = 0 := fun z9 => w89 ((ti_eq rfl (by decide)).mpr z9)
                refine pb_aload_n (pc := 101) d_Markup_load_101 2 rfl rfl ?_
                refine pb_callV (pc := 102) (I := i_Markup_load) (qb := 1) (ci := 8) (nA := 0) (rest := []) (wr := [(tg, .inl (G.2.2.1, 17, .inl tfg)), (uv, .inl (G.2.1, 24, .inl vf_77)), (ug, .inl (G.2.2.1, 200, .inl gf_78)), (ui, .inl (G.2.2.2.1, 200, .inr (.inl df_79))), (sp, .inr (3, [.ref tn, .ref tz, .ref tb, .ref tg, .int c])), (tn, .inl (G.2.1, 384, .inl tfn)), (tz, .inl (G.2.2.1, 16, .inl tfz))]) d_Markup_load_102 (g_Mu_skipGaps hl G h ui ug uv tb ct_71 f_73 bg3 at_72 en3 vs_74 io3 hi_75 ht_76 tfb (by first | (with_reducible assumption) | omega (splitDisjunctions := false) | assumption | omega | decide) (by first | (with_reducible assumption) | omega (splitDisjunctions := false) | assumption | omega | decide) (by first | (with_reducible assumption) | omega (splitDisjunctions := false) | assumption | omega | decide) (by first | (with_reducible assumption) | omega (splitDisjunctions := false) | assumption | omega | decide) (by first | (with_reducible assumption) | (exact omg_853b29726c b4_ fh81) | assumption | omega | decide) F_tfb) rfl rfl [1, 2] [0, 3, 4, 5, 6, 7, 8] (by decide) rfl rfl rfl (by decide) (by decide) k_805 rfl k_125 k_802 k_804 k_31 ⟨rfl, hy_Markup_skipGaps⟩ (by decide) rfl rfl (Nat.le_of_ble_eq_true rfl) (by decide) (fun v9 u92 ch91 => ?_)
                obtain ⟨r_93, at_94, f_95⟩ := u92
                obtain ⟨ech91, ch91⟩ := ch91
                have ech91 : v9 = some (.int r_93) := ech91
                subst ech91
                obtain ⟨fh96, fh97, fh98, fh99, fh100⟩ : (r_93.toInt = 0 ∨ r_93.toInt = 1) ∧ (at_72.toInt ≤ at_94.toInt) ∧ (at_94.toInt ≤ en3.toInt) ∧ (oy_ r_93.toInt (at_94.toInt - bg3.toInt) = gF (mB_ tfb bg3.toInt) (en3.toInt - bg3.toInt) (at_72.toInt - bg3.toInt)) ∧ (ft_ r_93.toInt f_73.toInt f_95.toInt) := ch91
                have g1F := fh99
                have g1FQ := fh100
                refine pb_eq (pc' := 105) (lo' := [(5, .int l_), (4, .int rt), (0, .ref h), (1, .ref sp), (2, .int i)]) (rest' := [.int r_93]) (ws' := [(tg, .inl (G.2.2.1, 17, .inl tfg)), (uv, .inl (G.2.1, 24, .inl vf_77)), (ug, .inl (G.2.2.1, 200, .inl gf_78)), (ui, .inl (G.2.2.2.1, 200, .inr (.inl df_79))), (sp, .inr (3, [.ref tn, .ref tz, .ref tb, .ref tg, .int c])), (tn, .inl (G.2.1, 384, .inl tfn)), (tz, .inl (G.2.2.1, 16, .inl tfz)), (h, .inr (8, [.ref ui, .ref ug, .ref uv, .ref tb, .int ct_71, .int f_95, .int bg3, .int at_94, .int en3, .int vs_74, .int io3, .int hi_75, .int ht_76])), (tb, .inl (G.2.1, 12000, .inl tfb))]) ?_
                refine pb_if_eq (pc := 105) (tgt := 112) d_Markup_load_105 (by decide) (fun w101 => ?_) (fun w101 => ?_)
                · have tw101 : r_93.toInt = 0 := (ti_eq rfl (by decide)).mp w101
                  refine pb_iconst (pc := 112) (v := 0) d_Markup_load_112 (by decide) ?_
                  refine pb_istore (pc := 113) (lo' := [(4, .int 0), (5, .int l_), (0, .ref h), (1, .ref sp), (2, .int i)]) d_Markup_load_113 (by decide) rfl ?_
                  refine pb_iincN (pc := 115) (c := (-1)) d_Markup_load_115 1 rfl (by decide) (by decide) (fun i102 ei102 => ?_)
                  have ti102 : i102.toInt = l_.toInt + (-1) := t2_add ei102 rfl (by decide) (by first | (exact omg_373a9902bf rl_ tw24) | (have r90 := ti_rng i102; have r91 := ti_rng i; omega))
                  refine pb_eq (pc' := 118) (lo' := [(5, .int i102), (4, .int 0), (0, .ref h), (1, .ref sp), (2, .int i)]) (rest' := []) (ws' := [(tg, .inl (G.2.2.1, 17, .inl tfg)), (uv, .inl (G.2.1, 24, .inl vf_77)), (ug, .inl (G.2.2.1, 200, .inl gf_78)), (ui, .inl (G.2.2.2.1, 200, .inr (.inl df_79))), (sp, .inr (3, [.ref tn, .ref tz, .ref tb, .ref tg, .int c])), (tn, .inl (G.2.1, 384, .inl tfn)), (tz, .inl (G.2.2.1, 16, .inl tfz)), (h, .inr (8, [.ref ui, .ref ug, .ref uv, .ref tb, .int ct_71, .int f_95, .int bg3, .int at_94, .int en3, .int vs_74, .int io3, .int hi_75, .int ht_76])), (tb, .inl (G.2.1, 12000, .inl tfb))]) ?_
                  refine pb_goto (pc := 118) (tgt := 76) d_Markup_load_118 (by decide) ?_
                  refine pb_re (ws' := [(h, .inr (8, [.ref ui, .ref ug, .ref uv, .ref tb, .int ct_71, .int f_95, .int bg3, .int at_94, .int en3, .int vs_74, .int io3, .int hi_75, .int ht_76])), (uv, .inl (G.2.1, 24, .inl vf_77)), (ug, .inl (G.2.2.1, 200, .inl gf_78)), (ui, .inl (G.2.2.2.1, 200, .inr (.inl df_79))), (sp, .inr (3, [.ref tn, .ref tz, .ref tb, .ref tg, .int c])), (tn, .inl (G.2.1, 384, .inl tfn)), (tz, .inl (G.2.2.1, 16, .inl tfz)), (tb, .inl (G.2.1, 12000, .inl tfb)), (tg, .inl (G.2.2.1, 17, .inl tfg))]) (lo' := [(5, .int i102), (4, .int 0), (0, .ref h), (1, .ref sp), (2, .int i)]) [7, 1, 2, 3, 4, 5, 6, 8, 0] [0, 1, 2, 3, 4] (by decide) rfl rfl rfl ?_
                  exact ih76 i102 0 ct_71 f_95 bg3 at_94 en3 vs_74 io3 hi_75 ht_76 vf_77 gf_78 df_79 fh88 (by first | (with_reducible assumption) | (exact omg_11807178da k0 fh81 fh97) | assumption | omega | decide) (by first | (with_reducible assumption) | omega (splitDisjunctions := false) | assumption | omega | decide) (by first | (with_reducible assumption) | omega (splitDisjunctions := false) | assumption | omega | decide) (by first | (with_reducible assumption) | omega (splitDisjunctions := false) | assumption | omega | decide) (by first | (with_reducible assumption) | omega (splitDisjunctions := false) | assumption | omega | decide) (by first | (with_reducible assumption) | omega (splitDisjunctions := false) | assumption | omega | decide) (by first | (with_reducible assumption) | (exact omg_a4bf40eb0d b4_ fh81 fh97) | assumption | omega | decide) (by first | (with_reducible assumption) | omega (splitDisjunctions := false) | assumption | omega | decide) (by first | (with_reducible assumption) | omega (splitDisjunctions := false) | assumption | omega | decide) (by first | (with_reducible assumption) | omega (splitDisjunctions := false) | assumption | omega | decide) (by first | exact cM_s kM (by omega) (by omega) (enF.mp (by (exact omg_d9c3f42b32 fh53 tw55))) elF (by omega) g1F (by omega) (by omega) | exact cM_g kM (by omega) (enF.mp (by (exact omg_d9c3f42b32 fh53 tw55))) elF (by omega) g1F (by omega) zl0 | exact cM_e kM (by omega) (enF.mp (by omega)) elF (by omega) zl0) (by first | (unfold ft_ at elQ g1FQ; (exact omg_27088ef52b zl0 g1FQ tw101)) | (unfold ft_ at elQ; omega)) (by first | exact fun _ => ce_20 (by (exact omg_7fa91c1c9f fh81 fh82)) elF (by omega) g1F (by omega) (by omega) | exact fun q9 => absurd q9 (by omega)) (by first | exact fun _ => (by have q9 := ce_p elF (by omega) (by omega); omega) | exact fun q9 => absurd zl0 q9) (by first | exact cM7_s kM7 (by omega) (by omega) (enF.mp (by (exact omg_d9c3f42b32 fh53 tw55))) elF elF7 (by omega) g1F (by omega) | exact cM7_z zl0) (by (exact omg_28b31f9f32 hm9 tw24 ti102))
                · have tw101 : ¬ r_93.toInt = 0 := fun z9 => w101 ((ti_eq rfl (by decide)).mpr z9)
                  refine pb_iconst (pc := 108) (v := 1) d_Markup_load_108 (by decide) ?_
                  refine pb_goto (pc := 109) (tgt := 113) d_Markup_load_109 (by decide) ?_
                  refine pb_istore (pc := 113) (lo' := [(4, .int 1), (5, .int l_), (0, .ref h), (1, .ref sp), (2, .int i)]) d_Markup_load_113 (by decide) rfl ?_
                  refine pb_iincN (pc := 115) (c := (-1)) d_Markup_load_115 1 rfl (by decide) (by decide) (fun i103 ei103 => ?_)
                  have ti103 : i103.toInt = l_.toInt + (-1) := t2_add ei103 rfl (by decide) (by first | omega | (have r90 := ti_rng i103; have r91 := ti_rng i; omega))
                  refine pb_eq (pc' := 118) (lo' := [(5, .int i103), (4, .int 1), (0, .ref h), (1, .ref sp), (2, .int i)]) (rest' := []) (ws' := [(tg, .inl (G.2.2.1, 17, .inl tfg)), (uv, .inl (G.2.1, 24, .inl vf_77)), (ug, .inl (G.2.2.1, 200, .inl gf_78)), (ui, .inl (G.2.2.2.1, 200, .inr (.inl df_79))), (sp, .inr (3, [.ref tn, .ref tz, .ref tb, .ref tg, .int c])), (tn, .inl (G.2.1, 384, .inl tfn)), (tz, .inl (G.2.2.1, 16, .inl tfz)), (h, .inr (8, [.ref ui, .ref ug, .ref uv, .ref tb, .int ct_71, .int f_95, .int bg3, .int at_94, .int en3, .int vs_74, .int io3, .int hi_75, .int ht_76])), (tb, .inl (G.2.1, 12000, .inl tfb))]) ?_
                  refine pb_goto (pc := 118) (tgt := 76) d_Markup_load_118 (by decide) ?_
                  refine pb_re (ws' := [(h, .inr (8, [.ref ui, .ref ug, .ref uv, .ref tb, .int ct_71, .int f_95, .int bg3, .int at_94, .int en3, .int vs_74, .int io3, .int hi_75, .int ht_76])), (uv, .inl (G.2.1, 24, .inl vf_77)), (ug, .inl (G.2.2.1, 200, .inl gf_78)), (ui, .inl (G.2.2.2.1, 200, .inr (.inl df_79))), (sp, .inr (3, [.ref tn, .ref tz, .ref tb, .ref tg, .int c])), (tn, .inl (G.2.1, 384, .inl tfn)), (tz, .inl (G.2.2.1, 16, .inl tfz)), (tb, .inl (G.2.1, 12000, .inl tfb)), (tg, .inl (G.2.2.1, 17, .inl tfg))]) (lo' := [(5, .int i103), (4, .int 1), (0, .ref h), (1, .ref sp), (2, .int i)]) [7, 1, 2, 3, 4, 5, 6, 8, 0] [0, 1, 2, 3, 4] (by decide) rfl rfl rfl ?_
                  exact ih76 i103 1 ct_71 f_95 bg3 at_94 en3 vs_74 io3 hi_75 ht_76 vf_77 gf_78 df_79 fh88 (by first | (with_reducible assumption) | (exact omg_11807178da k0 fh81 fh97) | assumption | omega | decide) (by first | (with_reducible assumption) | omega (splitDisjunctions := false) | assumption | omega | decide) (by first | (with_reducible assumption) | omega (splitDisjunctions := false) | assumption | omega | decide) (by first | (with_reducible assumption) | omega (splitDisjunctions := false) | assumption | omega | decide) (by first | (with_reducible assumption) | omega (splitDisjunctions := false) | assumption | omega | decide) (by first | (with_reducible assumption) | omega (splitDisjunctions := false) | assumption | omega | decide) (by first | (with_reducible assumption) | (exact omg_a4bf40eb0d b4_ fh81 fh97) | assumption | omega | decide) (by first | (with_reducible assumption) | omega (splitDisjunctions := false) | assumption | omega | decide) (by first | (with_reducible assumption) | omega (splitDisjunctions := false) | assumption | omega | decide) (by first | (with_reducible assumption) | omega (splitDisjunctions := false) | assumption | omega | decide) (by first | exact cM_s kM (by omega) (by (exact omg_7fa91c1c9f fh81 fh82)) (enF.mp (by (exact omg_d9c3f42b32 fh53 tw55))) elF (by omega) g1F (by omega) (by omega) | exact cM_g kM (by omega) (enF.mp (by omega)) elF (by omega) g1F (by omega) zl0 | exact cM_e kM (by omega) (enF.mp (by omega)) elF (by omega) zl0) (by first | (unfold ft_ at elQ g1FQ; (exact omg_455295d5e4 zl1 kq tw37 elQ tw89 g1FQ tw101)) | (unfold ft_ at elQ; omega)) (by first | exact fun _ => ce_20 (by omega) elF (by omega) g1F (by omega) (by (exact omg_0213372e09 k20 tw37)) | exact fun q9 => absurd q9 (by omega)) (by first | exact fun _ => (by have q9 := ce_p elF (by omega) (by omega); (exact omg_0f1cf67f5f kl_ tw37 fh97 ti103 q9)) | exact fun q9 => absurd zl0 q9) (by first | exact cM7_s kM7 (by omega) (by omega) (enF.mp (by (exact omg_d9c3f42b32 fh53 tw55))) elF elF7 (by omega) g1F (by omega) | exact cM7_z zl0) (by (exact omg_28b31f9f32 hm9 tw24 ti103))
    refine pb_re (ws' := [(h, .inr (8, [.ref ui, .ref ug, .ref uv, .ref tb, .int 0, .int f_15, .int i8, .int at_14, .int i10, .int vs, .int io_16, .int hi, .int ht])), (uv, .inl (G.2.1, 24, .inl vf)), (ug, .inl (G.2.2.1, 200, .inl gf)), (ui, .inl (G.2.2.2.1, 200, .inr (.inl df))), (sp, .inr (3, [.ref tn, .ref tz, .ref tb, .ref tg, .int c])), (tn, .inl (G.2.1, 384, .inl tfn)), (tz, .inl (G.2.2.1, 16, .inl tfz)), (tb, .inl (G.2.1, 12000, .inl tfb)), (tg, .inl (G.2.2.1, 17, .inl tfg))]) (lo' := [(5, .int i22), (4, .int r_13), (0, .ref h), (1, .ref sp), (2, .int i)]) [7, 0, 1, 2, 4, 5, 6, 8, 3] [0, 1, 3, 4, 5] (by decide) rfl rfl rfl ?_
    exact hL76_23 _ i22 r_13 0 f_15 i8 at_14 i10 vs io_16 hi ht vf gf df F_vf (by first | (with_reducible assumption) | (exact omg_8837f4c4a9 y1 ti8 fh18) | assumption | omega | decide) (by first | (with_reducible assumption) | omega (splitDisjunctions := false) | assumption | omega | decide) (by first | (with_reducible assumption) | omega (splitDisjunctions := false) | assumption | omega | decide) (by first | (with_reducible assumption) | omega (splitDisjunctions := false) | assumption | omega | decide) (by first | (with_reducible assumption) | omega (splitDisjunctions := false) | assumption | omega | decide) (by first | (with_reducible assumption) | omega (splitDisjunctions := false) | assumption | omega | decide) (by first | (with_reducible assumption) | omega (splitDisjunctions := false) | assumption | omega | decide) (by first | (with_reducible assumption) | omega (splitDisjunctions := false) | assumption | omega | decide) (by first | (with_reducible assumption) | omega (splitDisjunctions := false) | assumption | omega | decide) (by first | (with_reducible assumption) | (exact omg_c786a0cdbb y3 ti8 ti10) | assumption | omega | decide) (cM_0 hdF zl0) (by unfold ft_ at hdQ; have q9 : (-1 : Int32).toInt = -1 := (by decide); (exact omg_5570867c72 zm1 hdQ)) (by first | (with_reducible assumption) | (exact omg_9e362addbb zl0 fh18) | assumption | omega | decide) (by first | (with_reducible assumption) | (exact omg_e6f97a4910 ti22) | assumption | omega | decide) (cM7_0 hdF zl0) (Nat.lt_succ_self _)
  · have tw7 : ¬ 0 ≤ r_3.toInt := fun z9 => w7 ((ti_le (by decide) rfl).mpr z9)
    exact pb_vret (pc := 28) hQ d_Markup_load_28 rfl (0, (-1), bg, at_, en, vs, io, hi, ht, vf, gf, df) ⟨rfl, (by (try dsimp only); first | done | (with_reducible assumption) | omega (splitDisjunctions := false) | assumption | omega | decide), (by (try dsimp only); first | done | (with_reducible assumption) | omega (splitDisjunctions := false) | assumption | omega | decide), (show hid_ (∃ t : Int, isF_ (cN_ c.toInt tfn tfz) (gx tfz i.toInt + 5) (tn6_ (cN_ c.toInt tfn tfz) i.toInt) t ∧ lo6_ (cN_ c.toInt tfn tfz) t tfb tfg (0 : Int32).toInt ((-1) : Int32).toInt gf) from (hid_i ⟨_, tlF, lo_0 (by omega) zl0 (by decide)⟩)), (show hid_ (∃ t : Int, isF_ (cN_ c.toInt tfn tfz) (gx tfz i.toInt + 5) (tn6_ (cN_ c.toInt tfn tfz) i.toInt) t ∧ lo7_ t tfb tfg df) from (hid_i ⟨_, tlF, lo7_0 (by omega)⟩)), F_vf⟩ [0, 1, 2, 3, 6, 7, 8, 4, 5] (by decide) rfl rfl (by decide) (by decide)
theorem d_Findings_note_0 : decode prog_6_method_2_code 0 = .ok (.aload_n 0, 1) := by decide +kernel
theorem d_Findings_note_1 : decode prog_6_method_2_code 1 = .ok (.getfield 21, 3) := by decide +kernel
theorem k_372 : (Jvm.Cond.fieldLink "PackageBook$Findings" (21 : Nat) "PackageBook$Findings" "count" "I") ∈ uW := uW_c1 15 rfl (by decide +kernel)
theorem d_Findings_note_4 : decode prog_6_method_2_code 4 = .ok (.sipush 1232, 3) := by decide +kernel
theorem d_Findings_note_7 : decode prog_6_method_2_code 7 = .ok (.if_icmp .ge 43, 3) := by decide +kernel
theorem d_Findings_note_50 : decode prog_6_method_2_code 50 = .ok (.return_, 1) := by decide +kernel
theorem d_Findings_note_10 : decode prog_6_method_2_code 10 = .ok (.aload_n 0, 1) := by decide +kernel
theorem d_Findings_note_11 : decode prog_6_method_2_code 11 = .ok (.getfield 11, 3) := by decide +kernel
theorem d_Findings_note_14 : decode prog_6_method_2_code 14 = .ok (.aload_n 0, 1) := by decide +kernel
theorem d_Findings_note_15 : decode prog_6_method_2_code 15 = .ok (.getfield 21, 3) := by decide +kernel
theorem d_Findings_note_18 : decode prog_6_method_2_code 18 = .ok (.iload_n 1, 1) := by decide +kernel
theorem d_Findings_note_19 : decode prog_6_method_2_code 19 = .ok (.iastore, 1) := by decide +kernel
theorem d_Findings_note_20 : decode prog_6_method_2_code 20 = .ok (.aload_n 0, 1) := by decide +kernel
theorem d_Findings_note_21 : decode prog_6_method_2_code 21 = .ok (.getfield 15, 3) := by decide +kernel
theorem d_Findings_note_24 : decode prog_6_method_2_code 24 = .ok (.aload_n 0, 1) := by decide +kernel
theorem d_Findings_note_25 : decode prog_6_method_2_code 25 = .ok (.getfield 21, 3) := by decide +kernel
theorem d_Findings_note_28 : decode prog_6_method_2_code 28 = .ok (.iload_n 2, 1) := by decide +kernel
theorem d_Findings_note_29 : decode prog_6_method_2_code 29 = .ok (.iastore, 1) := by decide +kernel
theorem d_Findings_note_30 : decode prog_6_method_2_code 30 = .ok (.aload_n 0, 1) := by decide +kernel
theorem d_Findings_note_31 : decode prog_6_method_2_code 31 = .ok (.getfield 18, 3) := by decide +kernel
theorem d_Findings_note_34 : decode prog_6_method_2_code 34 = .ok (.aload_n 0, 1) := by decide +kernel
theorem d_Findings_note_35 : decode prog_6_method_2_code 35 = .ok (.getfield 21, 3) := by decide +kernel
theorem d_Findings_note_38 : decode prog_6_method_2_code 38 = .ok (.iload_n 3, 1) := by decide +kernel
theorem d_Findings_note_39 : decode prog_6_method_2_code 39 = .ok (.iastore, 1) := by decide +kernel
theorem d_Findings_note_40 : decode prog_6_method_2_code 40 = .ok (.aload_n 0, 1) := by decide +kernel
theorem d_Findings_note_41 : decode prog_6_method_2_code 41 = .ok (.dup, 1) := by decide +kernel
theorem d_Findings_note_42 : decode prog_6_method_2_code 42 = .ok (.getfield 21, 3) := by decide +kernel
theorem d_Findings_note_45 : decode prog_6_method_2_code 45 = .ok (.iconst 1, 1) := by decide +kernel
theorem d_Findings_note_46 : decode prog_6_method_2_code 46 = .ok (.iadd, 1) := by decide +kernel
theorem d_Findings_note_47 : decode prog_6_method_2_code 47 = .ok (.putfield 21, 3) := by decide +kernel
abbrev y_Findings_note : MethodName := ⟨"PackageBook$Findings", "note", "(III)V"⟩
abbrev i_Findings_note : pb_I := (y_Findings_note, prog_6_method_2_code, 4, (Option.none : Option Jvm.ClassFile.FieldType), [], { frames := 0, cells := 0, slots := 0, locals := 0 })
set_option maxRecDepth 100000 in
set_option maxHeartbeats 4000000 in
theorem g_Fi_note {l : Launch} (hl : l.stackTraces = false) (G : pb_G) (h : Nat) (fk : Nat) (fo : Nat) (fp : Nat) (n : Int32) (f1 : Nat → Int32) (f2 : Nat → Int32) (f3 : Nat → Int32) (x : Int32) (y : Int32) (z : Int32) (n0 : 0 ≤ n.toInt) (n1 : n.toInt ≤ 1232) : Cn l G i_Findings_note [.ref h, .int x, .int y, .int z] [(h, .inr (2, [.ref fk, .ref fo, .ref fp, .int n])), (fk, .inl (G.2.2.1, 1232, .inl f1)), (fo, .inl (G.2.2.1, 1232, .inl f2)), (fp, .inl (G.2.2.1, 1232, .inl f3))] (S := Int32 × (Nat → Int32) × (Nat → Int32) × (Nat → Int32)) (fun rv_ u => rv_ = none ∧ (0 ≤ u.1.toInt) ∧ (u.1.toInt ≤ 1232) ∧ (n.toInt < 1232 → u.1.toInt = n.toInt + 1)) (fun u => [(h, .inr (2, [.ref fk, .ref fo, .ref fp, .int u.1])), (fk, .inl (G.2.2.1, 1232, .inl u.2.1)), (fo, .inl (G.2.2.1, 1232, .inl u.2.2.1)), (fp, .inl (G.2.2.1, 1232, .inl u.2.2.2))]) := by
  refine Cn.of hl (by decide +kernel) rfl (Nat.le_of_ble_eq_true rfl) (fun M hQ => ?_)
  refine pb_eq (pc' := 0) (lo' := [(0, .ref h), (1, .int x), (2, .int y), (3, .int z)]) (rest' := []) (ws' := [(h, .inr (2, [.ref fk, .ref fo, .ref fp, .int n])), (fk, .inl (G.2.2.1, 1232, .inl f1)), (fo, .inl (G.2.2.1, 1232, .inl f2)), (fp, .inl (G.2.2.1, 1232, .inl f3))]) ?_
  have zl0 : (0 : Int32).toInt = 0 := by decide
  have zl1 : (1 : Int32).toInt = 1 := by decide
  refine pb_aload_n (pc := 0) d_Findings_note_0 0 rfl rfl ?_
  refine pb_get (pc := 1) d_Findings_note_1 0 3 rfl rfl (by decide) in_Findings k_372 rfl ?_
  refine pb_sipush (pc := 4) (v := 1232) d_Findings_note_4 (by decide) ?_
  refine pb_icmp_ge (pc := 7) (tgt := 50) d_Findings_note_7 (by decide) (fun w1 => ?_) (fun w1 => ?_)
  · have tw1 : 1232 ≤ n.toInt := (ti_le (by decide) rfl).mp w1
    exact pb_vret (pc := 50) hQ d_Findings_note_50 rfl (n, f1, f2, f3) ⟨rfl, (by (try dsimp only); first | done | (with_reducible assumption) | omega (splitDisjunctions := false) | assumption | omega | decide), (by (try dsimp only); first | done | (with_reducible assumption) | omega (splitDisjunctions := false) | assumption | omega | decide), (show n.toInt < 1232 → n.toInt = n.toInt + 1 from (by (try dsimp only); first | exact fun _ => (by omega) | exact fun q9 => absurd q9 (by omega)))⟩ [0, 1, 2, 3] (by decide) rfl rfl (by decide) (by decide)
  · have tw1 : ¬ 1232 ≤ n.toInt := fun z9 => w1 ((ti_le (by decide) rfl).mpr z9)
    refine pb_aload_n (pc := 10) d_Findings_note_10 0 rfl rfl ?_
    refine pb_get (pc := 11) d_Findings_note_11 0 0 rfl rfl (by decide) in_Findings k_366 rfl ?_
    refine pb_aload_n (pc := 14) d_Findings_note_14 0 rfl rfl ?_
    refine pb_get (pc := 15) d_Findings_note_15 0 3 rfl rfl (by decide) in_Findings k_372 rfl ?_
    refine pb_iload_n (pc := 18) d_Findings_note_18 1 rfl rfl ?_
    refine pb_iast (pc := 19) (ws' := [(h, .inr (2, [.ref fk, .ref fo, .ref fp, .int n])), (fk, .inl (G.2.2.1, 1232, .inl (upd f1 ((n : Int32).toNatClampNeg) x))), (fo, .inl (G.2.2.1, 1232, .inl f2)), (fp, .inl (G.2.2.1, 1232, .inl f3))]) d_Findings_note_19 1 rfl (vp_in_iff.mpr (by omega)) rfl ?_
    refine pb_aload_n (pc := 20) d_Findings_note_20 0 rfl rfl ?_
    refine pb_get (pc := 21) d_Findings_note_21 0 1 rfl rfl (by decide) in_Findings k_368 rfl ?_
    refine pb_aload_n (pc := 24) d_Findings_note_24 0 rfl rfl ?_
    refine pb_get (pc := 25) d_Findings_note_25 0 3 rfl rfl (by decide) in_Findings k_372 rfl ?_
    refine pb_iload_n (pc := 28) d_Findings_note_28 2 rfl rfl ?_
    refine pb_iast (pc := 29) (ws' := [(h, .inr (2, [.ref fk, .ref fo, .ref fp, .int n])), (fk, .inl (G.2.2.1, 1232, .inl (upd f1 ((n : Int32).toNatClampNeg) x))), (fo, .inl (G.2.2.1, 1232, .inl (upd f2 ((n : Int32).toNatClampNeg) y))), (fp, .inl (G.2.2.1, 1232, .inl f3))]) d_Findings_note_29 2 rfl (vp_in_iff.mpr (by omega)) rfl ?_
    refine pb_aload_n (pc := 30) d_Findings_note_30 0 rfl rfl ?_
    refine pb_get (pc := 31) d_Findings_note_31 0 2 rfl rfl (by decide) in_Findings k_370 rfl ?_
    refine pb_aload_n (pc := 34) d_Findings_note_34 0 rfl rfl ?_
    refine pb_get (pc := 35) d_Findings_note_35 0 3 rfl rfl (by decide) in_Findings k_372 rfl ?_
    refine pb_iload_n (pc := 38) d_Findings_note_38 3 rfl rfl ?_
    refine pb_iast (pc := 39) (ws' := [(h, .inr (2, [.ref fk, .ref fo, .ref fp, .int n])), (fk, .inl (G.2.2.1, 1232, .inl (upd f1 ((n : Int32).toNatClampNeg) x))), (fo, .inl (G.2.2.1, 1232, .inl (upd f2 ((n : Int32).toNatClampNeg) y))), (fp, .inl (G.2.2.1, 1232, .inl (upd f3 ((n : Int32).toNatClampNeg) z)))]) d_Findings_note_39 3 rfl (vp_in_iff.mpr (by omega)) rfl ?_
    refine pb_aload_n (pc := 40) d_Findings_note_40 0 rfl rfl ?_
    refine pb_dup (pc := 41) d_Findings_note_41 rfl ?_
    refine pb_get (pc := 42) d_Findings_note_42 0 3 rfl rfl (by decide) in_Findings k_372 rfl ?_
    refine pb_iconst (pc := 45) (v := 1) d_Findings_note_45 (by decide) ?_
    refine pb_iadd (pc := 46) d_Findings_note_46 ?_
    refine pb_topi (fun i2 ei2 => ?_)
    try have ti2 : i2.toInt = n.toInt + 1 := t2_add ei2 rfl (by decide) (by omega)
    refine pb_put (pc := 47) (ty := .int) (ws' := [(h, .inr (2, [.ref fk, .ref fo, .ref fp, .int i2])), (fk, .inl (G.2.2.1, 1232, .inl (upd f1 ((n : Int32).toNatClampNeg) x))), (fo, .inl (G.2.2.1, 1232, .inl (upd f2 ((n : Int32).toNatClampNeg) y))), (fp, .inl (G.2.2.1, 1232, .inl (upd f3 ((n : Int32).toNatClampNeg) z)))]) d_Findings_note_47 0 3 t_Findings t_Findings_ok n_Findings rfl rfl (by decide) in_Findings k_372 rfl (by decide +kernel) rfl rfl (Nat.le_of_ble_eq_true rfl) rfl ?_
    exact pb_vret (pc := 50) hQ d_Findings_note_50 rfl (i2, (upd f1 ((n : Int32).toNatClampNeg) x), (upd f2 ((n : Int32).toNatClampNeg) y), (upd f3 ((n : Int32).toNatClampNeg) z)) ⟨rfl, (by (try dsimp only); first | done | (with_reducible assumption) | omega (splitDisjunctions := false) | assumption | omega | decide), (by (try dsimp only); first | done | (with_reducible assumption) | omega (splitDisjunctions := false) | assumption | omega | decide), (show n.toInt < 1232 → i2.toInt = n.toInt + 1 from (by (try dsimp only); first | exact fun _ => (by omega) | exact fun q9 => absurd q9 (by omega)))⟩ [0, 1, 2, 3] (by decide) rfl rfl (by decide) (by decide)
/-! ROWS OF NUMBERS -/
theorem omg_c813e6ba82 {x0 : Int} {x1 : Int} {x2 : Int} {x3 : Int} {x4 : Int} (a0 : ((¬ (((1 : Int) ≤ x0) ∧ (x0 ≤ (8 : Int)))) → (x1 = (1 : Int)))) (a1 : (x2 = (x3 + x4))) (a2 : ((x1 ≠ (0 : Int)) → (x4 = (0 : Int)))) : ((¬ (((1 : Int) ≤ x0) ∧ (x0 ≤ (8 : Int)))) → ((x1 = (1 : Int)) ∧ (x2 = x3))) := by omega
theorem omg_ca4caf1023 {x0 : Int} {x1 : Int} {x2 : Int} {x3 : Int} {x4 : Int} (a0 : ((((1 : Int) ≤ x0) ∧ (x0 ≤ (8 : Int))) → (((8000 : Int) < (x1 + x0)) → (x2 = (2 : Int))))) (a1 : (x3 = (x1 + x4))) (a2 : ((x2 ≠ (0 : Int)) → (x4 = (0 : Int)))) : ((((1 : Int) ≤ x0) ∧ (x0 ≤ (8 : Int))) → (((8000 : Int) < (x1 + x0)) → ((x2 = (2 : Int)) ∧ (x3 = x1)))) := by omega
theorem omg_aed0d06cc9 {x0 : Int} {x1 : Int} {x2 : Int} {x3 : Int} {x4 : Int} (a0 : ((0 : Int) ≤ x0)) (a1 : ((¬ (((1 : Int) ≤ x1) ∧ (x1 ≤ (8 : Int)))) → (x2 = (1 : Int)))) (a2 : ((((1 : Int) ≤ x1) ∧ (x1 ≤ (8 : Int))) → (((8000 : Int) < (x0 + x1)) → (x2 = (2 : Int))))) (a3 : ((0 : Int) ≤ x3)) (a4 : (x4 = (x0 + x3))) (a5 : (¬ (x1 ≤ x3))) (a6 : (x2 = (0 : Int))) : (((0 : Int) ≤ x4) ∧ (x4 < (((8000 : Nat) : Nat) : Int))) := by omega
theorem omg_6672641528 {x0 : Int} {x1 : Int} {x2 : Int} {x3 : Int} {x4 : Int} (a0 : ((0 : Int) ≤ x0)) (a1 : (x0 ≤ (8000 : Int))) (a2 : ((¬ (((1 : Int) ≤ x1) ∧ (x1 ≤ (8 : Int)))) → (x2 = (1 : Int)))) (a3 : ((0 : Int) ≤ x3)) (a4 : (x4 = (x0 + x3))) (a5 : ((x2 ≠ (0 : Int)) → (x3 = (0 : Int)))) (a6 : ((x2 = (0 : Int)) → (x3 ≤ x1))) : (((-(2147483648 : Int)) ≤ (x4 + (1 : Int))) ∧ ((x4 + (1 : Int)) < (2147483648 : Int))) := by omega
theorem omg_d321a9c746 {x0 : Int} {x1 : Int} {x2 : Int} {x3 : Int} (a0 : ((¬ (((0 : Int) ≤ x0) ∧ (x0 ≤ x1))) → (x2 = (1 : Int)))) (a1 : (x2 ≤ (0 : Int))) : ((¬ (((0 : Int) ≤ x0) ∧ (x0 ≤ x1))) → ((x2 = (1 : Int)) ∧ (x3 = x1))) := by omega
theorem omg_388f7e8491 {x0 : Int} {x1 : Int} {x2 : Int} {x3 : Int} {x4 : Int} (a0 : ((¬ (((0 : Int) ≤ x0) ∧ (x0 ≤ x1))) → (x2 = (1 : Int)))) (a1 : (x3 = (x1 + x4))) (a2 : ((x2 ≠ (0 : Int)) → (x4 = (0 : Int)))) : ((¬ (((0 : Int) ≤ x0) ∧ (x0 ≤ x1))) → ((x2 = (1 : Int)) ∧ (x3 = x1))) := by omega
theorem omg_6d7946ec33 {x0 : Int} {x1 : Int} {x2 : Int} {x3 : Int} {x4 : Int} (a0 : ((((0 : Int) ≤ x0) ∧ (x0 ≤ x1)) → (((8000 : Int) < (x1 + x0)) → (x2 = (2 : Int))))) (a1 : (x3 = (x1 + x4))) (a2 : ((x2 ≠ (0 : Int)) → (x4 = (0 : Int)))) : ((((0 : Int) ≤ x0) ∧ (x0 ≤ x1)) → (((8000 : Int) < (x1 + x0)) → ((x2 = (2 : Int)) ∧ (x3 = x1)))) := by omega
theorem omg_6d60a80598 {x0 : Int} {x1 : Int} {x2 : Int} {x3 : Int} {x4 : Int} (a0 : ((¬ (((0 : Int) ≤ x0) ∧ (x0 ≤ x1))) → (x2 = (1 : Int)))) (a1 : ((((0 : Int) ≤ x0) ∧ (x0 ≤ x1)) → (((8000 : Int) < (x1 + x0)) → (x2 = (2 : Int))))) (a2 : ((0 : Int) ≤ x3)) (a3 : (x4 = (x1 + x3))) (a4 : (¬ (x0 ≤ x3))) (a5 : (x2 = (0 : Int))) : (((-(2147483648 : Int)) ≤ (x4 - x0)) ∧ ((x4 - x0) < (2147483648 : Int))) := by omega
theorem omg_039cf4798d {x0 : Int} {x1 : Int} {x2 : Int} {x3 : Int} {x4 : Int} {x5 : Int} (a0 : ((¬ (((0 : Int) ≤ x0) ∧ (x0 ≤ x1))) → (x2 = (1 : Int)))) (a1 : ((((0 : Int) ≤ x0) ∧ (x0 ≤ x1)) → (((8000 : Int) < (x1 + x0)) → (x2 = (2 : Int))))) (a2 : ((0 : Int) ≤ x3)) (a3 : (x4 = (x1 + x3))) (a4 : (¬ (x0 ≤ x3))) (a5 : (x2 = (0 : Int))) (a6 : (x5 = (x4 - x0))) : (((0 : Int) ≤ x5) ∧ (x5 < (((8000 : Nat) : Nat) : Int))) := by omega
theorem omg_fadb9d6be2 {x0 : Int} {x1 : Int} {x2 : Int} {x3 : Int} {x4 : Int} (a0 : ((¬ (((0 : Int) ≤ x0) ∧ (x0 ≤ x1))) → (x2 = (1 : Int)))) (a1 : ((((0 : Int) ≤ x0) ∧ (x0 ≤ x1)) → (((8000 : Int) < (x1 + x0)) → (x2 = (2 : Int))))) (a2 : ((0 : Int) ≤ x3)) (a3 : (x4 = (x1 + x3))) (a4 : (¬ (x0 ≤ x3))) (a5 : (x2 = (0 : Int))) : (((0 : Int) ≤ x4) ∧ (x4 < (((8000 : Nat) : Nat) : Int))) := by omega
theorem omg_8f6e57f075 {x0 : Int} {x1 : Int} {x2 : Int} {x3 : Int} {x4 : Int} (a0 : ((0 : Int) ≤ x0)) (a1 : (x0 ≤ (8000 : Int))) (a2 : ((¬ (((0 : Int) ≤ x1) ∧ (x1 ≤ x0))) → (x2 = (1 : Int)))) (a3 : ((0 : Int) ≤ x3)) (a4 : (x4 = (x0 + x3))) (a5 : ((x2 ≠ (0 : Int)) → (x3 = (0 : Int)))) (a6 : ((x2 = (0 : Int)) → (x3 ≤ x1))) : (((-(2147483648 : Int)) ≤ (x4 + (1 : Int))) ∧ ((x4 + (1 : Int)) < (2147483648 : Int))) := by omega
theorem omg_5832c60f79 {x0 : Int} {x1 : Int} {x2 : Int} {x3 : Int} (a0 : ((¬ (((0 : Int) ≤ x0) ∧ (x0 ≤ x1))) → (x2 = (1 : Int)))) (a1 : ((((0 : Int) ≤ x0) ∧ (x0 ≤ x1)) → (((8000 : Int) < (x1 + x0)) → (x2 = (2 : Int))))) (a2 : ((0 : Int) ≤ x3)) (a3 : (¬ (x0 ≤ x3))) (a4 : (x2 = (0 : Int))) : (((-(2147483648 : Int)) ≤ (x3 + (1 : Int))) ∧ ((x3 + (1 : Int)) < (2147483648 : Int))) := by omega
theorem omg_aa7f8951d7 {x0 : Int} {x1 : Int} {x2 : Int} {x3 : Int} {x4 : Int} (a0 : ((¬ (((0 : Int) ≤ x0) ∧ (x0 ≤ x1))) → (x2 = (1 : Int)))) (a1 : ((0 : Int) ≤ x3)) (a2 : (x4 = (x1 + x3))) (a3 : (x2 = (0 : Int))) : ((0 : Int) ≤ (x4 - x0)) := by omega
/-- the name at place p is the one that is looked for -/
def nl_eq (z n : Nat → Int32) (p ls : Int) (lf : Nat → Int32) : Prop := gx z p = ls ∧ ∀ k : Int, 0 ≤ k → k < ls → gx n (24 * p + k) = gx lf k
/-- two places have one name -/
def nm_eq (z n : Nat → Int32) (p q : Int) : Prop := gx z p = gx z q ∧ ∀ k : Int, 0 ≤ k → k < gx z p → gx n (24 * p + k) = gx n (24 * q + k)
/-- the sum of n sizes from b on -/
def sm (f : Nat → Int32) (b : Int) : Nat → Int
  | 0 => 0
  | n + 1 => sm f b n + gx f (b + n)
def ms_I (b c : Int) (z s n : Nat → Int32) : Prop := 0 ≤ c ∧ c ≤ 16 ∧ (∀ i : Int, 0 ≤ i → i < c → 1 ≤ gx z (b + i) ∧ gx z (b + i) ≤ 24 ∧ 0 ≤ gx s (b + i) ∧ gx s (b + i) ≤ 4000) ∧ sm s b c.toNat ≤ 12000 ∧ ∀ i j : Int, 0 ≤ i → i < j → j < c → ¬ nm_eq z n (b + i) (b + j)
theorem sm_s {f : Nat → Int32} {b c d : Int} (h : 0 ≤ c) (hd : d = c + 1) : sm f b d.toNat = sm f b c.toNat + gx f (b + c) := by
  subst hd
  rw [show (c + 1).toNat = c.toNat + 1 by omega, sm, show b + ((c.toNat : Nat) : Int) = b + c by omega]
theorem sm_same {f g : Nat → Int32} {b : Int} : ∀ n : Nat, (∀ j : Int, 0 ≤ j → j < n → gx f (b + j) = gx g (b + j)) → sm f b n = sm g b n
  | 0, _ => rfl
  | n + 1, h => by
    rw [sm, sm, sm_same n (fun j h0 h1 => h j h0 (by omega)), h n (by omega) (by omega)]
theorem sm_nn {f : Nat → Int32} {b : Int} : ∀ n : Nat, (∀ j : Int, 0 ≤ j → j < n → 0 ≤ gx f (b + j)) → 0 ≤ sm f b n
  | 0, _ => by rw [sm]; omega
  | n + 1, h => by
    have a := sm_nn n (fun j h0 h1 => h j h0 (by omega))
    have c := h n (by omega) (by omega)
    rw [sm]
    omega
theorem sm_le {f : Nat → Int32} {b m : Int} : ∀ n : Nat, (∀ j : Int, 0 ≤ j → j < n → gx f (b + j) ≤ m) → sm f b n ≤ n * m
  | 0, _ => by rw [sm]; omega
  | n + 1, h => by
    have a := sm_le n (fun j h0 h1 => h j h0 (by omega))
    have c := h n (by omega) (by omega)
    rw [sm, show ((n + 1 : Nat) : Int) * m = n * m + m by rw [Int.natCast_add, Int.add_mul]; omega]
    omega
/-- one of them is another -/
theorem sm_upd {f g : Nat → Int32} {b i v : Int} (h0 : 0 ≤ i) (hi : gx g (b + i) = v) : ∀ n : Nat, i < n → (∀ j : Int, 0 ≤ j → j < n → j ≠ i → gx g (b + j) = gx f (b + j)) → sm g b n = sm f b n - gx f (b + i) + v
  | 0, h, _ => absurd h (by omega)
  | n + 1, h, hj => by
    rw [sm, sm]
    by_cases w : i = n
    · have a := sm_same (f := g) (g := f) (b := b) n (fun j a0 a1 => hj j a0 (by omega) (by omega))
      rw [← w, hi, a]
      omega
    · have a := sm_upd h0 hi n (by omega) (fun j a0 a1 => hj j a0 (by omega))
      have c := hj n (by omega) (by omega) (by omega)
      rw [a, c]
      omega
/-- one more is put in at i: those from i on go up -/
theorem sm_in {f g : Nat → Int32} {b i v : Int} (h0 : 0 ≤ i) (hi : gx g (b + i) = v) (hl : ∀ j : Int, 0 ≤ j → j < i → gx g (b + j) = gx f (b + j)) : ∀ n : Nat, i ≤ n → (∀ j : Int, i < j → j ≤ n → gx g (b + j) = gx f (b + j - 1)) → sm g b (n + 1) = sm f b n + v
  | 0, h, hj => by
    obtain rfl : i = 0 := by omega
    rw [sm, sm, sm]
    rw [show b + ((0 : Nat) : Int) = b + 0 by omega, hi]
  | n + 1, h, hj => by
    rw [sm]
    by_cases w : i = ((n + 1 : Nat) : Int)
    · have a := sm_same (f := g) (g := f) (b := b) (n + 1) (fun j a0 a1 => hl j a0 (by omega))
      rw [a, ← w, hi]
    · have a := sm_in h0 hi hl n (by omega) (fun j a0 a1 => hj j a0 (by omega))
      have c := hj ((n + 1 : Nat) : Int) (by omega) (by omega)
      rw [a, c, sm, show b + ((n + 1 : Nat) : Int) - 1 = b + n by omega]
      omega
/-- one is taken out at i: those behind it go down -/
theorem sm_out {f g : Nat → Int32} {b i : Int} (h0 : 0 ≤ i) (hl : ∀ j : Int, 0 ≤ j → j < i → gx g (b + j) = gx f (b + j)) : ∀ n : Nat, i ≤ n → (∀ j : Int, i ≤ j → j < n → gx g (b + j) = gx f (b + j + 1)) → sm g b n = sm f b (n + 1) - gx f (b + i)
  | 0, h, hj => by
    obtain rfl : i = 0 := by omega
    rw [sm, sm, sm]
    rw [show b + ((0 : Nat) : Int) = b + 0 by omega]
    omega
  | n + 1, h, hj => by
    rw [sm, sm]
    by_cases w : i = ((n + 1 : Nat) : Int)
    · have a := sm_same (f := g) (g := f) (b := b) (n + 1) (fun j a0 a1 => hl j a0 (by omega))
      rw [sm] at a
      rw [a, ← w, sm]
      omega
    · have a := sm_out h0 hl n (by omega) (fun j a0 a1 => hj j a0 (by omega))
      have c := hj n (by omega) (by omega)
      rw [a, c, show b + (n : Int) + 1 = b + ((n + 1 : Nat) : Int) by omega]
      omega
/-- part `to` becomes part `fr` -/
def mv_Z (z z2 : Nat → Int32) (fr to : Int) : Prop := ∀ j : Int, 0 ≤ j → gx z2 j = if j = to then gx z fr else gx z j
def mv_N (n n2 : Nat → Int32) (fr to : Int) : Prop := (∀ k : Int, 0 ≤ k → k < 24 → gx n2 (24 * to + k) = gx n (24 * fr + k)) ∧ ∀ x : Int, 0 ≤ x → (x < 24 * to ∨ 24 * to + 24 ≤ x) → gx n2 x = gx n x
/-- one is in between: up to place i the old ones, from i + 1 to c the old ones before -/
def up_Z (z z2 : Nat → Int32) (b i c : Int) : Prop := (∀ j : Int, 0 ≤ j → j ≤ i → gx z2 (b + j) = gx z (b + j)) ∧ ∀ j : Int, i < j → j ≤ c → gx z2 (b + j) = gx z (b + j - 1)
def up_N (n n2 : Nat → Int32) (b i c : Int) : Prop := (∀ j : Int, 0 ≤ j → j < i → ∀ k : Int, 0 ≤ k → k < 24 → gx n2 (24 * (b + j) + k) = gx n (24 * (b + j) + k)) ∧ ∀ j : Int, i < j → j ≤ c → ∀ k : Int, 0 ≤ k → k < 24 → gx n2 (24 * (b + j) + k) = gx n (24 * (b + j - 1) + k)
theorem up_Z0 {z : Nat → Int32} {b c : Int} : up_Z z z b c c := ⟨fun _ _ _ => rfl, fun j h0 h1 => absurd h1 (by omega)⟩
theorem up_N0 {n : Nat → Int32} {b c : Int} : up_N n n b c c := ⟨fun _ _ _ _ _ _ => rfl, fun j h0 h1 => absurd h1 (by omega)⟩
theorem up_Zs {z z1 z2 : Nat → Int32} {b i i2 c fr to : Int} (h : up_Z z z1 b i c) (hb : 0 ≤ b) (hi : 0 < i) (hf : fr = b + i - 1) (ht : to = b + i) (hm : mv_Z z1 z2 fr to) (h2 : i2 = i - 1) : up_Z z z2 b i2 c := by
  subst hf ht h2
  refine ⟨fun j h0 h1 => ?_, fun j h0 h1 => ?_⟩
  · rw [hm _ (by omega), if_neg (by omega)]
    exact h.1 j h0 (by omega)
  · rw [hm _ (by omega)]
    by_cases w : b + j = b + i
    · rw [if_pos w, show b + i - 1 = b + (i - 1) by omega, h.1 _ (by omega) (by omega), show b + j - 1 = b + (i - 1) by omega]
    · rw [if_neg w]
      exact h.2 j (by omega) h1
theorem up_Ns {n n1 n2 : Nat → Int32} {b i i2 c fr to : Int} (h : up_N n n1 b i c) (hb : 0 ≤ b) (hi : 0 < i) (hf : fr = b + i - 1) (ht : to = b + i) (hm : mv_N n1 n2 fr to) (h2 : i2 = i - 1) : up_N n n2 b i2 c := by
  subst hf ht h2
  refine ⟨fun j h0 h1 k k0 k1 => ?_, fun j h0 h1 k k0 k1 => ?_⟩
  · rw [hm.2 _ (by omega) (by omega)]
    exact h.1 j h0 (by omega) k k0 k1
  · by_cases w : j = i
    · subst w
      have h9 := h.1 (j - 1) (by omega) (by omega) k k0 k1
      rw [hm.1 k k0 k1, show b + j - 1 = b + (j - 1) by omega]
      exact h9
    · rw [hm.2 _ (by omega) (by omega)]
      exact h.2 j (by omega) h1 k k0 k1
/-- a new part stands at i -/
theorem ms_in {b c i ls sz : Int} {z s n z2 s2 n2 lf : Nat → Int32} (h : ms_I b c z s n) (hb : 0 ≤ b) (hi : 0 ≤ i) (hic : i ≤ c) (hc : c < 16) (hl : 1 ≤ ls ∧ ls ≤ 24) (hs : 0 ≤ sz ∧ sz ≤ 4000) (hsum : sm s b c.toNat + sz ≤ 12000)
    (hno : ∀ j : Int, 0 ≤ j → j < c → ¬ nl_eq z n (b + j) ls lf)
    (hz1 : ∀ j : Int, 0 ≤ j → j < i → gx z2 (b + j) = gx z (b + j)) (hz2 : ∀ j : Int, i < j → j ≤ c → gx z2 (b + j) = gx z (b + j - 1)) (hz3 : gx z2 (b + i) = ls)
    (hs1 : ∀ j : Int, 0 ≤ j → j < i → gx s2 (b + j) = gx s (b + j)) (hs2 : ∀ j : Int, i < j → j ≤ c → gx s2 (b + j) = gx s (b + j - 1)) (hs3 : gx s2 (b + i) = sz)
    (hn1 : ∀ j : Int, 0 ≤ j → j < i → ∀ k : Int, 0 ≤ k → k < 24 → gx n2 (24 * (b + j) + k) = gx n (24 * (b + j) + k)) (hn2 : ∀ j : Int, i < j → j ≤ c → ∀ k : Int, 0 ≤ k → k < 24 → gx n2 (24 * (b + j) + k) = gx n (24 * (b + j - 1) + k)) (hn3 : ∀ k : Int, 0 ≤ k → k < ls → gx n2 (24 * (b + i) + k) = gx lf k) : ms_I b (c + 1) z2 s2 n2 := by
  obtain ⟨g1, g2, g3, g4, g5⟩ := h
  -- where an old one went to
  have old : ∀ j : Int, 0 ≤ j → j < c + 1 → j ≠ i → ∃ q : Int, 0 ≤ q ∧ q < c ∧ (j < i ∧ q = j ∨ i < j ∧ q = j - 1) ∧ gx z2 (b + j) = gx z (b + q) ∧ gx s2 (b + j) = gx s (b + q) ∧ ∀ k : Int, 0 ≤ k → k < 24 → gx n2 (24 * (b + j) + k) = gx n (24 * (b + q) + k) := by
    intro j h0 h1 h2
    by_cases w : j < i
    · exact ⟨j, h0, by omega, Or.inl ⟨w, rfl⟩, hz1 j h0 w, hs1 j h0 w, hn1 j h0 w⟩
    · refine ⟨j - 1, by omega, by omega, Or.inr ⟨by omega, rfl⟩, ?_, ?_, fun k k0 k1 => ?_⟩
      · rw [hz2 j (by omega) (by omega), show b + j - 1 = b + (j - 1) by omega]
      · rw [hs2 j (by omega) (by omega), show b + j - 1 = b + (j - 1) by omega]
      · rw [hn2 j (by omega) (by omega) k k0 k1, show b + j - 1 = b + (j - 1) by omega]
  refine ⟨by omega, by omega, fun j h0 h1 => ?_, ?_, fun p q p0 pq qc hnm => ?_⟩
  · by_cases w : j = i
    · subst w
      rw [hz3, hs3]
      omega
    · obtain ⟨q, q0, q1, -, e1, e2, -⟩ := old j h0 h1 w
      rw [e1, e2]
      exact g3 q q0 q1
  · rw [show (c + 1).toNat = c.toNat + 1 by omega, sm_in hi hs3 hs1 c.toNat (by omega) (fun j a0 a1 => hs2 j a0 (by omega))]
    exact hsum
  · by_cases w1 : p = i
    · subst w1
      obtain ⟨r, r0, r1, -, e1, -, e3⟩ := old q (by omega) (by omega) (by omega)
      refine hno r r0 r1 ⟨by rw [← e1, ← hnm.1, hz3], fun k k0 k1 => ?_⟩
      have e4 := hnm.2 k k0 (by rw [hz3]; exact k1)
      rw [hn3 k k0 k1] at e4
      rw [e4, e3 k k0 (by omega)]
    · obtain ⟨r, r0, r1, rr, e1, -, e3⟩ := old p p0 (by omega) w1
      have hr := g3 r r0 r1
      by_cases w2 : q = i
      · subst w2
        refine hno r r0 r1 ⟨by rw [← e1, hnm.1, hz3], fun k k0 k1 => ?_⟩
        have e5 : gx z2 (b + p) = ls := by rw [hnm.1, hz3]
        have e4 := hnm.2 k k0 (by rw [e5]; exact k1)
        rw [hn3 k k0 k1, e3 k k0 (by omega)] at e4
        exact e4
      · obtain ⟨t, t0, t1, tt, d1, -, d3⟩ := old q (by omega) (by omega) w2
        refine g5 r t r0 (by omega) t1 ⟨by rw [← e1, ← d1]; exact hnm.1, fun k k0 k1 => ?_⟩
        have e4 := hnm.2 k k0 (by rw [e1]; exact k1)
        rw [e3 k k0 (by omega), d3 k k0 (by omega)] at e4
        exact e4
/-- part i is told anew, with its own name -/
theorem ms_re {b c i ls sz : Int} {z s n z2 s2 n2 lf : Nat → Int32} (h : ms_I b c z s n) (hb : 0 ≤ b) (hi : 0 ≤ i) (hic : i < c) (hs : 0 ≤ sz ∧ sz ≤ 4000) (hsum : sm s b c.toNat - gx s (b + i) + sz ≤ 12000) (he : nl_eq z n (b + i) ls lf)
    (hz : ∀ j : Int, 0 ≤ j → gx z2 j = if j = b + i then ls else gx z j) (hs2 : ∀ j : Int, 0 ≤ j → gx s2 j = if j = b + i then sz else gx s j)
    (hn : ∀ x : Int, 0 ≤ x → gx n2 x = if 24 * (b + i) ≤ x ∧ x < 24 * (b + i) + ls then gx lf (x - 24 * (b + i)) else gx n x) : ms_I b c z2 s2 n2 := by
  obtain ⟨g1, g2, g3, g4, g5⟩ := h
  have ez : ∀ j : Int, 0 ≤ j → gx z2 j = gx z j := fun j h0 => by
    rw [hz j h0]
    split
    · rename_i w
      rw [w, he.1]
    · rfl
  have en : ∀ x : Int, 0 ≤ x → gx n2 x = gx n x := fun x h0 => by
    rw [hn x h0]
    split
    · rename_i w
      have a := he.2 (x - 24 * (b + i)) (by omega) (by omega)
      rw [← a, show 24 * (b + i) + (x - 24 * (b + i)) = x by omega]
    · rfl
  refine ⟨g1, g2, fun j h0 h1 => ?_, ?_, fun p q p0 pq qc hnm => ?_⟩
  · have a := g3 j h0 h1
    rw [ez _ (by omega), hs2 _ (by omega)]
    split <;> omega
  · rw [sm_upd (f := s) (i := i) (v := sz) hi (by rw [hs2 _ (by omega), if_pos rfl]) c.toNat (by omega) (fun j a0 a1 a2 => by rw [hs2 _ (by omega), if_neg (by omega)])]
    exact hsum
  · refine g5 p q p0 pq qc ⟨by rw [← ez _ (by omega), ← ez _ (by omega)]; exact hnm.1, fun k k0 k1 => ?_⟩
    rw [← en _ (by omega), ← en _ (by omega)]
    exact hnm.2 k k0 (by rw [ez _ (by omega)]; exact k1)
/-- part i is taken out -/
theorem ms_out {b c i : Int} {z s n z2 s2 n2 : Nat → Int32} (h : ms_I b c z s n) (hb : 0 ≤ b) (hi : 0 ≤ i) (hic : i < c)
    (hz1 : ∀ j : Int, 0 ≤ j → j < i → gx z2 (b + j) = gx z (b + j)) (hz2 : ∀ j : Int, i ≤ j → j < c - 1 → gx z2 (b + j) = gx z (b + j + 1))
    (hs1 : ∀ j : Int, 0 ≤ j → j < i → gx s2 (b + j) = gx s (b + j)) (hs2 : ∀ j : Int, i ≤ j → j < c - 1 → gx s2 (b + j) = gx s (b + j + 1))
    (hn1 : ∀ j : Int, 0 ≤ j → j < i → ∀ k : Int, 0 ≤ k → k < 24 → gx n2 (24 * (b + j) + k) = gx n (24 * (b + j) + k)) (hn2 : ∀ j : Int, i ≤ j → j < c - 1 → ∀ k : Int, 0 ≤ k → k < 24 → gx n2 (24 * (b + j) + k) = gx n (24 * (b + j + 1) + k)) : ms_I b (c - 1) z2 s2 n2 := by
  obtain ⟨g1, g2, g3, g4, g5⟩ := h
  have old : ∀ j : Int, 0 ≤ j → j < c - 1 → ∃ q : Int, 0 ≤ q ∧ q < c ∧ (j < i ∧ q = j ∨ i ≤ j ∧ q = j + 1) ∧ gx z2 (b + j) = gx z (b + q) ∧ gx s2 (b + j) = gx s (b + q) ∧ ∀ k : Int, 0 ≤ k → k < 24 → gx n2 (24 * (b + j) + k) = gx n (24 * (b + q) + k) := by
    intro j h0 h1
    by_cases w : j < i
    · exact ⟨j, h0, by omega, Or.inl ⟨w, rfl⟩, hz1 j h0 w, hs1 j h0 w, hn1 j h0 w⟩
    · refine ⟨j + 1, by omega, by omega, Or.inr ⟨by omega, rfl⟩, ?_, ?_, fun k k0 k1 => ?_⟩
      · rw [hz2 j (by omega) h1, show b + j + 1 = b + (j + 1) by omega]
      · rw [hs2 j (by omega) h1, show b + j + 1 = b + (j + 1) by omega]
      · rw [hn2 j (by omega) h1 k k0 k1, show b + j + 1 = b + (j + 1) by omega]
  refine ⟨by omega, by omega, fun j h0 h1 => ?_, ?_, fun p q p0 pq qc hnm => ?_⟩
  · obtain ⟨q, q0, q1, -, e1, e2, -⟩ := old j h0 h1
    rw [e1, e2]
    exact g3 q q0 q1
  · have a := sm_out hi hs1 (c - 1).toNat (by omega) (fun j a0 a1 => hs2 j a0 (by omega))
    rw [show (c - 1).toNat + 1 = c.toNat by omega] at a
    have d := g3 i hi hic
    omega
  · obtain ⟨r, r0, r1, rr, e1, -, e3⟩ := old p p0 (by omega)
    obtain ⟨t, t0, t1, tt, d1, -, d3⟩ := old q (by omega) (by omega)
    have hr := g3 r r0 r1
    refine g5 r t r0 (by omega) t1 ⟨by rw [← e1, ← d1]; exact hnm.1, fun k k0 k1 => ?_⟩
    have e4 := hnm.2 k k0 (by rw [e1]; exact k1)
    rw [e3 k k0 (by omega), d3 k k0 (by omega)] at e4
    exact e4
theorem nl_uniq {b c i j ls : Int} {z s n lf : Nat → Int32} (h : ms_I b c z s n) (hi : 0 ≤ i) (hic : i < c) (hj : 0 ≤ j) (hjc : j < c) (h1 : nl_eq z n (b + i) ls lf) (h2 : nl_eq z n (b + j) ls lf) : i = j := by
  have key : ∀ p q : Int, 0 ≤ p → p < q → q < c → nl_eq z n (b + p) ls lf → nl_eq z n (b + q) ls lf → False := fun p q p0 pq qc a d =>
    h.2.2.2.2 p q p0 pq qc ⟨by rw [a.1, d.1], fun k k0 k1 => by rw [a.2 k k0 (by rw [← a.1]; exact k1), d.2 k k0 (by rw [← a.1]; exact k1)]⟩
  rcases Int.lt_trichotomy i j with w | w | w
  · exact (key i j hi w hjc h1 h2).elim
  · exact w
  · exact (key j i hj w hic h2 h1).elim
/-- the same outside of a set -/
def ot_Z (z z2 : Nat → Int32) (b : Int) : Prop := ∀ j : Int, 0 ≤ j → (j < b ∨ b + 17 ≤ j) → gx z2 j = gx z j
def ot_N (n n2 : Nat → Int32) (b : Int) : Prop := ∀ x : Int, 0 ≤ x → (x < 24 * b ∨ 24 * (b + 17) ≤ x) → gx n2 x = gx n x
theorem ms_ext {b d c : Int} {z s n z2 s2 n2 : Nat → Int32} (h : ms_I d c z s n) (hd : 0 ≤ d) (hbd : d + 17 ≤ b ∨ b + 17 ≤ d) (hz : ot_Z z z2 b) (hs : ot_Z s s2 b) (hn : ot_N n n2 b) : ms_I d c z2 s2 n2 := by
  obtain ⟨g1, g2, g3, g4, g5⟩ := h
  refine ⟨g1, g2, fun j h0 h1 => ?_, ?_, fun p q p0 pq qc hnm => ?_⟩
  · rw [hz _ (by omega) (by omega), hs _ (by omega) (by omega)]
    exact g3 j h0 h1
  · rw [sm_same (f := s2) (g := s) (b := d) c.toNat (fun j a0 a1 => hs _ (by omega) (by omega))]
    exact g4
  · have e1 := hz (d + p) (by omega) (by omega)
    have e2 := hz (d + q) (by omega) (by omega)
    have hp := g3 p p0 (by omega)
    refine g5 p q p0 pq qc ⟨by rw [← e1, ← e2]; exact hnm.1, fun k k0 k1 => ?_⟩
    have a := hnm.2 k k0 (by rw [e1]; exact k1)
    rw [hn _ (by omega) (by omega), hn _ (by omega) (by omega)] at a
    exact a
theorem md_all : ∀ j : Nat, j < 30 → 4 ≤ j → 1 ≤ (1 + ((2 + (nI j - nI j / 2 * 2)) <<< ((nI j / 2 - 1) &&& 31))).toInt ∧ (24 ≤ j → 4097 ≤ (1 + ((2 + (nI j - nI j / 2 * 2)) <<< ((nI j / 2 - 1) &&& 31))).toInt) ∧ (1 + ((2 + (nI j - nI j / 2 * 2)) <<< ((nI j / 2 - 1) &&& 31))).toInt ≤ 65536 := by decide +kernel
theorem md_pos {d r : Int32} (h0 : 4 ≤ d.toInt) (h1 : d.toInt ≤ 29) (e : r = 1 + ((2 + (d - d / 2 * 2)) <<< ((d / 2 - 1) &&& 31))) : 1 ≤ r.toInt ∧ (24 ≤ d.toInt → 4097 ≤ r.toInt) ∧ r.toInt ≤ 65536 := by
  subst e
  obtain ⟨j, hj, rfl⟩ := ti_nat (x := d) (by omega)
  have e1 := nI_toInt hj
  have h := md_all j (by omega) (by omega)
  exact ⟨h.1, fun w => h.2.1 (by omega), h.2.2⟩
/-- behind the shifts of put: the new part's own place is free -/
def pt_I (b i c : Int) (z s n z2 s2 n2 : Nat → Int32) : Prop := up_Z z z2 b i c ∧ up_Z s s2 b i c ∧ up_N n n2 b i c ∧ ot_Z z z2 b ∧ ot_Z s s2 b ∧ ot_N n n2 b
theorem pt_0 {b c : Int} {z s n : Nat → Int32} : pt_I b c c z s n z s n := ⟨up_Z0, up_Z0, up_N0, fun _ _ _ => rfl, fun _ _ _ => rfl, fun _ _ _ => rfl⟩
theorem ot_mvZ {z z1 z2 : Nat → Int32} {b fr to : Int} (h : ot_Z z z1 b) (hm : mv_Z z1 z2 fr to) (h0 : b ≤ to) (h1 : to < b + 17) : ot_Z z z2 b := fun j j0 j1 => by
  rw [hm j j0, if_neg (by omega)]
  exact h j j0 j1
theorem ot_mvN {n n1 n2 : Nat → Int32} {b fr to : Int} (h : ot_N n n1 b) (hm : mv_N n1 n2 fr to) (h0 : b ≤ to) (h1 : to < b + 17) : ot_N n n2 b := fun x x0 x1 => by
  rw [hm.2 x x0 (by omega)]
  exact h x x0 x1
theorem pt_s {b i i2 c fr to : Int} {z s n z1 s1 n1 z2 s2 n2 : Nat → Int32} (h : pt_I b i c z s n z1 s1 n1) (hb : 0 ≤ b) (hi : 0 < i) (hc : i ≤ c) (hc6 : c ≤ 16) (hf : fr = b + i - 1) (ht : to = b + i) (hz : mv_Z z1 z2 fr to) (hs : mv_Z s1 s2 fr to) (hn : mv_N n1 n2 fr to) (h2 : i2 = i - 1) : pt_I b i2 c z s n z2 s2 n2 :=
  ⟨up_Zs h.1 hb hi hf ht hz h2, up_Zs h.2.1 hb hi hf ht hs h2, up_Ns h.2.2.1 hb hi hf ht hn h2, ot_mvZ h.2.2.2.1 hz (by omega) (by omega), ot_mvZ h.2.2.2.2.1 hs (by omega) (by omega), ot_mvN h.2.2.2.2.2 hn (by omega) (by omega)⟩
/-- the new name is written -/
def wn_I (n n2 : Nat → Int32) (q k : Int) (lf : Nat → Int32) : Prop := ∀ x : Int, 0 ≤ x → gx n2 x = if 24 * q ≤ x ∧ x < 24 * q + k then gx lf (x - 24 * q) else gx n x
theorem wn_0 {n lf : Nat → Int32} {q : Int} : wn_I n n q 0 lf := fun x _ => by rw [if_neg (by omega)]
theorem wn_s {n n1 lf : Nat → Int32} {q k k2 : Int} {ix v : Int32} (h : wn_I n n1 q k lf) (h0 : 0 ≤ k) (hq : 0 ≤ q) (hx : ix.toInt = 24 * q + k) (hv : v.toInt = gx lf k) (hr : -128 ≤ v.toInt ∧ v.toInt ≤ 127) (h2 : k2 = k + 1) : wn_I n (upd n1 ix.toNatClampNeg (vp_nar .byte v)) q k2 lf := fun x x0 => by
  rw [gx_updb hx x (by omega) x0 hr]
  by_cases w : x = 24 * q + k
  · rw [if_pos w, if_pos (by omega), hv, show x - 24 * q = k by omega]
  · rw [if_neg w, h x x0]
    by_cases w2 : 24 * q ≤ x ∧ x < 24 * q + k
    · rw [if_pos w2, if_pos (by omega)]
    · rw [if_neg w2, if_neg (by omega)]
/-- all of put: a new part -/
theorem pt_new {b i c ls sz : Int} {z s n z1 s1 n1 n2 lf : Nat → Int32} {qi lv sv : Int32} (h : ms_I b c z s n) (hb : 0 ≤ b) (hp : pt_I b i c z s n z1 s1 n1) (hi : 0 ≤ i) (hic : i ≤ c) (hc : c < 16) (hl : 1 ≤ ls ∧ ls ≤ 24) (hs : 0 ≤ sz ∧ sz ≤ 4000) (hsum : sm s b c.toNat + sz ≤ 12000) (hno : ∀ j : Int, 0 ≤ j → j < c → ¬ nl_eq z n (b + j) ls lf)
    (hq : qi.toInt = b + i) (hlv : lv.toInt = ls) (hsv : sv.toInt = sz) (hw : wn_I n1 n2 (b + i) ls lf) : ms_I b (c + 1) (upd z1 qi.toNatClampNeg lv) (upd s1 qi.toNatClampNeg sv) n2 ∧ ot_Z z (upd z1 qi.toNatClampNeg lv) b ∧ ot_Z s (upd s1 qi.toNatClampNeg sv) b ∧ ot_N n n2 b := by
  obtain ⟨u1, u2, u3, o1, o2, o3⟩ := hp
  refine ⟨ms_in h hb hi hic hc hl hs hsum hno ?_ ?_ ?_ ?_ ?_ ?_ ?_ ?_ ?_, ?_, ?_, ?_⟩
  · intro j h0 h1; rw [gx_upd hq _ (by omega) (by omega), if_neg (by omega)]; exact u1.1 j h0 (by omega)
  · intro j h0 h1; rw [gx_upd hq _ (by omega) (by omega), if_neg (by omega)]; exact u1.2 j h0 h1
  · rw [gx_upd hq _ (by omega) (by omega), if_pos rfl]; exact hlv
  · intro j h0 h1; rw [gx_upd hq _ (by omega) (by omega), if_neg (by omega)]; exact u2.1 j h0 (by omega)
  · intro j h0 h1; rw [gx_upd hq _ (by omega) (by omega), if_neg (by omega)]; exact u2.2 j h0 h1
  · rw [gx_upd hq _ (by omega) (by omega), if_pos rfl]; exact hsv
  · intro j h0 h1 k k0 k1; rw [hw _ (by omega), if_neg (by omega)]; exact u3.1 j h0 h1 k k0 k1
  · intro j h0 h1 k k0 k1; rw [hw _ (by omega), if_neg (by omega)]; exact u3.2 j h0 h1 k k0 k1
  · intro k k0 k1; rw [hw _ (by omega), if_pos (by omega), show 24 * (b + i) + k - 24 * (b + i) = k by omega]
  · intro j j0 j1; rw [gx_upd hq _ (by omega) j0, if_neg (by omega)]; exact o1 j j0 j1
  · intro j j0 j1; rw [gx_upd hq _ (by omega) j0, if_neg (by omega)]; exact o2 j j0 j1
  · intro x x0 x1; rw [hw x x0, if_neg (by omega)]; exact o3 x x0 x1
/-- all of put: a part told anew -/
theorem pt_old {b i c ls sz : Int} {z s n n2 lf : Nat → Int32} {qi lv sv : Int32} (h : ms_I b c z s n) (hb : 0 ≤ b) (hi : 0 ≤ i) (hic : i < c) (hl : ls ≤ 24) (hs : 0 ≤ sz ∧ sz ≤ 4000) (hsum : sm s b c.toNat - gx s (b + i) + sz ≤ 12000) (he : nl_eq z n (b + i) ls lf)
    (hq : qi.toInt = b + i) (hlv : lv.toInt = ls) (hsv : sv.toInt = sz) (hw : wn_I n n2 (b + i) ls lf) : ms_I b c (upd z qi.toNatClampNeg lv) (upd s qi.toNatClampNeg sv) n2 ∧ ot_Z z (upd z qi.toNatClampNeg lv) b ∧ ot_Z s (upd s qi.toNatClampNeg sv) b ∧ ot_N n n2 b := by
  have hc6 := h.2.1
  refine ⟨ms_re h hb hi hic hs hsum he (fun j h0 => by rw [gx_upd hq j (by omega) h0, hlv]) (fun j h0 => by rw [gx_upd hq j (by omega) h0, hsv]) hw, ?_, ?_, ?_⟩
  · intro j j0 j1; rw [gx_upd hq _ (by omega) j0, if_neg (by omega)]
  · intro j j0 j1; rw [gx_upd hq _ (by omega) j0, if_neg (by omega)]
  · intro x x0 x1; rw [hw x x0, if_neg (by omega)]
/-- those from i to k came down -/
def dn_Z (z z2 : Nat → Int32) (b i k : Int) : Prop := ∀ j : Int, 0 ≤ j → gx z2 (b + j) = if i ≤ j ∧ j < k then gx z (b + j + 1) else gx z (b + j)
def dn_N (n n2 : Nat → Int32) (b i k : Int) : Prop := ∀ j : Int, 0 ≤ j → ∀ q : Int, 0 ≤ q → q < 24 → gx n2 (24 * (b + j) + q) = if i ≤ j ∧ j < k then gx n (24 * (b + j + 1) + q) else gx n (24 * (b + j) + q)
theorem dn_Z0 {z : Nat → Int32} {b i : Int} : dn_Z z z b i i := fun j _ => by rw [if_neg (by omega)]
theorem dn_N0 {n : Nat → Int32} {b i : Int} : dn_N n n b i i := fun j _ q _ _ => by rw [if_neg (by omega)]
theorem dn_Zs {z z1 z2 : Nat → Int32} {b i k k2 fr to : Int} (h : dn_Z z z1 b i k) (hb : 0 ≤ b) (hi : 0 ≤ i) (hk : i ≤ k) (hf : fr = b + k + 1) (ht : to = b + k) (hm : mv_Z z1 z2 fr to) (h2 : k2 = k + 1) : dn_Z z z2 b i k2 := by
  subst hf ht h2
  intro j h0
  rw [hm _ (by omega)]
  by_cases w : b + j = b + k
  · rw [if_pos w, if_pos (by omega)]
    have a := h (k + 1) (by omega)
    rw [if_neg (by omega)] at a
    rw [show b + k + 1 = b + (k + 1) by omega, a, show b + j + 1 = b + (k + 1) by omega]
  · rw [if_neg w, h j h0]
    by_cases w2 : i ≤ j ∧ j < k
    · rw [if_pos w2, if_pos (by omega)]
    · rw [if_neg w2, if_neg (by omega)]
theorem dn_Ns {n n1 n2 : Nat → Int32} {b i k k2 fr to : Int} (h : dn_N n n1 b i k) (hb : 0 ≤ b) (hi : 0 ≤ i) (hk : i ≤ k) (hf : fr = b + k + 1) (ht : to = b + k) (hm : mv_N n1 n2 fr to) (h2 : k2 = k + 1) : dn_N n n2 b i k2 := by
  subst hf ht h2
  intro j h0 q q0 q1
  by_cases w : j = k
  · subst w
    rw [hm.1 q q0 q1, if_pos (by omega)]
    have a := h (j + 1) (by omega) q q0 q1
    rw [if_neg (by omega)] at a
    rw [show b + j + 1 = b + (j + 1) by omega]
    exact a
  · rw [hm.2 _ (by omega) (by omega), h j h0 q q0 q1]
    by_cases w2 : i ≤ j ∧ j < k
    · rw [if_pos w2, if_pos (by omega)]
    · rw [if_neg w2, if_neg (by omega)]
theorem dn_out {b c i : Int} {z s n z2 s2 n2 : Nat → Int32} (h : ms_I b c z s n) (hb : 0 ≤ b) (hi : 0 ≤ i) (hic : i < c) (hz : dn_Z z z2 b i (c - 1)) (hs : dn_Z s s2 b i (c - 1)) (hn : dn_N n n2 b i (c - 1)) : ms_I b (c - 1) z2 s2 n2 :=
  ms_out h hb hi hic (fun j h0 h1 => by rw [hz j h0, if_neg (by omega)]) (fun j h0 h1 => by rw [hz j (by omega), if_pos ⟨h0, h1⟩]) (fun j h0 h1 => by rw [hs j h0, if_neg (by omega)]) (fun j h0 h1 => by rw [hs j (by omega), if_pos ⟨h0, h1⟩])
    (fun j h0 h1 k k0 k1 => by rw [hn j h0 k k0 k1, if_neg (by omega)]) (fun j h0 h1 k k0 k1 => by rw [hn j (by omega) k k0 k1, if_pos ⟨h0, h1⟩])
theorem sm_upN {f : Nat → Int32} {b : Int} : ∀ m n : Nat, (∀ j : Int, 0 ≤ j → j < (n + m : Nat) → 0 ≤ gx f (b + j)) → sm f b n ≤ sm f b (n + m)
  | 0, n, _ => Int.le_refl _
  | m + 1, n, h => by
    have a := sm_upN m n (fun j h0 h1 => h j h0 (by omega))
    have c := h ((n + m : Nat) : Int) (by omega) (by omega)
    rw [show n + (m + 1) = (n + m) + 1 by omega, sm]
    omega
theorem sm_up {b c k : Int} {z s n : Nat → Int32} (h : ms_I b c z s n) (h0 : 0 ≤ k) (h1 : k ≤ c) : 0 ≤ sm s b k.toNat ∧ sm s b k.toNat ≤ 12000 := by
  have a := sm_upN (f := s) (b := b) (c - k).toNat k.toNat (fun j a0 a1 => (h.2.2.1 j a0 (by omega)).2.2.1)
  rw [show k.toNat + (c - k).toNat = c.toNat by omega] at a
  have d := sm_nn (f := s) (b := b) k.toNat (fun j a0 a1 => (h.2.2.1 j a0 (by omega)).2.2.1)
  have e := h.2.2.2.1
  exact ⟨d, by omega⟩
/-! THE REFERENCE'S PARTS -/
theorem nl_nE {b c i ls : Int} {z n s d lf : Nat → Int32} {V : VW_} (R : rM_ b c z n s d V) (i0 : 0 ≤ i) (i1 : i < c) : nl_eq z n (b + i) ls lf ↔ nE_ V i ls (gx lf) := by
  obtain ⟨a1, a2, a3, a4⟩ := R.2 i i0 i1
  constructor
  · rintro ⟨h1, h2⟩
    refine ⟨by omega, fun k k0 k1 => ?_⟩
    rw [← a3 k k0 (by omega)]
    exact h2 k k0 k1
  · rintro ⟨h1, h2⟩
    refine ⟨by omega, fun k k0 k1 => ?_⟩
    rw [a3 k k0 (by omega)]
    exact h2 k k0 k1
theorem rM_F {b c r ls : Int} {z n s d lf : Nat → Int32} {V : VW_} (R : rM_ b c z n s d V) (p0 : -1 ≤ r) (p1 : r < c) (p2 : 0 ≤ r → nl_eq z n (b + r) ls lf) (p3 : r = -1 → ∀ i : Int, 0 ≤ i → i < c → ¬ nl_eq z n (b + i) ls lf) : isF_ V ls (gx lf) r := by
  have e : c = vC V := R.1
  by_cases h : 0 ≤ r
  · exact Or.inl ⟨h, by omega, (nl_nE R h p1).mp (p2 h)⟩
  · exact Or.inr ⟨by omega, fun i i0 i1 q => p3 (by omega) i i0 (by omega) ((nl_nE R i0 (by omega)).mpr q)⟩
theorem rM_sm {b c : Int} {z n s d : Nat → Int32} {V : VW_} (R : rM_ b c z n s d V) : ∀ m : Nat, (m : Int) ≤ c → sm s b m = sv_ V.2.2.2.1 m
  | 0, _ => rfl
  | m + 1, h => by
    have ih := rM_sm R m (by omega)
    have e := (R.2 (m : Int) (by omega) (by omega)).2.1
    have e2 : vS V (m : Int) = V.2.2.2.1 (m : Int) := rfl
    rw [sm, sv_, ih, e, e2]
theorem rM_all {b c : Int} {z n s d : Nat → Int32} {V : VW_} (R : rM_ b c z n s d V) (h : 0 ≤ c) : sm s b c.toNat = vT V := by
  have e := rM_sm R c.toNat (by omega)
  have e1 : c = V.1 := R.1
  unfold vT
  rw [← e1, ← e]
def mv_D (d d2 : Nat → Int32) (fr to m : Int) : Prop := (∀ k : Int, 0 ≤ k → k < m → gr d2 (4000 * to + k) = gr d (4000 * fr + k)) ∧ ∀ x : Int, 0 ≤ x → (x < 4000 * to ∨ 4000 * to + 4000 ≤ x) → gr d2 x = gr d x
def up_D (s d d2 : Nat → Int32) (b i c : Int) : Prop := (∀ j : Int, 0 ≤ j → j < i → ∀ k : Int, 0 ≤ k → k < 4000 → gr d2 (4000 * (b + j) + k) = gr d (4000 * (b + j) + k)) ∧ ∀ j : Int, i < j → j ≤ c → ∀ k : Int, 0 ≤ k → k < gx s (b + j - 1) → gr d2 (4000 * (b + j) + k) = gr d (4000 * (b + j - 1) + k)
def ot_D (d d2 : Nat → Int32) (b : Int) : Prop := ∀ x : Int, 0 ≤ x → (x < 4000 * b ∨ 4000 * (b + 17) ≤ x) → gr d2 x = gr d x
theorem up_D0 {s d : Nat → Int32} {b c : Int} : up_D s d d b c c := ⟨fun _ _ _ _ _ _ => rfl, fun j h0 h1 => absurd h1 (by omega)⟩
theorem up_Ds {s d d1 d2 : Nat → Int32} {b i i2 c fr to m : Int} (h : up_D s d d1 b i c) (hb : 0 ≤ b) (hi : 0 < i) (hf : fr = b + i - 1) (ht : to = b + i) (hm : mv_D d1 d2 fr to m) (em : m = gx s (b + i - 1)) (m4 : m ≤ 4000) (hs : ∀ j : Int, i < j → j ≤ c → gx s (b + j - 1) ≤ 4000) (h2 : i2 = i - 1) : up_D s d d2 b i2 c := by
  subst hf ht h2 em
  refine ⟨fun j j0 j1 k k0 k1 => ?_, fun j j0 j1 k k0 k1 => ?_⟩
  · rw [hm.2 _ (by omega) (by omega)]
    exact h.1 j j0 (by omega) k k0 k1
  · by_cases c1 : j = i
    · subst c1
      rw [hm.1 k k0 k1, show b + j - 1 = b + (j - 1) by omega]
      exact h.1 (j - 1) (by omega) (by omega) k k0 (by omega)
    · have := hs j (by omega) j1
      rw [hm.2 _ (by omega) (by omega)]
      exact h.2 j (by omega) j1 k k0 k1
theorem ot_mvD {d d1 d2 : Nat → Int32} {b fr to m : Int} (h : ot_D d d1 b) (hm : mv_D d1 d2 fr to m) (h0 : b ≤ to) (h1 : to < b + 17) : ot_D d d2 b := fun x x0 x1 => by
  rw [hm.2 x x0 (by omega)]
  exact h x x0 x1
def wd_I (d d2 : Nat → Int32) (q k : Int) (f : Nat → Int32) (y : Int) : Prop := ∀ x : Int, 0 ≤ x → gr d2 x = if 4000 * q ≤ x ∧ x < 4000 * q + k then gr f (y + (x - 4000 * q)) else gr d x
theorem wd_0 {d f : Nat → Int32} {q y : Int} : wd_I d d q 0 f y := fun x _ => by rw [if_neg (by omega)]
theorem wd_s {d d1 f : Nat → Int32} {q k k2 y : Int} {ix v : Int32} (h : wd_I d d1 q k f y) (h0 : 0 ≤ k) (hq : 0 ≤ q) (hx : ix.toInt = 4000 * q + k) (hv : v = gr f (y + k)) (hr : -128 ≤ v.toInt ∧ v.toInt ≤ 127) (h2 : k2 = k + 1) : wd_I d (upd d1 ix.toNatClampNeg (vp_nar .byte v)) q k2 f y := fun x x0 => by
  subst h2
  rw [gr_updb hx x (by omega) x0]
  by_cases c : x = 4000 * q + k
  · rw [if_pos c, if_pos (by omega), bz_fit hr, hv, show x - 4000 * q = k by omega]
  · rw [if_neg c, h x x0]
    by_cases c2 : 4000 * q ≤ x ∧ x < 4000 * q + k
    · rw [if_pos c2, if_pos (by omega)]
    · rw [if_neg c2, if_neg (by omega)]
/-- a part is put to its place: the others stand where they stood, or one further -/
theorem rM_new {b c i ls m y : Int} {z s n d z1 s1 n1 d1 z2 s2 n2 d2 lf f : Nat → Int32} {V : VW_} (R : rM_ b c z n s d V) (I : ms_I b c z s n) (hb : 0 ≤ b) (i0 : 0 ≤ i) (i1 : i ≤ c) (hp : pt_I b i c z s n z1 s1 n1) (hd : up_D s d d1 b i c) (hl : 0 ≤ ls ∧ ls ≤ 24) (hm : 0 ≤ m ∧ m ≤ 4000) (ez : ∀ j : Int, 0 ≤ j → gx z2 j = if j = b + i then ls else gx z1 j) (es : ∀ j : Int, 0 ≤ j → gx s2 j = if j = b + i then m else gx s1 j) (en : wn_I n1 n2 (b + i) ls lf) (ed : wd_I d1 d2 (b + i) m f y) : rM_ b (c + 1) z2 n2 s2 d2 (vin_ V i ls (gx lf) m (fun k => gr f (y + k))) := by
  obtain ⟨e, h⟩ := R
  have e' : c = V.1 := e
  obtain ⟨⟨pz1, pz2⟩, ⟨ps1, ps2⟩, ⟨pn1, pn2⟩, -⟩ := hp
  refine ⟨by show c + 1 = V.1 + 1; omega, fun j j0 j1 => ?_⟩
  rcases Int.lt_trichotomy j i with w | w | w
  · obtain ⟨a1, a2, a3, a4⟩ := h j j0 (by omega)
    have q5 := I.2.2.1 j j0 (by omega)
    have q1 : vZ (vin_ V i ls (gx lf) m (fun k => gr f (y + k))) j = vZ V j := vi_lo (α := Int) w
    have q2 : vS (vin_ V i ls (gx lf) m (fun k => gr f (y + k))) j = vS V j := vi_lo (α := Int) w
    have q3 : vN (vin_ V i ls (gx lf) m (fun k => gr f (y + k))) j = vN V j := vi_lo (α := Int → Int) w
    have q4 : vD (vin_ V i ls (gx lf) m (fun k => gr f (y + k))) j = vD V j := vi_lo (α := Int → Int32) w
    rw [q1, q2, q3, q4]
    refine ⟨?_, ?_, fun k k0 k1 => ?_, fun k k0 k1 => ?_⟩
    · rw [ez _ (by omega), if_neg (by omega), pz1 j j0 (by omega)]
      exact a1
    · rw [es _ (by omega), if_neg (by omega), ps1 j j0 (by omega)]
      exact a2
    · rw [en _ (by omega), if_neg (by omega), pn1 j j0 w k k0 (by omega)]
      exact a3 k k0 k1
    · rw [ed _ (by omega), if_neg (by omega), hd.1 j j0 w k k0 (by omega)]
      exact a4 k k0 k1
  · subst w
    have q1 : vZ (vin_ V j ls (gx lf) m (fun k => gr f (y + k))) j = ls := vi_at (α := Int) rfl
    have q2 : vS (vin_ V j ls (gx lf) m (fun k => gr f (y + k))) j = m := vi_at (α := Int) rfl
    have q3 : vN (vin_ V j ls (gx lf) m (fun k => gr f (y + k))) j = gx lf := vi_at (α := Int → Int) rfl
    have q4 : vD (vin_ V j ls (gx lf) m (fun k => gr f (y + k))) j = fun k => gr f (y + k) := vi_at (α := Int → Int32) rfl
    rw [q1, q2, q3, q4]
    refine ⟨?_, ?_, fun k k0 k1 => ?_, fun k k0 k1 => ?_⟩
    · rw [ez _ (by omega), if_pos rfl]
    · rw [es _ (by omega), if_pos rfl]
    · rw [en _ (by omega), if_pos (by omega), show 24 * (b + j) + k - 24 * (b + j) = k by omega]
    · rw [ed _ (by omega), if_pos (by omega), show 4000 * (b + j) + k - 4000 * (b + j) = k by omega]
  · obtain ⟨a1, a2, a3, a4⟩ := h (j - 1) (by omega) (by omega)
    have q5 := I.2.2.1 (j - 1) (by omega) (by omega)
    rw [show b + (j - 1) = b + j - 1 by omega] at a1 a2 a3 a4 q5
    have q1 : vZ (vin_ V i ls (gx lf) m (fun k => gr f (y + k))) j = vZ V (j - 1) := vi_hi (α := Int) w
    have q2 : vS (vin_ V i ls (gx lf) m (fun k => gr f (y + k))) j = vS V (j - 1) := vi_hi (α := Int) w
    have q3 : vN (vin_ V i ls (gx lf) m (fun k => gr f (y + k))) j = vN V (j - 1) := vi_hi (α := Int → Int) w
    have q4 : vD (vin_ V i ls (gx lf) m (fun k => gr f (y + k))) j = vD V (j - 1) := vi_hi (α := Int → Int32) w
    rw [q1, q2, q3, q4]
    refine ⟨?_, ?_, fun k k0 k1 => ?_, fun k k0 k1 => ?_⟩
    · rw [ez _ (by omega), if_neg (by omega), pz2 j w (by omega)]
      exact a1
    · rw [es _ (by omega), if_neg (by omega), ps2 j w (by omega)]
      exact a2
    · rw [en _ (by omega), if_neg (by omega), pn2 j w (by omega) k k0 (by omega)]
      exact a3 k k0 k1
    · rw [ed _ (by omega), if_neg (by omega), hd.2 j w (by omega) k k0 (by omega)]
      exact a4 k k0 k1
/-- a part is put in the place of the one that had its name -/
theorem rM_old {b c i ls m y : Int} {z s n d z2 s2 n2 d2 lf f : Nat → Int32} {V : VW_} (R : rM_ b c z n s d V) (I : ms_I b c z s n) (hb : 0 ≤ b) (i0 : 0 ≤ i) (i1 : i < c) (hl : 0 ≤ ls ∧ ls ≤ 24) (hm : 0 ≤ m ∧ m ≤ 4000) (ez : ∀ j : Int, 0 ≤ j → gx z2 j = if j = b + i then ls else gx z j) (es : ∀ j : Int, 0 ≤ j → gx s2 j = if j = b + i then m else gx s j) (en : wn_I n n2 (b + i) ls lf) (ed : wd_I d d2 (b + i) m f y) : rM_ b c z2 n2 s2 d2 (vse_ V i ls (gx lf) m (fun k => gr f (y + k))) := by
  obtain ⟨e, h⟩ := R
  refine ⟨e, fun j j0 j1 => ?_⟩
  by_cases w : j = i
  · subst w
    have q1 : vZ (vse_ V j ls (gx lf) m (fun k => gr f (y + k))) j = ls := if_pos rfl
    have q2 : vS (vse_ V j ls (gx lf) m (fun k => gr f (y + k))) j = m := if_pos rfl
    have q3 : vN (vse_ V j ls (gx lf) m (fun k => gr f (y + k))) j = gx lf := if_pos (α := Int → Int) rfl
    have q4 : vD (vse_ V j ls (gx lf) m (fun k => gr f (y + k))) j = fun k => gr f (y + k) := if_pos (α := Int → Int32) rfl
    rw [q1, q2, q3, q4]
    refine ⟨?_, ?_, fun k k0 k1 => ?_, fun k k0 k1 => ?_⟩
    · rw [ez _ (by omega), if_pos rfl]
    · rw [es _ (by omega), if_pos rfl]
    · rw [en _ (by omega), if_pos (by omega), show 24 * (b + j) + k - 24 * (b + j) = k by omega]
    · rw [ed _ (by omega), if_pos (by omega), show 4000 * (b + j) + k - 4000 * (b + j) = k by omega]
  · obtain ⟨a1, a2, a3, a4⟩ := h j j0 j1
    have q5 := I.2.2.1 j j0 j1
    have q1 : vZ (vse_ V i ls (gx lf) m (fun k => gr f (y + k))) j = vZ V j := if_neg w
    have q2 : vS (vse_ V i ls (gx lf) m (fun k => gr f (y + k))) j = vS V j := if_neg w
    have q3 : vN (vse_ V i ls (gx lf) m (fun k => gr f (y + k))) j = vN V j := if_neg (α := Int → Int) w
    have q4 : vD (vse_ V i ls (gx lf) m (fun k => gr f (y + k))) j = vD V j := if_neg (α := Int → Int32) w
    rw [q1, q2, q3, q4]
    refine ⟨?_, ?_, fun k k0 k1 => ?_, fun k k0 k1 => ?_⟩
    · rw [ez _ (by omega), if_neg (by omega)]
      exact a1
    · rw [es _ (by omega), if_neg (by omega)]
      exact a2
    · rw [en _ (by omega), if_neg (by omega)]
      exact a3 k k0 k1
    · rw [ed _ (by omega), if_neg (by omega)]
      exact a4 k k0 k1
/-- parts further down -/
def dn_D (s d d2 : Nat → Int32) (b i k : Int) : Prop := (∀ j : Int, 0 ≤ j → ¬ (i ≤ j ∧ j < k) → ∀ q : Int, 0 ≤ q → q < 4000 → gr d2 (4000 * (b + j) + q) = gr d (4000 * (b + j) + q)) ∧ ∀ j : Int, i ≤ j → j < k → ∀ q : Int, 0 ≤ q → q < gx s (b + j + 1) → gr d2 (4000 * (b + j) + q) = gr d (4000 * (b + j + 1) + q)
theorem dn_D0 {s d : Nat → Int32} {b i : Int} : dn_D s d d b i i := ⟨fun _ _ _ _ _ _ => rfl, fun j h0 h1 => absurd h1 (by omega)⟩
theorem dn_Ds {s d d1 d2 : Nat → Int32} {b i k k2 fr to m : Int} (h : dn_D s d d1 b i k) (hb : 0 ≤ b) (hi : 0 ≤ i) (hk : i ≤ k) (hf : fr = b + k + 1) (ht : to = b + k) (hm : mv_D d1 d2 fr to m) (em : m = gx s (b + k + 1)) (m4 : m ≤ 4000) (hs : ∀ j : Int, i ≤ j → j < k → gx s (b + j + 1) ≤ 4000) (h2 : k2 = k + 1) : dn_D s d d2 b i k2 := by
  subst hf ht h2 em
  refine ⟨fun j j0 j1 q q0 q1 => ?_, fun j j0 j1 q q0 q1 => ?_⟩
  · rw [hm.2 _ (by omega) (by omega)]
    exact h.1 j j0 (by omega) q q0 q1
  · by_cases c1 : j = k
    · subst c1
      rw [hm.1 q q0 q1, show b + j + 1 = b + (j + 1) by omega]
      exact h.1 (j + 1) (by omega) (by omega) q q0 (by omega)
    · have := hs j j0 (by omega)
      rw [hm.2 _ (by omega) (by omega)]
      exact h.2 j j0 (by omega) q q0 q1
theorem rM_out {b c i : Int} {z s n d z2 s2 n2 d2 : Nat → Int32} {V : VW_} (R : rM_ b c z n s d V) (I : ms_I b c z s n) (hb : 0 ≤ b) (i0 : 0 ≤ i) (i1 : i < c) (hz : dn_Z z z2 b i (c - 1)) (hs : dn_Z s s2 b i (c - 1)) (hn : dn_N n n2 b i (c - 1)) (hd : dn_D s d d2 b i (c - 1)) : rM_ b (c - 1) z2 n2 s2 d2 (vou_ V i) := by
  obtain ⟨e, h⟩ := R
  have e' : c = V.1 := e
  refine ⟨by show c - 1 = V.1 - 1; omega, fun j j0 j1 => ?_⟩
  by_cases w : j < i
  · obtain ⟨a1, a2, a3, a4⟩ := h j j0 (by omega)
    have q5 := I.2.2.1 j j0 (by omega)
    have q1 : vZ (vou_ V i) j = vZ V j := vo_lo (α := Int) w
    have q2 : vS (vou_ V i) j = vS V j := vo_lo (α := Int) w
    have q3 : vN (vou_ V i) j = vN V j := vo_lo (α := Int → Int) w
    have q4 : vD (vou_ V i) j = vD V j := vo_lo (α := Int → Int32) w
    rw [q1, q2, q3, q4]
    refine ⟨?_, ?_, fun k k0 k1 => ?_, fun k k0 k1 => ?_⟩
    · rw [hz j j0, if_neg (by omega)]
      exact a1
    · rw [hs j j0, if_neg (by omega)]
      exact a2
    · rw [hn j j0 k k0 (by omega), if_neg (by omega)]
      exact a3 k k0 k1
    · rw [hd.1 j j0 (by omega) k k0 (by omega)]
      exact a4 k k0 k1
  · obtain ⟨a1, a2, a3, a4⟩ := h (j + 1) (by omega) (by omega)
    have q5 := I.2.2.1 (j + 1) (by omega) (by omega)
    rw [show b + (j + 1) = b + j + 1 by omega] at a1 a2 a3 a4 q5
    have q1 : vZ (vou_ V i) j = vZ V (j + 1) := vo_hi (α := Int) (by omega)
    have q2 : vS (vou_ V i) j = vS V (j + 1) := vo_hi (α := Int) (by omega)
    have q3 : vN (vou_ V i) j = vN V (j + 1) := vo_hi (α := Int → Int) (by omega)
    have q4 : vD (vou_ V i) j = vD V (j + 1) := vo_hi (α := Int → Int32) (by omega)
    rw [q1, q2, q3, q4]
    refine ⟨?_, ?_, fun k k0 k1 => ?_, fun k k0 k1 => ?_⟩
    · rw [hz j j0, if_pos (by omega)]
      exact a1
    · rw [hs j j0, if_pos (by omega)]
      exact a2
    · rw [hn j j0 k k0 (by omega), if_pos (by omega)]
      exact a3 k k0 k1
    · rw [hd.2 j (by omega) (by omega) k k0 (by omega)]
      exact a4 k k0 k1
/-- the other set is left alone -/
theorem rM_ext {b e c : Int} {z s n d z2 s2 n2 d2 : Nat → Int32} {V : VW_} (R : rM_ e c z n s d V) (I : ms_I e c z s n) (he : 0 ≤ e) (hbd : e + 17 ≤ b ∨ b + 17 ≤ e) (hz : ot_Z z z2 b) (hs : ot_Z s s2 b) (hn : ot_N n n2 b) (hd : ot_D d d2 b) : rM_ e c z2 n2 s2 d2 V := by
  refine ⟨R.1, fun j j0 j1 => ?_⟩
  obtain ⟨a1, a2, a3, a4⟩ := R.2 j j0 j1
  have q5 := I.2.2.1 j j0 j1
  have q6 := I.2.1
  refine ⟨?_, ?_, fun k k0 k1 => ?_, fun k k0 k1 => ?_⟩
  · rw [hz _ (by omega) (by omega)]
    exact a1
  · rw [hs _ (by omega) (by omega)]
    exact a2
  · rw [hn _ (by omega) (by omega)]
    exact a3 k k0 k1
  · rw [hd _ (by omega) (by omega)]
    exact a4 k k0 k1
theorem vse_cg {b c q m s : Int} {z n sz d : Nat → Int32} {V : VW_} {a a' : Int → Int} {dd : Int → Int32} (h : rM_ b c z n sz d (vse_ V q m a s dd)) (e : ∀ k : Int, 0 ≤ k → k < m → a k = a' k) : rM_ b c z n sz d (vse_ V q m a' s dd) := by
  refine ⟨h.1, fun i i0 i1 => ?_⟩
  obtain ⟨h1, h2, h3, h4⟩ := h.2 i i0 i1
  refine ⟨h1, h2, fun k k0 k1 => ?_, h4⟩
  rw [h3 k k0 k1]
  show vs_ q a V.2.2.1 i k = vs_ q a' V.2.2.1 i k
  unfold vs_
  by_cases c1 : i = q
  · rw [if_pos c1, if_pos c1]
    have k1' : k < vs_ q m V.2.1 i := k1
    unfold vs_ at k1'
    rw [if_pos c1] at k1'
    exact e k k0 k1'
  · rw [if_neg c1, if_neg c1]
theorem vin_cg {b c r m s : Int} {z n sz d : Nat → Int32} {V : VW_} {a a' : Int → Int} {dd : Int → Int32} (h : rM_ b c z n sz d (vin_ V r m a s dd)) (e : ∀ k : Int, 0 ≤ k → k < m → a k = a' k) : rM_ b c z n sz d (vin_ V r m a' s dd) := by
  refine ⟨h.1, fun i i0 i1 => ?_⟩
  obtain ⟨h1, h2, h3, h4⟩ := h.2 i i0 i1
  refine ⟨h1, h2, fun k k0 k1 => ?_, h4⟩
  rw [h3 k k0 k1]
  show vi_ r a V.2.2.1 i k = vi_ r a' V.2.2.1 i k
  have k1' : k < vi_ r m V.2.1 i := k1
  rcases Int.lt_trichotomy i r with w | w | w
  · rw [vi_lo w, vi_lo w]
  · rw [vi_at w] at k1'
    rw [vi_at w, vi_at w]
    exact e k k0 k1'
  · rw [vi_hi w, vi_hi w]
/-- the reference's room, and what its put makes, told by the parts alone -/
theorem RM_of {b c ls m : Int} {z n s d lf : Nat → Int32} {V : VW_} {a : Int → Int} (R : rM_ b c z n s d V) (c0 : 0 ≤ c) (e : ∀ k : Int, 0 ≤ k → k < ls → gx lf k = a k) (h : m ≤ 4000 ∧ (∀ i : Int, 0 ≤ i → i < c → nl_eq z n (b + i) ls lf → sm s b c.toNat - gx s (b + i) + m ≤ 12000) ∧ ((∀ i : Int, 0 ≤ i → i < c → ¬ nl_eq z n (b + i) ls lf) → sm s b c.toNat + m ≤ 12000 ∧ c < 16)) : RM_ V a ls m := by
  have ec : c = vC V := R.1
  have es := rM_all R c0
  refine ⟨h.1, fun q q0 q1 q2 => ?_, fun hn => ?_⟩
  · have x := h.2.1 q q0 (by omega) ((nl_nE R q0 (by omega)).mpr (nE_cg q2 (fun k k0 k1 => (e k k0 k1).symm)))
    have y := (R.2 q q0 (by omega)).2.1
    omega
  · have x := h.2.2 (fun i i0 i1 q => hn i i0 (by omega) (nE_cg ((nl_nE R i0 i1).mp q) e))
    omega
theorem RM_no {b c ls m : Int} {z n s d lf : Nat → Int32} {V : VW_} {a : Int → Int} (R : rM_ b c z n s d V) (c0 : 0 ≤ c) (e : ∀ k : Int, 0 ≤ k → k < ls → gx lf k = a k) (h : ¬ (m ≤ 4000 ∧ (∀ i : Int, 0 ≤ i → i < c → nl_eq z n (b + i) ls lf → sm s b c.toNat - gx s (b + i) + m ≤ 12000) ∧ ((∀ i : Int, 0 ≤ i → i < c → ¬ nl_eq z n (b + i) ls lf) → sm s b c.toNat + m ≤ 12000 ∧ c < 16))) : ¬ RM_ V a ls m := fun q => h (by
  have ec : c = vC V := R.1
  have es := rM_all R c0
  refine ⟨q.1, fun i i0 i1 i2 => ?_, fun hn => ?_⟩
  · have x := q.2.1 i i0 (by omega) (nE_cg ((nl_nE R i0 i1).mp i2) e)
    have y := (R.2 i i0 i1).2.1
    omega
  · have x := q.2.2 (fun i i0 i1 p => hn i i0 (by omega) ((nl_nE R i0 (by omega)).mpr (nE_cg p (fun k k0 k1 => (e k k0 k1).symm))))
    omega)
theorem AD_M {b c c2 ls m : Int} {z n s d z2 n2 s2 d2 lf : Nat → Int32} {V : VW_} {a : Int → Int} {dd : Int → Int32} (R : rM_ b c z n s d V) (I : ms_I b c z s n) (hs : srt_ V) (hl : 0 ≤ ls) (e : ∀ k : Int, 0 ≤ k → k < ls → gx lf k = a k) (h : (∃ q : Int, 0 ≤ q ∧ q < c ∧ nE_ V q ls (gx lf) ∧ rM_ b c2 z2 n2 s2 d2 (vse_ V q ls (gx lf) m dd)) ∨ ((∀ i : Int, 0 ≤ i → i < c → ¬ nE_ V i ls (gx lf)) ∧ ∃ r : Int, 0 ≤ r ∧ r ≤ c ∧ (∀ j : Int, r ≤ j → j < c → lx_ (gx lf) ls (vN V j) (vZ V j)) ∧ (0 < r → ¬ lx_ (gx lf) ls (vN V (r - 1)) (vZ V (r - 1))) ∧ rM_ b c2 z2 n2 s2 d2 (vin_ V r ls (gx lf) m dd))) : ∃ W : VW_, AD_ V a ls m dd W ∧ rM_ b c2 z2 n2 s2 d2 W := by
  have ec : c = vC V := R.1
  have hz : ∀ i : Int, 0 ≤ i → i < vC V → 0 ≤ vZ V i := fun i i0 i1 => by
    have x := (R.2 i i0 (by omega)).1
    have y := I.2.2.1 i i0 (by omega)
    omega
  rcases h with ⟨q, q0, q1, q2, q3⟩ | ⟨hn, r, r0, r1, r2, r3, r4⟩
  · exact ⟨_, Or.inl ⟨q, q0, by omega, nE_cg q2 e, rfl⟩, vse_cg q3 e⟩
  · have p := isP_M hs hz hl (fun i i0 i1 => hn i i0 (by omega)) r0 (by omega) (fun j j0 j1 => r2 j j0 (by omega)) r3
    exact ⟨_, Or.inr ⟨fun i i0 i1 q => hn i i0 (by omega) (nE_cg q (fun k k0 k1 => (e k k0 k1).symm)), r, isP_cg p e, rfl⟩, vin_cg r4 e⟩

theorem d_Mod_type_36 : decode prog_12_method_3_code 36 = .ok (.iconst 0, 1) := by decide +kernel
theorem d_Mod_type_37 : decode prog_12_method_3_code 37 = .ok (.istore 4, 2) := by decide +kernel
theorem d_Mod_type_39 : decode prog_12_method_3_code 39 = .ok (.iload 4, 2) := by decide +kernel
theorem d_Mod_type_41 : decode prog_12_method_3_code 41 = .ok (.iload_n 3, 1) := by decide +kernel
theorem d_Mod_type_42 : decode prog_12_method_3_code 42 = .ok (.if_icmp .ge 44, 3) := by decide +kernel
theorem d_Mod_type_86 : decode prog_12_method_3_code 86 = .ok (.aload_n 0, 1) := by decide +kernel
theorem d_Mod_type_87 : decode prog_12_method_3_code 87 = .ok (.getfield 103, 3) := by decide +kernel
theorem k_1154 : (Jvm.Cond.fieldLink "PackageBookModel" (103 : Nat) "PackageBookModel" "thrown" "I") ∈ uW := uW_c4 77 rfl (by decide +kernel)
theorem d_Mod_type_90 : decode prog_12_method_3_code 90 = .ok (.ifCond .le 7, 3) := by decide +kernel
theorem d_Mod_type_97 : decode prog_12_method_3_code 97 = .ok (.aload_n 0, 1) := by decide +kernel
theorem d_Mod_type_98 : decode prog_12_method_3_code 98 = .ok (.getfield 107, 3) := by decide +kernel
theorem k_1155 : (Jvm.Cond.fieldLink "PackageBookModel" (107 : Nat) "PackageBookModel" "taped" "I") ∈ uW := uW_c4 78 rfl (by decide +kernel)
theorem d_Mod_type_101 : decode prog_12_method_3_code 101 = .ok (.ireturn, 1) := by decide +kernel
theorem d_Mod_type_93 : decode prog_12_method_3_code 93 = .ok (.iconst 0, 1) := by decide +kernel
theorem d_Mod_type_94 : decode prog_12_method_3_code 94 = .ok (.goto 7, 3) := by decide +kernel
theorem d_Mod_type_45 : decode prog_12_method_3_code 45 = .ok (.aload_n 0, 1) := by decide +kernel
theorem d_Mod_type_46 : decode prog_12_method_3_code 46 = .ok (.getfield 103, 3) := by decide +kernel
theorem d_Mod_type_49 : decode prog_12_method_3_code 49 = .ok (.ifCond .ne 37, 3) := by decide +kernel
theorem d_Mod_type_52 : decode prog_12_method_3_code 52 = .ok (.aload_n 0, 1) := by decide +kernel
theorem d_Mod_type_53 : decode prog_12_method_3_code 53 = .ok (.getfield 34, 3) := by decide +kernel
theorem k_1156 : (Jvm.Cond.fieldLink "PackageBookModel" (34 : Nat) "PackageBookModel" "tape" "[B") ∈ uW := uW_c4 79 rfl (by decide +kernel)
theorem d_Mod_type_56 : decode prog_12_method_3_code 56 = .ok (.aload_n 0, 1) := by decide +kernel
theorem d_Mod_type_57 : decode prog_12_method_3_code 57 = .ok (.getfield 107, 3) := by decide +kernel
theorem d_Mod_type_60 : decode prog_12_method_3_code 60 = .ok (.lload_n 1, 1) := by decide +kernel
theorem d_Mod_type_61 : decode prog_12_method_3_code 61 = .ok (.bipush 8, 2) := by decide +kernel
theorem d_Mod_type_63 : decode prog_12_method_3_code 63 = .ok (.iload 4, 2) := by decide +kernel
theorem d_Mod_type_65 : decode prog_12_method_3_code 65 = .ok (.imul, 1) := by decide +kernel
theorem d_Mod_type_66 : decode prog_12_method_3_code 66 = .ok (.lshr, 1) := by decide +kernel
theorem d_Mod_type_67 : decode prog_12_method_3_code 67 = .ok (.l2i, 1) := by decide +kernel
theorem d_Mod_type_68 : decode prog_12_method_3_code 68 = .ok (.i2b, 1) := by decide +kernel
theorem d_Mod_type_69 : decode prog_12_method_3_code 69 = .ok (.bastore, 1) := by decide +kernel
theorem d_Mod_type_70 : decode prog_12_method_3_code 70 = .ok (.aload_n 0, 1) := by decide +kernel
theorem d_Mod_type_71 : decode prog_12_method_3_code 71 = .ok (.dup, 1) := by decide +kernel
theorem d_Mod_type_72 : decode prog_12_method_3_code 72 = .ok (.getfield 107, 3) := by decide +kernel
theorem d_Mod_type_75 : decode prog_12_method_3_code 75 = .ok (.iconst 1, 1) := by decide +kernel
theorem d_Mod_type_76 : decode prog_12_method_3_code 76 = .ok (.iadd, 1) := by decide +kernel
theorem d_Mod_type_77 : decode prog_12_method_3_code 77 = .ok (.putfield 107, 3) := by decide +kernel
theorem d_Mod_type_80 : decode prog_12_method_3_code 80 = .ok (.iinc 4 1, 3) := by decide +kernel
theorem d_Mod_type_83 : decode prog_12_method_3_code 83 = .ok (.goto (-44), 3) := by decide +kernel
theorem d_Mod_type_0 : decode prog_12_method_3_code 0 = .ok (.aload_n 0, 1) := by decide +kernel
theorem d_Mod_type_1 : decode prog_12_method_3_code 1 = .ok (.iload_n 3, 1) := by decide +kernel
theorem d_Mod_type_2 : decode prog_12_method_3_code 2 = .ok (.iconst 1, 1) := by decide +kernel
theorem d_Mod_type_3 : decode prog_12_method_3_code 3 = .ok (.if_icmp .lt 9, 3) := by decide +kernel
theorem d_Mod_type_12 : decode prog_12_method_3_code 12 = .ok (.iconst 1, 1) := by decide +kernel
theorem d_Mod_type_13 : decode prog_12_method_3_code 13 = .ok (.goto 20, 3) := by decide +kernel
theorem d_Mod_type_33 : decode prog_12_method_3_code 33 = .ok (.putfield 103, 3) := by decide +kernel
theorem d_Mod_type_6 : decode prog_12_method_3_code 6 = .ok (.iload_n 3, 1) := by decide +kernel
theorem d_Mod_type_7 : decode prog_12_method_3_code 7 = .ok (.bipush 8, 2) := by decide +kernel
theorem d_Mod_type_9 : decode prog_12_method_3_code 9 = .ok (.if_icmp .le 7, 3) := by decide +kernel
theorem d_Mod_type_16 : decode prog_12_method_3_code 16 = .ok (.aload_n 0, 1) := by decide +kernel
theorem d_Mod_type_17 : decode prog_12_method_3_code 17 = .ok (.getfield 107, 3) := by decide +kernel
theorem d_Mod_type_20 : decode prog_12_method_3_code 20 = .ok (.iload_n 3, 1) := by decide +kernel
theorem d_Mod_type_21 : decode prog_12_method_3_code 21 = .ok (.iadd, 1) := by decide +kernel
theorem d_Mod_type_22 : decode prog_12_method_3_code 22 = .ok (.sipush 8000, 3) := by decide +kernel
theorem d_Mod_type_25 : decode prog_12_method_3_code 25 = .ok (.if_icmp .le 7, 3) := by decide +kernel
theorem d_Mod_type_32 : decode prog_12_method_3_code 32 = .ok (.iconst 0, 1) := by decide +kernel
theorem d_Mod_type_28 : decode prog_12_method_3_code 28 = .ok (.iconst 2, 1) := by decide +kernel
theorem d_Mod_type_29 : decode prog_12_method_3_code 29 = .ok (.goto 4, 3) := by decide +kernel
abbrev y_Mod_type : MethodName := ⟨"PackageBookModel", "type", "(JI)I"⟩
abbrev i_Mod_type : pb_I := (y_Mod_type, prog_12_method_3_code, 5, (some Jvm.ClassFile.FieldType.int), [], { frames := 0, cells := 0, slots := 0, locals := 0 })
set_option maxRecDepth 100000 in
set_option maxHeartbeats 4000000 in
theorem g_Mod_type {l : Launch} (hl : l.stackTraces = false) (G : pb_G) (h : Nat) (m_rels : Nat) (m_openRels : Nat) (m_closeRels : Nat) (m_openRel : Nat) (m_closeRel : Nat) (m_comment : Nat) (m_ends : Nat) (m_order : Nat) (m_tape : Nat) (m_count : Nat) (m_nameSize : Nat) (m_names : Nat) (m_size : Nat) (m_data : Nat) (m_looked : Nat) (m_file : Nat) (m_directory : Nat) (m_out : Nat) (m_row : Nat) (m_made : Nat) (m_length : Nat) (m_pressed : Nat) (m_mark : Nat) (m_idSize : Nat) (m_ids : Nat) (m_goalSize : Nat) (m_goals : Nat) (m_value : Nat) (m_faults : Nat) (m_reached : Nat) (v_thrown : Int32) (v_taped : Int32) (v_lookedSize : Int32) (v_fileSize : Int32) (v_directorySize : Int32) (v_outSize : Int32) (v_rowSize : Int32) (v_bitAt : Int32) (v_bitEnd : Int32) (v_why : Int32) (v_madeSize : Int32) (v_firstCount : Int32) (v_secondCount : Int32) (v_heldBits : Int32) (v_heldCount : Int32) (v_pressedSize : Int32) (v_at : Int32) (v_bad : Int32) (v_markSize : Int32) (v_relationCount : Int32) (v_valueSize : Int32) (v_faultCount : Int32) (a_tape : Nat → Int32) (w : Int64) (n : Int32) (t0 : 0 ≤ v_taped.toInt) (t1 : v_taped.toInt ≤ 8000) (F_a_tape : sb_Fit a_tape) : Cn l G i_Mod_type [.ref h, .long w, .int n] [(h, .inr (10, [.ref m_rels, .ref m_openRels, .ref m_closeRels, .ref m_openRel, .ref m_closeRel, .ref m_comment, .ref m_ends, .ref m_order, .int v_thrown, .int v_taped, .ref m_tape, .ref m_count, .ref m_nameSize, .ref m_names, .ref m_size, .ref m_data, .int v_lookedSize, .ref m_looked, .int v_fileSize, .ref m_file, .int v_directorySize, .ref m_directory, .int v_outSize, .ref m_out, .int v_rowSize, .ref m_row, .int v_bitAt, .int v_bitEnd, .int v_why, .int v_madeSize, .ref m_made, .ref m_length, .int v_firstCount, .int v_secondCount, .int v_heldBits, .int v_heldCount, .int v_pressedSize, .ref m_pressed, .int v_at, .int v_bad, .int v_markSize, .ref m_mark, .int v_relationCount, .ref m_idSize, .ref m_ids, .ref m_goalSize, .ref m_goals, .int v_valueSize, .ref m_value, .int v_faultCount, .ref m_faults, .ref m_reached])), (m_tape, .inl (G.2.1, 8000, .inl a_tape))] (S := Int32 × Int32 × Int32 × (Nat → Int32)) (fun rv_ u => rv_ = some (.int u.1) ∧ (¬ (1 ≤ n.toInt ∧ n.toInt ≤ 8) → u.2.1.toInt = 1 ∧ u.2.2.1.toInt = v_taped.toInt) ∧ (1 ≤ n.toInt ∧ n.toInt ≤ 8 → 8000 < v_taped.toInt + n.toInt → u.2.1.toInt = 2 ∧ u.2.2.1.toInt = v_taped.toInt) ∧ (1 ≤ n.toInt ∧ n.toInt ≤ 8 → v_taped.toInt + n.toInt ≤ 8000 → u.2.1.toInt = 0 ∧ u.2.2.1.toInt = v_taped.toInt + n.toInt ∧ u.1.toInt = u.2.2.1.toInt) ∧ (tp_T a_tape u.2.2.2 v_taped.toInt u.2.2.1.toInt w) ∧ (sb_Fit u.2.2.2)) (fun u => [(h, .inr (10, [.ref m_rels, .ref m_openRels, .ref m_closeRels, .ref m_openRel, .ref m_closeRel, .ref m_comment, .ref m_ends, .ref m_order, .int u.2.1, .int u.2.2.1, .ref m_tape, .ref m_count, .ref m_nameSize, .ref m_names, .ref m_size, .ref m_data, .int v_lookedSize, .ref m_looked, .int v_fileSize, .ref m_file, .int v_directorySize, .ref m_directory, .int v_outSize, .ref m_out, .int v_rowSize, .ref m_row, .int v_bitAt, .int v_bitEnd, .int v_why, .int v_madeSize, .ref m_made, .ref m_length, .int v_firstCount, .int v_secondCount, .int v_heldBits, .int v_heldCount, .int v_pressedSize, .ref m_pressed, .int v_at, .int v_bad, .int v_markSize, .ref m_mark, .int v_relationCount, .ref m_idSize, .ref m_ids, .ref m_goalSize, .ref m_goals, .int v_valueSize, .ref m_value, .int v_faultCount, .ref m_faults, .ref m_reached])), (m_tape, .inl (G.2.1, 8000, .inl u.2.2.2))]) := by
  refine Cn.of hl (by decide +kernel) rfl (Nat.le_of_ble_eq_true rfl) (fun M hQ => ?_)
  refine pb_eq (pc' := 0) (lo' := [(0, .ref h), (1, .long w), (3, .int n)]) (rest' := []) (ws' := [(h, .inr (10, [.ref m_rels, .ref m_openRels, .ref m_closeRels, .ref m_openRel, .ref m_closeRel, .ref m_comment, .ref m_ends, .ref m_order, .int v_thrown, .int v_taped, .ref m_tape, .ref m_count, .ref m_nameSize, .ref m_names, .ref m_size, .ref m_data, .int v_lookedSize, .ref m_looked, .int v_fileSize, .ref m_file, .int v_directorySize, .ref m_directory, .int v_outSize, .ref m_out, .int v_rowSize, .ref m_row, .int v_bitAt, .int v_bitEnd, .int v_why, .int v_madeSize, .ref m_made, .ref m_length, .int v_firstCount, .int v_secondCount, .int v_heldBits, .int v_heldCount, .int v_pressedSize, .ref m_pressed, .int v_at, .int v_bad, .int v_markSize, .ref m_mark, .int v_relationCount, .ref m_idSize, .ref m_ids, .ref m_goalSize, .ref m_goals, .int v_valueSize, .ref m_value, .int v_faultCount, .ref m_faults, .ref m_reached])), (m_tape, .inl (G.2.1, 8000, .inl a_tape))]) ?_
  have zl0 : (0 : Int32).toInt = 0 := by decide
  have zl1 : (1 : Int32).toInt = 1 := by decide
  have zl2 : (2 : Int32).toInt = 2 := by decide
  have zl8 : (8 : Int32).toInt = 8 := by decide
  have hJ36_1 : ∀ (th_ : Int32), (¬ (1 ≤ n.toInt ∧ n.toInt ≤ 8) → th_.toInt = 1) → (1 ≤ n.toInt ∧ n.toInt ≤ 8 → 8000 < v_taped.toInt + n.toInt → th_.toInt = 2) → (1 ≤ n.toInt ∧ n.toInt ≤ 8 → v_taped.toInt + n.toInt ≤ 8000 → th_.toInt = 0) → pb_P l G M i_Mod_type 36 [(0, .ref h), (1, .long w), (3, .int n)] [] [(h, .inr (10, [.ref m_rels, .ref m_openRels, .ref m_closeRels, .ref m_openRel, .ref m_closeRel, .ref m_comment, .ref m_ends, .ref m_order, .int th_, .int v_taped, .ref m_tape, .ref m_count, .ref m_nameSize, .ref m_names, .ref m_size, .ref m_data, .int v_lookedSize, .ref m_looked, .int v_fileSize, .ref m_file, .int v_directorySize, .ref m_directory, .int v_outSize, .ref m_out, .int v_rowSize, .ref m_row, .int v_bitAt, .int v_bitEnd, .int v_why, .int v_madeSize, .ref m_made, .ref m_length, .int v_firstCount, .int v_secondCount, .int v_heldBits, .int v_heldCount, .int v_pressedSize, .ref m_pressed, .int v_at, .int v_bad, .int v_markSize, .ref m_mark, .int v_relationCount, .ref m_idSize, .ref m_ids, .ref m_goalSize, .ref m_goals, .int v_valueSize, .ref m_value, .int v_faultCount, .ref m_faults, .ref m_reached])), (m_tape, .inl (G.2.1, 8000, .inl a_tape))] 0 0 := by
    intro th_ j0 j1 j2
    refine pb_iconst (pc := 36) (v := 0) d_Mod_type_36 (by decide) ?_
    refine pb_istore (pc := 37) (lo' := [(4, .int 0), (0, .ref h), (1, .long w), (3, .int n)]) d_Mod_type_37 (by decide) rfl ?_
    have hL39_2 : ∀ (N9 : Nat) (k : Int32) (t : Int32) (g : Nat → Int32), (sb_Fit g) → (0 ≤ k.toInt) → (t.toInt = v_taped.toInt + k.toInt) → (th_.toInt ≠ 0 → k.toInt = 0) → (th_.toInt = 0 → k.toInt ≤ n.toInt) → (tp_T a_tape g v_taped.toInt t.toInt w) → ((n.toInt - k.toInt).toNat) < N9 → pb_P l G M i_Mod_type 39 [(4, .int k), (0, .ref h), (1, .long w), (3, .int n)] [] [(h, .inr (10, [.ref m_rels, .ref m_openRels, .ref m_closeRels, .ref m_openRel, .ref m_closeRel, .ref m_comment, .ref m_ends, .ref m_order, .int th_, .int t, .ref m_tape, .ref m_count, .ref m_nameSize, .ref m_names, .ref m_size, .ref m_data, .int v_lookedSize, .ref m_looked, .int v_fileSize, .ref m_file, .int v_directorySize, .ref m_directory, .int v_outSize, .ref m_out, .int v_rowSize, .ref m_row, .int v_bitAt, .int v_bitEnd, .int v_why, .int v_madeSize, .ref m_made, .ref m_length, .int v_firstCount, .int v_secondCount, .int v_heldBits, .int v_heldCount, .int v_pressedSize, .ref m_pressed, .int v_at, .int v_bad, .int v_markSize, .ref m_mark, .int v_relationCount, .ref m_idSize, .ref m_ids, .ref m_goalSize, .ref m_goals, .int v_valueSize, .ref m_value, .int v_faultCount, .ref m_faults, .ref m_reached])), (m_tape, .inl (G.2.1, 8000, .inl g))] 0 0 := by
      intro N9
      induction N9 with
      | zero => intro k t g F_g k0 k1 k2 k3 kt hm9; exact absurd hm9 (Nat.not_lt_zero _)
      | succ N9 ih39 =>
        intro k t g F_g k0 k1 k2 k3 kt hm9
        refine pb_iload (pc := 39) d_Mod_type_39 0 rfl ?_
        refine pb_iload_n (pc := 41) d_Mod_type_41 3 rfl rfl ?_
        refine pb_icmp_ge (pc := 42) (tgt := 86) d_Mod_type_42 (by decide) (fun w3 => ?_) (fun w3 => ?_)
        · have tw3 : n.toInt ≤ k.toInt := (ti_le rfl rfl).mp w3
          refine pb_aload_n (pc := 86) d_Mod_type_86 1 rfl rfl ?_
          refine pb_get (pc := 87) d_Mod_type_87 0 8 rfl rfl (by decide) in_Mod k_1154 rfl ?_
          refine pb_if_le (pc := 90) (tgt := 97) d_Mod_type_90 (by decide) (fun w4 => ?_) (fun w4 => ?_)
          · have tw4 : th_.toInt ≤ 0 := (ti_le rfl (by decide)).mp w4
            refine pb_aload_n (pc := 97) d_Mod_type_97 1 rfl rfl ?_
            refine pb_get (pc := 98) d_Mod_type_98 0 9 rfl rfl (by decide) in_Mod k_1155 rfl ?_
            exact pb_iret (pc := 101) hQ d_Mod_type_101 rfl rfl (t, th_, t, g) ⟨rfl, (by (try dsimp only); first | done | (with_reducible assumption) | omega (splitDisjunctions := false) | assumption | (clear j1 j2 k2 k3 hm9; first | omega (splitDisjunctions := false) | omega) | omega | decide), (by (try dsimp only); first | done | (with_reducible assumption) | omega (splitDisjunctions := false) | assumption | exact fun q90 q91 => (by have y90 := j1 q90; have y91 := j2 q90; have y92 := y90 q91; clear j1 j2 k2 k3 hm9 y90 y91; first | omega (splitDisjunctions := false) | omega) | omega | decide), (by (try dsimp only); first | done | (with_reducible assumption) | omega (splitDisjunctions := false) | assumption | exact fun q90 q91 => (by have y90 := j1 q90; have y91 := j2 q90; have y92 := y91 q91; have y93 := k3 y92; clear j1 j2 k2 k3 hm9 y90 y91; first | omega (splitDisjunctions := false) | omega) | omega | decide), (by (try dsimp only); first | done | assumption | decide | omega), F_g⟩ [0, 1] (by decide) rfl rfl (by decide) (by decide)
          · have tw4 : ¬ th_.toInt ≤ 0 := fun z9 => w4 ((ti_le rfl (by decide)).mpr z9)
            refine pb_iconst (pc := 93) (v := 0) d_Mod_type_93 (by decide) ?_
            refine pb_goto (pc := 94) (tgt := 101) d_Mod_type_94 (by decide) ?_
            exact pb_iret (pc := 101) hQ d_Mod_type_101 rfl rfl (0, th_, t, g) ⟨rfl, (by (try dsimp only); first | done | (with_reducible assumption) | omega (splitDisjunctions := false) | assumption | (clear j1 j2 k2 k3 hm9; first | omega (splitDisjunctions := false) | omega) | (first | exact omg_c813e6ba82 j0 k1 k2 | omega) | decide), (by (try dsimp only); first | done | (with_reducible assumption) | omega (splitDisjunctions := false) | assumption | exact fun q90 q91 => (by have y90 := j1 q90; have y91 := j2 q90; have y92 := y90 q91; clear j1 j2 k2 k3 hm9 y90 y91; first | omega (splitDisjunctions := false) | omega) | omega | decide), (by (try dsimp only); first | done | (with_reducible assumption) | omega (splitDisjunctions := false) | assumption | exact fun q90 q91 => (by have y90 := j1 q90; have y91 := j2 q90; have y92 := y91 q91; have y93 := k3 y92; clear j1 j2 k2 k3 hm9 y90 y91; first | omega (splitDisjunctions := false) | omega) | omega | decide), (by (try dsimp only); first | done | assumption | decide | omega), F_g⟩ [0, 1] (by decide) rfl rfl (by decide) (by decide)
        · have tw3 : ¬ n.toInt ≤ k.toInt := fun z9 => w3 ((ti_le rfl rfl).mpr z9)
          refine pb_aload_n (pc := 45) d_Mod_type_45 1 rfl rfl ?_
          refine pb_get (pc := 46) d_Mod_type_46 0 8 rfl rfl (by decide) in_Mod k_1154 rfl ?_
          refine pb_if_ne (pc := 49) (tgt := 86) d_Mod_type_49 (by decide) (fun w5 => ?_) (fun w5 => ?_)
          · have tw5 : ¬ th_.toInt = 0 := fun z9 => w5 ((ti_eq rfl (by decide)).mpr z9)
            refine pb_aload_n (pc := 86) d_Mod_type_86 1 rfl rfl ?_
            refine pb_get (pc := 87) d_Mod_type_87 0 8 rfl rfl (by decide) in_Mod k_1154 rfl ?_
            refine pb_if_le (pc := 90) (tgt := 97) d_Mod_type_90 (by decide) (fun w6 => ?_) (fun w6 => ?_)
            · have tw6 : th_.toInt ≤ 0 := (ti_le rfl (by decide)).mp w6
              refine pb_aload_n (pc := 97) d_Mod_type_97 1 rfl rfl ?_
              refine pb_get (pc := 98) d_Mod_type_98 0 9 rfl rfl (by decide) in_Mod k_1155 rfl ?_
              exact pb_iret (pc := 101) hQ d_Mod_type_101 rfl rfl (t, th_, t, g) ⟨rfl, (by (try dsimp only); first | done | (with_reducible assumption) | omega (splitDisjunctions := false) | assumption | (clear j1 j2 k2 k3 hm9; first | omega (splitDisjunctions := false) | omega) | omega | decide), (by (try dsimp only); first | done | (with_reducible assumption) | omega (splitDisjunctions := false) | assumption | exact fun q90 q91 => (by have y90 := j1 q90; have y91 := j2 q90; have y92 := y90 q91; clear j1 j2 k2 k3 hm9 y90 y91; first | omega (splitDisjunctions := false) | omega) | omega | decide), (by (try dsimp only); first | done | (with_reducible assumption) | omega (splitDisjunctions := false) | assumption | exact fun q90 q91 => (by have y90 := j1 q90; have y91 := j2 q90; have y92 := y91 q91; have y93 := k3 y92; clear j1 j2 k2 k3 hm9 y90 y91; first | omega (splitDisjunctions := false) | omega) | omega | decide), (by (try dsimp only); first | done | assumption | decide | omega), F_g⟩ [0, 1] (by decide) rfl rfl (by decide) (by decide)
            · have tw6 : ¬ th_.toInt ≤ 0 := fun z9 => w6 ((ti_le rfl (by decide)).mpr z9)
              refine pb_iconst (pc := 93) (v := 0) d_Mod_type_93 (by decide) ?_
              refine pb_goto (pc := 94) (tgt := 101) d_Mod_type_94 (by decide) ?_
              exact pb_iret (pc := 101) hQ d_Mod_type_101 rfl rfl (0, th_, t, g) ⟨rfl, (by (try dsimp only); first | done | (with_reducible assumption) | omega (splitDisjunctions := false) | assumption | (clear j1 j2 k2 k3 hm9; first | omega (splitDisjunctions := false) | omega) | (first | exact omg_c813e6ba82 j0 k1 k2 | omega) | decide), (by (try dsimp only); first | done | (with_reducible assumption) | omega (splitDisjunctions := false) | assumption | exact fun q90 q91 => (by have y90 := j1 q90; have y91 := j2 q90; have y92 := y90 q91; clear j1 j2 k2 k3 hm9 y90 y91; first | omega (splitDisjunctions := false) | omega) | (first | exact omg_ca4caf1023 j1 k1 k2 | omega) | decide), (by (try dsimp only); first | done | (with_reducible assumption) | omega (splitDisjunctions := false) | assumption | exact fun q90 q91 => (by have y90 := j1 q90; have y91 := j2 q90; have y92 := y91 q91; have y93 := k3 y92; clear j1 j2 k2 k3 hm9 y90 y91; first | omega (splitDisjunctions := false) | omega) | omega | decide), (by (try dsimp only); first | done | assumption | decide | omega), F_g⟩ [0, 1] (by decide) rfl rfl (by decide) (by decide)
          · have tw5 : th_.toInt = 0 := (ti_eq rfl (by decide)).mp w5
            refine pb_aload_n (pc := 52) d_Mod_type_52 1 rfl rfl ?_
            refine pb_get (pc := 53) d_Mod_type_53 0 10 rfl rfl (by decide) in_Mod k_1156 rfl ?_
            refine pb_aload_n (pc := 56) d_Mod_type_56 1 rfl rfl ?_
            refine pb_get (pc := 57) d_Mod_type_57 0 9 rfl rfl (by decide) in_Mod k_1155 rfl ?_
            refine pb_lload_n (pc := 60) d_Mod_type_60 2 rfl rfl ?_
            refine pb_bipush (pc := 61) (v := 8) d_Mod_type_61 (by decide) ?_
            refine pb_iload (pc := 63) d_Mod_type_63 0 rfl ?_
            refine pb_imul (pc := 65) d_Mod_type_65 ?_
            refine pb_topi (fun i7 ei7 => ?_)
            try have ti7 : i7.toInt = 8 * k.toInt := ti_mul ei7 (by decide) rfl (by omega) (by omega)
            refine pb_lshr (pc := 66) d_Mod_type_66 rfl ?_
            refine pb_topl (fun j8 ej8 => ?_)
            refine pb_l2i (pc := 67) d_Mod_type_67 rfl ?_
            refine pb_topi (fun i9 ei9 => ?_)
            try have ti9 : i9.toInt = j8.toInt := ti_l2i ei9 rfl (by omega) (by omega)
            refine pb_i2b (pc := 68) d_Mod_type_68 rfl ?_
            refine pb_topi (fun i10 ei10 => ?_)
            have ti10 : -128 ≤ i10.toInt ∧ i10.toInt ≤ 127 := ti_i2b ei10
            refine pb_bast (pc := 69) (ws' := [(h, .inr (10, [.ref m_rels, .ref m_openRels, .ref m_closeRels, .ref m_openRel, .ref m_closeRel, .ref m_comment, .ref m_ends, .ref m_order, .int th_, .int t, .ref m_tape, .ref m_count, .ref m_nameSize, .ref m_names, .ref m_size, .ref m_data, .int v_lookedSize, .ref m_looked, .int v_fileSize, .ref m_file, .int v_directorySize, .ref m_directory, .int v_outSize, .ref m_out, .int v_rowSize, .ref m_row, .int v_bitAt, .int v_bitEnd, .int v_why, .int v_madeSize, .ref m_made, .ref m_length, .int v_firstCount, .int v_secondCount, .int v_heldBits, .int v_heldCount, .int v_pressedSize, .ref m_pressed, .int v_at, .int v_bad, .int v_markSize, .ref m_mark, .int v_relationCount, .ref m_idSize, .ref m_ids, .ref m_goalSize, .ref m_goals, .int v_valueSize, .ref m_value, .int v_faultCount, .ref m_faults, .ref m_reached])), (m_tape, .inl (G.2.1, 8000, .inl (upd g ((t : Int32).toNatClampNeg) (vp_nar .byte i10))))]) d_Mod_type_69 1 rfl (vp_in_iff.mpr (by (first | exact omg_aed0d06cc9 t0 j0 j1 k0 k1 tw3 tw5 | omega))) rfl ?_
            refine pb_aload_n (pc := 70) d_Mod_type_70 1 rfl rfl ?_
            refine pb_dup (pc := 71) d_Mod_type_71 rfl ?_
            refine pb_get (pc := 72) d_Mod_type_72 0 9 rfl rfl (by decide) in_Mod k_1155 rfl ?_
            refine pb_iconst (pc := 75) (v := 1) d_Mod_type_75 (by decide) ?_
            refine pb_iadd (pc := 76) d_Mod_type_76 ?_
            refine pb_topi (fun i11 ei11 => ?_)
            try have ti11 : i11.toInt = t.toInt + 1 := t2_add ei11 rfl (by decide) (by (first | exact omg_6672641528 t0 t1 j0 k0 k1 k2 k3 | omega))
            refine pb_put (pc := 77) (ty := .int) (ws' := [(h, .inr (10, [.ref m_rels, .ref m_openRels, .ref m_closeRels, .ref m_openRel, .ref m_closeRel, .ref m_comment, .ref m_ends, .ref m_order, .int th_, .int i11, .ref m_tape, .ref m_count, .ref m_nameSize, .ref m_names, .ref m_size, .ref m_data, .int v_lookedSize, .ref m_looked, .int v_fileSize, .ref m_file, .int v_directorySize, .ref m_directory, .int v_outSize, .ref m_out, .int v_rowSize, .ref m_row, .int v_bitAt, .int v_bitEnd, .int v_why, .int v_madeSize, .ref m_made, .ref m_length, .int v_firstCount, .int v_secondCount, .int v_heldBits, .int v_heldCount, .int v_pressedSize, .ref m_pressed, .int v_at, .int v_bad, .int v_markSize, .ref m_mark, .int v_relationCount, .ref m_idSize, .ref m_ids, .ref m_goalSize, .ref m_goals, .int v_valueSize, .ref m_value, .int v_faultCount, .ref m_faults, .ref m_reached])), (m_tape, .inl (G.2.1, 8000, .inl (upd g ((t : Int32).toNatClampNeg) (vp_nar .byte i10))))]) d_Mod_type_77 0 9 t_Mod t_Mod_ok n_Mod rfl rfl (by decide) in_Mod k_1155 rfl (by decide +kernel) rfl rfl (Nat.le_of_ble_eq_true rfl) rfl ?_
            refine pb_iincN (pc := 80) (c := 1) d_Mod_type_80 0 rfl (by decide) (by decide) (fun i12 ei12 => ?_)
            have ti12 : i12.toInt = k.toInt + 1 := t2_add ei12 rfl (by decide) (by first | omega | (have r90 := ti_rng k; have r91 := ti_rng i12; have r92 := ti_rng n; omega))
            refine pb_eq (pc' := 83) (lo' := [(4, .int i12), (0, .ref h), (1, .long w), (3, .int n)]) (rest' := []) (ws' := [(h, .inr (10, [.ref m_rels, .ref m_openRels, .ref m_closeRels, .ref m_openRel, .ref m_closeRel, .ref m_comment, .ref m_ends, .ref m_order, .int th_, .int i11, .ref m_tape, .ref m_count, .ref m_nameSize, .ref m_names, .ref m_size, .ref m_data, .int v_lookedSize, .ref m_looked, .int v_fileSize, .ref m_file, .int v_directorySize, .ref m_directory, .int v_outSize, .ref m_out, .int v_rowSize, .ref m_row, .int v_bitAt, .int v_bitEnd, .int v_why, .int v_madeSize, .ref m_made, .ref m_length, .int v_firstCount, .int v_secondCount, .int v_heldBits, .int v_heldCount, .int v_pressedSize, .ref m_pressed, .int v_at, .int v_bad, .int v_markSize, .ref m_mark, .int v_relationCount, .ref m_idSize, .ref m_ids, .ref m_goalSize, .ref m_goals, .int v_valueSize, .ref m_value, .int v_faultCount, .ref m_faults, .ref m_reached])), (m_tape, .inl (G.2.1, 8000, .inl (upd g ((t : Int32).toNatClampNeg) (vp_nar .byte i10))))]) ?_
            refine pb_goto (pc := 83) (tgt := 39) d_Mod_type_83 (by decide) ?_
            exact ih39 i12 i11 (upd g ((t : Int32).toNatClampNeg) (vp_nar .byte i10)) (sb_fitU F_g (fit_nar _)) (by first | (with_reducible assumption) | omega (splitDisjunctions := false) | assumption | (have y90 := k3 tw5; clear j1 j2 k2 k3 hm9; first | omega (splitDisjunctions := false) | omega) | omega | decide) (by first | (with_reducible assumption) | omega (splitDisjunctions := false) | assumption | (have y90 := k3 tw5; clear j1 j2 k2 k3 hm9; first | omega (splitDisjunctions := false) | omega) | omega | decide) (by first | (with_reducible assumption) | omega (splitDisjunctions := false) | assumption | exact fun q90 => (by have y90 := k2 q90; have y91 := k3 tw5; clear j1 j2 k2 k3 hm9; first | omega (splitDisjunctions := false) | omega) | omega | decide) (by first | (with_reducible assumption) | omega (splitDisjunctions := false) | assumption | exact fun q90 => (by have y90 := k3 q90; clear j1 j2 k2 k3 hm9; first | omega (splitDisjunctions := false) | omega) | omega | decide) (tp_step kt (fun j hj => gr_updb rfl j (by omega) hj) (by omega) (by omega) (tp_m2 (by assumption) (by assumption) (by assumption) (by omega))) (by first | (have y90 := k3 tw5; clear j1 j2 k2 k3; (first | exact omg_7c8a06b1f5 hm9 tw3 ti12 | omega)) | omega)
    exact hL39_2 _ 0 v_taped a_tape (by first | assumption | decide | omega) (by first | (with_reducible assumption) | omega (splitDisjunctions := false) | assumption | (clear j1 j2; first | omega (splitDisjunctions := false) | omega) | omega | decide) (by first | (with_reducible assumption) | omega (splitDisjunctions := false) | assumption | (clear j1 j2; first | omega (splitDisjunctions := false) | omega) | omega | decide) (by first | (with_reducible assumption) | omega (splitDisjunctions := false) | assumption | exact fun q90 => (by clear j1 j2; first | omega (splitDisjunctions := false) | omega) | omega | decide) (by first | (with_reducible assumption) | omega (splitDisjunctions := false) | assumption | exact fun q90 => (by clear j1 j2; first | omega (splitDisjunctions := false) | omega) | omega | decide) (tp_T0 (by omega)) (Nat.lt_succ_self _)
  refine pb_aload_n (pc := 0) d_Mod_type_0 0 rfl rfl ?_
  refine pb_iload_n (pc := 1) d_Mod_type_1 2 rfl rfl ?_
  refine pb_iconst (pc := 2) (v := 1) d_Mod_type_2 (by decide) ?_
  refine pb_icmp_lt (pc := 3) (tgt := 12) d_Mod_type_3 (by decide) (fun w13 => ?_) (fun w13 => ?_)
  · have tw13 : n.toInt < 1 := (ti_lt rfl (by decide)).mp w13
    refine pb_iconst (pc := 12) (v := 1) d_Mod_type_12 (by decide) ?_
    refine pb_goto (pc := 13) (tgt := 33) d_Mod_type_13 (by decide) ?_
    refine pb_put (pc := 33) (ty := .int) (ws' := [(h, .inr (10, [.ref m_rels, .ref m_openRels, .ref m_closeRels, .ref m_openRel, .ref m_closeRel, .ref m_comment, .ref m_ends, .ref m_order, .int 1, .int v_taped, .ref m_tape, .ref m_count, .ref m_nameSize, .ref m_names, .ref m_size, .ref m_data, .int v_lookedSize, .ref m_looked, .int v_fileSize, .ref m_file, .int v_directorySize, .ref m_directory, .int v_outSize, .ref m_out, .int v_rowSize, .ref m_row, .int v_bitAt, .int v_bitEnd, .int v_why, .int v_madeSize, .ref m_made, .ref m_length, .int v_firstCount, .int v_secondCount, .int v_heldBits, .int v_heldCount, .int v_pressedSize, .ref m_pressed, .int v_at, .int v_bad, .int v_markSize, .ref m_mark, .int v_relationCount, .ref m_idSize, .ref m_ids, .ref m_goalSize, .ref m_goals, .int v_valueSize, .ref m_value, .int v_faultCount, .ref m_faults, .ref m_reached])), (m_tape, .inl (G.2.1, 8000, .inl a_tape))]) d_Mod_type_33 0 8 t_Mod t_Mod_ok n_Mod rfl rfl (by decide) in_Mod k_1154 rfl (by decide +kernel) rfl rfl (Nat.le_of_ble_eq_true rfl) rfl ?_
    exact hJ36_1 1 (by first | (with_reducible assumption) | omega (splitDisjunctions := false) | assumption | omega | decide) (by first | (with_reducible assumption) | omega (splitDisjunctions := false) | assumption | omega | decide) (by first | (with_reducible assumption) | omega (splitDisjunctions := false) | assumption | omega | decide)
  · have tw13 : ¬ n.toInt < 1 := fun z9 => w13 ((ti_lt rfl (by decide)).mpr z9)
    refine pb_iload_n (pc := 6) d_Mod_type_6 2 rfl rfl ?_
    refine pb_bipush (pc := 7) (v := 8) d_Mod_type_7 (by decide) ?_
    refine pb_icmp_le (pc := 9) (tgt := 16) d_Mod_type_9 (by decide) (fun w14 => ?_) (fun w14 => ?_)
    · have tw14 : n.toInt ≤ 8 := (ti_le rfl (by decide)).mp w14
      refine pb_aload_n (pc := 16) d_Mod_type_16 0 rfl rfl ?_
      refine pb_get (pc := 17) d_Mod_type_17 0 9 rfl rfl (by decide) in_Mod k_1155 rfl ?_
      refine pb_iload_n (pc := 20) d_Mod_type_20 2 rfl rfl ?_
      refine pb_iadd (pc := 21) d_Mod_type_21 ?_
      refine pb_topi (fun i15 ei15 => ?_)
      try have ti15 : i15.toInt = v_taped.toInt + n.toInt := t2_add ei15 rfl rfl (by omega)
      refine pb_sipush (pc := 22) (v := 8000) d_Mod_type_22 (by decide) ?_
      refine pb_icmp_le (pc := 25) (tgt := 32) d_Mod_type_25 (by decide) (fun w16 => ?_) (fun w16 => ?_)
      · have tw16 : i15.toInt ≤ 8000 := (ti_le rfl (by decide)).mp w16
        refine pb_iconst (pc := 32) (v := 0) d_Mod_type_32 (by decide) ?_
        refine pb_put (pc := 33) (ty := .int) (ws' := [(h, .inr (10, [.ref m_rels, .ref m_openRels, .ref m_closeRels, .ref m_openRel, .ref m_closeRel, .ref m_comment, .ref m_ends, .ref m_order, .int 0, .int v_taped, .ref m_tape, .ref m_count, .ref m_nameSize, .ref m_names, .ref m_size, .ref m_data, .int v_lookedSize, .ref m_looked, .int v_fileSize, .ref m_file, .int v_directorySize, .ref m_directory, .int v_outSize, .ref m_out, .int v_rowSize, .ref m_row, .int v_bitAt, .int v_bitEnd, .int v_why, .int v_madeSize, .ref m_made, .ref m_length, .int v_firstCount, .int v_secondCount, .int v_heldBits, .int v_heldCount, .int v_pressedSize, .ref m_pressed, .int v_at, .int v_bad, .int v_markSize, .ref m_mark, .int v_relationCount, .ref m_idSize, .ref m_ids, .ref m_goalSize, .ref m_goals, .int v_valueSize, .ref m_value, .int v_faultCount, .ref m_faults, .ref m_reached])), (m_tape, .inl (G.2.1, 8000, .inl a_tape))]) d_Mod_type_33 0 8 t_Mod t_Mod_ok n_Mod rfl rfl (by decide) in_Mod k_1154 rfl (by decide +kernel) rfl rfl (Nat.le_of_ble_eq_true rfl) rfl ?_
        exact hJ36_1 0 (by first | (with_reducible assumption) | omega (splitDisjunctions := false) | assumption | omega | decide) (by first | (with_reducible assumption) | omega (splitDisjunctions := false) | assumption | omega | decide) (by first | (with_reducible assumption) | omega (splitDisjunctions := false) | assumption | omega | decide)
      · have tw16 : ¬ i15.toInt ≤ 8000 := fun z9 => w16 ((ti_le rfl (by decide)).mpr z9)
        refine pb_iconst (pc := 28) (v := 2) d_Mod_type_28 (by decide) ?_
        refine pb_goto (pc := 29) (tgt := 33) d_Mod_type_29 (by decide) ?_
        refine pb_put (pc := 33) (ty := .int) (ws' := [(h, .inr (10, [.ref m_rels, .ref m_openRels, .ref m_closeRels, .ref m_openRel, .ref m_closeRel, .ref m_comment, .ref m_ends, .ref m_order, .int 2, .int v_taped, .ref m_tape, .ref m_count, .ref m_nameSize, .ref m_names, .ref m_size, .ref m_data, .int v_lookedSize, .ref m_looked, .int v_fileSize, .ref m_file, .int v_directorySize, .ref m_directory, .int v_outSize, .ref m_out, .int v_rowSize, .ref m_row, .int v_bitAt, .int v_bitEnd, .int v_why, .int v_madeSize, .ref m_made, .ref m_length, .int v_firstCount, .int v_secondCount, .int v_heldBits, .int v_heldCount, .int v_pressedSize, .ref m_pressed, .int v_at, .int v_bad, .int v_markSize, .ref m_mark, .int v_relationCount, .ref m_idSize, .ref m_ids, .ref m_goalSize, .ref m_goals, .int v_valueSize, .ref m_value, .int v_faultCount, .ref m_faults, .ref m_reached])), (m_tape, .inl (G.2.1, 8000, .inl a_tape))]) d_Mod_type_33 0 8 t_Mod t_Mod_ok n_Mod rfl rfl (by decide) in_Mod k_1154 rfl (by decide +kernel) rfl rfl (Nat.le_of_ble_eq_true rfl) rfl ?_
        exact hJ36_1 2 (by first | (with_reducible assumption) | omega (splitDisjunctions := false) | assumption | omega | decide) (by first | (with_reducible assumption) | omega (splitDisjunctions := false) | assumption | omega | decide) (by first | (with_reducible assumption) | omega (splitDisjunctions := false) | assumption | omega | decide)
    · have tw14 : ¬ n.toInt ≤ 8 := fun z9 => w14 ((ti_le rfl (by decide)).mpr z9)
      refine pb_iconst (pc := 12) (v := 1) d_Mod_type_12 (by decide) ?_
      refine pb_goto (pc := 13) (tgt := 33) d_Mod_type_13 (by decide) ?_
      refine pb_put (pc := 33) (ty := .int) (ws' := [(h, .inr (10, [.ref m_rels, .ref m_openRels, .ref m_closeRels, .ref m_openRel, .ref m_closeRel, .ref m_comment, .ref m_ends, .ref m_order, .int 1, .int v_taped, .ref m_tape, .ref m_count, .ref m_nameSize, .ref m_names, .ref m_size, .ref m_data, .int v_lookedSize, .ref m_looked, .int v_fileSize, .ref m_file, .int v_directorySize, .ref m_directory, .int v_outSize, .ref m_out, .int v_rowSize, .ref m_row, .int v_bitAt, .int v_bitEnd, .int v_why, .int v_madeSize, .ref m_made, .ref m_length, .int v_firstCount, .int v_secondCount, .int v_heldBits, .int v_heldCount, .int v_pressedSize, .ref m_pressed, .int v_at, .int v_bad, .int v_markSize, .ref m_mark, .int v_relationCount, .ref m_idSize, .ref m_ids, .ref m_goalSize, .ref m_goals, .int v_valueSize, .ref m_value, .int v_faultCount, .ref m_faults, .ref m_reached])), (m_tape, .inl (G.2.1, 8000, .inl a_tape))]) d_Mod_type_33 0 8 t_Mod t_Mod_ok n_Mod rfl rfl (by decide) in_Mod k_1154 rfl (by decide +kernel) rfl rfl (Nat.le_of_ble_eq_true rfl) rfl ?_
      exact hJ36_1 1 (by first | (with_reducible assumption) | omega (splitDisjunctions := false) | assumption | omega | decide) (by first | (with_reducible assumption) | omega (splitDisjunctions := false) | assumption | omega | decide) (by first | (with_reducible assumption) | omega (splitDisjunctions := false) | assumption | omega | decide)

theorem d_Mod_again_37 : decode prog_12_method_4_code 37 = .ok (.iconst 0, 1) := by decide +kernel
theorem d_Mod_again_38 : decode prog_12_method_4_code 38 = .ok (.istore_n 2, 1) := by decide +kernel
theorem d_Mod_again_39 : decode prog_12_method_4_code 39 = .ok (.iload_n 2, 1) := by decide +kernel
theorem d_Mod_again_40 : decode prog_12_method_4_code 40 = .ok (.iload_n 1, 1) := by decide +kernel
theorem d_Mod_again_41 : decode prog_12_method_4_code 41 = .ok (.if_icmp .ge 46, 3) := by decide +kernel
theorem d_Mod_again_87 : decode prog_12_method_4_code 87 = .ok (.aload_n 0, 1) := by decide +kernel
theorem d_Mod_again_88 : decode prog_12_method_4_code 88 = .ok (.getfield 103, 3) := by decide +kernel
theorem d_Mod_again_91 : decode prog_12_method_4_code 91 = .ok (.ifCond .le 7, 3) := by decide +kernel
theorem d_Mod_again_98 : decode prog_12_method_4_code 98 = .ok (.aload_n 0, 1) := by decide +kernel
theorem d_Mod_again_99 : decode prog_12_method_4_code 99 = .ok (.getfield 107, 3) := by decide +kernel
theorem d_Mod_again_102 : decode prog_12_method_4_code 102 = .ok (.ireturn, 1) := by decide +kernel
theorem d_Mod_again_94 : decode prog_12_method_4_code 94 = .ok (.iconst 0, 1) := by decide +kernel
theorem d_Mod_again_95 : decode prog_12_method_4_code 95 = .ok (.goto 7, 3) := by decide +kernel
theorem d_Mod_again_44 : decode prog_12_method_4_code 44 = .ok (.aload_n 0, 1) := by decide +kernel
theorem d_Mod_again_45 : decode prog_12_method_4_code 45 = .ok (.getfield 103, 3) := by decide +kernel
theorem d_Mod_again_48 : decode prog_12_method_4_code 48 = .ok (.ifCond .ne 39, 3) := by decide +kernel
theorem d_Mod_again_51 : decode prog_12_method_4_code 51 = .ok (.aload_n 0, 1) := by decide +kernel
theorem d_Mod_again_52 : decode prog_12_method_4_code 52 = .ok (.getfield 34, 3) := by decide +kernel
theorem d_Mod_again_55 : decode prog_12_method_4_code 55 = .ok (.aload_n 0, 1) := by decide +kernel
theorem d_Mod_again_56 : decode prog_12_method_4_code 56 = .ok (.getfield 107, 3) := by decide +kernel
theorem d_Mod_again_59 : decode prog_12_method_4_code 59 = .ok (.aload_n 0, 1) := by decide +kernel
theorem d_Mod_again_60 : decode prog_12_method_4_code 60 = .ok (.getfield 34, 3) := by decide +kernel
theorem d_Mod_again_63 : decode prog_12_method_4_code 63 = .ok (.aload_n 0, 1) := by decide +kernel
theorem d_Mod_again_64 : decode prog_12_method_4_code 64 = .ok (.getfield 107, 3) := by decide +kernel
theorem d_Mod_again_67 : decode prog_12_method_4_code 67 = .ok (.iload_n 1, 1) := by decide +kernel
theorem d_Mod_again_68 : decode prog_12_method_4_code 68 = .ok (.isub, 1) := by decide +kernel
theorem d_Mod_again_69 : decode prog_12_method_4_code 69 = .ok (.baload, 1) := by decide +kernel
theorem d_Mod_again_70 : decode prog_12_method_4_code 70 = .ok (.bastore, 1) := by decide +kernel
theorem d_Mod_again_71 : decode prog_12_method_4_code 71 = .ok (.aload_n 0, 1) := by decide +kernel
theorem d_Mod_again_72 : decode prog_12_method_4_code 72 = .ok (.dup, 1) := by decide +kernel
theorem d_Mod_again_73 : decode prog_12_method_4_code 73 = .ok (.getfield 107, 3) := by decide +kernel
theorem d_Mod_again_76 : decode prog_12_method_4_code 76 = .ok (.iconst 1, 1) := by decide +kernel
theorem d_Mod_again_77 : decode prog_12_method_4_code 77 = .ok (.iadd, 1) := by decide +kernel
theorem d_Mod_again_78 : decode prog_12_method_4_code 78 = .ok (.putfield 107, 3) := by decide +kernel
theorem d_Mod_again_81 : decode prog_12_method_4_code 81 = .ok (.iinc 2 1, 3) := by decide +kernel
theorem d_Mod_again_84 : decode prog_12_method_4_code 84 = .ok (.goto (-45), 3) := by decide +kernel
theorem d_Mod_again_0 : decode prog_12_method_4_code 0 = .ok (.aload_n 0, 1) := by decide +kernel
theorem d_Mod_again_1 : decode prog_12_method_4_code 1 = .ok (.iload_n 1, 1) := by decide +kernel
theorem d_Mod_again_2 : decode prog_12_method_4_code 2 = .ok (.ifCond .lt 11, 3) := by decide +kernel
theorem d_Mod_again_13 : decode prog_12_method_4_code 13 = .ok (.iconst 1, 1) := by decide +kernel
theorem d_Mod_again_14 : decode prog_12_method_4_code 14 = .ok (.goto 20, 3) := by decide +kernel
theorem d_Mod_again_34 : decode prog_12_method_4_code 34 = .ok (.putfield 103, 3) := by decide +kernel
theorem d_Mod_again_5 : decode prog_12_method_4_code 5 = .ok (.iload_n 1, 1) := by decide +kernel
theorem d_Mod_again_6 : decode prog_12_method_4_code 6 = .ok (.aload_n 0, 1) := by decide +kernel
theorem d_Mod_again_7 : decode prog_12_method_4_code 7 = .ok (.getfield 107, 3) := by decide +kernel
theorem d_Mod_again_10 : decode prog_12_method_4_code 10 = .ok (.if_icmp .le 7, 3) := by decide +kernel
theorem d_Mod_again_17 : decode prog_12_method_4_code 17 = .ok (.aload_n 0, 1) := by decide +kernel
theorem d_Mod_again_18 : decode prog_12_method_4_code 18 = .ok (.getfield 107, 3) := by decide +kernel
theorem d_Mod_again_21 : decode prog_12_method_4_code 21 = .ok (.iload_n 1, 1) := by decide +kernel
theorem d_Mod_again_22 : decode prog_12_method_4_code 22 = .ok (.iadd, 1) := by decide +kernel
theorem d_Mod_again_23 : decode prog_12_method_4_code 23 = .ok (.sipush 8000, 3) := by decide +kernel
theorem d_Mod_again_26 : decode prog_12_method_4_code 26 = .ok (.if_icmp .le 7, 3) := by decide +kernel
theorem d_Mod_again_33 : decode prog_12_method_4_code 33 = .ok (.iconst 0, 1) := by decide +kernel
theorem d_Mod_again_29 : decode prog_12_method_4_code 29 = .ok (.iconst 2, 1) := by decide +kernel
theorem d_Mod_again_30 : decode prog_12_method_4_code 30 = .ok (.goto 4, 3) := by decide +kernel
abbrev y_Mod_again : MethodName := ⟨"PackageBookModel", "again", "(I)I"⟩
abbrev i_Mod_again : pb_I := (y_Mod_again, prog_12_method_4_code, 3, (some Jvm.ClassFile.FieldType.int), [], { frames := 0, cells := 0, slots := 0, locals := 0 })
set_option maxRecDepth 100000 in
set_option maxHeartbeats 4000000 in
theorem g_Mod_again {l : Launch} (hl : l.stackTraces = false) (G : pb_G) (h : Nat) (m_rels : Nat) (m_openRels : Nat) (m_closeRels : Nat) (m_openRel : Nat) (m_closeRel : Nat) (m_comment : Nat) (m_ends : Nat) (m_order : Nat) (m_tape : Nat) (m_count : Nat) (m_nameSize : Nat) (m_names : Nat) (m_size : Nat) (m_data : Nat) (m_looked : Nat) (m_file : Nat) (m_directory : Nat) (m_out : Nat) (m_row : Nat) (m_made : Nat) (m_length : Nat) (m_pressed : Nat) (m_mark : Nat) (m_idSize : Nat) (m_ids : Nat) (m_goalSize : Nat) (m_goals : Nat) (m_value : Nat) (m_faults : Nat) (m_reached : Nat) (v_thrown : Int32) (v_taped : Int32) (v_lookedSize : Int32) (v_fileSize : Int32) (v_directorySize : Int32) (v_outSize : Int32) (v_rowSize : Int32) (v_bitAt : Int32) (v_bitEnd : Int32) (v_why : Int32) (v_madeSize : Int32) (v_firstCount : Int32) (v_secondCount : Int32) (v_heldBits : Int32) (v_heldCount : Int32) (v_pressedSize : Int32) (v_at : Int32) (v_bad : Int32) (v_markSize : Int32) (v_relationCount : Int32) (v_valueSize : Int32) (v_faultCount : Int32) (a_tape : Nat → Int32) (n : Int32) (t0 : 0 ≤ v_taped.toInt) (t1 : v_taped.toInt ≤ 8000) (F_a_tape : sb_Fit a_tape) : Cn l G i_Mod_again [.ref h, .int n] [(h, .inr (10, [.ref m_rels, .ref m_openRels, .ref m_closeRels, .ref m_openRel, .ref m_closeRel, .ref m_comment, .ref m_ends, .ref m_order, .int v_thrown, .int v_taped, .ref m_tape, .ref m_count, .ref m_nameSize, .ref m_names, .ref m_size, .ref m_data, .int v_lookedSize, .ref m_looked, .int v_fileSize, .ref m_file, .int v_directorySize, .ref m_directory, .int v_outSize, .ref m_out, .int v_rowSize, .ref m_row, .int v_bitAt, .int v_bitEnd, .int v_why, .int v_madeSize, .ref m_made, .ref m_length, .int v_firstCount, .int v_secondCount, .int v_heldBits, .int v_heldCount, .int v_pressedSize, .ref m_pressed, .int v_at, .int v_bad, .int v_markSize, .ref m_mark, .int v_relationCount, .ref m_idSize, .ref m_ids, .ref m_goalSize, .ref m_goals, .int v_valueSize, .ref m_value, .int v_faultCount, .ref m_faults, .ref m_reached])), (m_tape, .inl (G.2.1, 8000, .inl a_tape))] (S := Int32 × Int32 × Int32 × (Nat → Int32)) (fun rv_ u => rv_ = some (.int u.1) ∧ (¬ (0 ≤ n.toInt ∧ n.toInt ≤ v_taped.toInt) → u.2.1.toInt = 1 ∧ u.2.2.1.toInt = v_taped.toInt) ∧ (0 ≤ n.toInt ∧ n.toInt ≤ v_taped.toInt → 8000 < v_taped.toInt + n.toInt → u.2.1.toInt = 2 ∧ u.2.2.1.toInt = v_taped.toInt) ∧ (0 ≤ n.toInt ∧ n.toInt ≤ v_taped.toInt → v_taped.toInt + n.toInt ≤ 8000 → u.2.1.toInt = 0 ∧ u.2.2.1.toInt = v_taped.toInt + n.toInt ∧ u.1.toInt = u.2.2.1.toInt) ∧ (tp_G a_tape u.2.2.2 v_taped.toInt u.2.2.1.toInt n.toInt) ∧ (sb_Fit u.2.2.2)) (fun u => [(h, .inr (10, [.ref m_rels, .ref m_openRels, .ref m_closeRels, .ref m_openRel, .ref m_closeRel, .ref m_comment, .ref m_ends, .ref m_order, .int u.2.1, .int u.2.2.1, .ref m_tape, .ref m_count, .ref m_nameSize, .ref m_names, .ref m_size, .ref m_data, .int v_lookedSize, .ref m_looked, .int v_fileSize, .ref m_file, .int v_directorySize, .ref m_directory, .int v_outSize, .ref m_out, .int v_rowSize, .ref m_row, .int v_bitAt, .int v_bitEnd, .int v_why, .int v_madeSize, .ref m_made, .ref m_length, .int v_firstCount, .int v_secondCount, .int v_heldBits, .int v_heldCount, .int v_pressedSize, .ref m_pressed, .int v_at, .int v_bad, .int v_markSize, .ref m_mark, .int v_relationCount, .ref m_idSize, .ref m_ids, .ref m_goalSize, .ref m_goals, .int v_valueSize, .ref m_value, .int v_faultCount, .ref m_faults, .ref m_reached])), (m_tape, .inl (G.2.1, 8000, .inl u.2.2.2))]) := by
  refine Cn.of hl (by decide +kernel) rfl (Nat.le_of_ble_eq_true rfl) (fun M hQ => ?_)
  refine pb_eq (pc' := 0) (lo' := [(0, .ref h), (1, .int n)]) (rest' := []) (ws' := [(h, .inr (10, [.ref m_rels, .ref m_openRels, .ref m_closeRels, .ref m_openRel, .ref m_closeRel, .ref m_comment, .ref m_ends, .ref m_order, .int v_thrown, .int v_taped, .ref m_tape, .ref m_count, .ref m_nameSize, .ref m_names, .ref m_size, .ref m_data, .int v_lookedSize, .ref m_looked, .int v_fileSize, .ref m_file, .int v_directorySize, .ref m_directory, .int v_outSize, .ref m_out, .int v_rowSize, .ref m_row, .int v_bitAt, .int v_bitEnd, .int v_why, .int v_madeSize, .ref m_made, .ref m_length, .int v_firstCount, .int v_secondCount, .int v_heldBits, .int v_heldCount, .int v_pressedSize, .ref m_pressed, .int v_at, .int v_bad, .int v_markSize, .ref m_mark, .int v_relationCount, .ref m_idSize, .ref m_ids, .ref m_goalSize, .ref m_goals, .int v_valueSize, .ref m_value, .int v_faultCount, .ref m_faults, .ref m_reached])), (m_tape, .inl (G.2.1, 8000, .inl a_tape))]) ?_
  have zl0 : (0 : Int32).toInt = 0 := by decide
  have zl1 : (1 : Int32).toInt = 1 := by decide
  have zl2 : (2 : Int32).toInt = 2 := by decide
  have hJ37_1 : ∀ (th_ : Int32), (¬ (0 ≤ n.toInt ∧ n.toInt ≤ v_taped.toInt) → th_.toInt = 1) → (0 ≤ n.toInt ∧ n.toInt ≤ v_taped.toInt → 8000 < v_taped.toInt + n.toInt → th_.toInt = 2) → (0 ≤ n.toInt ∧ n.toInt ≤ v_taped.toInt → v_taped.toInt + n.toInt ≤ 8000 → th_.toInt = 0) → pb_P l G M i_Mod_again 37 [(0, .ref h), (1, .int n)] [] [(h, .inr (10, [.ref m_rels, .ref m_openRels, .ref m_closeRels, .ref m_openRel, .ref m_closeRel, .ref m_comment, .ref m_ends, .ref m_order, .int th_, .int v_taped, .ref m_tape, .ref m_count, .ref m_nameSize, .ref m_names, .ref m_size, .ref m_data, .int v_lookedSize, .ref m_looked, .int v_fileSize, .ref m_file, .int v_directorySize, .ref m_directory, .int v_outSize, .ref m_out, .int v_rowSize, .ref m_row, .int v_bitAt, .int v_bitEnd, .int v_why, .int v_madeSize, .ref m_made, .ref m_length, .int v_firstCount, .int v_secondCount, .int v_heldBits, .int v_heldCount, .int v_pressedSize, .ref m_pressed, .int v_at, .int v_bad, .int v_markSize, .ref m_mark, .int v_relationCount, .ref m_idSize, .ref m_ids, .ref m_goalSize, .ref m_goals, .int v_valueSize, .ref m_value, .int v_faultCount, .ref m_faults, .ref m_reached])), (m_tape, .inl (G.2.1, 8000, .inl a_tape))] 0 0 := by
    intro th_ j0 j1 j2
    refine pb_iconst (pc := 37) (v := 0) d_Mod_again_37 (by decide) ?_
    refine pb_istore_n (pc := 38) (lo' := [(2, .int 0), (0, .ref h), (1, .int n)]) d_Mod_again_38 rfl (by decide) rfl ?_
    have hL39_2 : ∀ (N9 : Nat) (k : Int32) (t : Int32) (g : Nat → Int32), (sb_Fit g) → (0 ≤ k.toInt) → (t.toInt = v_taped.toInt + k.toInt) → (th_.toInt ≠ 0 → k.toInt = 0) → (th_.toInt = 0 → k.toInt ≤ n.toInt) → (tp_G a_tape g v_taped.toInt t.toInt n.toInt) → ((n.toInt - k.toInt).toNat) < N9 → pb_P l G M i_Mod_again 39 [(2, .int k), (0, .ref h), (1, .int n)] [] [(h, .inr (10, [.ref m_rels, .ref m_openRels, .ref m_closeRels, .ref m_openRel, .ref m_closeRel, .ref m_comment, .ref m_ends, .ref m_order, .int th_, .int t, .ref m_tape, .ref m_count, .ref m_nameSize, .ref m_names, .ref m_size, .ref m_data, .int v_lookedSize, .ref m_looked, .int v_fileSize, .ref m_file, .int v_directorySize, .ref m_directory, .int v_outSize, .ref m_out, .int v_rowSize, .ref m_row, .int v_bitAt, .int v_bitEnd, .int v_why, .int v_madeSize, .ref m_made, .ref m_length, .int v_firstCount, .int v_secondCount, .int v_heldBits, .int v_heldCount, .int v_pressedSize, .ref m_pressed, .int v_at, .int v_bad, .int v_markSize, .ref m_mark, .int v_relationCount, .ref m_idSize, .ref m_ids, .ref m_goalSize, .ref m_goals, .int v_valueSize, .ref m_value, .int v_faultCount, .ref m_faults, .ref m_reached])), (m_tape, .inl (G.2.1, 8000, .inl g))] 0 0 := by
      intro N9
      induction N9 with
      | zero => intro k t g F_g k0 k1 k2 k3 kt hm9; exact absurd hm9 (Nat.not_lt_zero _)
      | succ N9 ih39 =>
        intro k t g F_g k0 k1 k2 k3 kt hm9
        refine pb_iload_n (pc := 39) d_Mod_again_39 0 rfl rfl ?_
        refine pb_iload_n (pc := 40) d_Mod_again_40 2 rfl rfl ?_
        refine pb_icmp_ge (pc := 41) (tgt := 87) d_Mod_again_41 (by decide) (fun w3 => ?_) (fun w3 => ?_)
        · have tw3 : n.toInt ≤ k.toInt := (ti_le rfl rfl).mp w3
          refine pb_aload_n (pc := 87) d_Mod_again_87 1 rfl rfl ?_
          refine pb_get (pc := 88) d_Mod_again_88 0 8 rfl rfl (by decide) in_Mod k_1154 rfl ?_
          refine pb_if_le (pc := 91) (tgt := 98) d_Mod_again_91 (by decide) (fun w4 => ?_) (fun w4 => ?_)
          · have tw4 : th_.toInt ≤ 0 := (ti_le rfl (by decide)).mp w4
            refine pb_aload_n (pc := 98) d_Mod_again_98 1 rfl rfl ?_
            refine pb_get (pc := 99) d_Mod_again_99 0 9 rfl rfl (by decide) in_Mod k_1155 rfl ?_
            exact pb_iret (pc := 102) hQ d_Mod_again_102 rfl rfl (t, th_, t, g) ⟨rfl, (by (try dsimp only); first | done | (with_reducible assumption) | omega (splitDisjunctions := false) | assumption | (clear j1 j2 k2 k3 hm9; first | omega (splitDisjunctions := false) | (first | exact omg_d321a9c746 j0 tw4 | omega)) | omega | decide), (by (try dsimp only); first | done | (with_reducible assumption) | omega (splitDisjunctions := false) | assumption | exact fun q90 q91 => (by have y90 := j1 q90; have y91 := j2 q90; have y92 := y90 q91; clear j1 j2 k2 k3 hm9 y90 y91; first | omega (splitDisjunctions := false) | omega) | omega | decide), (by (try dsimp only); first | done | (with_reducible assumption) | omega (splitDisjunctions := false) | assumption | exact fun q90 q91 => (by have y90 := j1 q90; have y91 := j2 q90; have y92 := y91 q91; have y93 := k3 y92; clear j1 j2 k2 k3 hm9 y90 y91; first | omega (splitDisjunctions := false) | omega) | omega | decide), (by (try dsimp only); first | done | assumption | decide | omega), F_g⟩ [0, 1] (by decide) rfl rfl (by decide) (by decide)
          · have tw4 : ¬ th_.toInt ≤ 0 := fun z9 => w4 ((ti_le rfl (by decide)).mpr z9)
            refine pb_iconst (pc := 94) (v := 0) d_Mod_again_94 (by decide) ?_
            refine pb_goto (pc := 95) (tgt := 102) d_Mod_again_95 (by decide) ?_
            exact pb_iret (pc := 102) hQ d_Mod_again_102 rfl rfl (0, th_, t, g) ⟨rfl, (by (try dsimp only); first | done | (with_reducible assumption) | omega (splitDisjunctions := false) | assumption | (clear j1 j2 k2 k3 hm9; first | omega (splitDisjunctions := false) | omega) | (first | exact omg_388f7e8491 j0 k1 k2 | omega) | decide), (by (try dsimp only); first | done | (with_reducible assumption) | omega (splitDisjunctions := false) | assumption | exact fun q90 q91 => (by have y90 := j1 q90; have y91 := j2 q90; have y92 := y90 q91; clear j1 j2 k2 k3 hm9 y90 y91; first | omega (splitDisjunctions := false) | omega) | omega | decide), (by (try dsimp only); first | done | (with_reducible assumption) | omega (splitDisjunctions := false) | assumption | exact fun q90 q91 => (by have y90 := j1 q90; have y91 := j2 q90; have y92 := y91 q91; have y93 := k3 y92; clear j1 j2 k2 k3 hm9 y90 y91; first | omega (splitDisjunctions := false) | omega) | omega | decide), (by (try dsimp only); first | done | assumption | decide | omega), F_g⟩ [0, 1] (by decide) rfl rfl (by decide) (by decide)
        · have tw3 : ¬ n.toInt ≤ k.toInt := fun z9 => w3 ((ti_le rfl rfl).mpr z9)
          refine pb_aload_n (pc := 44) d_Mod_again_44 1 rfl rfl ?_
          refine pb_get (pc := 45) d_Mod_again_45 0 8 rfl rfl (by decide) in_Mod k_1154 rfl ?_
          refine pb_if_ne (pc := 48) (tgt := 87) d_Mod_again_48 (by decide) (fun w5 => ?_) (fun w5 => ?_)
          · have tw5 : ¬ th_.toInt = 0 := fun z9 => w5 ((ti_eq rfl (by decide)).mpr z9)
            refine pb_aload_n (pc := 87) d_Mod_again_87 1 rfl rfl ?_
            refine pb_get (pc := 88) d_Mod_again_88 0 8 rfl rfl (by decide) in_Mod k_1154 rfl ?_
            refine pb_if_le (pc := 91) (tgt := 98) d_Mod_again_91 (by decide) (fun w6 => ?_) (fun w6 => ?_)
            · have tw6 : th_.toInt ≤ 0 := (ti_le rfl (by decide)).mp w6
              refine pb_aload_n (pc := 98) d_Mod_again_98 1 rfl rfl ?_
              refine pb_get (pc := 99) d_Mod_again_99 0 9 rfl rfl (by decide) in_Mod k_1155 rfl ?_
              exact pb_iret (pc := 102) hQ d_Mod_again_102 rfl rfl (t, th_, t, g) ⟨rfl, (by (try dsimp only); first | done | (with_reducible assumption) | omega (splitDisjunctions := false) | assumption | (clear j1 j2 k2 k3 hm9; first | omega (splitDisjunctions := false) | (first | exact omg_d321a9c746 j0 tw6 | omega)) | omega | decide), (by (try dsimp only); first | done | (with_reducible assumption) | omega (splitDisjunctions := false) | assumption | exact fun q90 q91 => (by have y90 := j1 q90; have y91 := j2 q90; have y92 := y90 q91; clear j1 j2 k2 k3 hm9 y90 y91; first | omega (splitDisjunctions := false) | omega) | omega | decide), (by (try dsimp only); first | done | (with_reducible assumption) | omega (splitDisjunctions := false) | assumption | exact fun q90 q91 => (by have y90 := j1 q90; have y91 := j2 q90; have y92 := y91 q91; have y93 := k3 y92; clear j1 j2 k2 k3 hm9 y90 y91; first | omega (splitDisjunctions := false) | omega) | omega | decide), (by (try dsimp only); first | done | assumption | decide | omega), F_g⟩ [0, 1] (by decide) rfl rfl (by decide) (by decide)
            · have tw6 : ¬ th_.toInt ≤ 0 := fun z9 => w6 ((ti_le rfl (by decide)).mpr z9)
              refine pb_iconst (pc := 94) (v := 0) d_Mod_again_94 (by decide) ?_
              refine pb_goto (pc := 95) (tgt := 102) d_Mod_again_95 (by decide) ?_
              exact pb_iret (pc := 102) hQ d_Mod_again_102 rfl rfl (0, th_, t, g) ⟨rfl, (by (try dsimp only); first | done | (with_reducible assumption) | omega (splitDisjunctions := false) | assumption | (clear j1 j2 k2 k3 hm9; first | omega (splitDisjunctions := false) | omega) | (first | exact omg_388f7e8491 j0 k1 k2 | omega) | decide), (by (try dsimp only); first | done | (with_reducible assumption) | omega (splitDisjunctions := false) | assumption | exact fun q90 q91 => (by have y90 := j1 q90; have y91 := j2 q90; have y92 := y90 q91; clear j1 j2 k2 k3 hm9 y90 y91; first | omega (splitDisjunctions := false) | omega) | (first | exact omg_6d7946ec33 j1 k1 k2 | omega) | decide), (by (try dsimp only); first | done | (with_reducible assumption) | omega (splitDisjunctions := false) | assumption | exact fun q90 q91 => (by have y90 := j1 q90; have y91 := j2 q90; have y92 := y91 q91; have y93 := k3 y92; clear j1 j2 k2 k3 hm9 y90 y91; first | omega (splitDisjunctions := false) | omega) | omega | decide), (by (try dsimp only); first | done | assumption | decide | omega), F_g⟩ [0, 1] (by decide) rfl rfl (by decide) (by decide)
          · have tw5 : th_.toInt = 0 := (ti_eq rfl (by decide)).mp w5
            refine pb_aload_n (pc := 51) d_Mod_again_51 1 rfl rfl ?_
            refine pb_get (pc := 52) d_Mod_again_52 0 10 rfl rfl (by decide) in_Mod k_1156 rfl ?_
            refine pb_aload_n (pc := 55) d_Mod_again_55 1 rfl rfl ?_
            refine pb_get (pc := 56) d_Mod_again_56 0 9 rfl rfl (by decide) in_Mod k_1155 rfl ?_
            refine pb_aload_n (pc := 59) d_Mod_again_59 1 rfl rfl ?_
            refine pb_get (pc := 60) d_Mod_again_60 0 10 rfl rfl (by decide) in_Mod k_1156 rfl ?_
            refine pb_aload_n (pc := 63) d_Mod_again_63 1 rfl rfl ?_
            refine pb_get (pc := 64) d_Mod_again_64 0 9 rfl rfl (by decide) in_Mod k_1155 rfl ?_
            refine pb_iload_n (pc := 67) d_Mod_again_67 2 rfl rfl ?_
            refine pb_isub (pc := 68) d_Mod_again_68 ?_
            refine pb_topi (fun i7 ei7 => ?_)
            try have ti7 : i7.toInt = t.toInt - n.toInt := t2_sub ei7 rfl rfl (by (first | exact omg_6d60a80598 j0 j1 k0 k1 tw3 tw5 | omega))
            refine pb_bald (pc := 69) d_Mod_again_69 1 rfl (vp_in_iff.mpr (by (first | exact omg_039cf4798d j0 j1 k0 k1 tw3 tw5 ti7 | omega))) ?_
            refine pb_topi (fun i8 ei8 => ?_)
            have xi8 : i8 = gr g (t.toInt - n.toInt) := gr_ld ei8 (by omega)
            have yi8 : i8.toInt = gx g (t.toInt - n.toInt) := congrArg Int32.toInt xi8
            have ti8 : -128 ≤ i8.toInt ∧ i8.toInt ≤ 127 := ti_fit (F_g _) ei8
            refine pb_bast (pc := 70) (ws' := [(h, .inr (10, [.ref m_rels, .ref m_openRels, .ref m_closeRels, .ref m_openRel, .ref m_closeRel, .ref m_comment, .ref m_ends, .ref m_order, .int th_, .int t, .ref m_tape, .ref m_count, .ref m_nameSize, .ref m_names, .ref m_size, .ref m_data, .int v_lookedSize, .ref m_looked, .int v_fileSize, .ref m_file, .int v_directorySize, .ref m_directory, .int v_outSize, .ref m_out, .int v_rowSize, .ref m_row, .int v_bitAt, .int v_bitEnd, .int v_why, .int v_madeSize, .ref m_made, .ref m_length, .int v_firstCount, .int v_secondCount, .int v_heldBits, .int v_heldCount, .int v_pressedSize, .ref m_pressed, .int v_at, .int v_bad, .int v_markSize, .ref m_mark, .int v_relationCount, .ref m_idSize, .ref m_ids, .ref m_goalSize, .ref m_goals, .int v_valueSize, .ref m_value, .int v_faultCount, .ref m_faults, .ref m_reached])), (m_tape, .inl (G.2.1, 8000, .inl (upd g ((t : Int32).toNatClampNeg) (vp_nar .byte i8))))]) d_Mod_again_70 1 rfl (vp_in_iff.mpr (by (first | exact omg_fadb9d6be2 j0 j1 k0 k1 tw3 tw5 | omega))) rfl ?_
            refine pb_aload_n (pc := 71) d_Mod_again_71 1 rfl rfl ?_
            refine pb_dup (pc := 72) d_Mod_again_72 rfl ?_
            refine pb_get (pc := 73) d_Mod_again_73 0 9 rfl rfl (by decide) in_Mod k_1155 rfl ?_
            refine pb_iconst (pc := 76) (v := 1) d_Mod_again_76 (by decide) ?_
            refine pb_iadd (pc := 77) d_Mod_again_77 ?_
            refine pb_topi (fun i9 ei9 => ?_)
            try have ti9 : i9.toInt = t.toInt + 1 := t2_add ei9 rfl (by decide) (by (first | exact omg_8f6e57f075 t0 t1 j0 k0 k1 k2 k3 | omega))
            refine pb_put (pc := 78) (ty := .int) (ws' := [(h, .inr (10, [.ref m_rels, .ref m_openRels, .ref m_closeRels, .ref m_openRel, .ref m_closeRel, .ref m_comment, .ref m_ends, .ref m_order, .int th_, .int i9, .ref m_tape, .ref m_count, .ref m_nameSize, .ref m_names, .ref m_size, .ref m_data, .int v_lookedSize, .ref m_looked, .int v_fileSize, .ref m_file, .int v_directorySize, .ref m_directory, .int v_outSize, .ref m_out, .int v_rowSize, .ref m_row, .int v_bitAt, .int v_bitEnd, .int v_why, .int v_madeSize, .ref m_made, .ref m_length, .int v_firstCount, .int v_secondCount, .int v_heldBits, .int v_heldCount, .int v_pressedSize, .ref m_pressed, .int v_at, .int v_bad, .int v_markSize, .ref m_mark, .int v_relationCount, .ref m_idSize, .ref m_ids, .ref m_goalSize, .ref m_goals, .int v_valueSize, .ref m_value, .int v_faultCount, .ref m_faults, .ref m_reached])), (m_tape, .inl (G.2.1, 8000, .inl (upd g ((t : Int32).toNatClampNeg) (vp_nar .byte i8))))]) d_Mod_again_78 0 9 t_Mod t_Mod_ok n_Mod rfl rfl (by decide) in_Mod k_1155 rfl (by decide +kernel) rfl rfl (Nat.le_of_ble_eq_true rfl) rfl ?_
            refine pb_iincN (pc := 81) (c := 1) d_Mod_again_81 0 rfl (by decide) (by decide) (fun i10 ei10 => ?_)
            have ti10 : i10.toInt = k.toInt + 1 := t2_add ei10 rfl (by decide) (by first | (first | exact omg_5832c60f79 j0 j1 k0 tw3 tw5 | omega) | (have r90 := ti_rng k; have r91 := ti_rng i10; have r92 := ti_rng n; omega))
            refine pb_eq (pc' := 84) (lo' := [(2, .int i10), (0, .ref h), (1, .int n)]) (rest' := []) (ws' := [(h, .inr (10, [.ref m_rels, .ref m_openRels, .ref m_closeRels, .ref m_openRel, .ref m_closeRel, .ref m_comment, .ref m_ends, .ref m_order, .int th_, .int i9, .ref m_tape, .ref m_count, .ref m_nameSize, .ref m_names, .ref m_size, .ref m_data, .int v_lookedSize, .ref m_looked, .int v_fileSize, .ref m_file, .int v_directorySize, .ref m_directory, .int v_outSize, .ref m_out, .int v_rowSize, .ref m_row, .int v_bitAt, .int v_bitEnd, .int v_why, .int v_madeSize, .ref m_made, .ref m_length, .int v_firstCount, .int v_secondCount, .int v_heldBits, .int v_heldCount, .int v_pressedSize, .ref m_pressed, .int v_at, .int v_bad, .int v_markSize, .ref m_mark, .int v_relationCount, .ref m_idSize, .ref m_ids, .ref m_goalSize, .ref m_goals, .int v_valueSize, .ref m_value, .int v_faultCount, .ref m_faults, .ref m_reached])), (m_tape, .inl (G.2.1, 8000, .inl (upd g ((t : Int32).toNatClampNeg) (vp_nar .byte i8))))]) ?_
            refine pb_goto (pc := 84) (tgt := 39) d_Mod_again_84 (by decide) ?_
            exact ih39 i10 i9 (upd g ((t : Int32).toNatClampNeg) (vp_nar .byte i8)) (sb_fitU F_g (fit_nar _)) (by first | (with_reducible assumption) | omega (splitDisjunctions := false) | assumption | (have y90 := k3 tw5; clear j1 j2 k2 k3 hm9; first | omega (splitDisjunctions := false) | omega) | omega | decide) (by first | (with_reducible assumption) | omega (splitDisjunctions := false) | assumption | (have y90 := k3 tw5; clear j1 j2 k2 k3 hm9; first | omega (splitDisjunctions := false) | omega) | omega | decide) (by first | (with_reducible assumption) | omega (splitDisjunctions := false) | assumption | exact fun q90 => (by have y90 := k2 q90; have y91 := k3 tw5; clear j1 j2 k2 k3 hm9; first | omega (splitDisjunctions := false) | omega) | omega | decide) (by first | (with_reducible assumption) | omega (splitDisjunctions := false) | assumption | exact fun q90 => (by have y90 := k3 q90; clear j1 j2 k2 k3 hm9; first | omega (splitDisjunctions := false) | omega) | omega | decide) (tg_step kt (fun j hj => gr_updb rfl j (by omega) hj) (by omega) (by omega) (by omega) (by (first | exact omg_aa7f8951d7 j0 k0 k1 tw5 | omega)) (by assumption) (by omega)) (by first | (have y90 := k3 tw5; clear j1 j2 k2 k3; (first | exact omg_7c8a06b1f5 hm9 tw3 ti10 | omega)) | omega)
    exact hL39_2 _ 0 v_taped a_tape (by first | assumption | decide | omega) (by first | (with_reducible assumption) | omega (splitDisjunctions := false) | assumption | (clear j1 j2; first | omega (splitDisjunctions := false) | omega) | omega | decide) (by first | (with_reducible assumption) | omega (splitDisjunctions := false) | assumption | (clear j1 j2; first | omega (splitDisjunctions := false) | omega) | omega | decide) (by first | (with_reducible assumption) | omega (splitDisjunctions := false) | assumption | exact fun q90 => (by clear j1 j2; first | omega (splitDisjunctions := false) | omega) | omega | decide) (by first | (with_reducible assumption) | omega (splitDisjunctions := false) | assumption | exact fun q90 => (by clear j1 j2; first | omega (splitDisjunctions := false) | omega) | omega | decide) (tp_G0 (by omega)) (Nat.lt_succ_self _)
  refine pb_aload_n (pc := 0) d_Mod_again_0 0 rfl rfl ?_
  refine pb_iload_n (pc := 1) d_Mod_again_1 1 rfl rfl ?_
  refine pb_if_lt (pc := 2) (tgt := 13) d_Mod_again_2 (by decide) (fun w11 => ?_) (fun w11 => ?_)
  · have tw11 : n.toInt < 0 := (ti_lt rfl (by decide)).mp w11
    refine pb_iconst (pc := 13) (v := 1) d_Mod_again_13 (by decide) ?_
    refine pb_goto (pc := 14) (tgt := 34) d_Mod_again_14 (by decide) ?_
    refine pb_put (pc := 34) (ty := .int) (ws' := [(h, .inr (10, [.ref m_rels, .ref m_openRels, .ref m_closeRels, .ref m_openRel, .ref m_closeRel, .ref m_comment, .ref m_ends, .ref m_order, .int 1, .int v_taped, .ref m_tape, .ref m_count, .ref m_nameSize, .ref m_names, .ref m_size, .ref m_data, .int v_lookedSize, .ref m_looked, .int v_fileSize, .ref m_file, .int v_directorySize, .ref m_directory, .int v_outSize, .ref m_out, .int v_rowSize, .ref m_row, .int v_bitAt, .int v_bitEnd, .int v_why, .int v_madeSize, .ref m_made, .ref m_length, .int v_firstCount, .int v_secondCount, .int v_heldBits, .int v_heldCount, .int v_pressedSize, .ref m_pressed, .int v_at, .int v_bad, .int v_markSize, .ref m_mark, .int v_relationCount, .ref m_idSize, .ref m_ids, .ref m_goalSize, .ref m_goals, .int v_valueSize, .ref m_value, .int v_faultCount, .ref m_faults, .ref m_reached])), (m_tape, .inl (G.2.1, 8000, .inl a_tape))]) d_Mod_again_34 0 8 t_Mod t_Mod_ok n_Mod rfl rfl (by decide) in_Mod k_1154 rfl (by decide +kernel) rfl rfl (Nat.le_of_ble_eq_true rfl) rfl ?_
    exact hJ37_1 1 (by first | (with_reducible assumption) | omega (splitDisjunctions := false) | assumption | omega | decide) (by first | (with_reducible assumption) | omega (splitDisjunctions := false) | assumption | omega | decide) (by first | (with_reducible assumption) | omega (splitDisjunctions := false) | assumption | omega | decide)
  · have tw11 : ¬ n.toInt < 0 := fun z9 => w11 ((ti_lt rfl (by decide)).mpr z9)
    refine pb_iload_n (pc := 5) d_Mod_again_5 1 rfl rfl ?_
    refine pb_aload_n (pc := 6) d_Mod_again_6 0 rfl rfl ?_
    refine pb_get (pc := 7) d_Mod_again_7 0 9 rfl rfl (by decide) in_Mod k_1155 rfl ?_
    refine pb_icmp_le (pc := 10) (tgt := 17) d_Mod_again_10 (by decide) (fun w12 => ?_) (fun w12 => ?_)
    · have tw12 : n.toInt ≤ v_taped.toInt := (ti_le rfl rfl).mp w12
      refine pb_aload_n (pc := 17) d_Mod_again_17 0 rfl rfl ?_
      refine pb_get (pc := 18) d_Mod_again_18 0 9 rfl rfl (by decide) in_Mod k_1155 rfl ?_
      refine pb_iload_n (pc := 21) d_Mod_again_21 1 rfl rfl ?_
      refine pb_iadd (pc := 22) d_Mod_again_22 ?_
      refine pb_topi (fun i13 ei13 => ?_)
      try have ti13 : i13.toInt = v_taped.toInt + n.toInt := t2_add ei13 rfl rfl (by omega)
      refine pb_sipush (pc := 23) (v := 8000) d_Mod_again_23 (by decide) ?_
      refine pb_icmp_le (pc := 26) (tgt := 33) d_Mod_again_26 (by decide) (fun w14 => ?_) (fun w14 => ?_)
      · have tw14 : i13.toInt ≤ 8000 := (ti_le rfl (by decide)).mp w14
        refine pb_iconst (pc := 33) (v := 0) d_Mod_again_33 (by decide) ?_
        refine pb_put (pc := 34) (ty := .int) (ws' := [(h, .inr (10, [.ref m_rels, .ref m_openRels, .ref m_closeRels, .ref m_openRel, .ref m_closeRel, .ref m_comment, .ref m_ends, .ref m_order, .int 0, .int v_taped, .ref m_tape, .ref m_count, .ref m_nameSize, .ref m_names, .ref m_size, .ref m_data, .int v_lookedSize, .ref m_looked, .int v_fileSize, .ref m_file, .int v_directorySize, .ref m_directory, .int v_outSize, .ref m_out, .int v_rowSize, .ref m_row, .int v_bitAt, .int v_bitEnd, .int v_why, .int v_madeSize, .ref m_made, .ref m_length, .int v_firstCount, .int v_secondCount, .int v_heldBits, .int v_heldCount, .int v_pressedSize, .ref m_pressed, .int v_at, .int v_bad, .int v_markSize, .ref m_mark, .int v_relationCount, .ref m_idSize, .ref m_ids, .ref m_goalSize, .ref m_goals, .int v_valueSize, .ref m_value, .int v_faultCount, .ref m_faults, .ref m_reached])), (m_tape, .inl (G.2.1, 8000, .inl a_tape))]) d_Mod_again_34 0 8 t_Mod t_Mod_ok n_Mod rfl rfl (by decide) in_Mod k_1154 rfl (by decide +kernel) rfl rfl (Nat.le_of_ble_eq_true rfl) rfl ?_
        exact hJ37_1 0 (by first | (with_reducible assumption) | omega (splitDisjunctions := false) | assumption | omega | decide) (by first | (with_reducible assumption) | omega (splitDisjunctions := false) | assumption | omega | decide) (by first | (with_reducible assumption) | omega (splitDisjunctions := false) | assumption | omega | decide)
      · have tw14 : ¬ i13.toInt ≤ 8000 := fun z9 => w14 ((ti_le rfl (by decide)).mpr z9)
        refine pb_iconst (pc := 29) (v := 2) d_Mod_again_29 (by decide) ?_
        refine pb_goto (pc := 30) (tgt := 34) d_Mod_again_30 (by decide) ?_
        refine pb_put (pc := 34) (ty := .int) (ws' := [(h, .inr (10, [.ref m_rels, .ref m_openRels, .ref m_closeRels, .ref m_openRel, .ref m_closeRel, .ref m_comment, .ref m_ends, .ref m_order, .int 2, .int v_taped, .ref m_tape, .ref m_count, .ref m_nameSize, .ref m_names, .ref m_size, .ref m_data, .int v_lookedSize, .ref m_looked, .int v_fileSize, .ref m_file, .int v_directorySize, .ref m_directory, .int v_outSize, .ref m_out, .int v_rowSize, .ref m_row, .int v_bitAt, .int v_bitEnd, .int v_why, .int v_madeSize, .ref m_made, .ref m_length, .int v_firstCount, .int v_secondCount, .int v_heldBits, .int v_heldCount, .int v_pressedSize, .ref m_pressed, .int v_at, .int v_bad, .int v_markSize, .ref m_mark, .int v_relationCount, .ref m_idSize, .ref m_ids, .ref m_goalSize, .ref m_goals, .int v_valueSize, .ref m_value, .int v_faultCount, .ref m_faults, .ref m_reached])), (m_tape, .inl (G.2.1, 8000, .inl a_tape))]) d_Mod_again_34 0 8 t_Mod t_Mod_ok n_Mod rfl rfl (by decide) in_Mod k_1154 rfl (by decide +kernel) rfl rfl (Nat.le_of_ble_eq_true rfl) rfl ?_
        exact hJ37_1 2 (by first | (with_reducible assumption) | omega (splitDisjunctions := false) | assumption | omega | decide) (by first | (with_reducible assumption) | omega (splitDisjunctions := false) | assumption | omega | decide) (by first | (with_reducible assumption) | omega (splitDisjunctions := false) | assumption | omega | decide)
    · have tw12 : ¬ n.toInt ≤ v_taped.toInt := fun z9 => w12 ((ti_le rfl rfl).mpr z9)
      refine pb_iconst (pc := 13) (v := 1) d_Mod_again_13 (by decide) ?_
      refine pb_goto (pc := 14) (tgt := 34) d_Mod_again_14 (by decide) ?_
      refine pb_put (pc := 34) (ty := .int) (ws' := [(h, .inr (10, [.ref m_rels, .ref m_openRels, .ref m_closeRels, .ref m_openRel, .ref m_closeRel, .ref m_comment, .ref m_ends, .ref m_order, .int 1, .int v_taped, .ref m_tape, .ref m_count, .ref m_nameSize, .ref m_names, .ref m_size, .ref m_data, .int v_lookedSize, .ref m_looked, .int v_fileSize, .ref m_file, .int v_directorySize, .ref m_directory, .int v_outSize, .ref m_out, .int v_rowSize, .ref m_row, .int v_bitAt, .int v_bitEnd, .int v_why, .int v_madeSize, .ref m_made, .ref m_length, .int v_firstCount, .int v_secondCount, .int v_heldBits, .int v_heldCount, .int v_pressedSize, .ref m_pressed, .int v_at, .int v_bad, .int v_markSize, .ref m_mark, .int v_relationCount, .ref m_idSize, .ref m_ids, .ref m_goalSize, .ref m_goals, .int v_valueSize, .ref m_value, .int v_faultCount, .ref m_faults, .ref m_reached])), (m_tape, .inl (G.2.1, 8000, .inl a_tape))]) d_Mod_again_34 0 8 t_Mod t_Mod_ok n_Mod rfl rfl (by decide) in_Mod k_1154 rfl (by decide +kernel) rfl rfl (Nat.le_of_ble_eq_true rfl) rfl ?_
      exact hJ37_1 1 (by first | (with_reducible assumption) | omega (splitDisjunctions := false) | assumption | omega | decide) (by first | (with_reducible assumption) | omega (splitDisjunctions := false) | assumption | omega | decide) (by first | (with_reducible assumption) | omega (splitDisjunctions := false) | assumption | omega | decide)
/-! ROWS OF NUMBERS -/
theorem omg_04d2c0c64d {x0 : Int} {x1 : Int} {x2 : Int} (a0 : ((0 : Int) ≤ x0)) (a1 : (x0 ≤ (1000000 : Int))) (a2 : ((x1 = (0 : Int)) ∨ (x1 = (1 : Int)))) (a3 : ((x1 = (1 : Int)) → (((1 : Int) ≤ x2) ∧ (x2 ≤ (24 : Int))))) (a4 : (¬ (x1 = (0 : Int)))) : (((-(2147483648 : Int)) ≤ (x0 + x2)) ∧ ((x0 + x2) < (2147483648 : Int))) := by omega
theorem omg_577cbf759c {x0 : Int} {x1 : Int} (a0 : ((x0 = (1 : Int)) → (((1 : Int) ≤ x1) ∧ (x1 ≤ (24 : Int))))) (a1 : (x0 = (1 : Int))) : (x1 ≤ (24 : Int)) := by omega
theorem omg_4a5932b457 {x0 : Int} {x1 : Int} (a0 : ((x0 = (1 : Int)) → (((1 : Int) ≤ x1) ∧ (x1 ≤ (24 : Int))))) (a1 : (x0 = (1 : Int))) : ((1 : Int) ≤ x1) := by omega
theorem omg_71594c4e8f {x0 : Int} {x1 : Int} {x2 : Int} {x3 : Int} {x4 : Int} {x5 : Int} (a0 : ((x0 = (1 : Int)) → (((1 : Int) ≤ x1) ∧ (x1 ≤ (24 : Int))))) (a1 : (((1 : Int) ≤ x1) → ((x1 ≤ (24 : Int)) → (x2 ≤ ((x3 + x1) + (1 : Int)))))) (a2 : ((x0 = (1 : Int)) → ((x2 = ((x3 + x1) + (1 : Int))) → (x4 = ((x3 + x1) + (1 : Int)))))) (a3 : (x5 = (x3 + x1))) (a4 : (x5 < x2)) (a5 : (x0 = (1 : Int))) : (x4 = ((x3 + x1) + (1 : Int))) := by omega
theorem omg_bf06e25df8 {x0 : Int} {x1 : Int} {x2 : Int} {x3 : Int} {x4 : Int} {x5 : Int} (a0 : (x0 ≤ x1)) (a1 : (x2 = (x3 + x4))) (a2 : (¬ (x2 < x1))) (a3 : ((x0 = x3) ∨ ((x5 = (47 : Int)) ∨ (x0 = ((x3 + x4) + (1 : Int)))))) : ((x0 = x3) ∨ (x5 = (47 : Int))) := by omega
theorem omg_2e68d70059 {x0 : Int} {x1 : Int} {x2 : Int} {x3 : Nat} {x4 : Int} (a0 : ((Int.toNat (((x0 + x1) + (1 : Int)) - x2)) < (x3 + (1 : Nat)))) (a1 : (x2 < (x0 + x1))) (a2 : (x4 = (x2 + (1 : Int)))) : ((Int.toNat (((x0 + x1) + (1 : Int)) - x4)) < x3) := by omega
theorem omg_f7e32c029d {x0 : Int} {x1 : Nat} {x2 : Int} {x3 : Int} {x4 : Int} {x5 : Int} (a0 : ((0 : Int) ≤ x0)) (a1 : (x1 ≤ (1000000 : Nat))) (a2 : (x0 ≤ x2)) (a3 : (x2 ≤ x3)) (a4 : (x4 = (x0 + x5))) (a5 : (¬ (x4 < x3))) (a6 : ((x0 + x5) ≤ ((x1 : Nat) : Int))) : (((-(2147483648 : Int)) ≤ (x3 + (1 : Int))) ∧ ((x3 + (1 : Int)) < (2147483648 : Int))) := by omega
theorem omg_5018db78c1 {x0 : Int} {x1 : Nat} {x2 : Int} {x3 : Int} {x4 : Int} (a0 : ((0 : Int) ≤ x0)) (a1 : (x1 ≤ (1000000 : Nat))) (a2 : (x0 ≤ x2)) (a3 : (x3 = (x0 + x4))) (a4 : (¬ (x3 < x2))) (a5 : ((x0 + x4) ≤ ((x1 : Nat) : Int))) : (((-(2147483648 : Int)) ≤ (x2 + (1 : Int))) ∧ ((x2 + (1 : Int)) < (2147483648 : Int))) := by omega
theorem omg_a556a8cae0 {x0 : Int} {x1 : Int} {x2 : Int} {x3 : Nat} {x4 : Int} {x5 : Int} (a0 : ((Int.toNat (((x0 + x1) + (1 : Int)) - x2)) < (x3 + (1 : Nat)))) (a1 : (x4 = (x0 + x1))) (a2 : (¬ (x4 < x2))) (a3 : (x5 = (x2 + (1 : Int)))) : ((Int.toNat (((x0 + x1) + (1 : Int)) - x5)) < x3) := by omega
theorem omg_421f35943a {x0 : Int} {x1 : Int} {x2 : Int} {x3 : Int} (a0 : (x0 = (x1 + x2))) (a1 : (¬ (x0 < x3))) : (x3 ≤ (x1 + x2)) := by omega
theorem omg_aeefa2a770 {x0 : Int} {x1 : Int} {x2 : Int} {x3 : Int} {x4 : Int} (a0 : (x0 = (x1 + x2))) (a1 : (¬ (x0 < x3))) (a2 : (x4 = (x3 + (1 : Int)))) : (((1 : Int) ≤ x2) → ((x2 ≤ (24 : Int)) → (x4 ≤ ((x1 + x2) + (1 : Int))))) := by omega
theorem omg_774282cffe {x0 : Int} {x1 : Int} {x2 : Int} (a0 : (x0 = (x1 + (1 : Int)))) (a1 : (x2 = (x1 + (1 : Int)))) : (x0 ≤ x2) := by omega
theorem omg_b4c2612531 {x0 : Int} {x1 : Nat} {x2 : Int} {x3 : Int} {x4 : Int} {x5 : Int} {x6 : Int} (a0 : ((0 : Int) ≤ x0)) (a1 : (x1 ≤ (1000000 : Nat))) (a2 : (x0 ≤ x2)) (a3 : (x3 = (x0 + x4))) (a4 : (¬ (x3 < x5))) (a5 : ((x0 + x4) ≤ ((x1 : Nat) : Int))) (a6 : (x6 = (x5 - x2))) (a7 : (¬ (x6 ≤ (0 : Int)))) : (((-(2147483648 : Int)) ≤ (x5 + (1 : Int))) ∧ ((x5 + (1 : Int)) < (2147483648 : Int))) := by omega
theorem omg_c03ca91bfd {x0 : Int} {x1 : Int} {x2 : Int} {x3 : Int} {x4 : Int} {x5 : Int} (a0 : ((x0 = (0 : Int)) ∨ (x0 = (1 : Int)))) (a1 : ((x0 = (1 : Int)) → (((x1 = (1 : Int)) ∧ (x2 = (46 : Int))) ∨ ((x1 = (2 : Int)) ∧ ((x2 = (46 : Int)) ∧ (x3 = (46 : Int))))))) (a2 : (x1 = (x4 - x5))) (a3 : (¬ (x0 = (0 : Int)))) : ((¬ (x5 < x4)) ∨ ((((x4 - x5) = (1 : Int)) ∧ (x2 = (46 : Int))) ∨ (((x4 - x5) = (2 : Int)) ∧ ((x2 = (46 : Int)) ∧ (x3 = (46 : Int)))))) := by omega
theorem omg_01daf8051b {x0 : Int} {x1 : Int} {x2 : Int} {x3 : Int} {x4 : Int} (a0 : (x0 = (x1 + (1 : Int)))) (a1 : ((x1 = (x2 + x3)) ∨ (x4 = (47 : Int)))) : ((x0 = x2) ∨ ((x4 = (47 : Int)) ∨ (x0 = ((x2 + x3) + (1 : Int))))) := by omega
theorem omg_aa3c743a5f {x0 : Int} {x1 : Int} {x2 : Int} {x3 : Int} {x4 : Int} {x5 : Int} (a0 : ((x0 = (0 : Int)) → (¬ (((x1 = (1 : Int)) ∧ (x2 = (46 : Int))) ∨ ((x1 = (2 : Int)) ∧ ((x2 = (46 : Int)) ∧ (x3 = (46 : Int)))))))) (a1 : (x1 = (x4 - x5))) (a2 : (x0 = (0 : Int))) : (¬ ((((x4 - x5) = (1 : Int)) ∧ (x2 = (46 : Int))) ∨ (((x4 - x5) = (2 : Int)) ∧ ((x2 = (46 : Int)) ∧ (x3 = (46 : Int)))))) := by omega
theorem omg_20c348c8a2 {x0 : Int} {x1 : Nat} {x2 : Int} {x3 : Int} {x4 : Int} {x5 : Int} {x6 : Int} (a0 : ((0 : Int) ≤ x0)) (a1 : (x1 ≤ (1000000 : Nat))) (a2 : (x0 ≤ x2)) (a3 : (x3 = (x0 + x4))) (a4 : (¬ (x3 < x5))) (a5 : ((x0 + x4) ≤ ((x1 : Nat) : Int))) (a6 : (x6 = (x5 - x2))) (a7 : (x6 = (2 : Int))) : (((-(2147483648 : Int)) ≤ (x2 + (1 : Int))) ∧ ((x2 + (1 : Int)) < (2147483648 : Int))) := by omega
theorem omg_e4b551ed1e {x0 : Int} {x1 : Int} {x2 : Int} {x3 : Int} {x4 : Int} {x5 : Nat} {x6 : Int} {x7 : Int} (a0 : ((0 : Int) ≤ x0)) (a1 : (x0 ≤ x1)) (a2 : (x2 = (x0 + x3))) (a3 : (¬ (x2 < x4))) (a4 : ((x0 + x3) ≤ ((x5 : Nat) : Int))) (a5 : (x6 = (x4 - x1))) (a6 : (x6 = (2 : Int))) (a7 : (x7 = (x1 + (1 : Int)))) : (((0 : Int) ≤ x7) ∧ (x7 < ((x5 : Nat) : Int))) := by omega
theorem d_Mod_isOfName_0 : decode prog_12_method_5_code 0 = .ok (.iload_n 0, 1) := by decide +kernel
theorem d_Mod_isOfName_1 : decode prog_12_method_5_code 1 = .ok (.bipush 97, 2) := by decide +kernel
theorem d_Mod_isOfName_3 : decode prog_12_method_5_code 3 = .ok (.if_icmp .lt 9, 3) := by decide +kernel
theorem d_Mod_isOfName_12 : decode prog_12_method_5_code 12 = .ok (.iload_n 0, 1) := by decide +kernel
theorem d_Mod_isOfName_13 : decode prog_12_method_5_code 13 = .ok (.bipush 48, 2) := by decide +kernel
theorem d_Mod_isOfName_15 : decode prog_12_method_5_code 15 = .ok (.if_icmp .lt 9, 3) := by decide +kernel
theorem d_Mod_isOfName_24 : decode prog_12_method_5_code 24 = .ok (.iload_n 0, 1) := by decide +kernel
theorem d_Mod_isOfName_25 : decode prog_12_method_5_code 25 = .ok (.bipush 46, 2) := by decide +kernel
theorem d_Mod_isOfName_27 : decode prog_12_method_5_code 27 = .ok (.if_icmp .eq 9, 3) := by decide +kernel
theorem d_Mod_isOfName_36 : decode prog_12_method_5_code 36 = .ok (.iconst 1, 1) := by decide +kernel
theorem d_Mod_isOfName_37 : decode prog_12_method_5_code 37 = .ok (.goto 4, 3) := by decide +kernel
theorem d_Mod_isOfName_41 : decode prog_12_method_5_code 41 = .ok (.ireturn, 1) := by decide +kernel
theorem d_Mod_isOfName_30 : decode prog_12_method_5_code 30 = .ok (.iload_n 0, 1) := by decide +kernel
theorem d_Mod_isOfName_31 : decode prog_12_method_5_code 31 = .ok (.bipush 95, 2) := by decide +kernel
theorem d_Mod_isOfName_33 : decode prog_12_method_5_code 33 = .ok (.if_icmp .ne 7, 3) := by decide +kernel
theorem d_Mod_isOfName_40 : decode prog_12_method_5_code 40 = .ok (.iconst 0, 1) := by decide +kernel
theorem d_Mod_isOfName_18 : decode prog_12_method_5_code 18 = .ok (.iload_n 0, 1) := by decide +kernel
theorem d_Mod_isOfName_19 : decode prog_12_method_5_code 19 = .ok (.bipush 57, 2) := by decide +kernel
theorem d_Mod_isOfName_21 : decode prog_12_method_5_code 21 = .ok (.if_icmp .le 15, 3) := by decide +kernel
theorem d_Mod_isOfName_6 : decode prog_12_method_5_code 6 = .ok (.iload_n 0, 1) := by decide +kernel
theorem d_Mod_isOfName_7 : decode prog_12_method_5_code 7 = .ok (.bipush 122, 2) := by decide +kernel
theorem d_Mod_isOfName_9 : decode prog_12_method_5_code 9 = .ok (.if_icmp .le 27, 3) := by decide +kernel
abbrev y_Mod_isOfName : MethodName := ⟨"PackageBookModel", "isOfName", "(I)Z"⟩
abbrev i_Mod_isOfName : pb_I := (y_Mod_isOfName, prog_12_method_5_code, 1, (some Jvm.ClassFile.FieldType.boolean), [], { frames := 0, cells := 0, slots := 0, locals := 0 })
set_option maxRecDepth 100000 in
set_option maxHeartbeats 4000000 in
theorem g_Mod_isOfName {l : Launch} (hl : l.stackTraces = false) (G : pb_G) (b : Int32) : Cn l G i_Mod_isOfName [.int b] [] (S := Int32) (fun rv_ u => rv_ = some (.int u) ∧ (u.toInt = 0 ∨ u.toInt = 1) ∧ (u.toInt = 1 → ch_ b.toInt) ∧ (u.toInt = 0 → ¬ ch_ b.toInt)) (fun u => []) := by
  refine Cn.of hl (by decide +kernel) rfl (Nat.le_of_ble_eq_true rfl) (fun M hQ => ?_)
  refine pb_eq (pc' := 0) (lo' := [(0, .int b)]) (rest' := []) (ws' := []) ?_
  have zl0 : (0 : Int32).toInt = 0 := by decide
  have zl1 : (1 : Int32).toInt = 1 := by decide
  refine pb_iload_n (pc := 0) d_Mod_isOfName_0 0 rfl rfl ?_
  refine pb_bipush (pc := 1) (v := 97) d_Mod_isOfName_1 (by decide) ?_
  refine pb_icmp_lt (pc := 3) (tgt := 12) d_Mod_isOfName_3 (by decide) (fun w1 => ?_) (fun w1 => ?_)
  · have tw1 : b.toInt < 97 := (ti_lt rfl (by decide)).mp w1
    refine pb_iload_n (pc := 12) d_Mod_isOfName_12 0 rfl rfl ?_
    refine pb_bipush (pc := 13) (v := 48) d_Mod_isOfName_13 (by decide) ?_
    refine pb_icmp_lt (pc := 15) (tgt := 24) d_Mod_isOfName_15 (by decide) (fun w2 => ?_) (fun w2 => ?_)
    · have tw2 : b.toInt < 48 := (ti_lt rfl (by decide)).mp w2
      refine pb_iload_n (pc := 24) d_Mod_isOfName_24 0 rfl rfl ?_
      refine pb_bipush (pc := 25) (v := 46) d_Mod_isOfName_25 (by decide) ?_
      refine pb_icmp_eq (pc := 27) (tgt := 36) d_Mod_isOfName_27 (by decide) (fun w3 => ?_) (fun w3 => ?_)
      · have tw3 : b.toInt = 46 := (ti_eq rfl (by decide)).mp w3
        refine pb_iconst (pc := 36) (v := 1) d_Mod_isOfName_36 (by decide) ?_
        refine pb_goto (pc := 37) (tgt := 41) d_Mod_isOfName_37 (by decide) ?_
        exact pb_iret (pc := 41) hQ d_Mod_isOfName_41 rfl rfl (1) ⟨rfl, (by (try dsimp only); first | done | (with_reducible assumption) | omega (splitDisjunctions := false) | assumption | omega | decide), (show (1 : Int32).toInt = 1 → ch_ b.toInt from (by first | exact fun q9 => absurd q9 (by omega) | exact fun _ => by unfold ch_; omega)), (show (1 : Int32).toInt = 0 → ¬ ch_ b.toInt from (by first | exact fun q9 => absurd q9 (by omega) | exact fun _ => by unfold ch_; omega))⟩ [] (by decide) rfl rfl (by decide) (by decide)
      · have tw3 : ¬ b.toInt = 46 := fun z9 => w3 ((ti_eq rfl (by decide)).mpr z9)
        refine pb_iload_n (pc := 30) d_Mod_isOfName_30 0 rfl rfl ?_
        refine pb_bipush (pc := 31) (v := 95) d_Mod_isOfName_31 (by decide) ?_
        refine pb_icmp_ne (pc := 33) (tgt := 40) d_Mod_isOfName_33 (by decide) (fun w4 => ?_) (fun w4 => ?_)
        · have tw4 : ¬ b.toInt = 95 := fun z9 => w4 ((ti_eq rfl (by decide)).mpr z9)
          refine pb_iconst (pc := 40) (v := 0) d_Mod_isOfName_40 (by decide) ?_
          exact pb_iret (pc := 41) hQ d_Mod_isOfName_41 rfl rfl (0) ⟨rfl, (by (try dsimp only); first | done | (with_reducible assumption) | omega (splitDisjunctions := false) | assumption | omega | decide), (show (0 : Int32).toInt = 1 → ch_ b.toInt from (by first | exact fun q9 => absurd q9 (by omega) | exact fun _ => by unfold ch_; omega)), (show (0 : Int32).toInt = 0 → ¬ ch_ b.toInt from (by first | exact fun q9 => absurd q9 (by omega) | exact fun _ => by unfold ch_; omega))⟩ [] (by decide) rfl rfl (by decide) (by decide)
        · have tw4 : b.toInt = 95 := (ti_eq rfl (by decide)).mp w4
          refine pb_iconst (pc := 36) (v := 1) d_Mod_isOfName_36 (by decide) ?_
          refine pb_goto (pc := 37) (tgt := 41) d_Mod_isOfName_37 (by decide) ?_
          exact pb_iret (pc := 41) hQ d_Mod_isOfName_41 rfl rfl (1) ⟨rfl, (by (try dsimp only); first | done | (with_reducible assumption) | omega (splitDisjunctions := false) | assumption | omega | decide), (show (1 : Int32).toInt = 1 → ch_ b.toInt from (by first | exact fun q9 => absurd q9 (by omega) | exact fun _ => by unfold ch_; omega)), (show (1 : Int32).toInt = 0 → ¬ ch_ b.toInt from (by first | exact fun q9 => absurd q9 (by omega) | exact fun _ => by unfold ch_; omega))⟩ [] (by decide) rfl rfl (by decide) (by decide)
    · have tw2 : ¬ b.toInt < 48 := fun z9 => w2 ((ti_lt rfl (by decide)).mpr z9)
      refine pb_iload_n (pc := 18) d_Mod_isOfName_18 0 rfl rfl ?_
      refine pb_bipush (pc := 19) (v := 57) d_Mod_isOfName_19 (by decide) ?_
      refine pb_icmp_le (pc := 21) (tgt := 36) d_Mod_isOfName_21 (by decide) (fun w5 => ?_) (fun w5 => ?_)
      · have tw5 : b.toInt ≤ 57 := (ti_le rfl (by decide)).mp w5
        refine pb_iconst (pc := 36) (v := 1) d_Mod_isOfName_36 (by decide) ?_
        refine pb_goto (pc := 37) (tgt := 41) d_Mod_isOfName_37 (by decide) ?_
        exact pb_iret (pc := 41) hQ d_Mod_isOfName_41 rfl rfl (1) ⟨rfl, (by (try dsimp only); first | done | (with_reducible assumption) | omega (splitDisjunctions := false) | assumption | omega | decide), (show (1 : Int32).toInt = 1 → ch_ b.toInt from (by first | exact fun q9 => absurd q9 (by omega) | exact fun _ => by unfold ch_; omega)), (show (1 : Int32).toInt = 0 → ¬ ch_ b.toInt from (by first | exact fun q9 => absurd q9 (by omega) | exact fun _ => by unfold ch_; omega))⟩ [] (by decide) rfl rfl (by decide) (by decide)
      · have tw5 : ¬ b.toInt ≤ 57 := fun z9 => w5 ((ti_le rfl (by decide)).mpr z9)
        refine pb_iload_n (pc := 24) d_Mod_isOfName_24 0 rfl rfl ?_
        refine pb_bipush (pc := 25) (v := 46) d_Mod_isOfName_25 (by decide) ?_
        refine pb_icmp_eq (pc := 27) (tgt := 36) d_Mod_isOfName_27 (by decide) (fun w6 => ?_) (fun w6 => ?_)
        · have tw6 : b.toInt = 46 := (ti_eq rfl (by decide)).mp w6
          refine pb_iconst (pc := 36) (v := 1) d_Mod_isOfName_36 (by decide) ?_
          refine pb_goto (pc := 37) (tgt := 41) d_Mod_isOfName_37 (by decide) ?_
          exact pb_iret (pc := 41) hQ d_Mod_isOfName_41 rfl rfl (1) ⟨rfl, (by (try dsimp only); first | done | (with_reducible assumption) | omega (splitDisjunctions := false) | assumption | omega | decide), (show (1 : Int32).toInt = 1 → ch_ b.toInt from (by first | exact fun q9 => absurd q9 (by omega) | exact fun _ => by unfold ch_; omega)), (show (1 : Int32).toInt = 0 → ¬ ch_ b.toInt from (by first | exact fun q9 => absurd q9 (by omega) | exact fun _ => by unfold ch_; omega))⟩ [] (by decide) rfl rfl (by decide) (by decide)
        · have tw6 : ¬ b.toInt = 46 := fun z9 => w6 ((ti_eq rfl (by decide)).mpr z9)
          refine pb_iload_n (pc := 30) d_Mod_isOfName_30 0 rfl rfl ?_
          refine pb_bipush (pc := 31) (v := 95) d_Mod_isOfName_31 (by decide) ?_
          refine pb_icmp_ne (pc := 33) (tgt := 40) d_Mod_isOfName_33 (by decide) (fun w7 => ?_) (fun w7 => ?_)
          · have tw7 : ¬ b.toInt = 95 := fun z9 => w7 ((ti_eq rfl (by decide)).mpr z9)
            refine pb_iconst (pc := 40) (v := 0) d_Mod_isOfName_40 (by decide) ?_
            exact pb_iret (pc := 41) hQ d_Mod_isOfName_41 rfl rfl (0) ⟨rfl, (by (try dsimp only); first | done | (with_reducible assumption) | omega (splitDisjunctions := false) | assumption | omega | decide), (show (0 : Int32).toInt = 1 → ch_ b.toInt from (by first | exact fun q9 => absurd q9 (by omega) | exact fun _ => by unfold ch_; omega)), (show (0 : Int32).toInt = 0 → ¬ ch_ b.toInt from (by first | exact fun q9 => absurd q9 (by omega) | exact fun _ => by unfold ch_; omega))⟩ [] (by decide) rfl rfl (by decide) (by decide)
          · have tw7 : b.toInt = 95 := (ti_eq rfl (by decide)).mp w7
            refine pb_iconst (pc := 36) (v := 1) d_Mod_isOfName_36 (by decide) ?_
            refine pb_goto (pc := 37) (tgt := 41) d_Mod_isOfName_37 (by decide) ?_
            exact pb_iret (pc := 41) hQ d_Mod_isOfName_41 rfl rfl (1) ⟨rfl, (by (try dsimp only); first | done | (with_reducible assumption) | omega (splitDisjunctions := false) | assumption | omega | decide), (show (1 : Int32).toInt = 1 → ch_ b.toInt from (by first | exact fun q9 => absurd q9 (by omega) | exact fun _ => by unfold ch_; omega)), (show (1 : Int32).toInt = 0 → ¬ ch_ b.toInt from (by first | exact fun q9 => absurd q9 (by omega) | exact fun _ => by unfold ch_; omega))⟩ [] (by decide) rfl rfl (by decide) (by decide)
  · have tw1 : ¬ b.toInt < 97 := fun z9 => w1 ((ti_lt rfl (by decide)).mpr z9)
    refine pb_iload_n (pc := 6) d_Mod_isOfName_6 0 rfl rfl ?_
    refine pb_bipush (pc := 7) (v := 122) d_Mod_isOfName_7 (by decide) ?_
    refine pb_icmp_le (pc := 9) (tgt := 36) d_Mod_isOfName_9 (by decide) (fun w8 => ?_) (fun w8 => ?_)
    · have tw8 : b.toInt ≤ 122 := (ti_le rfl (by decide)).mp w8
      refine pb_iconst (pc := 36) (v := 1) d_Mod_isOfName_36 (by decide) ?_
      refine pb_goto (pc := 37) (tgt := 41) d_Mod_isOfName_37 (by decide) ?_
      exact pb_iret (pc := 41) hQ d_Mod_isOfName_41 rfl rfl (1) ⟨rfl, (by (try dsimp only); first | done | (with_reducible assumption) | omega (splitDisjunctions := false) | assumption | omega | decide), (show (1 : Int32).toInt = 1 → ch_ b.toInt from (by first | exact fun q9 => absurd q9 (by omega) | exact fun _ => by unfold ch_; omega)), (show (1 : Int32).toInt = 0 → ¬ ch_ b.toInt from (by first | exact fun q9 => absurd q9 (by omega) | exact fun _ => by unfold ch_; omega))⟩ [] (by decide) rfl rfl (by decide) (by decide)
    · have tw8 : ¬ b.toInt ≤ 122 := fun z9 => w8 ((ti_le rfl (by decide)).mpr z9)
      refine pb_iload_n (pc := 12) d_Mod_isOfName_12 0 rfl rfl ?_
      refine pb_bipush (pc := 13) (v := 48) d_Mod_isOfName_13 (by decide) ?_
      refine pb_icmp_lt (pc := 15) (tgt := 24) d_Mod_isOfName_15 (by decide) (fun w9 => ?_) (fun w9 => ?_)
      · have tw9 : b.toInt < 48 := (ti_lt rfl (by decide)).mp w9
        refine pb_iload_n (pc := 24) d_Mod_isOfName_24 0 rfl rfl ?_
        refine pb_bipush (pc := 25) (v := 46) d_Mod_isOfName_25 (by decide) ?_
        refine pb_icmp_eq (pc := 27) (tgt := 36) d_Mod_isOfName_27 (by decide) (fun w10 => ?_) (fun w10 => ?_)
        · have tw10 : b.toInt = 46 := (ti_eq rfl (by decide)).mp w10
          refine pb_iconst (pc := 36) (v := 1) d_Mod_isOfName_36 (by decide) ?_
          refine pb_goto (pc := 37) (tgt := 41) d_Mod_isOfName_37 (by decide) ?_
          exact pb_iret (pc := 41) hQ d_Mod_isOfName_41 rfl rfl (1) ⟨rfl, (by (try dsimp only); first | done | (with_reducible assumption) | omega (splitDisjunctions := false) | assumption | omega | decide), (show (1 : Int32).toInt = 1 → ch_ b.toInt from (by first | exact fun q9 => absurd q9 (by omega) | exact fun _ => by unfold ch_; omega)), (show (1 : Int32).toInt = 0 → ¬ ch_ b.toInt from (by first | exact fun q9 => absurd q9 (by omega) | exact fun _ => by unfold ch_; omega))⟩ [] (by decide) rfl rfl (by decide) (by decide)
        · have tw10 : ¬ b.toInt = 46 := fun z9 => w10 ((ti_eq rfl (by decide)).mpr z9)
          refine pb_iload_n (pc := 30) d_Mod_isOfName_30 0 rfl rfl ?_
          refine pb_bipush (pc := 31) (v := 95) d_Mod_isOfName_31 (by decide) ?_
          refine pb_icmp_ne (pc := 33) (tgt := 40) d_Mod_isOfName_33 (by decide) (fun w11 => ?_) (fun w11 => ?_)
          · have tw11 : ¬ b.toInt = 95 := fun z9 => w11 ((ti_eq rfl (by decide)).mpr z9)
            refine pb_iconst (pc := 40) (v := 0) d_Mod_isOfName_40 (by decide) ?_
            exact pb_iret (pc := 41) hQ d_Mod_isOfName_41 rfl rfl (0) ⟨rfl, (by (try dsimp only); first | done | (with_reducible assumption) | omega (splitDisjunctions := false) | assumption | omega | decide), (show (0 : Int32).toInt = 1 → ch_ b.toInt from (by first | exact fun q9 => absurd q9 (by omega) | exact fun _ => by unfold ch_; omega)), (show (0 : Int32).toInt = 0 → ¬ ch_ b.toInt from (by first | exact fun q9 => absurd q9 (by omega) | exact fun _ => by unfold ch_; omega))⟩ [] (by decide) rfl rfl (by decide) (by decide)
          · have tw11 : b.toInt = 95 := (ti_eq rfl (by decide)).mp w11
            refine pb_iconst (pc := 36) (v := 1) d_Mod_isOfName_36 (by decide) ?_
            refine pb_goto (pc := 37) (tgt := 41) d_Mod_isOfName_37 (by decide) ?_
            exact pb_iret (pc := 41) hQ d_Mod_isOfName_41 rfl rfl (1) ⟨rfl, (by (try dsimp only); first | done | (with_reducible assumption) | omega (splitDisjunctions := false) | assumption | omega | decide), (show (1 : Int32).toInt = 1 → ch_ b.toInt from (by first | exact fun q9 => absurd q9 (by omega) | exact fun _ => by unfold ch_; omega)), (show (1 : Int32).toInt = 0 → ¬ ch_ b.toInt from (by first | exact fun q9 => absurd q9 (by omega) | exact fun _ => by unfold ch_; omega))⟩ [] (by decide) rfl rfl (by decide) (by decide)
      · have tw9 : ¬ b.toInt < 48 := fun z9 => w9 ((ti_lt rfl (by decide)).mpr z9)
        refine pb_iload_n (pc := 18) d_Mod_isOfName_18 0 rfl rfl ?_
        refine pb_bipush (pc := 19) (v := 57) d_Mod_isOfName_19 (by decide) ?_
        refine pb_icmp_le (pc := 21) (tgt := 36) d_Mod_isOfName_21 (by decide) (fun w12 => ?_) (fun w12 => ?_)
        · have tw12 : b.toInt ≤ 57 := (ti_le rfl (by decide)).mp w12
          refine pb_iconst (pc := 36) (v := 1) d_Mod_isOfName_36 (by decide) ?_
          refine pb_goto (pc := 37) (tgt := 41) d_Mod_isOfName_37 (by decide) ?_
          exact pb_iret (pc := 41) hQ d_Mod_isOfName_41 rfl rfl (1) ⟨rfl, (by (try dsimp only); first | done | (with_reducible assumption) | omega (splitDisjunctions := false) | assumption | omega | decide), (show (1 : Int32).toInt = 1 → ch_ b.toInt from (by first | exact fun q9 => absurd q9 (by omega) | exact fun _ => by unfold ch_; omega)), (show (1 : Int32).toInt = 0 → ¬ ch_ b.toInt from (by first | exact fun q9 => absurd q9 (by omega) | exact fun _ => by unfold ch_; omega))⟩ [] (by decide) rfl rfl (by decide) (by decide)
        · have tw12 : ¬ b.toInt ≤ 57 := fun z9 => w12 ((ti_le rfl (by decide)).mpr z9)
          refine pb_iload_n (pc := 24) d_Mod_isOfName_24 0 rfl rfl ?_
          refine pb_bipush (pc := 25) (v := 46) d_Mod_isOfName_25 (by decide) ?_
          refine pb_icmp_eq (pc := 27) (tgt := 36) d_Mod_isOfName_27 (by decide) (fun w13 => ?_) (fun w13 => ?_)
          · have tw13 : b.toInt = 46 := (ti_eq rfl (by decide)).mp w13
            refine pb_iconst (pc := 36) (v := 1) d_Mod_isOfName_36 (by decide) ?_
            refine pb_goto (pc := 37) (tgt := 41) d_Mod_isOfName_37 (by decide) ?_
            exact pb_iret (pc := 41) hQ d_Mod_isOfName_41 rfl rfl (1) ⟨rfl, (by (try dsimp only); first | done | (with_reducible assumption) | omega (splitDisjunctions := false) | assumption | omega | decide), (show (1 : Int32).toInt = 1 → ch_ b.toInt from (by first | exact fun q9 => absurd q9 (by omega) | exact fun _ => by unfold ch_; omega)), (show (1 : Int32).toInt = 0 → ¬ ch_ b.toInt from (by first | exact fun q9 => absurd q9 (by omega) | exact fun _ => by unfold ch_; omega))⟩ [] (by decide) rfl rfl (by decide) (by decide)
          · have tw13 : ¬ b.toInt = 46 := fun z9 => w13 ((ti_eq rfl (by decide)).mpr z9)
            refine pb_iload_n (pc := 30) d_Mod_isOfName_30 0 rfl rfl ?_
            refine pb_bipush (pc := 31) (v := 95) d_Mod_isOfName_31 (by decide) ?_
            refine pb_icmp_ne (pc := 33) (tgt := 40) d_Mod_isOfName_33 (by decide) (fun w14 => ?_) (fun w14 => ?_)
            · have tw14 : ¬ b.toInt = 95 := fun z9 => w14 ((ti_eq rfl (by decide)).mpr z9)
              refine pb_iconst (pc := 40) (v := 0) d_Mod_isOfName_40 (by decide) ?_
              exact pb_iret (pc := 41) hQ d_Mod_isOfName_41 rfl rfl (0) ⟨rfl, (by (try dsimp only); first | done | (with_reducible assumption) | omega (splitDisjunctions := false) | assumption | omega | decide), (show (0 : Int32).toInt = 1 → ch_ b.toInt from (by first | exact fun q9 => absurd q9 (by omega) | exact fun _ => by unfold ch_; omega)), (show (0 : Int32).toInt = 0 → ¬ ch_ b.toInt from (by first | exact fun q9 => absurd q9 (by omega) | exact fun _ => by unfold ch_; omega))⟩ [] (by decide) rfl rfl (by decide) (by decide)
            · have tw14 : b.toInt = 95 := (ti_eq rfl (by decide)).mp w14
              refine pb_iconst (pc := 36) (v := 1) d_Mod_isOfName_36 (by decide) ?_
              refine pb_goto (pc := 37) (tgt := 41) d_Mod_isOfName_37 (by decide) ?_
              exact pb_iret (pc := 41) hQ d_Mod_isOfName_41 rfl rfl (1) ⟨rfl, (by (try dsimp only); first | done | (with_reducible assumption) | omega (splitDisjunctions := false) | assumption | omega | decide), (show (1 : Int32).toInt = 1 → ch_ b.toInt from (by first | exact fun q9 => absurd q9 (by omega) | exact fun _ => by unfold ch_; omega)), (show (1 : Int32).toInt = 0 → ¬ ch_ b.toInt from (by first | exact fun q9 => absurd q9 (by omega) | exact fun _ => by unfold ch_; omega))⟩ [] (by decide) rfl rfl (by decide) (by decide)

theorem d_Mod_isName_17 : decode prog_12_method_6_code 17 = .ok (.iload_n 1, 1) := by decide +kernel
theorem d_Mod_isName_18 : decode prog_12_method_6_code 18 = .ok (.istore 4, 2) := by decide +kernel
theorem d_Mod_isName_20 : decode prog_12_method_6_code 20 = .ok (.iload_n 1, 1) := by decide +kernel
theorem d_Mod_isName_21 : decode prog_12_method_6_code 21 = .ok (.istore 5, 2) := by decide +kernel
theorem d_Mod_isName_23 : decode prog_12_method_6_code 23 = .ok (.iload_n 3, 1) := by decide +kernel
theorem d_Mod_isName_24 : decode prog_12_method_6_code 24 = .ok (.ifCond .eq 134, 3) := by decide +kernel
theorem d_Mod_isName_158 : decode prog_12_method_6_code 158 = .ok (.iload_n 3, 1) := by decide +kernel
theorem d_Mod_isName_159 : decode prog_12_method_6_code 159 = .ok (.ireturn, 1) := by decide +kernel
theorem d_Mod_isName_27 : decode prog_12_method_6_code 27 = .ok (.iload 5, 2) := by decide +kernel
theorem d_Mod_isName_29 : decode prog_12_method_6_code 29 = .ok (.iload_n 1, 1) := by decide +kernel
theorem d_Mod_isName_30 : decode prog_12_method_6_code 30 = .ok (.iload_n 2, 1) := by decide +kernel
theorem d_Mod_isName_31 : decode prog_12_method_6_code 31 = .ok (.iadd, 1) := by decide +kernel
theorem d_Mod_isName_32 : decode prog_12_method_6_code 32 = .ok (.if_icmp .gt 126, 3) := by decide +kernel
theorem d_Mod_isName_35 : decode prog_12_method_6_code 35 = .ok (.iload 5, 2) := by decide +kernel
theorem d_Mod_isName_59 : decode prog_12_method_6_code 59 = .ok (.iload 6, 2) := by decide +kernel
theorem d_Mod_isName_61 : decode prog_12_method_6_code 61 = .ok (.ifCond .eq 83, 3) := by decide +kernel
theorem d_Mod_isName_144 : decode prog_12_method_6_code 144 = .ok (.aload_n 0, 1) := by decide +kernel
theorem d_Mod_isName_145 : decode prog_12_method_6_code 145 = .ok (.iload 5, 2) := by decide +kernel
theorem d_Mod_isName_147 : decode prog_12_method_6_code 147 = .ok (.baload, 1) := by decide +kernel
theorem d_Mod_isName_148 : decode prog_12_method_6_code 148 = .ok (.invokestatic 110, 3) := by decide +kernel
theorem k_1319 : (Jvm.Cond.methodLink "PackageBookModel" (110 : Nat) ({ cls := "PackageBookModel", name := "isOfName", desc := "(I)Z" } : Jvm.MethodName)) ∈ uW := uW_c5 2 rfl (by decide +kernel)
theorem k_128 : (Jvm.Cond.initialized "PackageBookModel") ∈ uW := uW_c0 11 rfl (by decide +kernel)
theorem k_1321 : (Jvm.Cond.code ({ cls := "PackageBookModel", name := "isOfName", desc := "(I)Z" } : Jvm.MethodName) prog_12_method_5_code (1 : Nat) (Option.some Jvm.ClassFile.FieldType.boolean)) ∈ uW := uW_c5 4 rfl (by decide +kernel)
theorem k_1320 : (Jvm.Cond.static ({ cls := "PackageBookModel", name := "isOfName", desc := "(I)Z" } : Jvm.MethodName)) ∈ uW := uW_c5 3 rfl (by decide +kernel)
theorem hy_Mod_isOfName : (y_Mod_isOfName).cls ≠ "java/lang/invoke/MethodHandle" ∧ (y_Mod_isOfName).cls ≠ "java/lang/invoke/VarHandle" ∧ (parseMethodDescriptor (y_Mod_isOfName).desc).map (fun d => d.parameters.length) = some 1 := by decide +kernel
theorem d_Mod_isName_151 : decode prog_12_method_6_code 151 = .ok (.istore_n 3, 1) := by decide +kernel
theorem d_Mod_isName_152 : decode prog_12_method_6_code 152 = .ok (.iinc 5 1, 3) := by decide +kernel
theorem d_Mod_isName_155 : decode prog_12_method_6_code 155 = .ok (.goto (-132), 3) := by decide +kernel
theorem d_Mod_isName_64 : decode prog_12_method_6_code 64 = .ok (.iload 5, 2) := by decide +kernel
theorem d_Mod_isName_66 : decode prog_12_method_6_code 66 = .ok (.iload 4, 2) := by decide +kernel
theorem d_Mod_isName_68 : decode prog_12_method_6_code 68 = .ok (.isub, 1) := by decide +kernel
theorem d_Mod_isName_69 : decode prog_12_method_6_code 69 = .ok (.istore 7, 2) := by decide +kernel
theorem d_Mod_isName_119 : decode prog_12_method_6_code 119 = .ok (.iload 7, 2) := by decide +kernel
theorem d_Mod_isName_121 : decode prog_12_method_6_code 121 = .ok (.ifCond .le 12, 3) := by decide +kernel
theorem d_Mod_isName_133 : decode prog_12_method_6_code 133 = .ok (.iconst 0, 1) := by decide +kernel
theorem d_Mod_isName_134 : decode prog_12_method_6_code 134 = .ok (.istore_n 3, 1) := by decide +kernel
theorem d_Mod_isName_135 : decode prog_12_method_6_code 135 = .ok (.iload 5, 2) := by decide +kernel
theorem d_Mod_isName_137 : decode prog_12_method_6_code 137 = .ok (.iconst 1, 1) := by decide +kernel
theorem d_Mod_isName_138 : decode prog_12_method_6_code 138 = .ok (.iadd, 1) := by decide +kernel
theorem d_Mod_isName_139 : decode prog_12_method_6_code 139 = .ok (.istore 4, 2) := by decide +kernel
theorem d_Mod_isName_141 : decode prog_12_method_6_code 141 = .ok (.goto 11, 3) := by decide +kernel
theorem d_Mod_isName_124 : decode prog_12_method_6_code 124 = .ok (.iload 8, 2) := by decide +kernel
theorem d_Mod_isName_126 : decode prog_12_method_6_code 126 = .ok (.ifCond .ne 7, 3) := by decide +kernel
theorem d_Mod_isName_129 : decode prog_12_method_6_code 129 = .ok (.iconst 1, 1) := by decide +kernel
theorem d_Mod_isName_130 : decode prog_12_method_6_code 130 = .ok (.goto 4, 3) := by decide +kernel
theorem d_Mod_isName_71 : decode prog_12_method_6_code 71 = .ok (.iload 7, 2) := by decide +kernel
theorem d_Mod_isName_73 : decode prog_12_method_6_code 73 = .ok (.iconst 1, 1) := by decide +kernel
theorem d_Mod_isName_74 : decode prog_12_method_6_code 74 = .ok (.if_icmp .ne 12, 3) := by decide +kernel
theorem d_Mod_isName_86 : decode prog_12_method_6_code 86 = .ok (.iload 7, 2) := by decide +kernel
theorem d_Mod_isName_88 : decode prog_12_method_6_code 88 = .ok (.iconst 2, 1) := by decide +kernel
theorem d_Mod_isName_89 : decode prog_12_method_6_code 89 = .ok (.if_icmp .ne 27, 3) := by decide +kernel
theorem d_Mod_isName_116 : decode prog_12_method_6_code 116 = .ok (.iconst 0, 1) := by decide +kernel
theorem d_Mod_isName_117 : decode prog_12_method_6_code 117 = .ok (.istore 8, 2) := by decide +kernel
theorem d_Mod_isName_92 : decode prog_12_method_6_code 92 = .ok (.aload_n 0, 1) := by decide +kernel
theorem d_Mod_isName_93 : decode prog_12_method_6_code 93 = .ok (.iload 4, 2) := by decide +kernel
theorem d_Mod_isName_95 : decode prog_12_method_6_code 95 = .ok (.baload, 1) := by decide +kernel
theorem d_Mod_isName_96 : decode prog_12_method_6_code 96 = .ok (.bipush 46, 2) := by decide +kernel
theorem d_Mod_isName_98 : decode prog_12_method_6_code 98 = .ok (.if_icmp .ne 18, 3) := by decide +kernel
theorem d_Mod_isName_101 : decode prog_12_method_6_code 101 = .ok (.aload_n 0, 1) := by decide +kernel
theorem d_Mod_isName_102 : decode prog_12_method_6_code 102 = .ok (.iload 4, 2) := by decide +kernel
theorem d_Mod_isName_104 : decode prog_12_method_6_code 104 = .ok (.iconst 1, 1) := by decide +kernel
theorem d_Mod_isName_105 : decode prog_12_method_6_code 105 = .ok (.iadd, 1) := by decide +kernel
theorem d_Mod_isName_106 : decode prog_12_method_6_code 106 = .ok (.baload, 1) := by decide +kernel
theorem d_Mod_isName_107 : decode prog_12_method_6_code 107 = .ok (.bipush 46, 2) := by decide +kernel
theorem d_Mod_isName_109 : decode prog_12_method_6_code 109 = .ok (.if_icmp .ne 7, 3) := by decide +kernel
theorem d_Mod_isName_112 : decode prog_12_method_6_code 112 = .ok (.iconst 1, 1) := by decide +kernel
theorem d_Mod_isName_113 : decode prog_12_method_6_code 113 = .ok (.goto 4, 3) := by decide +kernel
theorem d_Mod_isName_77 : decode prog_12_method_6_code 77 = .ok (.aload_n 0, 1) := by decide +kernel
theorem d_Mod_isName_78 : decode prog_12_method_6_code 78 = .ok (.iload 4, 2) := by decide +kernel
theorem d_Mod_isName_80 : decode prog_12_method_6_code 80 = .ok (.baload, 1) := by decide +kernel
theorem d_Mod_isName_81 : decode prog_12_method_6_code 81 = .ok (.bipush 46, 2) := by decide +kernel
theorem d_Mod_isName_83 : decode prog_12_method_6_code 83 = .ok (.if_icmp .eq 29, 3) := by decide +kernel
theorem d_Mod_isName_37 : decode prog_12_method_6_code 37 = .ok (.iload_n 1, 1) := by decide +kernel
theorem d_Mod_isName_38 : decode prog_12_method_6_code 38 = .ok (.iload_n 2, 1) := by decide +kernel
theorem d_Mod_isName_39 : decode prog_12_method_6_code 39 = .ok (.iadd, 1) := by decide +kernel
theorem d_Mod_isName_40 : decode prog_12_method_6_code 40 = .ok (.if_icmp .eq 12, 3) := by decide +kernel
theorem d_Mod_isName_52 : decode prog_12_method_6_code 52 = .ok (.iconst 1, 1) := by decide +kernel
theorem d_Mod_isName_53 : decode prog_12_method_6_code 53 = .ok (.goto 4, 3) := by decide +kernel
theorem d_Mod_isName_57 : decode prog_12_method_6_code 57 = .ok (.istore 6, 2) := by decide +kernel
theorem d_Mod_isName_43 : decode prog_12_method_6_code 43 = .ok (.aload_n 0, 1) := by decide +kernel
theorem d_Mod_isName_44 : decode prog_12_method_6_code 44 = .ok (.iload 5, 2) := by decide +kernel
theorem d_Mod_isName_46 : decode prog_12_method_6_code 46 = .ok (.baload, 1) := by decide +kernel
theorem d_Mod_isName_47 : decode prog_12_method_6_code 47 = .ok (.bipush 47, 2) := by decide +kernel
theorem d_Mod_isName_49 : decode prog_12_method_6_code 49 = .ok (.if_icmp .ne 7, 3) := by decide +kernel
theorem d_Mod_isName_56 : decode prog_12_method_6_code 56 = .ok (.iconst 0, 1) := by decide +kernel
theorem d_Mod_isName_0 : decode prog_12_method_6_code 0 = .ok (.iload_n 2, 1) := by decide +kernel
theorem d_Mod_isName_1 : decode prog_12_method_6_code 1 = .ok (.iconst 1, 1) := by decide +kernel
theorem d_Mod_isName_2 : decode prog_12_method_6_code 2 = .ok (.if_icmp .lt 13, 3) := by decide +kernel
theorem d_Mod_isName_15 : decode prog_12_method_6_code 15 = .ok (.iconst 0, 1) := by decide +kernel
theorem d_Mod_isName_16 : decode prog_12_method_6_code 16 = .ok (.istore_n 3, 1) := by decide +kernel
theorem d_Mod_isName_5 : decode prog_12_method_6_code 5 = .ok (.iload_n 2, 1) := by decide +kernel
theorem d_Mod_isName_6 : decode prog_12_method_6_code 6 = .ok (.bipush 24, 2) := by decide +kernel
theorem d_Mod_isName_8 : decode prog_12_method_6_code 8 = .ok (.if_icmp .gt 7, 3) := by decide +kernel
theorem d_Mod_isName_11 : decode prog_12_method_6_code 11 = .ok (.iconst 1, 1) := by decide +kernel
theorem d_Mod_isName_12 : decode prog_12_method_6_code 12 = .ok (.goto 4, 3) := by decide +kernel
abbrev y_Mod_isName : MethodName := ⟨"PackageBookModel", "isName", "([BII)Z"⟩
abbrev i_Mod_isName : pb_I := (y_Mod_isName, prog_12_method_6_code, 9, (some Jvm.ClassFile.FieldType.boolean), [], { frames := 1, cells := 0, slots := 0, locals := 20 })
set_option maxRecDepth 100000 in
set_option maxHeartbeats 4000000 in
theorem g_Mod_isName {l : Launch} (hl : l.stackTraces = false) (G : pb_G) (a : Nat) (Na : Nat) (f : Nat → Int32) (x : Int32) (n : Int32) (h0 : 0 ≤ x.toInt) (h1 : 1 ≤ n.toInt → n.toInt ≤ 24 → x.toInt + n.toInt ≤ Na) (h2 : Na ≤ 1000000) (h3 : x.toInt ≤ 1000000) (F_f : sb_Fit f) : Cn l G i_Mod_isName [.ref a, .int x, .int n] [(a, .inl (G.2.1, Na, .inl f))] (S := Int32) (fun rv_ u => rv_ = some (.int u) ∧ (u.toInt = 0 ∨ u.toInt = 1) ∧ (u.toInt = 1 → 1 ≤ n.toInt ∧ n.toInt ≤ 24) ∧ (u.toInt = 1 → iA_ (gx f) x.toInt n.toInt) ∧ (u.toInt = 0 → ¬ iA_ (gx f) x.toInt n.toInt)) (fun u => [(a, .inl (G.2.1, Na, .inl f))]) := by
  refine Cn.of hl (by decide +kernel) rfl (Nat.le_of_ble_eq_true rfl) (fun M hQ => ?_)
  refine pb_eq (pc' := 0) (lo' := [(0, .ref a), (1, .int x), (2, .int n)]) (rest' := []) (ws' := [(a, .inl (G.2.1, Na, .inl f))]) ?_
  have zl0 : (0 : Int32).toInt = 0 := by decide
  have zl1 : (1 : Int32).toInt = 1 := by decide
  have hJ17_1 : ∀ (g0 : Int32), (g0.toInt = 0 ∨ g0.toInt = 1) → (g0.toInt = 1 → 1 ≤ n.toInt ∧ n.toInt ≤ 24) → (g0.toInt = 0 → ¬ (1 ≤ n.toInt ∧ n.toInt ≤ 24)) → pb_P l G M i_Mod_isName 17 [(3, .int g0), (0, .ref a), (1, .int x), (2, .int n)] [] [(a, .inl (G.2.1, Na, .inl f))] 0 0 := by
    intro g0 j0 j1 j2
    refine pb_iload_n (pc := 17) d_Mod_isName_17 2 rfl rfl ?_
    refine pb_istore (pc := 18) (lo' := [(4, .int x), (3, .int g0), (0, .ref a), (1, .int x), (2, .int n)]) d_Mod_isName_18 (by decide) rfl ?_
    refine pb_iload_n (pc := 20) d_Mod_isName_20 3 rfl rfl ?_
    refine pb_istore (pc := 21) (lo' := [(5, .int x), (4, .int x), (3, .int g0), (0, .ref a), (1, .int x), (2, .int n)]) d_Mod_isName_21 (by decide) rfl ?_
    have hL23_2 : ∀ (N9 : Nat) (g1 : Int32) (bg : Int32) (k : Int32), (g1.toInt = 0 ∨ g1.toInt = 1) → (g1.toInt = 1 → 1 ≤ n.toInt ∧ n.toInt ≤ 24) → (x.toInt ≤ k.toInt) → (x.toInt ≤ bg.toInt) → (bg.toInt ≤ k.toInt) → (1 ≤ n.toInt → n.toInt ≤ 24 → k.toInt ≤ x.toInt + n.toInt + 1) → (g1.toInt = 1 → k.toInt = x.toInt + n.toInt + 1 → bg.toInt = x.toInt + n.toInt + 1) → (g1.toInt = 1 → iB_ (gx f) x.toInt n.toInt bg.toInt) → (g1.toInt = 1 → bg.toInt = x.toInt ∨ gx f (bg.toInt - 1) = 47 ∨ bg.toInt = x.toInt + n.toInt + 1) → (g1.toInt = 1 → ∀ j : Int, bg.toInt ≤ j → j < k.toInt → ch_ (gx f j) ∧ ¬ gx f j = 47) → (g1.toInt = 0 → ¬ iA_ (gx f) x.toInt n.toInt) → ((x.toInt + n.toInt + 1 - k.toInt).toNat) < N9 → pb_P l G M i_Mod_isName 23 [(3, .int g1), (4, .int bg), (5, .int k), (0, .ref a), (1, .int x), (2, .int n)] [] [(a, .inl (G.2.1, Na, .inl f))] 0 0 := by
      intro N9
      induction N9 with
      | zero => intro g1 bg k k0 k1 k2 k3 k4 k5 k6 hB hb3 hch hno hm9; exact absurd hm9 (Nat.not_lt_zero _)
      | succ N9 ih23 =>
        intro g1 bg k k0 k1 k2 k3 k4 k5 k6 hB hb3 hch hno hm9
        refine pb_iload_n (pc := 23) d_Mod_isName_23 0 rfl rfl ?_
        refine pb_if_eq (pc := 24) (tgt := 158) d_Mod_isName_24 (by decide) (fun w3 => ?_) (fun w3 => ?_)
        · have tw3 : g1.toInt = 0 := (ti_eq rfl (by decide)).mp w3
          refine pb_iload_n (pc := 158) d_Mod_isName_158 0 rfl rfl ?_
          exact pb_iret (pc := 159) hQ d_Mod_isName_159 rfl (nar_b (by omega)) (g1) ⟨rfl, (by (try dsimp only); first | done | (with_reducible assumption) | omega (splitDisjunctions := false) | assumption | (have y90 := hno tw3; clear h1 j1 j2 k1 k5 k6 hB hb3 hch hno hm9; first | omega (splitDisjunctions := false) | omega) | omega | decide), (by (try dsimp only); first | done | (with_reducible assumption) | omega (splitDisjunctions := false) | assumption | exact fun q90 => (by have y90 := k1 q90; have y91 := k5 y90.1; have y92 := k6 q90; have y93 := hB q90; have y94 := hb3 q90; have y95 := hch q90; have y96 := hno tw3; have y97 := h1 y90.1; have y98 := y91 y90.2; have y99 := y97 y90.2; clear h1 j1 j2 k1 k5 k6 hB hb3 hch hno hm9 y91 y92 y95 y97; first | omega (splitDisjunctions := false) | omega) | omega | decide), (show g1.toInt = 1 → iA_ (gx f) x.toInt n.toInt from (fun q9 => iA_of (hB q9) (by omega) (by omega) (by omega))), (show g1.toInt = 0 → ¬ iA_ (gx f) x.toInt n.toInt from (fun q9 => hno q9))⟩ [0] (by decide) rfl rfl (by decide) (by decide)
        · have tw3 : ¬ g1.toInt = 0 := fun z9 => w3 ((ti_eq rfl (by decide)).mpr z9)
          refine pb_iload (pc := 27) d_Mod_isName_27 2 rfl ?_
          refine pb_iload_n (pc := 29) d_Mod_isName_29 4 rfl rfl ?_
          refine pb_iload_n (pc := 30) d_Mod_isName_30 5 rfl rfl ?_
          refine pb_iadd (pc := 31) d_Mod_isName_31 ?_
          refine pb_topi (fun i4 ei4 => ?_)
          try have ti4 : i4.toInt = x.toInt + n.toInt := t2_add ei4 rfl rfl (by (first | exact omg_04d2c0c64d h0 h3 k0 k1 tw3 | omega))
          refine pb_icmp_gt (pc := 32) (tgt := 158) d_Mod_isName_32 (by decide) (fun w5 => ?_) (fun w5 => ?_)
          · have tw5 : i4.toInt < k.toInt := (ti_lt rfl rfl).mp w5
            refine pb_iload_n (pc := 158) d_Mod_isName_158 0 rfl rfl ?_
            exact pb_iret (pc := 159) hQ d_Mod_isName_159 rfl (nar_b (by omega)) (g1) ⟨rfl, (by (try dsimp only); first | done | (with_reducible assumption) | omega (splitDisjunctions := false) | assumption | (clear h1 j1 j2 k1 k5 k6 hB hb3 hch hno hm9; first | omega (splitDisjunctions := false) | omega) | omega | decide), (by (try dsimp only); first | done | (with_reducible assumption) | omega (splitDisjunctions := false) | assumption | exact fun q90 => (by have y90 := k1 q90; have y91 := k5 y90.1; have y92 := k6 q90; have y93 := hB q90; have y94 := hb3 q90; have y95 := hch q90; have y96 := h1 y90.1; have y97 := y91 y90.2; have y98 := y96 y90.2; clear h1 j1 j2 k1 k5 k6 hB hb3 hch hno hm9 y91 y92 y95 y96; first | omega (splitDisjunctions := false) | omega) | omega | decide), (show g1.toInt = 1 → iA_ (gx f) x.toInt n.toInt from (fun q9 => iA_of (hB q9) (by (first | exact omg_71594c4e8f k1 k5 k6 ti4 tw5 q9 | omega)) (by (first | exact omg_4a5932b457 k1 q9 | omega)) (by (first | exact omg_577cbf759c k1 q9 | omega)))), (show g1.toInt = 0 → ¬ iA_ (gx f) x.toInt n.toInt from (fun q9 => hno q9))⟩ [0] (by decide) rfl rfl (by decide) (by decide)
          · have tw5 : ¬ i4.toInt < k.toInt := fun z9 => w5 ((ti_lt rfl rfl).mpr z9)
            rename ¬ (_ : Int) = 0 => zq
            have G1 : g1.toInt = 1 := by (first | exact omg_d9c3f42b32 k0 zq | omega)
            have N1 := k1 G1
            have H1 := h1 N1.1 N1.2
            have B1 := hB G1
            have B3 : bg.toInt = x.toInt ∨ gx f (bg.toInt - 1) = 47 := by have q9 := hb3 G1; (first | exact omg_bf06e25df8 k4 ti4 tw5 q9 | omega)
            have B3h := hid_i B3
            have B4 := hch G1
            clear B3 zq j0 j1 j2 k0 k1 k5 k6 hB hb3 hch hno h1
            refine pb_iload (pc := 35) d_Mod_isName_35 2 rfl ?_
            have hJ59_6 : ∀ (en : Int32), (en.toInt = 0 ∨ en.toInt = 1) → (en.toInt = 0 → k.toInt < x.toInt + n.toInt) → (en.toInt = 1 → k.toInt = x.toInt + n.toInt ∨ gx f k.toInt = 47) → (en.toInt = 0 → ¬ gx f k.toInt = 47) → pb_P l G M i_Mod_isName 59 [(6, .int en), (3, .int g1), (4, .int bg), (5, .int k), (0, .ref a), (1, .int x), (2, .int n)] [] [(a, .inl (G.2.1, Na, .inl f))] 0 0 := by
              intro en l0 l1 l2 l3
              refine pb_iload (pc := 59) d_Mod_isName_59 0 rfl ?_
              refine pb_if_eq (pc := 61) (tgt := 144) d_Mod_isName_61 (by decide) (fun w7 => ?_) (fun w7 => ?_)
              · have tw7 : en.toInt = 0 := (ti_eq rfl (by decide)).mp w7
                have L1 := l1 (by omega)
                have L3 := l3 (by omega)
                clear l0 l1 l2 l3
                refine pb_aload_n (pc := 144) d_Mod_isName_144 4 rfl rfl ?_
                refine pb_iload (pc := 145) d_Mod_isName_145 3 rfl ?_
                refine pb_bald (pc := 147) d_Mod_isName_147 0 rfl (vp_in_iff.mpr (by omega)) ?_
                refine pb_topi (fun i8 ei8 => ?_)
                have xi8 : i8 = gr f (k.toInt) := gr_ld ei8 (by omega)
                have yi8 : i8.toInt = gx f (k.toInt) := congrArg Int32.toInt xi8
                refine pb_callS (pc := 148) (I := i_Mod_isName) (nA := 1) (rest := []) (wr := [(a, .inl (G.2.1, Na, .inl f))]) d_Mod_isName_148 (g_Mod_isOfName hl G i8) [] [0] (by decide) rfl rfl rfl (by decide) (by decide) k_1321 rfl k_128 k_1319 k_1320 hy_Mod_isOfName (by decide) rfl rfl (Nat.le_of_ble_eq_true rfl) (by decide) (fun v9 u10 ch9 => ?_)
                obtain ⟨r_11, rfl⟩ : ∃ z9, z9 = u10 := ⟨_, rfl⟩
                obtain ⟨ech9, ch9⟩ := ch9
                have ech9 : v9 = some (.int r_11) := ech9
                subst ech9
                obtain ⟨fh12, fh13, fh14⟩ : (r_11.toInt = 0 ∨ r_11.toInt = 1) ∧ (r_11.toInt = 1 → ch_ i8.toInt) ∧ (r_11.toInt = 0 → ¬ ch_ i8.toInt) := ch9
                have cF1 := fh13
                have cF0 := fh14
                rw [show i8.toInt = gx f k.toInt by omega] at cF1 cF0
                refine pb_eq (pc' := 151) (lo' := [(6, .int en), (3, .int g1), (4, .int bg), (5, .int k), (0, .ref a), (1, .int x), (2, .int n)]) (rest' := [.int r_11]) (ws' := [(a, .inl (G.2.1, Na, .inl f))]) ?_
                refine pb_istore_n (pc := 151) (lo' := [(3, .int r_11), (6, .int en), (4, .int bg), (5, .int k), (0, .ref a), (1, .int x), (2, .int n)]) d_Mod_isName_151 rfl (by decide) rfl ?_
                refine pb_iincN (pc := 152) (c := 1) d_Mod_isName_152 3 rfl (by decide) (by decide) (fun i15 ei15 => ?_)
                have ti15 : i15.toInt = k.toInt + 1 := t2_add ei15 rfl (by decide) (by first | omega | (have r90 := ti_rng k; have r91 := ti_rng i15; have r92 := ti_rng r_11; have r93 := ti_rng en; have r94 := ti_rng bg; have r95 := ti_rng x; have r96 := ti_rng n; omega))
                refine pb_eq (pc' := 155) (lo' := [(5, .int i15), (3, .int r_11), (6, .int en), (4, .int bg), (0, .ref a), (1, .int x), (2, .int n)]) (rest' := []) (ws' := [(a, .inl (G.2.1, Na, .inl f))]) ?_
                refine pb_goto (pc := 155) (tgt := 23) d_Mod_isName_155 (by decide) ?_
                refine pb_re (ws' := [(a, .inl (G.2.1, Na, .inl f))]) (lo' := [(3, .int r_11), (4, .int bg), (5, .int i15), (0, .ref a), (1, .int x), (2, .int n)]) [0] [1, 3, 0, 4, 5, 6] (by decide) rfl rfl rfl ?_
                exact ih23 r_11 bg i15 (by first | (with_reducible assumption) | omega (splitDisjunctions := false) | assumption | (clear fh13 fh14 hm9; first | omega (splitDisjunctions := false) | omega) | omega | decide) (by first | (with_reducible assumption) | omega (splitDisjunctions := false) | assumption | exact fun q90 => (by have y90 := fh13 q90; clear fh13 fh14 hm9; first | omega (splitDisjunctions := false) | omega) | omega | decide) (by first | (with_reducible assumption) | omega (splitDisjunctions := false) | assumption | (clear fh13 fh14 hm9; first | omega (splitDisjunctions := false) | omega) | omega | decide) (by first | (with_reducible assumption) | omega (splitDisjunctions := false) | assumption | (clear fh13 fh14 hm9; first | omega (splitDisjunctions := false) | omega) | omega | decide) (by first | (with_reducible assumption) | omega (splitDisjunctions := false) | assumption | (clear fh13 fh14 hm9; first | omega (splitDisjunctions := false) | omega) | omega | decide) (by first | (with_reducible assumption) | omega (splitDisjunctions := false) | assumption | exact fun q90 q91 => (by clear fh13 fh14 hm9; first | omega (splitDisjunctions := false) | omega) | omega | decide) (by first | (with_reducible assumption) | omega (splitDisjunctions := false) | assumption | exact fun q90 q91 => (by have y90 := fh13 q90; clear fh13 fh14 hm9; first | omega (splitDisjunctions := false) | omega) | omega | decide) (by first | exact fun q9 => absurd q9 (by decide) | exact fun _ => B1 | exact fun _ => iB_s B1 (by omega) (hid_o B3h) (by omega) (fun j h0 h1 => (B4 j h0 h1).2) (by omega) (pe_r (by omega) (fun j h0 h1 => (B4 j h0 h1).1) (by omega)) (by omega)) (by first | exact fun q9 => absurd q9 (by decide) | exact fun _ => (hid_o B3h).elim Or.inl (fun q8 => Or.inr (Or.inl q8)) | exact fun _ => by have q8 := hid_o L2h; rw [show bg.toInt - 1 = k.toInt by omega]; omega) (by first | exact fun q9 => absurd q9 (by decide) | exact fun _ => lq_st B4 (by omega) ⟨cF1 (by omega), by omega⟩ | exact fun _ j h0 h1 => absurd h1 (by omega)) (by first | exact fun q9 => absurd q9 (by decide) | exact fun _ => iA_no (by omega) (hid_o B3h) (by omega) (by omega) (fun j h0 h1 => (B4 j h0 h1).2) (hid_o L2h) (pe_q (by omega)) | exact fun _ => iA_ch (by omega) (hid_o B3h) (by omega) (by omega) (fun j h0 h1 => (B4 j h0 h1).2) (cF0 (by omega)) (by omega)) (by first | (clear fh13 fh14; (first | exact omg_2e68d70059 hm9 L1 ti15 | omega)) | omega)
              · have tw7 : ¬ en.toInt = 0 := fun z9 => w7 ((ti_eq rfl (by decide)).mpr z9)
                rename ¬ (_ : Int) = 0 => zq
                have L2h := hid_i (l2 (by (first | exact omg_d9c3f42b32 l0 zq | omega)))
                clear zq l0 l1 l2 l3
                refine pb_iload (pc := 64) d_Mod_isName_64 3 rfl ?_
                refine pb_iload (pc := 66) d_Mod_isName_66 2 rfl ?_
                refine pb_isub (pc := 68) d_Mod_isName_68 ?_
                refine pb_topi (fun i16 ei16 => ?_)
                try have ti16 : i16.toInt = k.toInt - bg.toInt := t2_sub ei16 rfl rfl (by omega)
                refine pb_istore (pc := 69) (lo' := [(7, .int i16), (6, .int en), (3, .int g1), (4, .int bg), (5, .int k), (0, .ref a), (1, .int x), (2, .int n)]) d_Mod_isName_69 (by decide) rfl ?_
                have hJ119_17 : ∀ (dt : Int32) (pc_ : Int32), (dt.toInt = 0 ∨ dt.toInt = 1) → (dt.toInt = 1 → (pc_.toInt = 1 ∧ gx f bg.toInt = 46 ∨ pc_.toInt = 2 ∧ gx f bg.toInt = 46 ∧ gx f (bg.toInt + 1) = 46)) → (dt.toInt = 0 → ¬ (pc_.toInt = 1 ∧ gx f bg.toInt = 46 ∨ pc_.toInt = 2 ∧ gx f bg.toInt = 46 ∧ gx f (bg.toInt + 1) = 46)) → (pc_.toInt = k.toInt - bg.toInt) → pb_P l G M i_Mod_isName 119 [(8, .int dt), (7, .int pc_), (3, .int g1), (4, .int bg), (5, .int k), (0, .ref a), (1, .int x), (2, .int n)] [] [(a, .inl (G.2.1, Na, .inl f))] 0 0 := by
                  intro dt pc_ d0 d1 d2 d3
                  refine pb_iload (pc := 119) d_Mod_isName_119 1 rfl ?_
                  refine pb_if_le (pc := 121) (tgt := 133) d_Mod_isName_121 (by decide) (fun w18 => ?_) (fun w18 => ?_)
                  · have tw18 : pc_.toInt ≤ 0 := (ti_le rfl (by decide)).mp w18
                    refine pb_iconst (pc := 133) (v := 0) d_Mod_isName_133 (by decide) ?_
                    refine pb_istore_n (pc := 134) (lo' := [(3, .int 0), (8, .int dt), (7, .int pc_), (4, .int bg), (5, .int k), (0, .ref a), (1, .int x), (2, .int n)]) d_Mod_isName_134 rfl (by decide) rfl ?_
                    refine pb_iload (pc := 135) d_Mod_isName_135 4 rfl ?_
                    refine pb_iconst (pc := 137) (v := 1) d_Mod_isName_137 (by decide) ?_
                    refine pb_iadd (pc := 138) d_Mod_isName_138 ?_
                    refine pb_topi (fun i19 ei19 => ?_)
                    try have ti19 : i19.toInt = k.toInt + 1 := t2_add ei19 rfl (by decide) (by (first | exact omg_f7e32c029d h0 h2 k3 k4 ti4 tw5 H1 | omega))
                    refine pb_istore (pc := 139) (lo' := [(4, .int i19), (3, .int 0), (8, .int dt), (7, .int pc_), (5, .int k), (0, .ref a), (1, .int x), (2, .int n)]) d_Mod_isName_139 (by decide) rfl ?_
                    refine pb_goto (pc := 141) (tgt := 152) d_Mod_isName_141 (by decide) ?_
                    refine pb_iincN (pc := 152) (c := 1) d_Mod_isName_152 4 rfl (by decide) (by decide) (fun i20 ei20 => ?_)
                    have ti20 : i20.toInt = k.toInt + 1 := t2_add ei20 rfl (by decide) (by first | (first | exact omg_5018db78c1 h0 h2 k2 ti4 tw5 H1 | omega) | (have r90 := ti_rng k; have r91 := ti_rng i20; have r92 := ti_rng i19; have r93 := ti_rng dt; have r94 := ti_rng pc_; have r95 := ti_rng x; have r96 := ti_rng n; omega))
                    refine pb_eq (pc' := 155) (lo' := [(5, .int i20), (4, .int i19), (3, .int 0), (8, .int dt), (7, .int pc_), (0, .ref a), (1, .int x), (2, .int n)]) (rest' := []) (ws' := [(a, .inl (G.2.1, Na, .inl f))]) ?_
                    refine pb_goto (pc := 155) (tgt := 23) d_Mod_isName_155 (by decide) ?_
                    refine pb_re (ws' := [(a, .inl (G.2.1, Na, .inl f))]) (lo' := [(3, .int 0), (4, .int i19), (5, .int i20), (0, .ref a), (1, .int x), (2, .int n)]) [0] [2, 1, 0, 5, 6, 7] (by decide) rfl rfl rfl ?_
                    exact ih23 0 i19 i20 (by first | (with_reducible assumption) | omega (splitDisjunctions := false) | assumption | (clear d1 d2 hm9; first | omega (splitDisjunctions := false) | omega) | omega | decide) (by first | (with_reducible assumption) | omega (splitDisjunctions := false) | assumption | exact fun q90 => (by clear d1 d2 hm9; first | omega (splitDisjunctions := false) | omega) | omega | decide) (by first | (with_reducible assumption) | (first | exact omg_fa94e12e03 k2 ti20 | omega (splitDisjunctions := false)) | assumption | (clear d1 d2 hm9; first | omega (splitDisjunctions := false) | omega) | omega | decide) (by first | (with_reducible assumption) | (first | exact omg_fa94e12e03 k2 ti19 | omega (splitDisjunctions := false)) | assumption | (clear d1 d2 hm9; first | omega (splitDisjunctions := false) | omega) | omega | decide) (by first | (with_reducible assumption) | (first | exact omg_774282cffe ti19 ti20 | omega (splitDisjunctions := false)) | assumption | (clear d1 d2 hm9; first | omega (splitDisjunctions := false) | omega) | omega | decide) (by first | (with_reducible assumption) | (first | exact omg_aeefa2a770 ti4 tw5 ti20 | omega (splitDisjunctions := false)) | assumption | exact fun q90 q91 => (by clear d1 d2 hm9; first | omega (splitDisjunctions := false) | omega) | omega | decide) (by first | (with_reducible assumption) | omega (splitDisjunctions := false) | assumption | exact fun q90 q91 => (by clear d1 d2 hm9; first | omega (splitDisjunctions := false) | omega) | omega | decide) (by first | exact fun q9 => absurd q9 (by decide) | exact fun _ => B1 | exact fun _ => iB_s B1 (by omega) (hid_o B3h) (by omega) (fun j h0 h1 => (B4 j h0 h1).2) (by omega) (pe_r (by omega) (fun j h0 h1 => (B4 j h0 h1).1) (by omega)) (by omega)) (by first | exact fun q9 => absurd q9 (by decide) | exact fun _ => (hid_o B3h).elim Or.inl (fun q8 => Or.inr (Or.inl q8)) | exact fun _ => by have q8 := hid_o L2h; rw [show i19.toInt - 1 = k.toInt by omega]; omega) (by first | exact fun q9 => absurd q9 (by decide) | exact fun _ => lq_st B4 (by omega) ⟨cF1 (by omega), by omega⟩ | exact fun _ j h0 h1 => absurd h1 (by omega)) (by first | exact fun q9 => absurd q9 (by decide) | exact fun _ => iA_no (by omega) (hid_o B3h) (by omega) (by (first | exact omg_421f35943a ti4 tw5 | omega)) (fun j h0 h1 => (B4 j h0 h1).2) (hid_o L2h) (pe_q (by omega)) | exact fun _ => iA_ch (by omega) (hid_o B3h) (by omega) (by omega) (fun j h0 h1 => (B4 j h0 h1).2) (cF0 (by omega)) (by omega)) (by first | (clear d1 d2; (first | exact omg_a556a8cae0 hm9 ti4 tw5 ti20 | omega)) | omega)
                  · have tw18 : ¬ pc_.toInt ≤ 0 := fun z9 => w18 ((ti_le rfl (by decide)).mpr z9)
                    refine pb_iload (pc := 124) d_Mod_isName_124 0 rfl ?_
                    refine pb_if_ne (pc := 126) (tgt := 133) d_Mod_isName_126 (by decide) (fun w21 => ?_) (fun w21 => ?_)
                    · have tw21 : ¬ dt.toInt = 0 := fun z9 => w21 ((ti_eq rfl (by decide)).mpr z9)
                      refine pb_iconst (pc := 133) (v := 0) d_Mod_isName_133 (by decide) ?_
                      refine pb_istore_n (pc := 134) (lo' := [(3, .int 0), (8, .int dt), (7, .int pc_), (4, .int bg), (5, .int k), (0, .ref a), (1, .int x), (2, .int n)]) d_Mod_isName_134 rfl (by decide) rfl ?_
                      refine pb_iload (pc := 135) d_Mod_isName_135 4 rfl ?_
                      refine pb_iconst (pc := 137) (v := 1) d_Mod_isName_137 (by decide) ?_
                      refine pb_iadd (pc := 138) d_Mod_isName_138 ?_
                      refine pb_topi (fun i22 ei22 => ?_)
                      try have ti22 : i22.toInt = k.toInt + 1 := t2_add ei22 rfl (by decide) (by (first | exact omg_b4c2612531 h0 h2 k3 ti4 tw5 H1 d3 tw18 | omega))
                      refine pb_istore (pc := 139) (lo' := [(4, .int i22), (3, .int 0), (8, .int dt), (7, .int pc_), (5, .int k), (0, .ref a), (1, .int x), (2, .int n)]) d_Mod_isName_139 (by decide) rfl ?_
                      refine pb_goto (pc := 141) (tgt := 152) d_Mod_isName_141 (by decide) ?_
                      refine pb_iincN (pc := 152) (c := 1) d_Mod_isName_152 4 rfl (by decide) (by decide) (fun i23 ei23 => ?_)
                      have ti23 : i23.toInt = k.toInt + 1 := t2_add ei23 rfl (by decide) (by first | (first | exact omg_b4c2612531 h0 h2 k3 ti4 tw5 H1 d3 tw18 | omega) | (have r90 := ti_rng k; have r91 := ti_rng i23; have r92 := ti_rng i22; have r93 := ti_rng dt; have r94 := ti_rng pc_; have r95 := ti_rng x; have r96 := ti_rng n; omega))
                      refine pb_eq (pc' := 155) (lo' := [(5, .int i23), (4, .int i22), (3, .int 0), (8, .int dt), (7, .int pc_), (0, .ref a), (1, .int x), (2, .int n)]) (rest' := []) (ws' := [(a, .inl (G.2.1, Na, .inl f))]) ?_
                      refine pb_goto (pc := 155) (tgt := 23) d_Mod_isName_155 (by decide) ?_
                      refine pb_re (ws' := [(a, .inl (G.2.1, Na, .inl f))]) (lo' := [(3, .int 0), (4, .int i22), (5, .int i23), (0, .ref a), (1, .int x), (2, .int n)]) [0] [2, 1, 0, 5, 6, 7] (by decide) rfl rfl rfl ?_
                      exact ih23 0 i22 i23 (by first | (with_reducible assumption) | omega (splitDisjunctions := false) | assumption | (clear d1 d2 hm9; first | omega (splitDisjunctions := false) | omega) | omega | decide) (by first | (with_reducible assumption) | omega (splitDisjunctions := false) | assumption | exact fun q90 => (by clear d1 d2 hm9; first | omega (splitDisjunctions := false) | omega) | omega | decide) (by first | (with_reducible assumption) | (first | exact omg_fa94e12e03 k2 ti23 | omega (splitDisjunctions := false)) | assumption | (clear d1 d2 hm9; first | omega (splitDisjunctions := false) | omega) | omega | decide) (by first | (with_reducible assumption) | (first | exact omg_fa94e12e03 k2 ti22 | omega (splitDisjunctions := false)) | assumption | (clear d1 d2 hm9; first | omega (splitDisjunctions := false) | omega) | omega | decide) (by first | (with_reducible assumption) | omega (splitDisjunctions := false) | assumption | (clear d1 d2 hm9; first | omega (splitDisjunctions := false) | omega) | omega | decide) (by first | (with_reducible assumption) | (first | exact omg_aeefa2a770 ti4 tw5 ti23 | omega (splitDisjunctions := false)) | assumption | exact fun q90 q91 => (by clear d1 d2 hm9; first | omega (splitDisjunctions := false) | omega) | omega | decide) (by first | (with_reducible assumption) | omega (splitDisjunctions := false) | assumption | exact fun q90 q91 => (by clear d1 d2 hm9; first | omega (splitDisjunctions := false) | omega) | omega | decide) (by first | exact fun q9 => absurd q9 (by decide) | exact fun _ => B1 | exact fun _ => iB_s B1 (by omega) (hid_o B3h) (by omega) (fun j h0 h1 => (B4 j h0 h1).2) (by omega) (pe_r (by omega) (fun j h0 h1 => (B4 j h0 h1).1) (by omega)) (by omega)) (by first | exact fun q9 => absurd q9 (by decide) | exact fun _ => (hid_o B3h).elim Or.inl (fun q8 => Or.inr (Or.inl q8)) | exact fun _ => by have q8 := hid_o L2h; rw [show i22.toInt - 1 = k.toInt by omega]; omega) (by first | exact fun q9 => absurd q9 (by decide) | exact fun _ => lq_st B4 (by omega) ⟨cF1 (by omega), by omega⟩ | exact fun _ j h0 h1 => absurd h1 (by omega)) (by first | exact fun q9 => absurd q9 (by decide) | exact fun _ => iA_no (by omega) (hid_o B3h) (by omega) (by (first | exact omg_421f35943a ti4 tw5 | omega)) (fun j h0 h1 => (B4 j h0 h1).2) (hid_o L2h) (pe_q (by (first | exact omg_c03ca91bfd d0 d1 d3 tw21 | omega))) | exact fun _ => iA_ch (by omega) (hid_o B3h) (by omega) (by omega) (fun j h0 h1 => (B4 j h0 h1).2) (cF0 (by omega)) (by omega)) (by first | (clear d1 d2; (first | exact omg_a556a8cae0 hm9 ti4 tw5 ti23 | omega)) | omega)
                    · have tw21 : dt.toInt = 0 := (ti_eq rfl (by decide)).mp w21
                      refine pb_iconst (pc := 129) (v := 1) d_Mod_isName_129 (by decide) ?_
                      refine pb_goto (pc := 130) (tgt := 134) d_Mod_isName_130 (by decide) ?_
                      refine pb_istore_n (pc := 134) (lo' := [(3, .int 1), (8, .int dt), (7, .int pc_), (4, .int bg), (5, .int k), (0, .ref a), (1, .int x), (2, .int n)]) d_Mod_isName_134 rfl (by decide) rfl ?_
                      refine pb_iload (pc := 135) d_Mod_isName_135 4 rfl ?_
                      refine pb_iconst (pc := 137) (v := 1) d_Mod_isName_137 (by decide) ?_
                      refine pb_iadd (pc := 138) d_Mod_isName_138 ?_
                      refine pb_topi (fun i24 ei24 => ?_)
                      try have ti24 : i24.toInt = k.toInt + 1 := t2_add ei24 rfl (by decide) (by (first | exact omg_b4c2612531 h0 h2 k3 ti4 tw5 H1 d3 tw18 | omega))
                      refine pb_istore (pc := 139) (lo' := [(4, .int i24), (3, .int 1), (8, .int dt), (7, .int pc_), (5, .int k), (0, .ref a), (1, .int x), (2, .int n)]) d_Mod_isName_139 (by decide) rfl ?_
                      refine pb_goto (pc := 141) (tgt := 152) d_Mod_isName_141 (by decide) ?_
                      refine pb_iincN (pc := 152) (c := 1) d_Mod_isName_152 4 rfl (by decide) (by decide) (fun i25 ei25 => ?_)
                      have ti25 : i25.toInt = k.toInt + 1 := t2_add ei25 rfl (by decide) (by first | (first | exact omg_b4c2612531 h0 h2 k3 ti4 tw5 H1 d3 tw18 | omega) | (have r90 := ti_rng k; have r91 := ti_rng i25; have r92 := ti_rng i24; have r93 := ti_rng dt; have r94 := ti_rng pc_; have r95 := ti_rng x; have r96 := ti_rng n; omega))
                      refine pb_eq (pc' := 155) (lo' := [(5, .int i25), (4, .int i24), (3, .int 1), (8, .int dt), (7, .int pc_), (0, .ref a), (1, .int x), (2, .int n)]) (rest' := []) (ws' := [(a, .inl (G.2.1, Na, .inl f))]) ?_
                      refine pb_goto (pc := 155) (tgt := 23) d_Mod_isName_155 (by decide) ?_
                      refine pb_re (ws' := [(a, .inl (G.2.1, Na, .inl f))]) (lo' := [(3, .int 1), (4, .int i24), (5, .int i25), (0, .ref a), (1, .int x), (2, .int n)]) [0] [2, 1, 0, 5, 6, 7] (by decide) rfl rfl rfl ?_
                      exact ih23 1 i24 i25 (by first | (with_reducible assumption) | omega (splitDisjunctions := false) | assumption | (have y90 := d2 tw21; clear d1 d2 hm9; first | omega (splitDisjunctions := false) | omega) | omega | decide) (by first | (with_reducible assumption) | omega (splitDisjunctions := false) | assumption | exact fun q90 => (by have y90 := d2 tw21; clear d1 d2 hm9; first | omega (splitDisjunctions := false) | omega) | omega | decide) (by first | (with_reducible assumption) | (first | exact omg_fa94e12e03 k2 ti25 | omega (splitDisjunctions := false)) | assumption | (have y90 := d2 tw21; clear d1 d2 hm9; first | omega (splitDisjunctions := false) | omega) | omega | decide) (by first | (with_reducible assumption) | (first | exact omg_fa94e12e03 k2 ti24 | omega (splitDisjunctions := false)) | assumption | (have y90 := d2 tw21; clear d1 d2 hm9; first | omega (splitDisjunctions := false) | omega) | omega | decide) (by first | (with_reducible assumption) | (first | exact omg_774282cffe ti24 ti25 | omega (splitDisjunctions := false)) | assumption | (have y90 := d2 tw21; clear d1 d2 hm9; first | omega (splitDisjunctions := false) | omega) | omega | decide) (by first | (with_reducible assumption) | (first | exact omg_aeefa2a770 ti4 tw5 ti25 | omega (splitDisjunctions := false)) | assumption | exact fun q90 q91 => (by have y90 := d2 tw21; clear d1 d2 hm9; first | omega (splitDisjunctions := false) | omega) | omega | decide) (by first | (with_reducible assumption) | omega (splitDisjunctions := false) | assumption | exact fun q90 q91 => (by have y90 := d2 tw21; clear d1 d2 hm9; first | omega (splitDisjunctions := false) | omega) | omega | decide) (by first | exact fun q9 => absurd q9 (by decide) | exact fun _ => B1 | exact fun _ => iB_s B1 (by omega) (hid_o B3h) (by omega) (fun j h0 h1 => (B4 j h0 h1).2) (by (first | exact omg_421f35943a ti4 tw5 | omega)) (pe_r (by omega) (fun j h0 h1 => (B4 j h0 h1).1) (by (first | exact omg_aa3c743a5f d2 d3 tw21 | omega))) (by omega)) (by first | exact fun q9 => absurd q9 (by decide) | exact fun _ => (hid_o B3h).elim Or.inl (fun q8 => Or.inr (Or.inl q8)) | exact fun _ => by have q8 := hid_o L2h; rw [show i24.toInt - 1 = k.toInt by omega]; (first | exact omg_01daf8051b ti24 q8 | omega)) (by first | exact fun q9 => absurd q9 (by decide) | exact fun _ => lq_st B4 (by omega) ⟨cF1 (by omega), by omega⟩ | exact fun _ j h0 h1 => absurd h1 (by omega)) (by first | exact fun q9 => absurd q9 (by decide) | exact fun _ => iA_no (by omega) (hid_o B3h) (by omega) (by omega) (fun j h0 h1 => (B4 j h0 h1).2) (hid_o L2h) (pe_q (by omega)) | exact fun _ => iA_ch (by omega) (hid_o B3h) (by omega) (by omega) (fun j h0 h1 => (B4 j h0 h1).2) (cF0 (by omega)) (by omega)) (by first | (have y90 := d2 tw21; clear d1 d2; (first | exact omg_a556a8cae0 hm9 ti4 tw5 ti25 | omega)) | omega)
                refine pb_iload (pc := 71) d_Mod_isName_71 0 rfl ?_
                refine pb_iconst (pc := 73) (v := 1) d_Mod_isName_73 (by decide) ?_
                refine pb_icmp_ne (pc := 74) (tgt := 86) d_Mod_isName_74 (by decide) (fun w26 => ?_) (fun w26 => ?_)
                · have tw26 : ¬ i16.toInt = 1 := fun z9 => w26 ((ti_eq rfl (by decide)).mpr z9)
                  refine pb_iload (pc := 86) d_Mod_isName_86 0 rfl ?_
                  refine pb_iconst (pc := 88) (v := 2) d_Mod_isName_88 (by decide) ?_
                  refine pb_icmp_ne (pc := 89) (tgt := 116) d_Mod_isName_89 (by decide) (fun w27 => ?_) (fun w27 => ?_)
                  · have tw27 : ¬ i16.toInt = 2 := fun z9 => w27 ((ti_eq rfl (by decide)).mpr z9)
                    refine pb_iconst (pc := 116) (v := 0) d_Mod_isName_116 (by decide) ?_
                    refine pb_istore (pc := 117) (lo' := [(8, .int 0), (7, .int i16), (6, .int en), (3, .int g1), (4, .int bg), (5, .int k), (0, .ref a), (1, .int x), (2, .int n)]) d_Mod_isName_117 (by decide) rfl ?_
                    refine pb_re (ws' := [(a, .inl (G.2.1, Na, .inl f))]) (lo' := [(8, .int 0), (7, .int i16), (3, .int g1), (4, .int bg), (5, .int k), (0, .ref a), (1, .int x), (2, .int n)]) [0] [0, 1, 3, 4, 5, 6, 7, 8] (by decide) rfl rfl rfl ?_
                    exact hJ119_17 0 i16 (by first | (with_reducible assumption) | omega (splitDisjunctions := false) | assumption | omega | decide) (by first | (with_reducible assumption) | omega (splitDisjunctions := false) | assumption | omega | decide) (by first | (with_reducible assumption) | omega (splitDisjunctions := false) | assumption | omega | decide) (by first | (with_reducible assumption) | omega (splitDisjunctions := false) | assumption | omega | decide)
                  · have tw27 : i16.toInt = 2 := (ti_eq rfl (by decide)).mp w27
                    refine pb_aload_n (pc := 92) d_Mod_isName_92 5 rfl rfl ?_
                    refine pb_iload (pc := 93) d_Mod_isName_93 3 rfl ?_
                    refine pb_bald (pc := 95) d_Mod_isName_95 0 rfl (vp_in_iff.mpr (by omega)) ?_
                    refine pb_topi (fun i28 ei28 => ?_)
                    have xi28 : i28 = gr f (bg.toInt) := gr_ld ei28 (by omega)
                    have yi28 : i28.toInt = gx f (bg.toInt) := congrArg Int32.toInt xi28
                    refine pb_bipush (pc := 96) (v := 46) d_Mod_isName_96 (by decide) ?_
                    refine pb_icmp_ne (pc := 98) (tgt := 116) d_Mod_isName_98 (by decide) (fun w29 => ?_) (fun w29 => ?_)
                    · have tw29 : ¬ i28.toInt = 46 := fun z9 => w29 ((ti_eq rfl (by decide)).mpr z9)
                      refine pb_iconst (pc := 116) (v := 0) d_Mod_isName_116 (by decide) ?_
                      refine pb_istore (pc := 117) (lo' := [(8, .int 0), (7, .int i16), (6, .int en), (3, .int g1), (4, .int bg), (5, .int k), (0, .ref a), (1, .int x), (2, .int n)]) d_Mod_isName_117 (by decide) rfl ?_
                      refine pb_re (ws' := [(a, .inl (G.2.1, Na, .inl f))]) (lo' := [(8, .int 0), (7, .int i16), (3, .int g1), (4, .int bg), (5, .int k), (0, .ref a), (1, .int x), (2, .int n)]) [0] [0, 1, 3, 4, 5, 6, 7, 8] (by decide) rfl rfl rfl ?_
                      exact hJ119_17 0 i16 (by first | (with_reducible assumption) | omega (splitDisjunctions := false) | assumption | omega | decide) (by first | (with_reducible assumption) | omega (splitDisjunctions := false) | assumption | omega | decide) (by first | (with_reducible assumption) | omega (splitDisjunctions := false) | assumption | omega | decide) (by first | (with_reducible assumption) | omega (splitDisjunctions := false) | assumption | omega | decide)
                    · have tw29 : i28.toInt = 46 := (ti_eq rfl (by decide)).mp w29
                      refine pb_aload_n (pc := 101) d_Mod_isName_101 5 rfl rfl ?_
                      refine pb_iload (pc := 102) d_Mod_isName_102 3 rfl ?_
                      refine pb_iconst (pc := 104) (v := 1) d_Mod_isName_104 (by decide) ?_
                      refine pb_iadd (pc := 105) d_Mod_isName_105 ?_
                      refine pb_topi (fun i30 ei30 => ?_)
                      try have ti30 : i30.toInt = bg.toInt + 1 := t2_add ei30 rfl (by decide) (by (first | exact omg_20c348c8a2 h0 h2 k3 ti4 tw5 H1 ti16 tw27 | omega))
                      refine pb_bald (pc := 106) d_Mod_isName_106 0 rfl (vp_in_iff.mpr (by (first | exact omg_e4b551ed1e h0 k3 ti4 tw5 H1 ti16 tw27 ti30 | omega))) ?_
                      refine pb_topi (fun i31 ei31 => ?_)
                      have xi31 : i31 = gr f (bg.toInt + 1) := gr_ld ei31 (by omega)
                      have yi31 : i31.toInt = gx f (bg.toInt + 1) := congrArg Int32.toInt xi31
                      refine pb_bipush (pc := 107) (v := 46) d_Mod_isName_107 (by decide) ?_
                      refine pb_icmp_ne (pc := 109) (tgt := 116) d_Mod_isName_109 (by decide) (fun w32 => ?_) (fun w32 => ?_)
                      · have tw32 : ¬ i31.toInt = 46 := fun z9 => w32 ((ti_eq rfl (by decide)).mpr z9)
                        refine pb_iconst (pc := 116) (v := 0) d_Mod_isName_116 (by decide) ?_
                        refine pb_istore (pc := 117) (lo' := [(8, .int 0), (7, .int i16), (6, .int en), (3, .int g1), (4, .int bg), (5, .int k), (0, .ref a), (1, .int x), (2, .int n)]) d_Mod_isName_117 (by decide) rfl ?_
                        refine pb_re (ws' := [(a, .inl (G.2.1, Na, .inl f))]) (lo' := [(8, .int 0), (7, .int i16), (3, .int g1), (4, .int bg), (5, .int k), (0, .ref a), (1, .int x), (2, .int n)]) [0] [0, 1, 3, 4, 5, 6, 7, 8] (by decide) rfl rfl rfl ?_
                        exact hJ119_17 0 i16 (by first | (with_reducible assumption) | omega (splitDisjunctions := false) | assumption | omega | decide) (by first | (with_reducible assumption) | omega (splitDisjunctions := false) | assumption | omega | decide) (by first | (with_reducible assumption) | omega (splitDisjunctions := false) | assumption | omega | decide) (by first | (with_reducible assumption) | omega (splitDisjunctions := false) | assumption | omega | decide)
                      · have tw32 : i31.toInt = 46 := (ti_eq rfl (by decide)).mp w32
                        refine pb_iconst (pc := 112) (v := 1) d_Mod_isName_112 (by decide) ?_
                        refine pb_goto (pc := 113) (tgt := 117) d_Mod_isName_113 (by decide) ?_
                        refine pb_istore (pc := 117) (lo' := [(8, .int 1), (7, .int i16), (6, .int en), (3, .int g1), (4, .int bg), (5, .int k), (0, .ref a), (1, .int x), (2, .int n)]) d_Mod_isName_117 (by decide) rfl ?_
                        refine pb_re (ws' := [(a, .inl (G.2.1, Na, .inl f))]) (lo' := [(8, .int 1), (7, .int i16), (3, .int g1), (4, .int bg), (5, .int k), (0, .ref a), (1, .int x), (2, .int n)]) [0] [0, 1, 3, 4, 5, 6, 7, 8] (by decide) rfl rfl rfl ?_
                        exact hJ119_17 1 i16 (by first | (with_reducible assumption) | omega (splitDisjunctions := false) | assumption | omega | decide) (by first | (with_reducible assumption) | omega (splitDisjunctions := false) | assumption | omega | decide) (by first | (with_reducible assumption) | omega (splitDisjunctions := false) | assumption | omega | decide) (by first | (with_reducible assumption) | omega (splitDisjunctions := false) | assumption | omega | decide)
                · have tw26 : i16.toInt = 1 := (ti_eq rfl (by decide)).mp w26
                  refine pb_aload_n (pc := 77) d_Mod_isName_77 5 rfl rfl ?_
                  refine pb_iload (pc := 78) d_Mod_isName_78 3 rfl ?_
                  refine pb_bald (pc := 80) d_Mod_isName_80 0 rfl (vp_in_iff.mpr (by omega)) ?_
                  refine pb_topi (fun i33 ei33 => ?_)
                  have xi33 : i33 = gr f (bg.toInt) := gr_ld ei33 (by omega)
                  have yi33 : i33.toInt = gx f (bg.toInt) := congrArg Int32.toInt xi33
                  refine pb_bipush (pc := 81) (v := 46) d_Mod_isName_81 (by decide) ?_
                  refine pb_icmp_eq (pc := 83) (tgt := 112) d_Mod_isName_83 (by decide) (fun w34 => ?_) (fun w34 => ?_)
                  · have tw34 : i33.toInt = 46 := (ti_eq rfl (by decide)).mp w34
                    refine pb_iconst (pc := 112) (v := 1) d_Mod_isName_112 (by decide) ?_
                    refine pb_goto (pc := 113) (tgt := 117) d_Mod_isName_113 (by decide) ?_
                    refine pb_istore (pc := 117) (lo' := [(8, .int 1), (7, .int i16), (6, .int en), (3, .int g1), (4, .int bg), (5, .int k), (0, .ref a), (1, .int x), (2, .int n)]) d_Mod_isName_117 (by decide) rfl ?_
                    refine pb_re (ws' := [(a, .inl (G.2.1, Na, .inl f))]) (lo' := [(8, .int 1), (7, .int i16), (3, .int g1), (4, .int bg), (5, .int k), (0, .ref a), (1, .int x), (2, .int n)]) [0] [0, 1, 3, 4, 5, 6, 7, 8] (by decide) rfl rfl rfl ?_
                    exact hJ119_17 1 i16 (by first | (with_reducible assumption) | omega (splitDisjunctions := false) | assumption | omega | decide) (by first | (with_reducible assumption) | omega (splitDisjunctions := false) | assumption | omega | decide) (by first | (with_reducible assumption) | omega (splitDisjunctions := false) | assumption | omega | decide) (by first | (with_reducible assumption) | omega (splitDisjunctions := false) | assumption | omega | decide)
                  · have tw34 : ¬ i33.toInt = 46 := fun z9 => w34 ((ti_eq rfl (by decide)).mpr z9)
                    refine pb_iload (pc := 86) d_Mod_isName_86 0 rfl ?_
                    refine pb_iconst (pc := 88) (v := 2) d_Mod_isName_88 (by decide) ?_
                    refine pb_icmp_ne (pc := 89) (tgt := 116) d_Mod_isName_89 (by decide) (fun w35 => ?_) (fun w35 => ?_)
                    · have tw35 : ¬ i16.toInt = 2 := fun z9 => w35 ((ti_eq rfl (by decide)).mpr z9)
                      refine pb_iconst (pc := 116) (v := 0) d_Mod_isName_116 (by decide) ?_
                      refine pb_istore (pc := 117) (lo' := [(8, .int 0), (7, .int i16), (6, .int en), (3, .int g1), (4, .int bg), (5, .int k), (0, .ref a), (1, .int x), (2, .int n)]) d_Mod_isName_117 (by decide) rfl ?_
                      refine pb_re (ws' := [(a, .inl (G.2.1, Na, .inl f))]) (lo' := [(8, .int 0), (7, .int i16), (3, .int g1), (4, .int bg), (5, .int k), (0, .ref a), (1, .int x), (2, .int n)]) [0] [0, 1, 3, 4, 5, 6, 7, 8] (by decide) rfl rfl rfl ?_
                      exact hJ119_17 0 i16 (by first | (with_reducible assumption) | omega (splitDisjunctions := false) | assumption | omega | decide) (by first | (with_reducible assumption) | omega (splitDisjunctions := false) | assumption | omega | decide) (by first | (with_reducible assumption) | omega (splitDisjunctions := false) | assumption | omega | decide) (by first | (with_reducible assumption) | omega (splitDisjunctions := false) | assumption | omega | decide)
                    · have tw35 : i16.toInt = 2 := (ti_eq rfl (by decide)).mp w35
                      refine pb_aload_n (pc := 92) d_Mod_isName_92 5 rfl rfl ?_
                      refine pb_iload (pc := 93) d_Mod_isName_93 3 rfl ?_
                      refine pb_bald (pc := 95) d_Mod_isName_95 0 rfl (vp_in_iff.mpr (by omega)) ?_
                      refine pb_topi (fun i36 ei36 => ?_)
                      have xi36 : i36 = gr f (bg.toInt) := gr_ld ei36 (by omega)
                      have yi36 : i36.toInt = gx f (bg.toInt) := congrArg Int32.toInt xi36
                      refine pb_bipush (pc := 96) (v := 46) d_Mod_isName_96 (by decide) ?_
                      refine pb_icmp_ne (pc := 98) (tgt := 116) d_Mod_isName_98 (by decide) (fun w37 => ?_) (fun w37 => ?_)
                      · have tw37 : ¬ i36.toInt = 46 := fun z9 => w37 ((ti_eq rfl (by decide)).mpr z9)
                        refine pb_iconst (pc := 116) (v := 0) d_Mod_isName_116 (by decide) ?_
                        refine pb_istore (pc := 117) (lo' := [(8, .int 0), (7, .int i16), (6, .int en), (3, .int g1), (4, .int bg), (5, .int k), (0, .ref a), (1, .int x), (2, .int n)]) d_Mod_isName_117 (by decide) rfl ?_
                        refine pb_re (ws' := [(a, .inl (G.2.1, Na, .inl f))]) (lo' := [(8, .int 0), (7, .int i16), (3, .int g1), (4, .int bg), (5, .int k), (0, .ref a), (1, .int x), (2, .int n)]) [0] [0, 1, 3, 4, 5, 6, 7, 8] (by decide) rfl rfl rfl ?_
                        exact hJ119_17 0 i16 (by first | (with_reducible assumption) | omega (splitDisjunctions := false) | assumption | omega | decide) (by first | (with_reducible assumption) | omega (splitDisjunctions := false) | assumption | omega | decide) (by first | (with_reducible assumption) | omega (splitDisjunctions := false) | assumption | omega | decide) (by first | (with_reducible assumption) | omega (splitDisjunctions := false) | assumption | omega | decide)
                      · have tw37 : i36.toInt = 46 := (ti_eq rfl (by decide)).mp w37
                        refine pb_aload_n (pc := 101) d_Mod_isName_101 5 rfl rfl ?_
                        refine pb_iload (pc := 102) d_Mod_isName_102 3 rfl ?_
                        refine pb_iconst (pc := 104) (v := 1) d_Mod_isName_104 (by decide) ?_
                        refine pb_iadd (pc := 105) d_Mod_isName_105 ?_
                        refine pb_topi (fun i38 ei38 => ?_)
                        try have ti38 : i38.toInt = bg.toInt + 1 := t2_add ei38 rfl (by decide) (by omega)
                        refine pb_bald (pc := 106) d_Mod_isName_106 0 rfl (vp_in_iff.mpr (by omega)) ?_
                        refine pb_topi (fun i39 ei39 => ?_)
                        have xi39 : i39 = gr f (bg.toInt + 1) := gr_ld ei39 (by omega)
                        have yi39 : i39.toInt = gx f (bg.toInt + 1) := congrArg Int32.toInt xi39
                        refine pb_bipush (pc := 107) (v := 46) d_Mod_isName_107 (by decide) ?_
                        refine pb_icmp_ne (pc := 109) (tgt := 116) d_Mod_isName_109 (by decide) (fun w40 => ?_) (fun w40 => ?_)
                        · have tw40 : ¬ i39.toInt = 46 := fun z9 => w40 ((ti_eq rfl (by decide)).mpr z9)
                          refine pb_iconst (pc := 116) (v := 0) d_Mod_isName_116 (by decide) ?_
                          refine pb_istore (pc := 117) (lo' := [(8, .int 0), (7, .int i16), (6, .int en), (3, .int g1), (4, .int bg), (5, .int k), (0, .ref a), (1, .int x), (2, .int n)]) d_Mod_isName_117 (by decide) rfl ?_
                          refine pb_re (ws' := [(a, .inl (G.2.1, Na, .inl f))]) (lo' := [(8, .int 0), (7, .int i16), (3, .int g1), (4, .int bg), (5, .int k), (0, .ref a), (1, .int x), (2, .int n)]) [0] [0, 1, 3, 4, 5, 6, 7, 8] (by decide) rfl rfl rfl ?_
                          exact hJ119_17 0 i16 (by first | (with_reducible assumption) | omega (splitDisjunctions := false) | assumption | omega | decide) (by first | (with_reducible assumption) | omega (splitDisjunctions := false) | assumption | omega | decide) (by first | (with_reducible assumption) | omega (splitDisjunctions := false) | assumption | omega | decide) (by first | (with_reducible assumption) | omega (splitDisjunctions := false) | assumption | omega | decide)
                        · have tw40 : i39.toInt = 46 := (ti_eq rfl (by decide)).mp w40
                          refine pb_iconst (pc := 112) (v := 1) d_Mod_isName_112 (by decide) ?_
                          refine pb_goto (pc := 113) (tgt := 117) d_Mod_isName_113 (by decide) ?_
                          refine pb_istore (pc := 117) (lo' := [(8, .int 1), (7, .int i16), (6, .int en), (3, .int g1), (4, .int bg), (5, .int k), (0, .ref a), (1, .int x), (2, .int n)]) d_Mod_isName_117 (by decide) rfl ?_
                          refine pb_re (ws' := [(a, .inl (G.2.1, Na, .inl f))]) (lo' := [(8, .int 1), (7, .int i16), (3, .int g1), (4, .int bg), (5, .int k), (0, .ref a), (1, .int x), (2, .int n)]) [0] [0, 1, 3, 4, 5, 6, 7, 8] (by decide) rfl rfl rfl ?_
                          exact hJ119_17 1 i16 (by first | (with_reducible assumption) | omega (splitDisjunctions := false) | assumption | omega | decide) (by first | (with_reducible assumption) | omega (splitDisjunctions := false) | assumption | omega | decide) (by first | (with_reducible assumption) | omega (splitDisjunctions := false) | assumption | omega | decide) (by first | (with_reducible assumption) | omega (splitDisjunctions := false) | assumption | omega | decide)
            refine pb_iload_n (pc := 37) d_Mod_isName_37 4 rfl rfl ?_
            refine pb_iload_n (pc := 38) d_Mod_isName_38 5 rfl rfl ?_
            refine pb_iadd (pc := 39) d_Mod_isName_39 ?_
            refine pb_topi (fun i41 ei41 => ?_)
            try have ti41 : i41.toInt = x.toInt + n.toInt := t2_add ei41 rfl rfl (by omega)
            refine pb_icmp_eq (pc := 40) (tgt := 52) d_Mod_isName_40 (by decide) (fun w42 => ?_) (fun w42 => ?_)
            · have tw42 : k.toInt = i41.toInt := (ti_eq rfl rfl).mp w42
              refine pb_iconst (pc := 52) (v := 1) d_Mod_isName_52 (by decide) ?_
              refine pb_goto (pc := 53) (tgt := 57) d_Mod_isName_53 (by decide) ?_
              refine pb_istore (pc := 57) (lo' := [(6, .int 1), (3, .int g1), (4, .int bg), (5, .int k), (0, .ref a), (1, .int x), (2, .int n)]) d_Mod_isName_57 (by decide) rfl ?_
              exact hJ59_6 1 (by first | (with_reducible assumption) | omega (splitDisjunctions := false) | assumption | omega | decide) (by first | (with_reducible assumption) | omega (splitDisjunctions := false) | assumption | omega | decide) (by first | (with_reducible assumption) | omega (splitDisjunctions := false) | assumption | omega | decide) (by first | (with_reducible assumption) | omega (splitDisjunctions := false) | assumption | omega | decide)
            · have tw42 : ¬ k.toInt = i41.toInt := fun z9 => w42 ((ti_eq rfl rfl).mpr z9)
              refine pb_aload_n (pc := 43) d_Mod_isName_43 3 rfl rfl ?_
              refine pb_iload (pc := 44) d_Mod_isName_44 2 rfl ?_
              refine pb_bald (pc := 46) d_Mod_isName_46 0 rfl (vp_in_iff.mpr (by omega)) ?_
              refine pb_topi (fun i43 ei43 => ?_)
              have xi43 : i43 = gr f (k.toInt) := gr_ld ei43 (by omega)
              have yi43 : i43.toInt = gx f (k.toInt) := congrArg Int32.toInt xi43
              refine pb_bipush (pc := 47) (v := 47) d_Mod_isName_47 (by decide) ?_
              refine pb_icmp_ne (pc := 49) (tgt := 56) d_Mod_isName_49 (by decide) (fun w44 => ?_) (fun w44 => ?_)
              · have tw44 : ¬ i43.toInt = 47 := fun z9 => w44 ((ti_eq rfl (by decide)).mpr z9)
                refine pb_iconst (pc := 56) (v := 0) d_Mod_isName_56 (by decide) ?_
                refine pb_istore (pc := 57) (lo' := [(6, .int 0), (3, .int g1), (4, .int bg), (5, .int k), (0, .ref a), (1, .int x), (2, .int n)]) d_Mod_isName_57 (by decide) rfl ?_
                exact hJ59_6 0 (by first | (with_reducible assumption) | omega (splitDisjunctions := false) | assumption | omega | decide) (by first | (with_reducible assumption) | omega (splitDisjunctions := false) | assumption | omega | decide) (by first | (with_reducible assumption) | omega (splitDisjunctions := false) | assumption | omega | decide) (by first | (with_reducible assumption) | omega (splitDisjunctions := false) | assumption | omega | decide)
              · have tw44 : i43.toInt = 47 := (ti_eq rfl (by decide)).mp w44
                refine pb_iconst (pc := 52) (v := 1) d_Mod_isName_52 (by decide) ?_
                refine pb_goto (pc := 53) (tgt := 57) d_Mod_isName_53 (by decide) ?_
                refine pb_istore (pc := 57) (lo' := [(6, .int 1), (3, .int g1), (4, .int bg), (5, .int k), (0, .ref a), (1, .int x), (2, .int n)]) d_Mod_isName_57 (by decide) rfl ?_
                exact hJ59_6 1 (by first | (with_reducible assumption) | omega (splitDisjunctions := false) | assumption | omega | decide) (by first | (with_reducible assumption) | omega (splitDisjunctions := false) | assumption | omega | decide) (by first | (with_reducible assumption) | omega (splitDisjunctions := false) | assumption | omega | decide) (by first | (with_reducible assumption) | omega (splitDisjunctions := false) | assumption | omega | decide)
    refine pb_re (ws' := [(a, .inl (G.2.1, Na, .inl f))]) (lo' := [(3, .int g0), (4, .int x), (5, .int x), (0, .ref a), (1, .int x), (2, .int n)]) [0] [2, 1, 0, 3, 4, 5] (by decide) rfl rfl rfl ?_
    exact hL23_2 _ g0 x x (by first | (with_reducible assumption) | omega (splitDisjunctions := false) | assumption | (clear h1 j1 j2; first | omega (splitDisjunctions := false) | omega) | omega | decide) (by first | (with_reducible assumption) | omega (splitDisjunctions := false) | assumption | exact fun q90 => (by have y90 := j1 q90; have y91 := h1 y90.1; have y92 := y91 y90.2; clear h1 j1 j2 y91; first | omega (splitDisjunctions := false) | omega) | omega | decide) (by first | (with_reducible assumption) | omega (splitDisjunctions := false) | assumption | (clear h1 j1 j2; first | omega (splitDisjunctions := false) | omega) | omega | decide) (by first | (with_reducible assumption) | omega (splitDisjunctions := false) | assumption | (clear h1 j1 j2; first | omega (splitDisjunctions := false) | omega) | omega | decide) (by first | (with_reducible assumption) | omega (splitDisjunctions := false) | assumption | (clear h1 j1 j2; first | omega (splitDisjunctions := false) | omega) | omega | decide) (by first | (with_reducible assumption) | omega (splitDisjunctions := false) | assumption | exact fun q90 q91 => (by have y90 := h1 q90; have y91 := y90 q91; clear h1 j1 j2 y90; first | omega (splitDisjunctions := false) | omega) | omega | decide) (by first | (with_reducible assumption) | omega (splitDisjunctions := false) | assumption | exact fun q90 q91 => (by have y90 := j1 q90; have y91 := h1 y90.1; have y92 := y91 y90.2; clear h1 j1 j2 y91; first | omega (splitDisjunctions := false) | omega) | omega | decide) (fun _ => iB_0 rfl) (fun _ => Or.inl rfl) (fun _ j h0 h1 => absurd h1 (by omega)) (fun q9 => iA_out (by omega)) (Nat.lt_succ_self _)
  refine pb_iload_n (pc := 0) d_Mod_isName_0 2 rfl rfl ?_
  refine pb_iconst (pc := 1) (v := 1) d_Mod_isName_1 (by decide) ?_
  refine pb_icmp_lt (pc := 2) (tgt := 15) d_Mod_isName_2 (by decide) (fun w45 => ?_) (fun w45 => ?_)
  · have tw45 : n.toInt < 1 := (ti_lt rfl (by decide)).mp w45
    refine pb_iconst (pc := 15) (v := 0) d_Mod_isName_15 (by decide) ?_
    refine pb_istore_n (pc := 16) (lo' := [(3, .int 0), (0, .ref a), (1, .int x), (2, .int n)]) d_Mod_isName_16 rfl (by decide) rfl ?_
    exact hJ17_1 0 (by first | (with_reducible assumption) | omega (splitDisjunctions := false) | assumption | (clear h1; first | omega (splitDisjunctions := false) | omega) | omega | decide) (by first | (with_reducible assumption) | omega (splitDisjunctions := false) | assumption | exact fun q90 => (by clear h1; first | omega (splitDisjunctions := false) | omega) | omega | decide) (by first | (with_reducible assumption) | omega (splitDisjunctions := false) | assumption | exact fun q90 => (by clear h1; first | omega (splitDisjunctions := false) | omega) | omega | decide)
  · have tw45 : ¬ n.toInt < 1 := fun z9 => w45 ((ti_lt rfl (by decide)).mpr z9)
    refine pb_iload_n (pc := 5) d_Mod_isName_5 2 rfl rfl ?_
    refine pb_bipush (pc := 6) (v := 24) d_Mod_isName_6 (by decide) ?_
    refine pb_icmp_gt (pc := 8) (tgt := 15) d_Mod_isName_8 (by decide) (fun w46 => ?_) (fun w46 => ?_)
    · have tw46 : 24 < n.toInt := (ti_lt (by decide) rfl).mp w46
      refine pb_iconst (pc := 15) (v := 0) d_Mod_isName_15 (by decide) ?_
      refine pb_istore_n (pc := 16) (lo' := [(3, .int 0), (0, .ref a), (1, .int x), (2, .int n)]) d_Mod_isName_16 rfl (by decide) rfl ?_
      exact hJ17_1 0 (by first | (with_reducible assumption) | omega (splitDisjunctions := false) | assumption | (clear h1; first | omega (splitDisjunctions := false) | omega) | omega | decide) (by first | (with_reducible assumption) | omega (splitDisjunctions := false) | assumption | exact fun q90 => (by clear h1; first | omega (splitDisjunctions := false) | omega) | omega | decide) (by first | (with_reducible assumption) | omega (splitDisjunctions := false) | assumption | exact fun q90 => (by clear h1; first | omega (splitDisjunctions := false) | omega) | omega | decide)
    · have tw46 : ¬ 24 < n.toInt := fun z9 => w46 ((ti_lt (by decide) rfl).mpr z9)
      refine pb_iconst (pc := 11) (v := 1) d_Mod_isName_11 (by decide) ?_
      refine pb_goto (pc := 12) (tgt := 16) d_Mod_isName_12 (by decide) ?_
      refine pb_istore_n (pc := 16) (lo' := [(3, .int 1), (0, .ref a), (1, .int x), (2, .int n)]) d_Mod_isName_16 rfl (by decide) rfl ?_
      exact hJ17_1 1 (by first | (with_reducible assumption) | omega (splitDisjunctions := false) | assumption | (clear h1; first | omega (splitDisjunctions := false) | omega) | omega | decide) (by first | (with_reducible assumption) | omega (splitDisjunctions := false) | assumption | exact fun q90 => (by clear h1; first | omega (splitDisjunctions := false) | omega) | omega | decide) (by first | (with_reducible assumption) | omega (splitDisjunctions := false) | assumption | exact fun q90 => (by clear h1; first | omega (splitDisjunctions := false) | omega) | omega | decide)

theorem d_Mod_look_0 : decode prog_12_method_7_code 0 = .ok (.aload_n 0, 1) := by decide +kernel
theorem d_Mod_look_1 : decode prog_12_method_7_code 1 = .ok (.iload_n 3, 1) := by decide +kernel
theorem d_Mod_look_2 : decode prog_12_method_7_code 2 = .ok (.putfield 114, 3) := by decide +kernel
theorem k_1162 : (Jvm.Cond.fieldLink "PackageBookModel" (114 : Nat) "PackageBookModel" "lookedSize" "I") ∈ uW := uW_c4 85 rfl (by decide +kernel)
theorem d_Mod_look_5 : decode prog_12_method_7_code 5 = .ok (.iconst 0, 1) := by decide +kernel
theorem d_Mod_look_6 : decode prog_12_method_7_code 6 = .ok (.istore 4, 2) := by decide +kernel
theorem d_Mod_look_8 : decode prog_12_method_7_code 8 = .ok (.iload 4, 2) := by decide +kernel
theorem d_Mod_look_10 : decode prog_12_method_7_code 10 = .ok (.iload_n 3, 1) := by decide +kernel
theorem d_Mod_look_11 : decode prog_12_method_7_code 11 = .ok (.if_icmp .ge 29, 3) := by decide +kernel
theorem d_Mod_look_40 : decode prog_12_method_7_code 40 = .ok (.return_, 1) := by decide +kernel
theorem d_Mod_look_14 : decode prog_12_method_7_code 14 = .ok (.iload 4, 2) := by decide +kernel
theorem d_Mod_look_16 : decode prog_12_method_7_code 16 = .ok (.bipush 40, 2) := by decide +kernel
theorem d_Mod_look_18 : decode prog_12_method_7_code 18 = .ok (.if_icmp .ge 22, 3) := by decide +kernel
theorem d_Mod_look_21 : decode prog_12_method_7_code 21 = .ok (.aload_n 0, 1) := by decide +kernel
theorem d_Mod_look_22 : decode prog_12_method_7_code 22 = .ok (.getfield 54, 3) := by decide +kernel
theorem k_1163 : (Jvm.Cond.fieldLink "PackageBookModel" (54 : Nat) "PackageBookModel" "looked" "[B") ∈ uW := uW_c4 86 rfl (by decide +kernel)
theorem d_Mod_look_25 : decode prog_12_method_7_code 25 = .ok (.iload 4, 2) := by decide +kernel
theorem d_Mod_look_27 : decode prog_12_method_7_code 27 = .ok (.aload_n 1, 1) := by decide +kernel
theorem d_Mod_look_28 : decode prog_12_method_7_code 28 = .ok (.iload_n 2, 1) := by decide +kernel
theorem d_Mod_look_29 : decode prog_12_method_7_code 29 = .ok (.iload 4, 2) := by decide +kernel
theorem d_Mod_look_31 : decode prog_12_method_7_code 31 = .ok (.iadd, 1) := by decide +kernel
theorem d_Mod_look_32 : decode prog_12_method_7_code 32 = .ok (.baload, 1) := by decide +kernel
theorem d_Mod_look_33 : decode prog_12_method_7_code 33 = .ok (.bastore, 1) := by decide +kernel
theorem d_Mod_look_34 : decode prog_12_method_7_code 34 = .ok (.iinc 4 1, 3) := by decide +kernel
theorem d_Mod_look_37 : decode prog_12_method_7_code 37 = .ok (.goto (-29), 3) := by decide +kernel
abbrev y_Mod_look : MethodName := ⟨"PackageBookModel", "look", "([BII)V"⟩
abbrev i_Mod_look : pb_I := (y_Mod_look, prog_12_method_7_code, 5, (Option.none : Option Jvm.ClassFile.FieldType), [], { frames := 0, cells := 0, slots := 0, locals := 0 })
set_option maxRecDepth 100000 in
set_option maxHeartbeats 4000000 in
theorem g_Mod_look {l : Launch} (hl : l.stackTraces = false) (G : pb_G) (h : Nat) (m_rels : Nat) (m_openRels : Nat) (m_closeRels : Nat) (m_openRel : Nat) (m_closeRel : Nat) (m_comment : Nat) (m_ends : Nat) (m_order : Nat) (m_tape : Nat) (m_count : Nat) (m_nameSize : Nat) (m_names : Nat) (m_size : Nat) (m_data : Nat) (m_looked : Nat) (m_file : Nat) (m_directory : Nat) (m_out : Nat) (m_row : Nat) (m_made : Nat) (m_length : Nat) (m_pressed : Nat) (m_mark : Nat) (m_idSize : Nat) (m_ids : Nat) (m_goalSize : Nat) (m_goals : Nat) (m_value : Nat) (m_faults : Nat) (m_reached : Nat) (v_thrown : Int32) (v_taped : Int32) (v_lookedSize : Int32) (v_fileSize : Int32) (v_directorySize : Int32) (v_outSize : Int32) (v_rowSize : Int32) (v_bitAt : Int32) (v_bitEnd : Int32) (v_why : Int32) (v_madeSize : Int32) (v_firstCount : Int32) (v_secondCount : Int32) (v_heldBits : Int32) (v_heldCount : Int32) (v_pressedSize : Int32) (v_at : Int32) (v_bad : Int32) (v_markSize : Int32) (v_relationCount : Int32) (v_valueSize : Int32) (v_faultCount : Int32) (a_looked : Nat → Int32) (a : Nat) (Na : Nat) (f : Nat → Int32) (x : Int32) (n : Int32) (h0 : 0 ≤ x.toInt) (h1 : x.toInt + n.toInt ≤ Na) (h2 : Na ≤ 1000000) (F_a_looked : sb_Fit a_looked) (F_f : sb_Fit f) : Cn l G i_Mod_look [.ref h, .ref a, .int x, .int n] [(h, .inr (10, [.ref m_rels, .ref m_openRels, .ref m_closeRels, .ref m_openRel, .ref m_closeRel, .ref m_comment, .ref m_ends, .ref m_order, .int v_thrown, .int v_taped, .ref m_tape, .ref m_count, .ref m_nameSize, .ref m_names, .ref m_size, .ref m_data, .int v_lookedSize, .ref m_looked, .int v_fileSize, .ref m_file, .int v_directorySize, .ref m_directory, .int v_outSize, .ref m_out, .int v_rowSize, .ref m_row, .int v_bitAt, .int v_bitEnd, .int v_why, .int v_madeSize, .ref m_made, .ref m_length, .int v_firstCount, .int v_secondCount, .int v_heldBits, .int v_heldCount, .int v_pressedSize, .ref m_pressed, .int v_at, .int v_bad, .int v_markSize, .ref m_mark, .int v_relationCount, .ref m_idSize, .ref m_ids, .ref m_goalSize, .ref m_goals, .int v_valueSize, .ref m_value, .int v_faultCount, .ref m_faults, .ref m_reached])), (m_looked, .inl (G.2.1, 40, .inl a_looked)), (a, .inl (G.2.1, Na, .inl f))] (S := (Nat → Int32)) (fun rv_ u => rv_ = none ∧ (∀ k : Int, 0 ≤ k → k < n.toInt → k < 40 → gx u k = gx f (x.toInt + k)) ∧ (sb_Fit u)) (fun u => [(h, .inr (10, [.ref m_rels, .ref m_openRels, .ref m_closeRels, .ref m_openRel, .ref m_closeRel, .ref m_comment, .ref m_ends, .ref m_order, .int v_thrown, .int v_taped, .ref m_tape, .ref m_count, .ref m_nameSize, .ref m_names, .ref m_size, .ref m_data, .int n, .ref m_looked, .int v_fileSize, .ref m_file, .int v_directorySize, .ref m_directory, .int v_outSize, .ref m_out, .int v_rowSize, .ref m_row, .int v_bitAt, .int v_bitEnd, .int v_why, .int v_madeSize, .ref m_made, .ref m_length, .int v_firstCount, .int v_secondCount, .int v_heldBits, .int v_heldCount, .int v_pressedSize, .ref m_pressed, .int v_at, .int v_bad, .int v_markSize, .ref m_mark, .int v_relationCount, .ref m_idSize, .ref m_ids, .ref m_goalSize, .ref m_goals, .int v_valueSize, .ref m_value, .int v_faultCount, .ref m_faults, .ref m_reached])), (m_looked, .inl (G.2.1, 40, .inl u)), (a, .inl (G.2.1, Na, .inl f))]) := by
  refine Cn.of hl (by decide +kernel) rfl (Nat.le_of_ble_eq_true rfl) (fun M hQ => ?_)
  refine pb_eq (pc' := 0) (lo' := [(0, .ref h), (1, .ref a), (2, .int x), (3, .int n)]) (rest' := []) (ws' := [(h, .inr (10, [.ref m_rels, .ref m_openRels, .ref m_closeRels, .ref m_openRel, .ref m_closeRel, .ref m_comment, .ref m_ends, .ref m_order, .int v_thrown, .int v_taped, .ref m_tape, .ref m_count, .ref m_nameSize, .ref m_names, .ref m_size, .ref m_data, .int v_lookedSize, .ref m_looked, .int v_fileSize, .ref m_file, .int v_directorySize, .ref m_directory, .int v_outSize, .ref m_out, .int v_rowSize, .ref m_row, .int v_bitAt, .int v_bitEnd, .int v_why, .int v_madeSize, .ref m_made, .ref m_length, .int v_firstCount, .int v_secondCount, .int v_heldBits, .int v_heldCount, .int v_pressedSize, .ref m_pressed, .int v_at, .int v_bad, .int v_markSize, .ref m_mark, .int v_relationCount, .ref m_idSize, .ref m_ids, .ref m_goalSize, .ref m_goals, .int v_valueSize, .ref m_value, .int v_faultCount, .ref m_faults, .ref m_reached])), (m_looked, .inl (G.2.1, 40, .inl a_looked)), (a, .inl (G.2.1, Na, .inl f))]) ?_
  have zl0 : (0 : Int32).toInt = 0 := by decide
  have zl1 : (1 : Int32).toInt = 1 := by decide
  refine pb_aload_n (pc := 0) d_Mod_look_0 0 rfl rfl ?_
  refine pb_iload_n (pc := 1) d_Mod_look_1 3 rfl rfl ?_
  refine pb_put (pc := 2) (ty := .int) (ws' := [(h, .inr (10, [.ref m_rels, .ref m_openRels, .ref m_closeRels, .ref m_openRel, .ref m_closeRel, .ref m_comment, .ref m_ends, .ref m_order, .int v_thrown, .int v_taped, .ref m_tape, .ref m_count, .ref m_nameSize, .ref m_names, .ref m_size, .ref m_data, .int n, .ref m_looked, .int v_fileSize, .ref m_file, .int v_directorySize, .ref m_directory, .int v_outSize, .ref m_out, .int v_rowSize, .ref m_row, .int v_bitAt, .int v_bitEnd, .int v_why, .int v_madeSize, .ref m_made, .ref m_length, .int v_firstCount, .int v_secondCount, .int v_heldBits, .int v_heldCount, .int v_pressedSize, .ref m_pressed, .int v_at, .int v_bad, .int v_markSize, .ref m_mark, .int v_relationCount, .ref m_idSize, .ref m_ids, .ref m_goalSize, .ref m_goals, .int v_valueSize, .ref m_value, .int v_faultCount, .ref m_faults, .ref m_reached])), (m_looked, .inl (G.2.1, 40, .inl a_looked)), (a, .inl (G.2.1, Na, .inl f))]) d_Mod_look_2 0 16 t_Mod t_Mod_ok n_Mod rfl rfl (by decide) in_Mod k_1162 rfl (by decide +kernel) rfl rfl (Nat.le_of_ble_eq_true rfl) rfl ?_
  refine pb_iconst (pc := 5) (v := 0) d_Mod_look_5 (by decide) ?_
  refine pb_istore (pc := 6) (lo' := [(4, .int 0), (0, .ref h), (1, .ref a), (2, .int x), (3, .int n)]) d_Mod_look_6 (by decide) rfl ?_
  have hL8_1 : ∀ (N9 : Nat) (k : Int32) (g : Nat → Int32), (sb_Fit g) → (0 ≤ k.toInt) → (∀ j : Int, 0 ≤ j → j < k.toInt → gx g j = gx f (x.toInt + j)) → ((n.toInt - k.toInt).toNat) < N9 → pb_P l G M i_Mod_look 8 [(4, .int k), (0, .ref h), (1, .ref a), (2, .int x), (3, .int n)] [] [(h, .inr (10, [.ref m_rels, .ref m_openRels, .ref m_closeRels, .ref m_openRel, .ref m_closeRel, .ref m_comment, .ref m_ends, .ref m_order, .int v_thrown, .int v_taped, .ref m_tape, .ref m_count, .ref m_nameSize, .ref m_names, .ref m_size, .ref m_data, .int n, .ref m_looked, .int v_fileSize, .ref m_file, .int v_directorySize, .ref m_directory, .int v_outSize, .ref m_out, .int v_rowSize, .ref m_row, .int v_bitAt, .int v_bitEnd, .int v_why, .int v_madeSize, .ref m_made, .ref m_length, .int v_firstCount, .int v_secondCount, .int v_heldBits, .int v_heldCount, .int v_pressedSize, .ref m_pressed, .int v_at, .int v_bad, .int v_markSize, .ref m_mark, .int v_relationCount, .ref m_idSize, .ref m_ids, .ref m_goalSize, .ref m_goals, .int v_valueSize, .ref m_value, .int v_faultCount, .ref m_faults, .ref m_reached])), (m_looked, .inl (G.2.1, 40, .inl g)), (a, .inl (G.2.1, Na, .inl f))] 0 0 := by
    intro N9
    induction N9 with
    | zero => intro k g F_g k0 hg hm9; exact absurd hm9 (Nat.not_lt_zero _)
    | succ N9 ih8 =>
      intro k g F_g k0 hg hm9
      refine pb_iload (pc := 8) d_Mod_look_8 0 rfl ?_
      refine pb_iload_n (pc := 10) d_Mod_look_10 4 rfl rfl ?_
      refine pb_icmp_ge (pc := 11) (tgt := 40) d_Mod_look_11 (by decide) (fun w2 => ?_) (fun w2 => ?_)
      · have tw2 : n.toInt ≤ k.toInt := (ti_le rfl rfl).mp w2
        exact pb_vret (pc := 40) hQ d_Mod_look_40 rfl (g) ⟨rfl, (show ∀ k : Int, 0 ≤ k → k < n.toInt → k < 40 → gx g k = gx f (x.toInt + k) from (fun j h0 h1 h2 => hg j h0 (by omega))), F_g⟩ [0, 1, 2] (by decide) rfl rfl (by decide) (by decide)
      · have tw2 : ¬ n.toInt ≤ k.toInt := fun z9 => w2 ((ti_le rfl rfl).mpr z9)
        refine pb_iload (pc := 14) d_Mod_look_14 0 rfl ?_
        refine pb_bipush (pc := 16) (v := 40) d_Mod_look_16 (by decide) ?_
        refine pb_icmp_ge (pc := 18) (tgt := 40) d_Mod_look_18 (by decide) (fun w3 => ?_) (fun w3 => ?_)
        · have tw3 : 40 ≤ k.toInt := (ti_le (by decide) rfl).mp w3
          exact pb_vret (pc := 40) hQ d_Mod_look_40 rfl (g) ⟨rfl, (show ∀ k : Int, 0 ≤ k → k < n.toInt → k < 40 → gx g k = gx f (x.toInt + k) from (fun j h0 h1 h2 => hg j h0 (by omega))), F_g⟩ [0, 1, 2] (by decide) rfl rfl (by decide) (by decide)
        · have tw3 : ¬ 40 ≤ k.toInt := fun z9 => w3 ((ti_le (by decide) rfl).mpr z9)
          refine pb_aload_n (pc := 21) d_Mod_look_21 1 rfl rfl ?_
          refine pb_get (pc := 22) d_Mod_look_22 0 17 rfl rfl (by decide) in_Mod k_1163 rfl ?_
          refine pb_iload (pc := 25) d_Mod_look_25 0 rfl ?_
          refine pb_aload_n (pc := 27) d_Mod_look_27 2 rfl rfl ?_
          refine pb_iload_n (pc := 28) d_Mod_look_28 3 rfl rfl ?_
          refine pb_iload (pc := 29) d_Mod_look_29 0 rfl ?_
          refine pb_iadd (pc := 31) d_Mod_look_31 ?_
          refine pb_topi (fun i4 ei4 => ?_)
          try have ti4 : i4.toInt = x.toInt + k.toInt := t2_add ei4 rfl rfl (by omega)
          refine pb_bald (pc := 32) d_Mod_look_32 2 rfl (vp_in_iff.mpr (by omega)) ?_
          refine pb_topi (fun i5 ei5 => ?_)
          have xi5 : i5 = gr f (x.toInt + k.toInt) := gr_ld ei5 (by omega)
          have yi5 : i5.toInt = gx f (x.toInt + k.toInt) := congrArg Int32.toInt xi5
          have ti5 : -128 ≤ i5.toInt ∧ i5.toInt ≤ 127 := ti_fit (F_f _) ei5
          refine pb_bast (pc := 33) (ws' := [(h, .inr (10, [.ref m_rels, .ref m_openRels, .ref m_closeRels, .ref m_openRel, .ref m_closeRel, .ref m_comment, .ref m_ends, .ref m_order, .int v_thrown, .int v_taped, .ref m_tape, .ref m_count, .ref m_nameSize, .ref m_names, .ref m_size, .ref m_data, .int n, .ref m_looked, .int v_fileSize, .ref m_file, .int v_directorySize, .ref m_directory, .int v_outSize, .ref m_out, .int v_rowSize, .ref m_row, .int v_bitAt, .int v_bitEnd, .int v_why, .int v_madeSize, .ref m_made, .ref m_length, .int v_firstCount, .int v_secondCount, .int v_heldBits, .int v_heldCount, .int v_pressedSize, .ref m_pressed, .int v_at, .int v_bad, .int v_markSize, .ref m_mark, .int v_relationCount, .ref m_idSize, .ref m_ids, .ref m_goalSize, .ref m_goals, .int v_valueSize, .ref m_value, .int v_faultCount, .ref m_faults, .ref m_reached])), (m_looked, .inl (G.2.1, 40, .inl (upd g ((k : Int32).toNatClampNeg) (vp_nar .byte i5)))), (a, .inl (G.2.1, Na, .inl f))]) d_Mod_look_33 1 rfl (vp_in_iff.mpr (by omega)) rfl ?_
          refine pb_iincN (pc := 34) (c := 1) d_Mod_look_34 0 rfl (by decide) (by decide) (fun i6 ei6 => ?_)
          have ti6 : i6.toInt = k.toInt + 1 := t2_add ei6 rfl (by decide) (by first | omega | (have r90 := ti_rng k; have r91 := ti_rng i6; have r92 := ti_rng x; have r93 := ti_rng n; omega))
          refine pb_eq (pc' := 37) (lo' := [(4, .int i6), (0, .ref h), (1, .ref a), (2, .int x), (3, .int n)]) (rest' := []) (ws' := [(h, .inr (10, [.ref m_rels, .ref m_openRels, .ref m_closeRels, .ref m_openRel, .ref m_closeRel, .ref m_comment, .ref m_ends, .ref m_order, .int v_thrown, .int v_taped, .ref m_tape, .ref m_count, .ref m_nameSize, .ref m_names, .ref m_size, .ref m_data, .int n, .ref m_looked, .int v_fileSize, .ref m_file, .int v_directorySize, .ref m_directory, .int v_outSize, .ref m_out, .int v_rowSize, .ref m_row, .int v_bitAt, .int v_bitEnd, .int v_why, .int v_madeSize, .ref m_made, .ref m_length, .int v_firstCount, .int v_secondCount, .int v_heldBits, .int v_heldCount, .int v_pressedSize, .ref m_pressed, .int v_at, .int v_bad, .int v_markSize, .ref m_mark, .int v_relationCount, .ref m_idSize, .ref m_ids, .ref m_goalSize, .ref m_goals, .int v_valueSize, .ref m_value, .int v_faultCount, .ref m_faults, .ref m_reached])), (m_looked, .inl (G.2.1, 40, .inl (upd g ((k : Int32).toNatClampNeg) (vp_nar .byte i5)))), (a, .inl (G.2.1, Na, .inl f))]) ?_
          refine pb_goto (pc := 37) (tgt := 8) d_Mod_look_37 (by decide) ?_
          exact ih8 i6 (upd g ((k : Int32).toNatClampNeg) (vp_nar .byte i5)) (sb_fitU F_g (fit_nar _)) (by first | (with_reducible assumption) | omega (splitDisjunctions := false) | assumption | omega | decide) (fun j h0 h1 => by rw [gx_updb rfl j (by omega) h0 (by omega)]; split <;> first | (rename_i w; rw [w]; omega) | exact hg j h0 (by omega)) (by omega)
  exact hL8_1 _ 0 a_looked F_a_looked (by first | (with_reducible assumption) | omega (splitDisjunctions := false) | assumption | omega | decide) (fun j h0 h1 => absurd h1 (by omega)) (Nat.lt_succ_self _)
/-! ROWS OF NUMBERS -/
theorem omg_18df2b675c {x0 : Int} {x1 : Int} {x2 : Int} (a0 : ((0 : Int) ≤ x0)) (a1 : (x0 ≤ (24 : Int))) (a2 : ((0 : Int) ≤ x1)) (a3 : (x1 ≤ (1000000 : Int))) (a4 : (x2 = x0)) : (((-(2147483648 : Int)) ≤ (x2 - x1)) ∧ ((x2 - x1) < (2147483648 : Int))) := by omega
theorem omg_a82c1c5c5f {x0 : Int} {x1 : Int} {x2 : Int} {x3 : Int} {x4 : Int} {x5 : Int} (a0 : ((0 : Int) ≤ x0)) (a1 : (x0 ≤ (1 : Int))) (a2 : (x1 ≤ (16 : Int))) (a3 : ((0 : Int) ≤ x2)) (a4 : (x3 = x1)) (a5 : (¬ (x3 ≤ x2))) (a6 : (x4 = ((17 : Int) * x0))) (a7 : (x5 = (x4 + x2))) : (((0 : Int) ≤ x5) ∧ (x5 < (((34 : Nat) : Nat) : Int))) := by omega
theorem omg_9ee15130d9 {x0 : Int} {x1 : Int} {x2 : Int} {x3 : Int} (a0 : (x0 = ((17 : Int) * x1))) (a1 : (x2 = (x0 + x3))) : (x2 = (((17 : Int) * x1) + x3)) := by omega
theorem omg_049b621951 {x0 : Int} {x1 : Int} {x2 : Int} {x3 : Int} {x4 : Int} {x5 : Int} (a0 : ((0 : Int) ≤ x0)) (a1 : (x0 ≤ (33 : Int))) (a2 : (x1 ≤ (4000 : Int))) (a3 : ((0 : Int) ≤ x2)) (a4 : (x3 = x1)) (a5 : (x4 = x3)) (a6 : (¬ (x4 ≤ x2))) (a7 : (x5 = ((4000 : Int) * x0))) : (((-(2147483648 : Int)) ≤ (x5 + x2)) ∧ ((x5 + x2) < (2147483648 : Int))) := by omega
theorem omg_8387a60c64 {x0 : Int} {x1 : Int} {x2 : Int} {x3 : Int} {x4 : Int} {x5 : Int} {x6 : Int} (a0 : ((0 : Int) ≤ x0)) (a1 : (x0 ≤ (33 : Int))) (a2 : (x1 ≤ (4000 : Int))) (a3 : ((0 : Int) ≤ x2)) (a4 : (x3 = x1)) (a5 : (x4 = x3)) (a6 : (¬ (x4 ≤ x2))) (a7 : (x5 = ((4000 : Int) * x0))) (a8 : (x6 = (x5 + x2))) : (((0 : Int) ≤ x6) ∧ (x6 < (((136000 : Nat) : Nat) : Int))) := by omega
theorem omg_8c483aafce {x0 : Int} {x1 : Int} {x2 : Int} {x3 : Int} (a0 : (x0 = ((4000 : Int) * x1))) (a1 : (x2 = (x0 + x3))) : (x2 = (((4000 : Int) * x1) + x3)) := by omega
theorem omg_4cf3284d47 {x0 : Int} {x1 : Int} {x2 : Int} {x3 : Int} (a0 : (x0 ≤ (4000 : Int))) (a1 : ((0 : Int) ≤ x1)) (a2 : (x2 = x0)) (a3 : (x3 = x2)) (a4 : (¬ (x3 ≤ x1))) : (((-(2147483648 : Int)) ≤ (x1 + (1 : Int))) ∧ ((x1 + (1 : Int)) < (2147483648 : Int))) := by omega
theorem omg_79ae107613 {x0 : Int} {x1 : Int} {x2 : Nat} {x3 : Int} {x4 : Int} {x5 : Int} (a0 : ((Int.toNat (x0 - x1)) < (x2 + (1 : Nat)))) (a1 : (x3 = x0)) (a2 : (x4 = x3)) (a3 : (¬ (x4 ≤ x1))) (a4 : (x5 = (x1 + (1 : Int)))) : ((Int.toNat (x0 - x5)) < x2) := by omega
theorem omg_7d54897fee {x0 : Int} {x1 : Int} {x2 : Int} {x3 : Int} {x4 : Int} {x5 : Int} (a0 : (x0 ≤ (4000 : Int))) (a1 : ((0 : Int) ≤ x1)) (a2 : (x2 = x0)) (a3 : (x3 = x2)) (a4 : (¬ (x3 ≤ x1))) (a5 : ((x4 < ((4000 : Int) * x5)) ∨ ((((4000 : Int) * x5) + (4000 : Int)) ≤ x4))) : (¬ (x4 = (((4000 : Int) * x5) + x1))) := by omega
theorem omg_824ece3cda {x0 : Int} {x1 : Int} {x2 : Int} {x3 : Int} {x4 : Int} (a0 : (x0 = x1)) (a1 : (x2 = x0)) (a2 : (¬ (x2 ≤ x3))) (a3 : (x4 = (x3 + (1 : Int)))) : (x4 ≤ x1) := by omega
theorem omg_54e3acd9bb {x0 : Int} {x1 : Int} (a0 : ((0 : Int) ≤ x0)) (a1 : ((0 : Int) ≤ x1)) : ((0 : Int) ≤ (((24 : Int) * x0) + x1)) := by omega
theorem omg_175bf75ad1 {x0 : Int} {x1 : Int} {x2 : Int} {x3 : Int} (a0 : ((0 : Int) ≤ x0)) (a1 : (x0 ≤ (33 : Int))) (a2 : ((0 : Int) ≤ x1)) (a3 : (¬ ((24 : Int) ≤ x1))) (a4 : (x2 = ((24 : Int) * x0))) (a5 : (x3 = (x2 + x1))) : (((0 : Int) ≤ x3) ∧ (x3 < (((816 : Nat) : Nat) : Int))) := by omega
theorem omg_1de40a3955 {x0 : Int} {x1 : Nat} {x2 : Int} (a0 : ((Int.toNat ((24 : Int) - x0)) < (x1 + (1 : Nat)))) (a1 : (¬ ((24 : Int) ≤ x0))) (a2 : (x2 = (x0 + (1 : Int)))) : ((Int.toNat ((24 : Int) - x2)) < x1) := by omega
theorem omg_e44c1a8172 {x0 : Int} {x1 : Int} {x2 : Int} (a0 : ((((24 : Int) * x0) + x1) = (((24 : Int) * x0) + x2))) : (x1 = x2) := by omega
theorem d_Mod_compare_0 : decode prog_12_method_8_code 0 = .ok (.bipush 17, 2) := by decide +kernel
theorem d_Mod_compare_2 : decode prog_12_method_8_code 2 = .ok (.iload_n 1, 1) := by decide +kernel
theorem d_Mod_compare_3 : decode prog_12_method_8_code 3 = .ok (.imul, 1) := by decide +kernel
theorem d_Mod_compare_4 : decode prog_12_method_8_code 4 = .ok (.iload_n 2, 1) := by decide +kernel
theorem d_Mod_compare_5 : decode prog_12_method_8_code 5 = .ok (.iadd, 1) := by decide +kernel
theorem d_Mod_compare_6 : decode prog_12_method_8_code 6 = .ok (.istore_n 3, 1) := by decide +kernel
theorem d_Mod_compare_7 : decode prog_12_method_8_code 7 = .ok (.iconst 0, 1) := by decide +kernel
theorem d_Mod_compare_8 : decode prog_12_method_8_code 8 = .ok (.istore 4, 2) := by decide +kernel
theorem d_Mod_compare_10 : decode prog_12_method_8_code 10 = .ok (.iload 4, 2) := by decide +kernel
theorem d_Mod_compare_12 : decode prog_12_method_8_code 12 = .ok (.aload_n 0, 1) := by decide +kernel
theorem d_Mod_compare_13 : decode prog_12_method_8_code 13 = .ok (.getfield 41, 3) := by decide +kernel
theorem k_1158 : (Jvm.Cond.fieldLink "PackageBookModel" (41 : Nat) "PackageBookModel" "nameSize" "[I") ∈ uW := uW_c4 81 rfl (by decide +kernel)
theorem d_Mod_compare_16 : decode prog_12_method_8_code 16 = .ok (.iload_n 3, 1) := by decide +kernel
theorem d_Mod_compare_17 : decode prog_12_method_8_code 17 = .ok (.iaload, 1) := by decide +kernel
theorem d_Mod_compare_18 : decode prog_12_method_8_code 18 = .ok (.if_icmp .ge 48, 3) := by decide +kernel
theorem d_Mod_compare_66 : decode prog_12_method_8_code 66 = .ok (.aload_n 0, 1) := by decide +kernel
theorem d_Mod_compare_67 : decode prog_12_method_8_code 67 = .ok (.getfield 41, 3) := by decide +kernel
theorem d_Mod_compare_70 : decode prog_12_method_8_code 70 = .ok (.iload_n 3, 1) := by decide +kernel
theorem d_Mod_compare_71 : decode prog_12_method_8_code 71 = .ok (.iaload, 1) := by decide +kernel
theorem d_Mod_compare_72 : decode prog_12_method_8_code 72 = .ok (.aload_n 0, 1) := by decide +kernel
theorem d_Mod_compare_73 : decode prog_12_method_8_code 73 = .ok (.getfield 114, 3) := by decide +kernel
theorem d_Mod_compare_76 : decode prog_12_method_8_code 76 = .ok (.isub, 1) := by decide +kernel
theorem d_Mod_compare_77 : decode prog_12_method_8_code 77 = .ok (.ireturn, 1) := by decide +kernel
theorem d_Mod_compare_21 : decode prog_12_method_8_code 21 = .ok (.iload 4, 2) := by decide +kernel
theorem d_Mod_compare_23 : decode prog_12_method_8_code 23 = .ok (.aload_n 0, 1) := by decide +kernel
theorem d_Mod_compare_24 : decode prog_12_method_8_code 24 = .ok (.getfield 114, 3) := by decide +kernel
theorem d_Mod_compare_27 : decode prog_12_method_8_code 27 = .ok (.if_icmp .ge 39, 3) := by decide +kernel
theorem d_Mod_compare_30 : decode prog_12_method_8_code 30 = .ok (.aload_n 0, 1) := by decide +kernel
theorem d_Mod_compare_31 : decode prog_12_method_8_code 31 = .ok (.getfield 44, 3) := by decide +kernel
theorem k_1159 : (Jvm.Cond.fieldLink "PackageBookModel" (44 : Nat) "PackageBookModel" "names" "[B") ∈ uW := uW_c4 82 rfl (by decide +kernel)
theorem d_Mod_compare_34 : decode prog_12_method_8_code 34 = .ok (.bipush 24, 2) := by decide +kernel
theorem d_Mod_compare_36 : decode prog_12_method_8_code 36 = .ok (.iload_n 3, 1) := by decide +kernel
theorem d_Mod_compare_37 : decode prog_12_method_8_code 37 = .ok (.imul, 1) := by decide +kernel
theorem d_Mod_compare_38 : decode prog_12_method_8_code 38 = .ok (.iload 4, 2) := by decide +kernel
theorem d_Mod_compare_40 : decode prog_12_method_8_code 40 = .ok (.iadd, 1) := by decide +kernel
theorem d_Mod_compare_41 : decode prog_12_method_8_code 41 = .ok (.baload, 1) := by decide +kernel
theorem d_Mod_compare_42 : decode prog_12_method_8_code 42 = .ok (.aload_n 0, 1) := by decide +kernel
theorem d_Mod_compare_43 : decode prog_12_method_8_code 43 = .ok (.getfield 54, 3) := by decide +kernel
theorem d_Mod_compare_46 : decode prog_12_method_8_code 46 = .ok (.iload 4, 2) := by decide +kernel
theorem d_Mod_compare_48 : decode prog_12_method_8_code 48 = .ok (.baload, 1) := by decide +kernel
theorem d_Mod_compare_49 : decode prog_12_method_8_code 49 = .ok (.isub, 1) := by decide +kernel
theorem d_Mod_compare_50 : decode prog_12_method_8_code 50 = .ok (.istore 5, 2) := by decide +kernel
theorem d_Mod_compare_52 : decode prog_12_method_8_code 52 = .ok (.iload 5, 2) := by decide +kernel
theorem d_Mod_compare_54 : decode prog_12_method_8_code 54 = .ok (.ifCond .eq 6, 3) := by decide +kernel
theorem d_Mod_compare_60 : decode prog_12_method_8_code 60 = .ok (.iinc 4 1, 3) := by decide +kernel
theorem d_Mod_compare_63 : decode prog_12_method_8_code 63 = .ok (.goto (-53), 3) := by decide +kernel
theorem d_Mod_compare_57 : decode prog_12_method_8_code 57 = .ok (.iload 5, 2) := by decide +kernel
theorem d_Mod_compare_59 : decode prog_12_method_8_code 59 = .ok (.ireturn, 1) := by decide +kernel
abbrev y_Mod_compare : MethodName := ⟨"PackageBookModel", "compare", "(II)I"⟩
abbrev i_Mod_compare : pb_I := (y_Mod_compare, prog_12_method_8_code, 6, (some Jvm.ClassFile.FieldType.int), [], { frames := 0, cells := 0, slots := 0, locals := 0 })
set_option maxRecDepth 100000 in
set_option maxHeartbeats 4000000 in
theorem g_Mod_compare {l : Launch} (hl : l.stackTraces = false) (G : pb_G) (h : Nat) (m_rels : Nat) (m_openRels : Nat) (m_closeRels : Nat) (m_openRel : Nat) (m_closeRel : Nat) (m_comment : Nat) (m_ends : Nat) (m_order : Nat) (m_tape : Nat) (m_count : Nat) (m_nameSize : Nat) (m_names : Nat) (m_size : Nat) (m_data : Nat) (m_looked : Nat) (m_file : Nat) (m_directory : Nat) (m_out : Nat) (m_row : Nat) (m_made : Nat) (m_length : Nat) (m_pressed : Nat) (m_mark : Nat) (m_idSize : Nat) (m_ids : Nat) (m_goalSize : Nat) (m_goals : Nat) (m_value : Nat) (m_faults : Nat) (m_reached : Nat) (v_thrown : Int32) (v_taped : Int32) (v_lookedSize : Int32) (v_fileSize : Int32) (v_directorySize : Int32) (v_outSize : Int32) (v_rowSize : Int32) (v_bitAt : Int32) (v_bitEnd : Int32) (v_why : Int32) (v_madeSize : Int32) (v_firstCount : Int32) (v_secondCount : Int32) (v_heldBits : Int32) (v_heldCount : Int32) (v_pressedSize : Int32) (v_at : Int32) (v_bad : Int32) (v_markSize : Int32) (v_relationCount : Int32) (v_valueSize : Int32) (v_faultCount : Int32) (a_nameSize : Nat → Int32) (a_names : Nat → Int32) (a_looked : Nat → Int32) (st : Int32) (i : Int32) (s0 : 0 ≤ st.toInt) (s1 : st.toInt ≤ 1) (i0 : 0 ≤ i.toInt) (i1 : i.toInt ≤ 16) (z0 : 0 ≤ gx a_nameSize (17 * st.toInt + i.toInt)) (z1 : gx a_nameSize (17 * st.toInt + i.toInt) ≤ 24) (l0 : 0 ≤ v_lookedSize.toInt) (l1 : v_lookedSize.toInt ≤ 1000000) (F_a_names : sb_Fit a_names) (F_a_looked : sb_Fit a_looked) : Cn l G i_Mod_compare [.ref h, .int st, .int i] [(h, .inr (10, [.ref m_rels, .ref m_openRels, .ref m_closeRels, .ref m_openRel, .ref m_closeRel, .ref m_comment, .ref m_ends, .ref m_order, .int v_thrown, .int v_taped, .ref m_tape, .ref m_count, .ref m_nameSize, .ref m_names, .ref m_size, .ref m_data, .int v_lookedSize, .ref m_looked, .int v_fileSize, .ref m_file, .int v_directorySize, .ref m_directory, .int v_outSize, .ref m_out, .int v_rowSize, .ref m_row, .int v_bitAt, .int v_bitEnd, .int v_why, .int v_madeSize, .ref m_made, .ref m_length, .int v_firstCount, .int v_secondCount, .int v_heldBits, .int v_heldCount, .int v_pressedSize, .ref m_pressed, .int v_at, .int v_bad, .int v_markSize, .ref m_mark, .int v_relationCount, .ref m_idSize, .ref m_ids, .ref m_goalSize, .ref m_goals, .int v_valueSize, .ref m_value, .int v_faultCount, .ref m_faults, .ref m_reached])), (m_nameSize, .inl (G.2.2.1, 34, .inl a_nameSize)), (m_names, .inl (G.2.1, 816, .inl a_names)), (m_looked, .inl (G.2.1, 40, .inl a_looked))] (S := Int32) (fun rv_ u => rv_ = some (.int u) ∧ (u.toInt = 0 ↔ nl_eq a_nameSize a_names ((17 * st.toInt + i.toInt)) v_lookedSize.toInt a_looked) ∧ (0 < u.toInt → lx_ (gx a_looked) v_lookedSize.toInt (fun k => gx a_names (24 * (17 * st.toInt + i.toInt) + k)) (gx a_nameSize (17 * st.toInt + i.toInt))) ∧ (u.toInt ≤ 0 → ¬ lx_ (gx a_looked) v_lookedSize.toInt (fun k => gx a_names (24 * (17 * st.toInt + i.toInt) + k)) (gx a_nameSize (17 * st.toInt + i.toInt)))) (fun u => [(h, .inr (10, [.ref m_rels, .ref m_openRels, .ref m_closeRels, .ref m_openRel, .ref m_closeRel, .ref m_comment, .ref m_ends, .ref m_order, .int v_thrown, .int v_taped, .ref m_tape, .ref m_count, .ref m_nameSize, .ref m_names, .ref m_size, .ref m_data, .int v_lookedSize, .ref m_looked, .int v_fileSize, .ref m_file, .int v_directorySize, .ref m_directory, .int v_outSize, .ref m_out, .int v_rowSize, .ref m_row, .int v_bitAt, .int v_bitEnd, .int v_why, .int v_madeSize, .ref m_made, .ref m_length, .int v_firstCount, .int v_secondCount, .int v_heldBits, .int v_heldCount, .int v_pressedSize, .ref m_pressed, .int v_at, .int v_bad, .int v_markSize, .ref m_mark, .int v_relationCount, .ref m_idSize, .ref m_ids, .ref m_goalSize, .ref m_goals, .int v_valueSize, .ref m_value, .int v_faultCount, .ref m_faults, .ref m_reached])), (m_nameSize, .inl (G.2.2.1, 34, .inl a_nameSize)), (m_names, .inl (G.2.1, 816, .inl a_names)), (m_looked, .inl (G.2.1, 40, .inl a_looked))]) := by
  refine Cn.of hl (by decide +kernel) rfl (Nat.le_of_ble_eq_true rfl) (fun M hQ => ?_)
  refine pb_eq (pc' := 0) (lo' := [(0, .ref h), (1, .int st), (2, .int i)]) (rest' := []) (ws' := [(h, .inr (10, [.ref m_rels, .ref m_openRels, .ref m_closeRels, .ref m_openRel, .ref m_closeRel, .ref m_comment, .ref m_ends, .ref m_order, .int v_thrown, .int v_taped, .ref m_tape, .ref m_count, .ref m_nameSize, .ref m_names, .ref m_size, .ref m_data, .int v_lookedSize, .ref m_looked, .int v_fileSize, .ref m_file, .int v_directorySize, .ref m_directory, .int v_outSize, .ref m_out, .int v_rowSize, .ref m_row, .int v_bitAt, .int v_bitEnd, .int v_why, .int v_madeSize, .ref m_made, .ref m_length, .int v_firstCount, .int v_secondCount, .int v_heldBits, .int v_heldCount, .int v_pressedSize, .ref m_pressed, .int v_at, .int v_bad, .int v_markSize, .ref m_mark, .int v_relationCount, .ref m_idSize, .ref m_ids, .ref m_goalSize, .ref m_goals, .int v_valueSize, .ref m_value, .int v_faultCount, .ref m_faults, .ref m_reached])), (m_nameSize, .inl (G.2.2.1, 34, .inl a_nameSize)), (m_names, .inl (G.2.1, 816, .inl a_names)), (m_looked, .inl (G.2.1, 40, .inl a_looked))]) ?_
  have zl0 : (0 : Int32).toInt = 0 := by decide
  have zl1 : (1 : Int32).toInt = 1 := by decide
  have zl17 : (17 : Int32).toInt = 17 := by decide
  have zl24 : (24 : Int32).toInt = 24 := by decide
  refine pb_bipush (pc := 0) (v := 17) d_Mod_compare_0 (by decide) ?_
  refine pb_iload_n (pc := 2) d_Mod_compare_2 1 rfl rfl ?_
  refine pb_imul (pc := 3) d_Mod_compare_3 ?_
  refine pb_topi (fun i1 ei1 => ?_)
  try have ti1 : i1.toInt = 17 * st.toInt := ti_mul ei1 (by decide) rfl (by omega) (by omega)
  refine pb_iload_n (pc := 4) d_Mod_compare_4 2 rfl rfl ?_
  refine pb_iadd (pc := 5) d_Mod_compare_5 ?_
  refine pb_topi (fun i2 ei2 => ?_)
  try have ti2 : i2.toInt = i1.toInt + i.toInt := t2_add ei2 rfl rfl (by omega)
  refine pb_istore_n (pc := 6) (lo' := [(3, .int i2), (0, .ref h), (1, .int st), (2, .int i)]) d_Mod_compare_6 rfl (by decide) rfl ?_
  refine pb_iconst (pc := 7) (v := 0) d_Mod_compare_7 (by decide) ?_
  refine pb_istore (pc := 8) (lo' := [(4, .int 0), (3, .int i2), (0, .ref h), (1, .int st), (2, .int i)]) d_Mod_compare_8 (by decide) rfl ?_
  have hL10_3 : ∀ (N9 : Nat) (k : Int32) (p : Int32), (0 ≤ k.toInt) → (p.toInt = (17 * st.toInt + i.toInt)) → (k.toInt ≤ gx a_nameSize (17 * st.toInt + i.toInt)) → (k.toInt ≤ v_lookedSize.toInt) → (∀ j : Int, 0 ≤ j → j < k.toInt → gx a_names (24 * (17 * st.toInt + i.toInt) + j) = gx a_looked j) → ((gx a_nameSize (17 * st.toInt + i.toInt) - k.toInt).toNat) < N9 → pb_P l G M i_Mod_compare 10 [(4, .int k), (3, .int p), (0, .ref h), (1, .int st), (2, .int i)] [] [(h, .inr (10, [.ref m_rels, .ref m_openRels, .ref m_closeRels, .ref m_openRel, .ref m_closeRel, .ref m_comment, .ref m_ends, .ref m_order, .int v_thrown, .int v_taped, .ref m_tape, .ref m_count, .ref m_nameSize, .ref m_names, .ref m_size, .ref m_data, .int v_lookedSize, .ref m_looked, .int v_fileSize, .ref m_file, .int v_directorySize, .ref m_directory, .int v_outSize, .ref m_out, .int v_rowSize, .ref m_row, .int v_bitAt, .int v_bitEnd, .int v_why, .int v_madeSize, .ref m_made, .ref m_length, .int v_firstCount, .int v_secondCount, .int v_heldBits, .int v_heldCount, .int v_pressedSize, .ref m_pressed, .int v_at, .int v_bad, .int v_markSize, .ref m_mark, .int v_relationCount, .ref m_idSize, .ref m_ids, .ref m_goalSize, .ref m_goals, .int v_valueSize, .ref m_value, .int v_faultCount, .ref m_faults, .ref m_reached])), (m_nameSize, .inl (G.2.2.1, 34, .inl a_nameSize)), (m_names, .inl (G.2.1, 816, .inl a_names)), (m_looked, .inl (G.2.1, 40, .inl a_looked))] 0 0 := by
    intro N9
    induction N9 with
    | zero => intro k p k0 kp k1 k2 hall hm9; exact absurd hm9 (Nat.not_lt_zero _)
    | succ N9 ih10 =>
      intro k p k0 kp k1 k2 hall hm9
      refine pb_iload (pc := 10) d_Mod_compare_10 0 rfl ?_
      refine pb_aload_n (pc := 12) d_Mod_compare_12 2 rfl rfl ?_
      refine pb_get (pc := 13) d_Mod_compare_13 0 12 rfl rfl (by decide) in_Mod k_1158 rfl ?_
      refine pb_iload_n (pc := 16) d_Mod_compare_16 1 rfl rfl ?_
      refine pb_iald (pc := 17) d_Mod_compare_17 1 rfl (vp_in_iff.mpr (by omega)) ?_
      refine pb_topi (fun i4 ei4 => ?_)
      have ti4 : i4.toInt = gx a_nameSize ((17 * st.toInt + i.toInt)) := gx_ld ei4 (by omega)
      refine pb_icmp_ge (pc := 18) (tgt := 66) d_Mod_compare_18 (by decide) (fun w5 => ?_) (fun w5 => ?_)
      · have tw5 : i4.toInt ≤ k.toInt := (ti_le rfl rfl).mp w5
        refine pb_aload_n (pc := 66) d_Mod_compare_66 2 rfl rfl ?_
        refine pb_get (pc := 67) d_Mod_compare_67 0 12 rfl rfl (by decide) in_Mod k_1158 rfl ?_
        refine pb_iload_n (pc := 70) d_Mod_compare_70 1 rfl rfl ?_
        refine pb_iald (pc := 71) d_Mod_compare_71 1 rfl (vp_in_iff.mpr (by omega)) ?_
        refine pb_topi (fun i6 ei6 => ?_)
        have ti6 : i6.toInt = gx a_nameSize ((17 * st.toInt + i.toInt)) := gx_ld ei6 (by omega)
        refine pb_aload_n (pc := 72) d_Mod_compare_72 2 rfl rfl ?_
        refine pb_get (pc := 73) d_Mod_compare_73 0 16 rfl rfl (by decide) in_Mod k_1162 rfl ?_
        refine pb_isub (pc := 76) d_Mod_compare_76 ?_
        refine pb_topi (fun i7 ei7 => ?_)
        try have ti7 : i7.toInt = i6.toInt - v_lookedSize.toInt := t2_sub ei7 rfl rfl (by (first | exact omg_18df2b675c z0 z1 l0 l1 ti6 | omega))
        exact pb_iret (pc := 77) hQ d_Mod_compare_77 rfl rfl (i7) ⟨rfl, (show i7.toInt = 0 ↔ nl_eq a_nameSize a_names ((17 * st.toInt + i.toInt)) v_lookedSize.toInt a_looked from ⟨fun h9 => ⟨by omega, fun j j0 j1 => hall j j0 (by omega)⟩, fun h9 => by have q9 := h9.1; omega⟩), (show 0 < i7.toInt → lx_ (gx a_looked) v_lookedSize.toInt (fun k => gx a_names (24 * (17 * st.toInt + i.toInt) + k)) (gx a_nameSize (17 * st.toInt + i.toInt)) from (fun q9 => lx_e1 k0 (fun j h0 h1 => (hall j h0 h1).symm) (by omega) (by omega) (by omega) (by omega))), (show i7.toInt ≤ 0 → ¬ lx_ (gx a_looked) v_lookedSize.toInt (fun k => gx a_names (24 * (17 * st.toInt + i.toInt) + k)) (gx a_nameSize (17 * st.toInt + i.toInt)) from (fun q9 => lx_e0 k0 (fun j h0 h1 => (hall j h0 h1).symm) (by omega) (by omega) (by omega) (by omega)))⟩ [0, 1, 2, 3] (by decide) rfl rfl (by decide) (by decide)
      · have tw5 : ¬ i4.toInt ≤ k.toInt := fun z9 => w5 ((ti_le rfl rfl).mpr z9)
        refine pb_iload (pc := 21) d_Mod_compare_21 0 rfl ?_
        refine pb_aload_n (pc := 23) d_Mod_compare_23 2 rfl rfl ?_
        refine pb_get (pc := 24) d_Mod_compare_24 0 16 rfl rfl (by decide) in_Mod k_1162 rfl ?_
        refine pb_icmp_ge (pc := 27) (tgt := 66) d_Mod_compare_27 (by decide) (fun w8 => ?_) (fun w8 => ?_)
        · have tw8 : v_lookedSize.toInt ≤ k.toInt := (ti_le rfl rfl).mp w8
          refine pb_aload_n (pc := 66) d_Mod_compare_66 2 rfl rfl ?_
          refine pb_get (pc := 67) d_Mod_compare_67 0 12 rfl rfl (by decide) in_Mod k_1158 rfl ?_
          refine pb_iload_n (pc := 70) d_Mod_compare_70 1 rfl rfl ?_
          refine pb_iald (pc := 71) d_Mod_compare_71 1 rfl (vp_in_iff.mpr (by omega)) ?_
          refine pb_topi (fun i9 ei9 => ?_)
          have ti9 : i9.toInt = gx a_nameSize ((17 * st.toInt + i.toInt)) := gx_ld ei9 (by omega)
          refine pb_aload_n (pc := 72) d_Mod_compare_72 2 rfl rfl ?_
          refine pb_get (pc := 73) d_Mod_compare_73 0 16 rfl rfl (by decide) in_Mod k_1162 rfl ?_
          refine pb_isub (pc := 76) d_Mod_compare_76 ?_
          refine pb_topi (fun i10 ei10 => ?_)
          try have ti10 : i10.toInt = i9.toInt - v_lookedSize.toInt := t2_sub ei10 rfl rfl (by (first | exact omg_18df2b675c z0 z1 l0 l1 ti9 | omega))
          exact pb_iret (pc := 77) hQ d_Mod_compare_77 rfl rfl (i10) ⟨rfl, (show i10.toInt = 0 ↔ nl_eq a_nameSize a_names ((17 * st.toInt + i.toInt)) v_lookedSize.toInt a_looked from ⟨fun h9 => ⟨by omega, fun j j0 j1 => hall j j0 (by omega)⟩, fun h9 => by have q9 := h9.1; omega⟩), (show 0 < i10.toInt → lx_ (gx a_looked) v_lookedSize.toInt (fun k => gx a_names (24 * (17 * st.toInt + i.toInt) + k)) (gx a_nameSize (17 * st.toInt + i.toInt)) from (fun q9 => lx_e1 k0 (fun j h0 h1 => (hall j h0 h1).symm) (by omega) (by omega) (by omega) (by omega))), (show i10.toInt ≤ 0 → ¬ lx_ (gx a_looked) v_lookedSize.toInt (fun k => gx a_names (24 * (17 * st.toInt + i.toInt) + k)) (gx a_nameSize (17 * st.toInt + i.toInt)) from (fun q9 => lx_e0 k0 (fun j h0 h1 => (hall j h0 h1).symm) (by omega) (by omega) (by omega) (by omega)))⟩ [0, 1, 2, 3] (by decide) rfl rfl (by decide) (by decide)
        · have tw8 : ¬ v_lookedSize.toInt ≤ k.toInt := fun z9 => w8 ((ti_le rfl rfl).mpr z9)
          refine pb_aload_n (pc := 30) d_Mod_compare_30 2 rfl rfl ?_
          refine pb_get (pc := 31) d_Mod_compare_31 0 13 rfl rfl (by decide) in_Mod k_1159 rfl ?_
          refine pb_bipush (pc := 34) (v := 24) d_Mod_compare_34 (by decide) ?_
          refine pb_iload_n (pc := 36) d_Mod_compare_36 1 rfl rfl ?_
          refine pb_imul (pc := 37) d_Mod_compare_37 ?_
          refine pb_topi (fun i11 ei11 => ?_)
          try have ti11 : i11.toInt = 24 * p.toInt := ti_mul ei11 (by decide) rfl (by omega) (by omega)
          refine pb_iload (pc := 38) d_Mod_compare_38 0 rfl ?_
          refine pb_iadd (pc := 40) d_Mod_compare_40 ?_
          refine pb_topi (fun i12 ei12 => ?_)
          try have ti12 : i12.toInt = i11.toInt + k.toInt := t2_add ei12 rfl rfl (by omega)
          refine pb_bald (pc := 41) d_Mod_compare_41 2 rfl (vp_in_iff.mpr (by omega)) ?_
          refine pb_topi (fun i13 ei13 => ?_)
          have xi13 : i13 = gr a_names (24 * (17 * st.toInt + i.toInt) + k.toInt) := gr_ld ei13 (by omega)
          have yi13 : i13.toInt = gx a_names (24 * (17 * st.toInt + i.toInt) + k.toInt) := congrArg Int32.toInt xi13
          have ti13 : -128 ≤ i13.toInt ∧ i13.toInt ≤ 127 := ti_fit (F_a_names _) ei13
          refine pb_aload_n (pc := 42) d_Mod_compare_42 2 rfl rfl ?_
          refine pb_get (pc := 43) d_Mod_compare_43 0 17 rfl rfl (by decide) in_Mod k_1163 rfl ?_
          refine pb_iload (pc := 46) d_Mod_compare_46 0 rfl ?_
          refine pb_bald (pc := 48) d_Mod_compare_48 3 rfl (vp_in_iff.mpr (by omega)) ?_
          refine pb_topi (fun i14 ei14 => ?_)
          have xi14 : i14 = gr a_looked (k.toInt) := gr_ld ei14 (by omega)
          have yi14 : i14.toInt = gx a_looked (k.toInt) := congrArg Int32.toInt xi14
          have ti14 : -128 ≤ i14.toInt ∧ i14.toInt ≤ 127 := ti_fit (F_a_looked _) ei14
          refine pb_isub (pc := 49) d_Mod_compare_49 ?_
          refine pb_topi (fun i15 ei15 => ?_)
          try have ti15 : i15.toInt = i13.toInt - i14.toInt := t2_sub ei15 rfl rfl (by omega)
          refine pb_istore (pc := 50) (lo' := [(5, .int i15), (4, .int k), (3, .int p), (0, .ref h), (1, .int st), (2, .int i)]) d_Mod_compare_50 (by decide) rfl ?_
          refine pb_iload (pc := 52) d_Mod_compare_52 0 rfl ?_
          refine pb_if_eq (pc := 54) (tgt := 60) d_Mod_compare_54 (by decide) (fun w16 => ?_) (fun w16 => ?_)
          · have tw16 : i15.toInt = 0 := (ti_eq rfl (by decide)).mp w16
            refine pb_iincN (pc := 60) (c := 1) d_Mod_compare_60 1 rfl (by decide) (by decide) (fun i17 ei17 => ?_)
            have ti17 : i17.toInt = k.toInt + 1 := t2_add ei17 rfl (by decide) (by first | omega | (have r90 := ti_rng k; have r91 := ti_rng i17; have r92 := ti_rng i15; have r93 := ti_rng p; have r94 := ti_rng st; have r95 := ti_rng i; omega))
            refine pb_eq (pc' := 63) (lo' := [(4, .int i17), (5, .int i15), (3, .int p), (0, .ref h), (1, .int st), (2, .int i)]) (rest' := []) (ws' := [(h, .inr (10, [.ref m_rels, .ref m_openRels, .ref m_closeRels, .ref m_openRel, .ref m_closeRel, .ref m_comment, .ref m_ends, .ref m_order, .int v_thrown, .int v_taped, .ref m_tape, .ref m_count, .ref m_nameSize, .ref m_names, .ref m_size, .ref m_data, .int v_lookedSize, .ref m_looked, .int v_fileSize, .ref m_file, .int v_directorySize, .ref m_directory, .int v_outSize, .ref m_out, .int v_rowSize, .ref m_row, .int v_bitAt, .int v_bitEnd, .int v_why, .int v_madeSize, .ref m_made, .ref m_length, .int v_firstCount, .int v_secondCount, .int v_heldBits, .int v_heldCount, .int v_pressedSize, .ref m_pressed, .int v_at, .int v_bad, .int v_markSize, .ref m_mark, .int v_relationCount, .ref m_idSize, .ref m_ids, .ref m_goalSize, .ref m_goals, .int v_valueSize, .ref m_value, .int v_faultCount, .ref m_faults, .ref m_reached])), (m_nameSize, .inl (G.2.2.1, 34, .inl a_nameSize)), (m_names, .inl (G.2.1, 816, .inl a_names)), (m_looked, .inl (G.2.1, 40, .inl a_looked))]) ?_
            refine pb_goto (pc := 63) (tgt := 10) d_Mod_compare_63 (by decide) ?_
            refine pb_re (ws' := [(h, .inr (10, [.ref m_rels, .ref m_openRels, .ref m_closeRels, .ref m_openRel, .ref m_closeRel, .ref m_comment, .ref m_ends, .ref m_order, .int v_thrown, .int v_taped, .ref m_tape, .ref m_count, .ref m_nameSize, .ref m_names, .ref m_size, .ref m_data, .int v_lookedSize, .ref m_looked, .int v_fileSize, .ref m_file, .int v_directorySize, .ref m_directory, .int v_outSize, .ref m_out, .int v_rowSize, .ref m_row, .int v_bitAt, .int v_bitEnd, .int v_why, .int v_madeSize, .ref m_made, .ref m_length, .int v_firstCount, .int v_secondCount, .int v_heldBits, .int v_heldCount, .int v_pressedSize, .ref m_pressed, .int v_at, .int v_bad, .int v_markSize, .ref m_mark, .int v_relationCount, .ref m_idSize, .ref m_ids, .ref m_goalSize, .ref m_goals, .int v_valueSize, .ref m_value, .int v_faultCount, .ref m_faults, .ref m_reached])), (m_nameSize, .inl (G.2.2.1, 34, .inl a_nameSize)), (m_names, .inl (G.2.1, 816, .inl a_names)), (m_looked, .inl (G.2.1, 40, .inl a_looked))]) (lo' := [(4, .int i17), (3, .int p), (0, .ref h), (1, .int st), (2, .int i)]) [0, 1, 2, 3] [0, 2, 3, 4, 5] (by decide) rfl rfl rfl ?_
            exact ih10 i17 p (by first | (with_reducible assumption) | omega (splitDisjunctions := false) | assumption | omega | decide) (by first | (with_reducible assumption) | omega (splitDisjunctions := false) | assumption | omega | decide) (by first | (with_reducible assumption) | (first | exact omg_717929f615 ti4 tw5 ti17 | omega (splitDisjunctions := false)) | assumption | omega | decide) (by first | (with_reducible assumption) | omega (splitDisjunctions := false) | assumption | omega | decide) (fun j h0 h1 => if w : j < k.toInt then hall j h0 w else by rw [show j = k.toInt by (first | exact omg_e822e67b55 ti17 h1 w | omega)]; omega) (by (first | exact omg_b30a0bed9f hm9 ti4 tw5 ti17 | omega))
          · have tw16 : ¬ i15.toInt = 0 := fun z9 => w16 ((ti_eq rfl (by decide)).mpr z9)
            refine pb_iload (pc := 57) d_Mod_compare_57 0 rfl ?_
            exact pb_iret (pc := 59) hQ d_Mod_compare_59 rfl rfl (i15) ⟨rfl, (show i15.toInt = 0 ↔ nl_eq a_nameSize a_names ((17 * st.toInt + i.toInt)) v_lookedSize.toInt a_looked from ⟨fun h9 => absurd h9 (by omega), fun h9 => by have q9 := h9.2 k.toInt k0 (by omega); omega⟩), (show 0 < i15.toInt → lx_ (gx a_looked) v_lookedSize.toInt (fun k => gx a_names (24 * (17 * st.toInt + i.toInt) + k)) (gx a_nameSize (17 * st.toInt + i.toInt)) from (fun q9 => lx_lo k0 (fun j h0 h1 => (hall j h0 h1).symm) (by omega) (by omega) (by show gx a_looked k.toInt < gx a_names (24 * (17 * st.toInt + i.toInt) + k.toInt); omega))), (show i15.toInt ≤ 0 → ¬ lx_ (gx a_looked) v_lookedSize.toInt (fun k => gx a_names (24 * (17 * st.toInt + i.toInt) + k)) (gx a_nameSize (17 * st.toInt + i.toInt)) from (fun q9 => lx_hi k0 (fun j h0 h1 => (hall j h0 h1).symm) (by omega) (by omega) (by show gx a_names (24 * (17 * st.toInt + i.toInt) + k.toInt) < gx a_looked k.toInt; omega)))⟩ [0, 1, 2, 3] (by decide) rfl rfl (by decide) (by decide)
  exact hL10_3 _ 0 i2 (by first | (with_reducible assumption) | omega (splitDisjunctions := false) | assumption | omega | decide) (by first | (with_reducible assumption) | omega (splitDisjunctions := false) | assumption | omega | decide) (by first | (with_reducible assumption) | omega (splitDisjunctions := false) | assumption | omega | decide) (by first | (with_reducible assumption) | omega (splitDisjunctions := false) | assumption | omega | decide) (fun j h0 h1 => absurd h1 (by omega)) (Nat.lt_succ_self _)

theorem d_Mod_find_0 : decode prog_12_method_9_code 0 = .ok (.iconst (-1), 1) := by decide +kernel
theorem d_Mod_find_1 : decode prog_12_method_9_code 1 = .ok (.istore_n 2, 1) := by decide +kernel
theorem d_Mod_find_2 : decode prog_12_method_9_code 2 = .ok (.iconst 0, 1) := by decide +kernel
theorem d_Mod_find_3 : decode prog_12_method_9_code 3 = .ok (.istore_n 3, 1) := by decide +kernel
theorem d_Mod_find_4 : decode prog_12_method_9_code 4 = .ok (.iload_n 3, 1) := by decide +kernel
theorem d_Mod_find_5 : decode prog_12_method_9_code 5 = .ok (.aload_n 0, 1) := by decide +kernel
theorem d_Mod_find_6 : decode prog_12_method_9_code 6 = .ok (.getfield 37, 3) := by decide +kernel
theorem k_1157 : (Jvm.Cond.fieldLink "PackageBookModel" (37 : Nat) "PackageBookModel" "count" "[I") ∈ uW := uW_c4 80 rfl (by decide +kernel)
theorem d_Mod_find_9 : decode prog_12_method_9_code 9 = .ok (.iload_n 1, 1) := by decide +kernel
theorem d_Mod_find_10 : decode prog_12_method_9_code 10 = .ok (.iaload, 1) := by decide +kernel
theorem d_Mod_find_11 : decode prog_12_method_9_code 11 = .ok (.if_icmp .ge 33, 3) := by decide +kernel
theorem d_Mod_find_44 : decode prog_12_method_9_code 44 = .ok (.iload_n 2, 1) := by decide +kernel
theorem d_Mod_find_45 : decode prog_12_method_9_code 45 = .ok (.ireturn, 1) := by decide +kernel
theorem d_Mod_find_14 : decode prog_12_method_9_code 14 = .ok (.aload_n 0, 1) := by decide +kernel
theorem d_Mod_find_15 : decode prog_12_method_9_code 15 = .ok (.getfield 114, 3) := by decide +kernel
theorem d_Mod_find_18 : decode prog_12_method_9_code 18 = .ok (.bipush 24, 2) := by decide +kernel
theorem d_Mod_find_20 : decode prog_12_method_9_code 20 = .ok (.if_icmp .gt 24, 3) := by decide +kernel
theorem d_Mod_find_23 : decode prog_12_method_9_code 23 = .ok (.aload_n 0, 1) := by decide +kernel
theorem d_Mod_find_24 : decode prog_12_method_9_code 24 = .ok (.iload_n 1, 1) := by decide +kernel
theorem d_Mod_find_25 : decode prog_12_method_9_code 25 = .ok (.iload_n 3, 1) := by decide +kernel
theorem d_Mod_find_26 : decode prog_12_method_9_code 26 = .ok (.invokevirtual 117, 3) := by decide +kernel
theorem k_1334 : (Jvm.Cond.methodLink "PackageBookModel" (117 : Nat) ({ cls := "PackageBookModel", name := "compare", desc := "(II)I" } : Jvm.MethodName)) ∈ uW := uW_c5 17 rfl (by decide +kernel)
theorem k_1337 : (Jvm.Cond.code ({ cls := "PackageBookModel", name := "compare", desc := "(II)I" } : Jvm.MethodName) prog_12_method_8_code (6 : Nat) (Option.some Jvm.ClassFile.FieldType.int)) ∈ uW := uW_c5 20 rfl (by decide +kernel)
theorem k_1336 : (Jvm.Cond.instanceMethod ({ cls := "PackageBookModel", name := "compare", desc := "(II)I" } : Jvm.MethodName)) ∈ uW := uW_c5 19 rfl (by decide +kernel)
theorem k_56 : Cond.selects "PackageBookModel" ⟨"PackageBookModel", "compare", "(II)I"⟩ ⟨"PackageBookModel", "compare", "(II)I"⟩ ∈ uW := uW_of 56 (by decide +kernel) (by decide +kernel)
theorem hy_Mod_compare : (y_Mod_compare).cls ≠ "java/lang/invoke/MethodHandle" ∧ (y_Mod_compare).cls ≠ "java/lang/invoke/VarHandle" ∧ (parseMethodDescriptor (y_Mod_compare).desc).map (fun d => d.parameters.length) = some 2 := by decide +kernel
theorem d_Mod_find_29 : decode prog_12_method_9_code 29 = .ok (.ifCond .ne 7, 3) := by decide +kernel
theorem d_Mod_find_36 : decode prog_12_method_9_code 36 = .ok (.iload_n 2, 1) := by decide +kernel
theorem d_Mod_find_37 : decode prog_12_method_9_code 37 = .ok (.istore_n 2, 1) := by decide +kernel
theorem d_Mod_find_38 : decode prog_12_method_9_code 38 = .ok (.iinc 3 1, 3) := by decide +kernel
theorem d_Mod_find_41 : decode prog_12_method_9_code 41 = .ok (.goto (-37), 3) := by decide +kernel
theorem d_Mod_find_32 : decode prog_12_method_9_code 32 = .ok (.iload_n 3, 1) := by decide +kernel
theorem d_Mod_find_33 : decode prog_12_method_9_code 33 = .ok (.goto 4, 3) := by decide +kernel
abbrev y_Mod_find : MethodName := ⟨"PackageBookModel", "find", "(I)I"⟩
abbrev i_Mod_find : pb_I := (y_Mod_find, prog_12_method_9_code, 4, (some Jvm.ClassFile.FieldType.int), [], { frames := 1, cells := 0, slots := 0, locals := 25 })
set_option maxRecDepth 100000 in
set_option maxHeartbeats 4000000 in
theorem g_Mod_find {l : Launch} (hl : l.stackTraces = false) (G : pb_G) (h : Nat) (m_rels : Nat) (m_openRels : Nat) (m_closeRels : Nat) (m_openRel : Nat) (m_closeRel : Nat) (m_comment : Nat) (m_ends : Nat) (m_order : Nat) (m_tape : Nat) (m_count : Nat) (m_nameSize : Nat) (m_names : Nat) (m_size : Nat) (m_data : Nat) (m_looked : Nat) (m_file : Nat) (m_directory : Nat) (m_out : Nat) (m_row : Nat) (m_made : Nat) (m_length : Nat) (m_pressed : Nat) (m_mark : Nat) (m_idSize : Nat) (m_ids : Nat) (m_goalSize : Nat) (m_goals : Nat) (m_value : Nat) (m_faults : Nat) (m_reached : Nat) (v_thrown : Int32) (v_taped : Int32) (v_lookedSize : Int32) (v_fileSize : Int32) (v_directorySize : Int32) (v_outSize : Int32) (v_rowSize : Int32) (v_bitAt : Int32) (v_bitEnd : Int32) (v_why : Int32) (v_madeSize : Int32) (v_firstCount : Int32) (v_secondCount : Int32) (v_heldBits : Int32) (v_heldCount : Int32) (v_pressedSize : Int32) (v_at : Int32) (v_bad : Int32) (v_markSize : Int32) (v_relationCount : Int32) (v_valueSize : Int32) (v_faultCount : Int32) (a_count : Nat → Int32) (a_nameSize : Nat → Int32) (a_names : Nat → Int32) (a_looked : Nat → Int32) (st : Int32) (s0 : 0 ≤ st.toInt) (s1 : st.toInt ≤ 1) (I : ∀ i : Int, 0 ≤ i → i < gx a_count st.toInt → 1 ≤ gx a_nameSize (17 * st.toInt + i) ∧ gx a_nameSize (17 * st.toInt + i) ≤ 24) (c0 : 0 ≤ gx a_count st.toInt) (c1 : gx a_count st.toInt ≤ 16) (l0 : 0 ≤ v_lookedSize.toInt) (l1 : v_lookedSize.toInt ≤ 1000000) (F_a_names : sb_Fit a_names) (F_a_looked : sb_Fit a_looked) : Cn l G i_Mod_find [.ref h, .int st] [(h, .inr (10, [.ref m_rels, .ref m_openRels, .ref m_closeRels, .ref m_openRel, .ref m_closeRel, .ref m_comment, .ref m_ends, .ref m_order, .int v_thrown, .int v_taped, .ref m_tape, .ref m_count, .ref m_nameSize, .ref m_names, .ref m_size, .ref m_data, .int v_lookedSize, .ref m_looked, .int v_fileSize, .ref m_file, .int v_directorySize, .ref m_directory, .int v_outSize, .ref m_out, .int v_rowSize, .ref m_row, .int v_bitAt, .int v_bitEnd, .int v_why, .int v_madeSize, .ref m_made, .ref m_length, .int v_firstCount, .int v_secondCount, .int v_heldBits, .int v_heldCount, .int v_pressedSize, .ref m_pressed, .int v_at, .int v_bad, .int v_markSize, .ref m_mark, .int v_relationCount, .ref m_idSize, .ref m_ids, .ref m_goalSize, .ref m_goals, .int v_valueSize, .ref m_value, .int v_faultCount, .ref m_faults, .ref m_reached])), (m_count, .inl (G.2.2.1, 2, .inl a_count)), (m_nameSize, .inl (G.2.2.1, 34, .inl a_nameSize)), (m_names, .inl (G.2.1, 816, .inl a_names)), (m_looked, .inl (G.2.1, 40, .inl a_looked))] (S := Int32) (fun rv_ u => rv_ = some (.int u) ∧ (-1 ≤ u.toInt) ∧ (u.toInt < gx a_count st.toInt) ∧ (0 ≤ u.toInt → nl_eq a_nameSize a_names ((17 * st.toInt + u.toInt)) v_lookedSize.toInt a_looked) ∧ (u.toInt = -1 → ∀ i : Int, 0 ≤ i → i < gx a_count st.toInt → ¬ nl_eq a_nameSize a_names (17 * st.toInt + i) v_lookedSize.toInt a_looked)) (fun u => [(h, .inr (10, [.ref m_rels, .ref m_openRels, .ref m_closeRels, .ref m_openRel, .ref m_closeRel, .ref m_comment, .ref m_ends, .ref m_order, .int v_thrown, .int v_taped, .ref m_tape, .ref m_count, .ref m_nameSize, .ref m_names, .ref m_size, .ref m_data, .int v_lookedSize, .ref m_looked, .int v_fileSize, .ref m_file, .int v_directorySize, .ref m_directory, .int v_outSize, .ref m_out, .int v_rowSize, .ref m_row, .int v_bitAt, .int v_bitEnd, .int v_why, .int v_madeSize, .ref m_made, .ref m_length, .int v_firstCount, .int v_secondCount, .int v_heldBits, .int v_heldCount, .int v_pressedSize, .ref m_pressed, .int v_at, .int v_bad, .int v_markSize, .ref m_mark, .int v_relationCount, .ref m_idSize, .ref m_ids, .ref m_goalSize, .ref m_goals, .int v_valueSize, .ref m_value, .int v_faultCount, .ref m_faults, .ref m_reached])), (m_count, .inl (G.2.2.1, 2, .inl a_count)), (m_nameSize, .inl (G.2.2.1, 34, .inl a_nameSize)), (m_names, .inl (G.2.1, 816, .inl a_names)), (m_looked, .inl (G.2.1, 40, .inl a_looked))]) := by
  refine Cn.of hl (by decide +kernel) rfl (Nat.le_of_ble_eq_true rfl) (fun M hQ => ?_)
  refine pb_eq (pc' := 0) (lo' := [(0, .ref h), (1, .int st)]) (rest' := []) (ws' := [(h, .inr (10, [.ref m_rels, .ref m_openRels, .ref m_closeRels, .ref m_openRel, .ref m_closeRel, .ref m_comment, .ref m_ends, .ref m_order, .int v_thrown, .int v_taped, .ref m_tape, .ref m_count, .ref m_nameSize, .ref m_names, .ref m_size, .ref m_data, .int v_lookedSize, .ref m_looked, .int v_fileSize, .ref m_file, .int v_directorySize, .ref m_directory, .int v_outSize, .ref m_out, .int v_rowSize, .ref m_row, .int v_bitAt, .int v_bitEnd, .int v_why, .int v_madeSize, .ref m_made, .ref m_length, .int v_firstCount, .int v_secondCount, .int v_heldBits, .int v_heldCount, .int v_pressedSize, .ref m_pressed, .int v_at, .int v_bad, .int v_markSize, .ref m_mark, .int v_relationCount, .ref m_idSize, .ref m_ids, .ref m_goalSize, .ref m_goals, .int v_valueSize, .ref m_value, .int v_faultCount, .ref m_faults, .ref m_reached])), (m_count, .inl (G.2.2.1, 2, .inl a_count)), (m_nameSize, .inl (G.2.2.1, 34, .inl a_nameSize)), (m_names, .inl (G.2.1, 816, .inl a_names)), (m_looked, .inl (G.2.1, 40, .inl a_looked))]) ?_
  have zm1 : ((-1) : Int32).toInt = (-1) := by decide
  have zl0 : (0 : Int32).toInt = 0 := by decide
  have zl1 : (1 : Int32).toInt = 1 := by decide
  refine pb_iconst (pc := 0) (v := (-1)) d_Mod_find_0 (by decide) ?_
  refine pb_istore_n (pc := 1) (lo' := [(2, .int (-1)), (0, .ref h), (1, .int st)]) d_Mod_find_1 rfl (by decide) rfl ?_
  refine pb_iconst (pc := 2) (v := 0) d_Mod_find_2 (by decide) ?_
  refine pb_istore_n (pc := 3) (lo' := [(3, .int 0), (2, .int (-1)), (0, .ref h), (1, .int st)]) d_Mod_find_3 rfl (by decide) rfl ?_
  have hL4_1 : ∀ (N9 : Nat) (fo : Int32) (i : Int32), (0 ≤ i.toInt) → (i.toInt ≤ gx a_count st.toInt) → (-1 ≤ fo.toInt) → (fo.toInt < i.toInt) → (0 ≤ fo.toInt → nl_eq a_nameSize a_names ((17 * st.toInt + fo.toInt)) v_lookedSize.toInt a_looked) → (fo.toInt = -1 → ∀ j : Int, 0 ≤ j → j < i.toInt → ¬ nl_eq a_nameSize a_names (17 * st.toInt + j) v_lookedSize.toInt a_looked) → ((gx a_count st.toInt - i.toInt).toNat) < N9 → pb_P l G M i_Mod_find 4 [(2, .int fo), (3, .int i), (0, .ref h), (1, .int st)] [] [(h, .inr (10, [.ref m_rels, .ref m_openRels, .ref m_closeRels, .ref m_openRel, .ref m_closeRel, .ref m_comment, .ref m_ends, .ref m_order, .int v_thrown, .int v_taped, .ref m_tape, .ref m_count, .ref m_nameSize, .ref m_names, .ref m_size, .ref m_data, .int v_lookedSize, .ref m_looked, .int v_fileSize, .ref m_file, .int v_directorySize, .ref m_directory, .int v_outSize, .ref m_out, .int v_rowSize, .ref m_row, .int v_bitAt, .int v_bitEnd, .int v_why, .int v_madeSize, .ref m_made, .ref m_length, .int v_firstCount, .int v_secondCount, .int v_heldBits, .int v_heldCount, .int v_pressedSize, .ref m_pressed, .int v_at, .int v_bad, .int v_markSize, .ref m_mark, .int v_relationCount, .ref m_idSize, .ref m_ids, .ref m_goalSize, .ref m_goals, .int v_valueSize, .ref m_value, .int v_faultCount, .ref m_faults, .ref m_reached])), (m_count, .inl (G.2.2.1, 2, .inl a_count)), (m_nameSize, .inl (G.2.2.1, 34, .inl a_nameSize)), (m_names, .inl (G.2.1, 816, .inl a_names)), (m_looked, .inl (G.2.1, 40, .inl a_looked))] 0 0 := by
    intro N9
    induction N9 with
    | zero => intro fo i i0 i1 f0 f1 heq hno hm9; exact absurd hm9 (Nat.not_lt_zero _)
    | succ N9 ih4 =>
      intro fo i i0 i1 f0 f1 heq hno hm9
      refine pb_iload_n (pc := 4) d_Mod_find_4 1 rfl rfl ?_
      refine pb_aload_n (pc := 5) d_Mod_find_5 2 rfl rfl ?_
      refine pb_get (pc := 6) d_Mod_find_6 0 11 rfl rfl (by decide) in_Mod k_1157 rfl ?_
      refine pb_iload_n (pc := 9) d_Mod_find_9 3 rfl rfl ?_
      refine pb_iald (pc := 10) d_Mod_find_10 1 rfl (vp_in_iff.mpr (by omega)) ?_
      refine pb_topi (fun i2 ei2 => ?_)
      have ti2 : i2.toInt = gx a_count (st.toInt) := gx_ld ei2 rfl
      refine pb_icmp_ge (pc := 11) (tgt := 44) d_Mod_find_11 (by decide) (fun w3 => ?_) (fun w3 => ?_)
      · have tw3 : i2.toInt ≤ i.toInt := (ti_le rfl rfl).mp w3
        refine pb_iload_n (pc := 44) d_Mod_find_44 0 rfl rfl ?_
        exact pb_iret (pc := 45) hQ d_Mod_find_45 rfl rfl (fo) ⟨rfl, (by (try dsimp only); first | done | (with_reducible assumption) | omega (splitDisjunctions := false) | assumption | (clear heq hno hm9; first | omega (splitDisjunctions := false) | omega) | omega | decide), (by (try dsimp only); first | done | (with_reducible assumption) | omega (splitDisjunctions := false) | assumption | (clear heq hno hm9; first | omega (splitDisjunctions := false) | omega) | omega | decide), heq, (show fo.toInt = -1 → ∀ i : Int, 0 ≤ i → i < gx a_count st.toInt → ¬ nl_eq a_nameSize a_names (17 * st.toInt + i) v_lookedSize.toInt a_looked from (by first | exact fun h9 j j0 j1 => hno h9 j j0 (by omega) | exact fun h9 j j0 j1 hn => by have q1 := (I j j0 j1).2; have q2 := hn.1; omega))⟩ [0, 1, 2, 3, 4] (by decide) rfl rfl (by decide) (by decide)
      · have tw3 : ¬ i2.toInt ≤ i.toInt := fun z9 => w3 ((ti_le rfl rfl).mpr z9)
        refine pb_aload_n (pc := 14) d_Mod_find_14 2 rfl rfl ?_
        refine pb_get (pc := 15) d_Mod_find_15 0 16 rfl rfl (by decide) in_Mod k_1162 rfl ?_
        refine pb_bipush (pc := 18) (v := 24) d_Mod_find_18 (by decide) ?_
        refine pb_icmp_gt (pc := 20) (tgt := 44) d_Mod_find_20 (by decide) (fun w4 => ?_) (fun w4 => ?_)
        · have tw4 : 24 < v_lookedSize.toInt := (ti_lt (by decide) rfl).mp w4
          refine pb_iload_n (pc := 44) d_Mod_find_44 0 rfl rfl ?_
          exact pb_iret (pc := 45) hQ d_Mod_find_45 rfl rfl (fo) ⟨rfl, (by (try dsimp only); first | done | (with_reducible assumption) | omega (splitDisjunctions := false) | assumption | (clear heq hno hm9; first | omega (splitDisjunctions := false) | omega) | omega | decide), (by (try dsimp only); first | done | (with_reducible assumption) | omega (splitDisjunctions := false) | assumption | (clear heq hno hm9; first | omega (splitDisjunctions := false) | omega) | omega | decide), heq, (show fo.toInt = -1 → ∀ i : Int, 0 ≤ i → i < gx a_count st.toInt → ¬ nl_eq a_nameSize a_names (17 * st.toInt + i) v_lookedSize.toInt a_looked from (by first | exact fun h9 j j0 j1 => hno h9 j j0 (by omega) | exact fun h9 j j0 j1 hn => by have q1 := (I j j0 j1).2; have q2 := hn.1; omega))⟩ [0, 1, 2, 3, 4] (by decide) rfl rfl (by decide) (by decide)
        · have tw4 : ¬ 24 < v_lookedSize.toInt := fun z9 => w4 ((ti_lt (by decide) rfl).mpr z9)
          have q5 := I i.toInt i0 (by omega)
          refine pb_aload_n (pc := 23) d_Mod_find_23 2 rfl rfl ?_
          refine pb_iload_n (pc := 24) d_Mod_find_24 3 rfl rfl ?_
          refine pb_iload_n (pc := 25) d_Mod_find_25 1 rfl rfl ?_
          refine pb_callV (pc := 26) (I := i_Mod_find) (qb := 0) (ci := 10) (nA := 2) (rest := []) (wr := [(m_count, .inl (G.2.2.1, 2, .inl a_count))]) d_Mod_find_26 (g_Mod_compare hl G h m_rels m_openRels m_closeRels m_openRel m_closeRel m_comment m_ends m_order m_tape m_count m_nameSize m_names m_size m_data m_looked m_file m_directory m_out m_row m_made m_length m_pressed m_mark m_idSize m_ids m_goalSize m_goals m_value m_faults m_reached v_thrown v_taped v_lookedSize v_fileSize v_directorySize v_outSize v_rowSize v_bitAt v_bitEnd v_why v_madeSize v_firstCount v_secondCount v_heldBits v_heldCount v_pressedSize v_at v_bad v_markSize v_relationCount v_valueSize v_faultCount a_nameSize a_names a_looked st i (by first | (with_reducible assumption) | omega (splitDisjunctions := false) | assumption | (clear heq hno hm9; first | omega (splitDisjunctions := false) | omega) | omega | decide) (by first | (with_reducible assumption) | omega (splitDisjunctions := false) | assumption | (clear heq hno hm9; first | omega (splitDisjunctions := false) | omega) | omega | decide) (by first | (with_reducible assumption) | omega (splitDisjunctions := false) | assumption | (clear heq hno hm9; first | omega (splitDisjunctions := false) | omega) | omega | decide) (by first | (with_reducible assumption) | omega (splitDisjunctions := false) | assumption | (clear heq hno hm9; first | omega (splitDisjunctions := false) | omega) | omega | decide) (by first | (with_reducible assumption) | omega (splitDisjunctions := false) | assumption | (clear heq hno hm9; first | omega (splitDisjunctions := false) | omega) | omega | decide) (by first | (with_reducible assumption) | omega (splitDisjunctions := false) | assumption | (clear heq hno hm9; first | omega (splitDisjunctions := false) | omega) | omega | decide) (by first | (with_reducible assumption) | omega (splitDisjunctions := false) | assumption | (clear heq hno hm9; first | omega (splitDisjunctions := false) | omega) | omega | decide) (by first | (with_reducible assumption) | omega (splitDisjunctions := false) | assumption | (clear heq hno hm9; first | omega (splitDisjunctions := false) | omega) | omega | decide) F_a_names F_a_looked) rfl rfl [0, 2, 3, 4] [1] (by decide) rfl rfl rfl (by decide) (by decide) k_1337 rfl k_128 k_1334 k_1336 k_56 ⟨rfl, hy_Mod_compare⟩ (by decide) rfl rfl (Nat.le_of_ble_eq_true rfl) (by decide) (fun v9 u6 ch5 => ?_)
          obtain ⟨r_7, rfl⟩ : ∃ z9, z9 = u6 := ⟨_, rfl⟩
          obtain ⟨ech5, ch5⟩ := ch5
          have ech5 : v9 = some (.int r_7) := ech5
          subst ech5
          obtain ⟨fh8, fh9, fh10⟩ : (r_7.toInt = 0 ↔ nl_eq a_nameSize a_names ((17 * st.toInt + i.toInt)) v_lookedSize.toInt a_looked) ∧ (0 < r_7.toInt → lx_ (gx a_looked) v_lookedSize.toInt (fun k => gx a_names (24 * (17 * st.toInt + i.toInt) + k)) (gx a_nameSize (17 * st.toInt + i.toInt))) ∧ (r_7.toInt ≤ 0 → ¬ lx_ (gx a_looked) v_lookedSize.toInt (fun k => gx a_names (24 * (17 * st.toInt + i.toInt) + k)) (gx a_nameSize (17 * st.toInt + i.toInt))) := ch5
          have cm := fh8
          refine pb_eq (pc' := 29) (lo' := [(2, .int fo), (3, .int i), (0, .ref h), (1, .int st)]) (rest' := [.int r_7]) (ws' := [(m_count, .inl (G.2.2.1, 2, .inl a_count)), (h, .inr (10, [.ref m_rels, .ref m_openRels, .ref m_closeRels, .ref m_openRel, .ref m_closeRel, .ref m_comment, .ref m_ends, .ref m_order, .int v_thrown, .int v_taped, .ref m_tape, .ref m_count, .ref m_nameSize, .ref m_names, .ref m_size, .ref m_data, .int v_lookedSize, .ref m_looked, .int v_fileSize, .ref m_file, .int v_directorySize, .ref m_directory, .int v_outSize, .ref m_out, .int v_rowSize, .ref m_row, .int v_bitAt, .int v_bitEnd, .int v_why, .int v_madeSize, .ref m_made, .ref m_length, .int v_firstCount, .int v_secondCount, .int v_heldBits, .int v_heldCount, .int v_pressedSize, .ref m_pressed, .int v_at, .int v_bad, .int v_markSize, .ref m_mark, .int v_relationCount, .ref m_idSize, .ref m_ids, .ref m_goalSize, .ref m_goals, .int v_valueSize, .ref m_value, .int v_faultCount, .ref m_faults, .ref m_reached])), (m_nameSize, .inl (G.2.2.1, 34, .inl a_nameSize)), (m_names, .inl (G.2.1, 816, .inl a_names)), (m_looked, .inl (G.2.1, 40, .inl a_looked))]) ?_
          refine pb_if_ne (pc := 29) (tgt := 36) d_Mod_find_29 (by decide) (fun w11 => ?_) (fun w11 => ?_)
          · have tw11 : ¬ r_7.toInt = 0 := fun z9 => w11 ((ti_eq rfl (by decide)).mpr z9)
            refine pb_iload_n (pc := 36) d_Mod_find_36 0 rfl rfl ?_
            refine pb_istore_n (pc := 37) (lo' := [(2, .int fo), (3, .int i), (0, .ref h), (1, .int st)]) d_Mod_find_37 rfl (by decide) rfl ?_
            refine pb_iincN (pc := 38) (c := 1) d_Mod_find_38 1 rfl (by decide) (by decide) (fun i12 ei12 => ?_)
            have ti12 : i12.toInt = i.toInt + 1 := t2_add ei12 rfl (by decide) (by first | omega | (have r90 := ti_rng i; have r91 := ti_rng i12; have r92 := ti_rng fo; have r93 := ti_rng st; omega))
            refine pb_eq (pc' := 41) (lo' := [(3, .int i12), (2, .int fo), (0, .ref h), (1, .int st)]) (rest' := []) (ws' := [(m_count, .inl (G.2.2.1, 2, .inl a_count)), (h, .inr (10, [.ref m_rels, .ref m_openRels, .ref m_closeRels, .ref m_openRel, .ref m_closeRel, .ref m_comment, .ref m_ends, .ref m_order, .int v_thrown, .int v_taped, .ref m_tape, .ref m_count, .ref m_nameSize, .ref m_names, .ref m_size, .ref m_data, .int v_lookedSize, .ref m_looked, .int v_fileSize, .ref m_file, .int v_directorySize, .ref m_directory, .int v_outSize, .ref m_out, .int v_rowSize, .ref m_row, .int v_bitAt, .int v_bitEnd, .int v_why, .int v_madeSize, .ref m_made, .ref m_length, .int v_firstCount, .int v_secondCount, .int v_heldBits, .int v_heldCount, .int v_pressedSize, .ref m_pressed, .int v_at, .int v_bad, .int v_markSize, .ref m_mark, .int v_relationCount, .ref m_idSize, .ref m_ids, .ref m_goalSize, .ref m_goals, .int v_valueSize, .ref m_value, .int v_faultCount, .ref m_faults, .ref m_reached])), (m_nameSize, .inl (G.2.2.1, 34, .inl a_nameSize)), (m_names, .inl (G.2.1, 816, .inl a_names)), (m_looked, .inl (G.2.1, 40, .inl a_looked))]) ?_
            refine pb_goto (pc := 41) (tgt := 4) d_Mod_find_41 (by decide) ?_
            refine pb_re (ws' := [(h, .inr (10, [.ref m_rels, .ref m_openRels, .ref m_closeRels, .ref m_openRel, .ref m_closeRel, .ref m_comment, .ref m_ends, .ref m_order, .int v_thrown, .int v_taped, .ref m_tape, .ref m_count, .ref m_nameSize, .ref m_names, .ref m_size, .ref m_data, .int v_lookedSize, .ref m_looked, .int v_fileSize, .ref m_file, .int v_directorySize, .ref m_directory, .int v_outSize, .ref m_out, .int v_rowSize, .ref m_row, .int v_bitAt, .int v_bitEnd, .int v_why, .int v_madeSize, .ref m_made, .ref m_length, .int v_firstCount, .int v_secondCount, .int v_heldBits, .int v_heldCount, .int v_pressedSize, .ref m_pressed, .int v_at, .int v_bad, .int v_markSize, .ref m_mark, .int v_relationCount, .ref m_idSize, .ref m_ids, .ref m_goalSize, .ref m_goals, .int v_valueSize, .ref m_value, .int v_faultCount, .ref m_faults, .ref m_reached])), (m_count, .inl (G.2.2.1, 2, .inl a_count)), (m_nameSize, .inl (G.2.2.1, 34, .inl a_nameSize)), (m_names, .inl (G.2.1, 816, .inl a_names)), (m_looked, .inl (G.2.1, 40, .inl a_looked))]) (lo' := [(2, .int fo), (3, .int i12), (0, .ref h), (1, .int st)]) [1, 0, 2, 3, 4] [1, 0, 2, 3] (by decide) rfl rfl rfl ?_
            exact ih4 fo i12 (by first | (with_reducible assumption) | omega (splitDisjunctions := false) | assumption | (clear heq hno fh9 fh10 hm9; first | omega (splitDisjunctions := false) | omega) | omega | decide) (by first | (with_reducible assumption) | omega (splitDisjunctions := false) | assumption | (clear heq hno fh9 fh10 hm9; first | omega (splitDisjunctions := false) | omega) | omega | decide) (by first | (with_reducible assumption) | omega (splitDisjunctions := false) | assumption | (clear heq hno fh9 fh10 hm9; first | omega (splitDisjunctions := false) | omega) | omega | decide) (by first | (with_reducible assumption) | omega (splitDisjunctions := false) | assumption | (clear heq hno fh9 fh10 hm9; first | omega (splitDisjunctions := false) | omega) | omega | decide) (by first | exact heq | exact fun _ => cm.mp (by omega)) (by first | exact fun h9 => absurd h9 (by omega) | exact fun h9 j j0 j1 => if w : j < i.toInt then hno h9 j j0 w else by rw [show j = i.toInt by omega]; exact fun q => absurd (cm.mpr q) (by omega)) (by first | (clear heq hno fh9 fh10; (first | exact omg_b30a0bed9f hm9 ti2 tw3 ti12 | omega)) | omega)
          · have tw11 : r_7.toInt = 0 := (ti_eq rfl (by decide)).mp w11
            refine pb_iload_n (pc := 32) d_Mod_find_32 1 rfl rfl ?_
            refine pb_goto (pc := 33) (tgt := 37) d_Mod_find_33 (by decide) ?_
            refine pb_istore_n (pc := 37) (lo' := [(2, .int i), (3, .int i), (0, .ref h), (1, .int st)]) d_Mod_find_37 rfl (by decide) rfl ?_
            refine pb_iincN (pc := 38) (c := 1) d_Mod_find_38 1 rfl (by decide) (by decide) (fun i13 ei13 => ?_)
            have ti13 : i13.toInt = i.toInt + 1 := t2_add ei13 rfl (by decide) (by first | omega | (have r90 := ti_rng i; have r91 := ti_rng i13; have r92 := ti_rng st; omega))
            refine pb_eq (pc' := 41) (lo' := [(3, .int i13), (2, .int i), (0, .ref h), (1, .int st)]) (rest' := []) (ws' := [(m_count, .inl (G.2.2.1, 2, .inl a_count)), (h, .inr (10, [.ref m_rels, .ref m_openRels, .ref m_closeRels, .ref m_openRel, .ref m_closeRel, .ref m_comment, .ref m_ends, .ref m_order, .int v_thrown, .int v_taped, .ref m_tape, .ref m_count, .ref m_nameSize, .ref m_names, .ref m_size, .ref m_data, .int v_lookedSize, .ref m_looked, .int v_fileSize, .ref m_file, .int v_directorySize, .ref m_directory, .int v_outSize, .ref m_out, .int v_rowSize, .ref m_row, .int v_bitAt, .int v_bitEnd, .int v_why, .int v_madeSize, .ref m_made, .ref m_length, .int v_firstCount, .int v_secondCount, .int v_heldBits, .int v_heldCount, .int v_pressedSize, .ref m_pressed, .int v_at, .int v_bad, .int v_markSize, .ref m_mark, .int v_relationCount, .ref m_idSize, .ref m_ids, .ref m_goalSize, .ref m_goals, .int v_valueSize, .ref m_value, .int v_faultCount, .ref m_faults, .ref m_reached])), (m_nameSize, .inl (G.2.2.1, 34, .inl a_nameSize)), (m_names, .inl (G.2.1, 816, .inl a_names)), (m_looked, .inl (G.2.1, 40, .inl a_looked))]) ?_
            refine pb_goto (pc := 41) (tgt := 4) d_Mod_find_41 (by decide) ?_
            refine pb_re (ws' := [(h, .inr (10, [.ref m_rels, .ref m_openRels, .ref m_closeRels, .ref m_openRel, .ref m_closeRel, .ref m_comment, .ref m_ends, .ref m_order, .int v_thrown, .int v_taped, .ref m_tape, .ref m_count, .ref m_nameSize, .ref m_names, .ref m_size, .ref m_data, .int v_lookedSize, .ref m_looked, .int v_fileSize, .ref m_file, .int v_directorySize, .ref m_directory, .int v_outSize, .ref m_out, .int v_rowSize, .ref m_row, .int v_bitAt, .int v_bitEnd, .int v_why, .int v_madeSize, .ref m_made, .ref m_length, .int v_firstCount, .int v_secondCount, .int v_heldBits, .int v_heldCount, .int v_pressedSize, .ref m_pressed, .int v_at, .int v_bad, .int v_markSize, .ref m_mark, .int v_relationCount, .ref m_idSize, .ref m_ids, .ref m_goalSize, .ref m_goals, .int v_valueSize, .ref m_value, .int v_faultCount, .ref m_faults, .ref m_reached])), (m_count, .inl (G.2.2.1, 2, .inl a_count)), (m_nameSize, .inl (G.2.2.1, 34, .inl a_nameSize)), (m_names, .inl (G.2.1, 816, .inl a_names)), (m_looked, .inl (G.2.1, 40, .inl a_looked))]) (lo' := [(2, .int i), (3, .int i13), (0, .ref h), (1, .int st)]) [1, 0, 2, 3, 4] [1, 0, 2, 3] (by decide) rfl rfl rfl ?_
            exact ih4 i i13 (by first | (with_reducible assumption) | omega (splitDisjunctions := false) | assumption | (clear heq hno fh9 fh10 hm9; first | omega (splitDisjunctions := false) | omega) | omega | decide) (by first | (with_reducible assumption) | omega (splitDisjunctions := false) | assumption | (clear heq hno fh9 fh10 hm9; first | omega (splitDisjunctions := false) | omega) | omega | decide) (by first | (with_reducible assumption) | omega (splitDisjunctions := false) | assumption | (clear heq hno fh9 fh10 hm9; first | omega (splitDisjunctions := false) | omega) | omega | decide) (by first | (with_reducible assumption) | omega (splitDisjunctions := false) | assumption | (clear heq hno fh9 fh10 hm9; first | omega (splitDisjunctions := false) | omega) | omega | decide) (by first | exact heq | exact fun _ => cm.mp (by omega)) (by first | exact fun h9 => absurd h9 (by omega) | exact fun h9 j j0 j1 => if w : j < i.toInt then hno h9 j j0 w else by rw [show j = i.toInt by omega]; exact fun q => absurd (cm.mpr q) (by omega)) (by first | (clear heq hno fh9 fh10; (first | exact omg_b30a0bed9f hm9 ti2 tw3 ti13 | omega)) | omega)
  refine pb_re (ws' := [(h, .inr (10, [.ref m_rels, .ref m_openRels, .ref m_closeRels, .ref m_openRel, .ref m_closeRel, .ref m_comment, .ref m_ends, .ref m_order, .int v_thrown, .int v_taped, .ref m_tape, .ref m_count, .ref m_nameSize, .ref m_names, .ref m_size, .ref m_data, .int v_lookedSize, .ref m_looked, .int v_fileSize, .ref m_file, .int v_directorySize, .ref m_directory, .int v_outSize, .ref m_out, .int v_rowSize, .ref m_row, .int v_bitAt, .int v_bitEnd, .int v_why, .int v_madeSize, .ref m_made, .ref m_length, .int v_firstCount, .int v_secondCount, .int v_heldBits, .int v_heldCount, .int v_pressedSize, .ref m_pressed, .int v_at, .int v_bad, .int v_markSize, .ref m_mark, .int v_relationCount, .ref m_idSize, .ref m_ids, .ref m_goalSize, .ref m_goals, .int v_valueSize, .ref m_value, .int v_faultCount, .ref m_faults, .ref m_reached])), (m_count, .inl (G.2.2.1, 2, .inl a_count)), (m_nameSize, .inl (G.2.2.1, 34, .inl a_nameSize)), (m_names, .inl (G.2.1, 816, .inl a_names)), (m_looked, .inl (G.2.1, 40, .inl a_looked))]) (lo' := [(2, .int (-1)), (3, .int 0), (0, .ref h), (1, .int st)]) [0, 1, 2, 3, 4] [1, 0, 2, 3] (by decide) rfl rfl rfl ?_
  exact hL4_1 _ (-1) 0 (by first | (with_reducible assumption) | omega (splitDisjunctions := false) | assumption | omega | decide) (by first | (with_reducible assumption) | omega (splitDisjunctions := false) | assumption | omega | decide) (by first | (with_reducible assumption) | omega (splitDisjunctions := false) | assumption | omega | decide) (by first | (with_reducible assumption) | omega (splitDisjunctions := false) | assumption | omega | decide) (fun h9 => absurd h9 (by omega)) (fun h9 j h0 h1 => absurd h1 (by omega)) (Nat.lt_succ_self _)

theorem d_Mod_allBytes_0 : decode prog_12_method_10_code 0 = .ok (.iconst 0, 1) := by decide +kernel
theorem d_Mod_allBytes_1 : decode prog_12_method_10_code 1 = .ok (.istore_n 2, 1) := by decide +kernel
theorem d_Mod_allBytes_2 : decode prog_12_method_10_code 2 = .ok (.iconst 0, 1) := by decide +kernel
theorem d_Mod_allBytes_3 : decode prog_12_method_10_code 3 = .ok (.istore_n 3, 1) := by decide +kernel
theorem d_Mod_allBytes_4 : decode prog_12_method_10_code 4 = .ok (.iload_n 3, 1) := by decide +kernel
theorem d_Mod_allBytes_5 : decode prog_12_method_10_code 5 = .ok (.aload_n 0, 1) := by decide +kernel
theorem d_Mod_allBytes_6 : decode prog_12_method_10_code 6 = .ok (.getfield 37, 3) := by decide +kernel
theorem d_Mod_allBytes_9 : decode prog_12_method_10_code 9 = .ok (.iload_n 1, 1) := by decide +kernel
theorem d_Mod_allBytes_10 : decode prog_12_method_10_code 10 = .ok (.iaload, 1) := by decide +kernel
theorem d_Mod_allBytes_11 : decode prog_12_method_10_code 11 = .ok (.if_icmp .ge 23, 3) := by decide +kernel
theorem d_Mod_allBytes_34 : decode prog_12_method_10_code 34 = .ok (.iload_n 2, 1) := by decide +kernel
theorem d_Mod_allBytes_35 : decode prog_12_method_10_code 35 = .ok (.ireturn, 1) := by decide +kernel
theorem d_Mod_allBytes_14 : decode prog_12_method_10_code 14 = .ok (.iload_n 2, 1) := by decide +kernel
theorem d_Mod_allBytes_15 : decode prog_12_method_10_code 15 = .ok (.aload_n 0, 1) := by decide +kernel
theorem d_Mod_allBytes_16 : decode prog_12_method_10_code 16 = .ok (.getfield 47, 3) := by decide +kernel
theorem k_1160 : (Jvm.Cond.fieldLink "PackageBookModel" (47 : Nat) "PackageBookModel" "size" "[I") ∈ uW := uW_c4 83 rfl (by decide +kernel)
theorem d_Mod_allBytes_19 : decode prog_12_method_10_code 19 = .ok (.bipush 17, 2) := by decide +kernel
theorem d_Mod_allBytes_21 : decode prog_12_method_10_code 21 = .ok (.iload_n 1, 1) := by decide +kernel
theorem d_Mod_allBytes_22 : decode prog_12_method_10_code 22 = .ok (.imul, 1) := by decide +kernel
theorem d_Mod_allBytes_23 : decode prog_12_method_10_code 23 = .ok (.iload_n 3, 1) := by decide +kernel
theorem d_Mod_allBytes_24 : decode prog_12_method_10_code 24 = .ok (.iadd, 1) := by decide +kernel
theorem d_Mod_allBytes_25 : decode prog_12_method_10_code 25 = .ok (.iaload, 1) := by decide +kernel
theorem d_Mod_allBytes_26 : decode prog_12_method_10_code 26 = .ok (.iadd, 1) := by decide +kernel
theorem d_Mod_allBytes_27 : decode prog_12_method_10_code 27 = .ok (.istore_n 2, 1) := by decide +kernel
theorem d_Mod_allBytes_28 : decode prog_12_method_10_code 28 = .ok (.iinc 3 1, 3) := by decide +kernel
theorem d_Mod_allBytes_31 : decode prog_12_method_10_code 31 = .ok (.goto (-27), 3) := by decide +kernel
abbrev y_Mod_allBytes : MethodName := ⟨"PackageBookModel", "allBytes", "(I)I"⟩
abbrev i_Mod_allBytes : pb_I := (y_Mod_allBytes, prog_12_method_10_code, 4, (some Jvm.ClassFile.FieldType.int), [], { frames := 0, cells := 0, slots := 0, locals := 0 })
set_option maxRecDepth 100000 in
set_option maxHeartbeats 4000000 in
theorem g_Mod_allBytes {l : Launch} (hl : l.stackTraces = false) (G : pb_G) (h : Nat) (m_rels : Nat) (m_openRels : Nat) (m_closeRels : Nat) (m_openRel : Nat) (m_closeRel : Nat) (m_comment : Nat) (m_ends : Nat) (m_order : Nat) (m_tape : Nat) (m_count : Nat) (m_nameSize : Nat) (m_names : Nat) (m_size : Nat) (m_data : Nat) (m_looked : Nat) (m_file : Nat) (m_directory : Nat) (m_out : Nat) (m_row : Nat) (m_made : Nat) (m_length : Nat) (m_pressed : Nat) (m_mark : Nat) (m_idSize : Nat) (m_ids : Nat) (m_goalSize : Nat) (m_goals : Nat) (m_value : Nat) (m_faults : Nat) (m_reached : Nat) (v_thrown : Int32) (v_taped : Int32) (v_lookedSize : Int32) (v_fileSize : Int32) (v_directorySize : Int32) (v_outSize : Int32) (v_rowSize : Int32) (v_bitAt : Int32) (v_bitEnd : Int32) (v_why : Int32) (v_madeSize : Int32) (v_firstCount : Int32) (v_secondCount : Int32) (v_heldBits : Int32) (v_heldCount : Int32) (v_pressedSize : Int32) (v_at : Int32) (v_bad : Int32) (v_markSize : Int32) (v_relationCount : Int32) (v_valueSize : Int32) (v_faultCount : Int32) (a_count : Nat → Int32) (a_size : Nat → Int32) (st : Int32) (s0 : 0 ≤ st.toInt) (s1 : st.toInt ≤ 1) (I : ∀ i : Int, 0 ≤ i → i < gx a_count st.toInt → 0 ≤ gx a_size (17 * st.toInt + i) ∧ gx a_size (17 * st.toInt + i) ≤ 4000) (c0 : 0 ≤ gx a_count st.toInt) (c1 : gx a_count st.toInt ≤ 16) : Cn l G i_Mod_allBytes [.ref h, .int st] [(h, .inr (10, [.ref m_rels, .ref m_openRels, .ref m_closeRels, .ref m_openRel, .ref m_closeRel, .ref m_comment, .ref m_ends, .ref m_order, .int v_thrown, .int v_taped, .ref m_tape, .ref m_count, .ref m_nameSize, .ref m_names, .ref m_size, .ref m_data, .int v_lookedSize, .ref m_looked, .int v_fileSize, .ref m_file, .int v_directorySize, .ref m_directory, .int v_outSize, .ref m_out, .int v_rowSize, .ref m_row, .int v_bitAt, .int v_bitEnd, .int v_why, .int v_madeSize, .ref m_made, .ref m_length, .int v_firstCount, .int v_secondCount, .int v_heldBits, .int v_heldCount, .int v_pressedSize, .ref m_pressed, .int v_at, .int v_bad, .int v_markSize, .ref m_mark, .int v_relationCount, .ref m_idSize, .ref m_ids, .ref m_goalSize, .ref m_goals, .int v_valueSize, .ref m_value, .int v_faultCount, .ref m_faults, .ref m_reached])), (m_count, .inl (G.2.2.1, 2, .inl a_count)), (m_size, .inl (G.2.2.1, 34, .inl a_size))] (S := Int32) (fun rv_ u => rv_ = some (.int u) ∧ (u.toInt = sm a_size (17 * st.toInt) (gx a_count st.toInt).toNat) ∧ (0 ≤ u.toInt) ∧ (u.toInt ≤ 64000)) (fun u => [(h, .inr (10, [.ref m_rels, .ref m_openRels, .ref m_closeRels, .ref m_openRel, .ref m_closeRel, .ref m_comment, .ref m_ends, .ref m_order, .int v_thrown, .int v_taped, .ref m_tape, .ref m_count, .ref m_nameSize, .ref m_names, .ref m_size, .ref m_data, .int v_lookedSize, .ref m_looked, .int v_fileSize, .ref m_file, .int v_directorySize, .ref m_directory, .int v_outSize, .ref m_out, .int v_rowSize, .ref m_row, .int v_bitAt, .int v_bitEnd, .int v_why, .int v_madeSize, .ref m_made, .ref m_length, .int v_firstCount, .int v_secondCount, .int v_heldBits, .int v_heldCount, .int v_pressedSize, .ref m_pressed, .int v_at, .int v_bad, .int v_markSize, .ref m_mark, .int v_relationCount, .ref m_idSize, .ref m_ids, .ref m_goalSize, .ref m_goals, .int v_valueSize, .ref m_value, .int v_faultCount, .ref m_faults, .ref m_reached])), (m_count, .inl (G.2.2.1, 2, .inl a_count)), (m_size, .inl (G.2.2.1, 34, .inl a_size))]) := by
  refine Cn.of hl (by decide +kernel) rfl (Nat.le_of_ble_eq_true rfl) (fun M hQ => ?_)
  refine pb_eq (pc' := 0) (lo' := [(0, .ref h), (1, .int st)]) (rest' := []) (ws' := [(h, .inr (10, [.ref m_rels, .ref m_openRels, .ref m_closeRels, .ref m_openRel, .ref m_closeRel, .ref m_comment, .ref m_ends, .ref m_order, .int v_thrown, .int v_taped, .ref m_tape, .ref m_count, .ref m_nameSize, .ref m_names, .ref m_size, .ref m_data, .int v_lookedSize, .ref m_looked, .int v_fileSize, .ref m_file, .int v_directorySize, .ref m_directory, .int v_outSize, .ref m_out, .int v_rowSize, .ref m_row, .int v_bitAt, .int v_bitEnd, .int v_why, .int v_madeSize, .ref m_made, .ref m_length, .int v_firstCount, .int v_secondCount, .int v_heldBits, .int v_heldCount, .int v_pressedSize, .ref m_pressed, .int v_at, .int v_bad, .int v_markSize, .ref m_mark, .int v_relationCount, .ref m_idSize, .ref m_ids, .ref m_goalSize, .ref m_goals, .int v_valueSize, .ref m_value, .int v_faultCount, .ref m_faults, .ref m_reached])), (m_count, .inl (G.2.2.1, 2, .inl a_count)), (m_size, .inl (G.2.2.1, 34, .inl a_size))]) ?_
  have zl0 : (0 : Int32).toInt = 0 := by decide
  have zl1 : (1 : Int32).toInt = 1 := by decide
  have zl17 : (17 : Int32).toInt = 17 := by decide
  refine pb_iconst (pc := 0) (v := 0) d_Mod_allBytes_0 (by decide) ?_
  refine pb_istore_n (pc := 1) (lo' := [(2, .int 0), (0, .ref h), (1, .int st)]) d_Mod_allBytes_1 rfl (by decide) rfl ?_
  refine pb_iconst (pc := 2) (v := 0) d_Mod_allBytes_2 (by decide) ?_
  refine pb_istore_n (pc := 3) (lo' := [(3, .int 0), (2, .int 0), (0, .ref h), (1, .int st)]) d_Mod_allBytes_3 rfl (by decide) rfl ?_
  have hL4_1 : ∀ (N9 : Nat) (su : Int32) (i : Int32), (0 ≤ i.toInt) → (i.toInt ≤ gx a_count st.toInt) → (0 ≤ su.toInt) → (su.toInt ≤ 4000 * i.toInt) → (su.toInt = sm a_size (17 * st.toInt) i.toInt.toNat) → ((gx a_count st.toInt - i.toInt).toNat) < N9 → pb_P l G M i_Mod_allBytes 4 [(2, .int su), (3, .int i), (0, .ref h), (1, .int st)] [] [(h, .inr (10, [.ref m_rels, .ref m_openRels, .ref m_closeRels, .ref m_openRel, .ref m_closeRel, .ref m_comment, .ref m_ends, .ref m_order, .int v_thrown, .int v_taped, .ref m_tape, .ref m_count, .ref m_nameSize, .ref m_names, .ref m_size, .ref m_data, .int v_lookedSize, .ref m_looked, .int v_fileSize, .ref m_file, .int v_directorySize, .ref m_directory, .int v_outSize, .ref m_out, .int v_rowSize, .ref m_row, .int v_bitAt, .int v_bitEnd, .int v_why, .int v_madeSize, .ref m_made, .ref m_length, .int v_firstCount, .int v_secondCount, .int v_heldBits, .int v_heldCount, .int v_pressedSize, .ref m_pressed, .int v_at, .int v_bad, .int v_markSize, .ref m_mark, .int v_relationCount, .ref m_idSize, .ref m_ids, .ref m_goalSize, .ref m_goals, .int v_valueSize, .ref m_value, .int v_faultCount, .ref m_faults, .ref m_reached])), (m_count, .inl (G.2.2.1, 2, .inl a_count)), (m_size, .inl (G.2.2.1, 34, .inl a_size))] 0 0 := by
    intro N9
    induction N9 with
    | zero => intro su i i0 i1 u0 u1 hs hm9; exact absurd hm9 (Nat.not_lt_zero _)
    | succ N9 ih4 =>
      intro su i i0 i1 u0 u1 hs hm9
      refine pb_iload_n (pc := 4) d_Mod_allBytes_4 1 rfl rfl ?_
      refine pb_aload_n (pc := 5) d_Mod_allBytes_5 2 rfl rfl ?_
      refine pb_get (pc := 6) d_Mod_allBytes_6 0 11 rfl rfl (by decide) in_Mod k_1157 rfl ?_
      refine pb_iload_n (pc := 9) d_Mod_allBytes_9 3 rfl rfl ?_
      refine pb_iald (pc := 10) d_Mod_allBytes_10 1 rfl (vp_in_iff.mpr (by omega)) ?_
      refine pb_topi (fun i2 ei2 => ?_)
      have ti2 : i2.toInt = gx a_count (st.toInt) := gx_ld ei2 rfl
      refine pb_icmp_ge (pc := 11) (tgt := 34) d_Mod_allBytes_11 (by decide) (fun w3 => ?_) (fun w3 => ?_)
      · have tw3 : i2.toInt ≤ i.toInt := (ti_le rfl rfl).mp w3
        refine pb_iload_n (pc := 34) d_Mod_allBytes_34 0 rfl rfl ?_
        exact pb_iret (pc := 35) hQ d_Mod_allBytes_35 rfl rfl (su) ⟨rfl, (show su.toInt = sm a_size (17 * st.toInt) (gx a_count st.toInt).toNat from (by rw [show gx a_count st.toInt = i.toInt by omega]; exact hs)), (by (try dsimp only); first | done | (with_reducible assumption) | omega (splitDisjunctions := false) | assumption | omega | decide), (by (try dsimp only); first | done | (with_reducible assumption) | omega (splitDisjunctions := false) | assumption | omega | decide)⟩ [0, 1, 2] (by decide) rfl rfl (by decide) (by decide)
      · have tw3 : ¬ i2.toInt ≤ i.toInt := fun z9 => w3 ((ti_le rfl rfl).mpr z9)
        have q5 := I i.toInt i0 (by omega)
        have q6 := sm_s (f := a_size) (b := 17 * st.toInt) (c := i.toInt) (d := i.toInt + 1) i0 rfl
        refine pb_iload_n (pc := 14) d_Mod_allBytes_14 0 rfl rfl ?_
        refine pb_aload_n (pc := 15) d_Mod_allBytes_15 2 rfl rfl ?_
        refine pb_get (pc := 16) d_Mod_allBytes_16 0 14 rfl rfl (by decide) in_Mod k_1160 rfl ?_
        refine pb_bipush (pc := 19) (v := 17) d_Mod_allBytes_19 (by decide) ?_
        refine pb_iload_n (pc := 21) d_Mod_allBytes_21 3 rfl rfl ?_
        refine pb_imul (pc := 22) d_Mod_allBytes_22 ?_
        refine pb_topi (fun i4 ei4 => ?_)
        try have ti4 : i4.toInt = 17 * st.toInt := ti_mul ei4 (by decide) rfl (by omega) (by omega)
        refine pb_iload_n (pc := 23) d_Mod_allBytes_23 1 rfl rfl ?_
        refine pb_iadd (pc := 24) d_Mod_allBytes_24 ?_
        refine pb_topi (fun i5 ei5 => ?_)
        try have ti5 : i5.toInt = i4.toInt + i.toInt := t2_add ei5 rfl rfl (by omega)
        refine pb_iald (pc := 25) d_Mod_allBytes_25 2 rfl (vp_in_iff.mpr (by (first | exact omg_a82c1c5c5f s0 s1 c1 i0 ti2 tw3 ti4 ti5 | omega))) ?_
        refine pb_topi (fun i6 ei6 => ?_)
        have ti6 : i6.toInt = gx a_size ((17 * st.toInt + i.toInt)) := gx_ld ei6 (by (first | exact omg_9ee15130d9 ti4 ti5 | omega))
        refine pb_iadd (pc := 26) d_Mod_allBytes_26 ?_
        refine pb_topi (fun i7 ei7 => ?_)
        try have ti7 : i7.toInt = su.toInt + i6.toInt := t2_add ei7 rfl rfl (by omega)
        refine pb_istore_n (pc := 27) (lo' := [(2, .int i7), (3, .int i), (0, .ref h), (1, .int st)]) d_Mod_allBytes_27 rfl (by decide) rfl ?_
        refine pb_iincN (pc := 28) (c := 1) d_Mod_allBytes_28 1 rfl (by decide) (by decide) (fun i8 ei8 => ?_)
        have ti8 : i8.toInt = i.toInt + 1 := t2_add ei8 rfl (by decide) (by first | omega | (have r90 := ti_rng i; have r91 := ti_rng i8; have r92 := ti_rng i7; have r93 := ti_rng st; omega))
        refine pb_eq (pc' := 31) (lo' := [(3, .int i8), (2, .int i7), (0, .ref h), (1, .int st)]) (rest' := []) (ws' := [(h, .inr (10, [.ref m_rels, .ref m_openRels, .ref m_closeRels, .ref m_openRel, .ref m_closeRel, .ref m_comment, .ref m_ends, .ref m_order, .int v_thrown, .int v_taped, .ref m_tape, .ref m_count, .ref m_nameSize, .ref m_names, .ref m_size, .ref m_data, .int v_lookedSize, .ref m_looked, .int v_fileSize, .ref m_file, .int v_directorySize, .ref m_directory, .int v_outSize, .ref m_out, .int v_rowSize, .ref m_row, .int v_bitAt, .int v_bitEnd, .int v_why, .int v_madeSize, .ref m_made, .ref m_length, .int v_firstCount, .int v_secondCount, .int v_heldBits, .int v_heldCount, .int v_pressedSize, .ref m_pressed, .int v_at, .int v_bad, .int v_markSize, .ref m_mark, .int v_relationCount, .ref m_idSize, .ref m_ids, .ref m_goalSize, .ref m_goals, .int v_valueSize, .ref m_value, .int v_faultCount, .ref m_faults, .ref m_reached])), (m_count, .inl (G.2.2.1, 2, .inl a_count)), (m_size, .inl (G.2.2.1, 34, .inl a_size))]) ?_
        refine pb_goto (pc := 31) (tgt := 4) d_Mod_allBytes_31 (by decide) ?_
        refine pb_re (ws' := [(h, .inr (10, [.ref m_rels, .ref m_openRels, .ref m_closeRels, .ref m_openRel, .ref m_closeRel, .ref m_comment, .ref m_ends, .ref m_order, .int v_thrown, .int v_taped, .ref m_tape, .ref m_count, .ref m_nameSize, .ref m_names, .ref m_size, .ref m_data, .int v_lookedSize, .ref m_looked, .int v_fileSize, .ref m_file, .int v_directorySize, .ref m_directory, .int v_outSize, .ref m_out, .int v_rowSize, .ref m_row, .int v_bitAt, .int v_bitEnd, .int v_why, .int v_madeSize, .ref m_made, .ref m_length, .int v_firstCount, .int v_secondCount, .int v_heldBits, .int v_heldCount, .int v_pressedSize, .ref m_pressed, .int v_at, .int v_bad, .int v_markSize, .ref m_mark, .int v_relationCount, .ref m_idSize, .ref m_ids, .ref m_goalSize, .ref m_goals, .int v_valueSize, .ref m_value, .int v_faultCount, .ref m_faults, .ref m_reached])), (m_count, .inl (G.2.2.1, 2, .inl a_count)), (m_size, .inl (G.2.2.1, 34, .inl a_size))]) (lo' := [(2, .int i7), (3, .int i8), (0, .ref h), (1, .int st)]) [0, 1, 2] [1, 0, 2, 3] (by decide) rfl rfl rfl ?_
        exact ih4 i7 i8 (by first | (with_reducible assumption) | omega (splitDisjunctions := false) | assumption | omega | decide) (by first | (with_reducible assumption) | omega (splitDisjunctions := false) | assumption | omega | decide) (by first | (with_reducible assumption) | omega (splitDisjunctions := false) | assumption | omega | decide) (by first | (with_reducible assumption) | omega (splitDisjunctions := false) | assumption | omega | decide) (by rw [show i8.toInt = i.toInt + 1 by omega]; omega) (by (first | exact omg_b30a0bed9f hm9 ti2 tw3 ti8 | omega))
  refine pb_re (ws' := [(h, .inr (10, [.ref m_rels, .ref m_openRels, .ref m_closeRels, .ref m_openRel, .ref m_closeRel, .ref m_comment, .ref m_ends, .ref m_order, .int v_thrown, .int v_taped, .ref m_tape, .ref m_count, .ref m_nameSize, .ref m_names, .ref m_size, .ref m_data, .int v_lookedSize, .ref m_looked, .int v_fileSize, .ref m_file, .int v_directorySize, .ref m_directory, .int v_outSize, .ref m_out, .int v_rowSize, .ref m_row, .int v_bitAt, .int v_bitEnd, .int v_why, .int v_madeSize, .ref m_made, .ref m_length, .int v_firstCount, .int v_secondCount, .int v_heldBits, .int v_heldCount, .int v_pressedSize, .ref m_pressed, .int v_at, .int v_bad, .int v_markSize, .ref m_mark, .int v_relationCount, .ref m_idSize, .ref m_ids, .ref m_goalSize, .ref m_goals, .int v_valueSize, .ref m_value, .int v_faultCount, .ref m_faults, .ref m_reached])), (m_count, .inl (G.2.2.1, 2, .inl a_count)), (m_size, .inl (G.2.2.1, 34, .inl a_size))]) (lo' := [(2, .int 0), (3, .int 0), (0, .ref h), (1, .int st)]) [0, 1, 2] [1, 0, 2, 3] (by decide) rfl rfl rfl ?_
  exact hL4_1 _ 0 0 (by first | (with_reducible assumption) | omega (splitDisjunctions := false) | assumption | omega | decide) (by first | (with_reducible assumption) | omega (splitDisjunctions := false) | assumption | omega | decide) (by first | (with_reducible assumption) | omega (splitDisjunctions := false) | assumption | omega | decide) (by first | (with_reducible assumption) | omega (splitDisjunctions := false) | assumption | omega | decide) (by rw [zl0]; rfl) (Nat.lt_succ_self _)

theorem d_Mod_move_0 : decode prog_12_method_11_code 0 = .ok (.aload_n 0, 1) := by decide +kernel
theorem d_Mod_move_1 : decode prog_12_method_11_code 1 = .ok (.getfield 41, 3) := by decide +kernel
theorem d_Mod_move_4 : decode prog_12_method_11_code 4 = .ok (.iload_n 2, 1) := by decide +kernel
theorem d_Mod_move_5 : decode prog_12_method_11_code 5 = .ok (.aload_n 0, 1) := by decide +kernel
theorem d_Mod_move_6 : decode prog_12_method_11_code 6 = .ok (.getfield 41, 3) := by decide +kernel
theorem d_Mod_move_9 : decode prog_12_method_11_code 9 = .ok (.iload_n 1, 1) := by decide +kernel
theorem d_Mod_move_10 : decode prog_12_method_11_code 10 = .ok (.iaload, 1) := by decide +kernel
theorem d_Mod_move_11 : decode prog_12_method_11_code 11 = .ok (.iastore, 1) := by decide +kernel
theorem d_Mod_move_12 : decode prog_12_method_11_code 12 = .ok (.aload_n 0, 1) := by decide +kernel
theorem d_Mod_move_13 : decode prog_12_method_11_code 13 = .ok (.getfield 47, 3) := by decide +kernel
theorem d_Mod_move_16 : decode prog_12_method_11_code 16 = .ok (.iload_n 2, 1) := by decide +kernel
theorem d_Mod_move_17 : decode prog_12_method_11_code 17 = .ok (.aload_n 0, 1) := by decide +kernel
theorem d_Mod_move_18 : decode prog_12_method_11_code 18 = .ok (.getfield 47, 3) := by decide +kernel
theorem d_Mod_move_21 : decode prog_12_method_11_code 21 = .ok (.iload_n 1, 1) := by decide +kernel
theorem d_Mod_move_22 : decode prog_12_method_11_code 22 = .ok (.iaload, 1) := by decide +kernel
theorem d_Mod_move_23 : decode prog_12_method_11_code 23 = .ok (.iastore, 1) := by decide +kernel
theorem d_Mod_move_24 : decode prog_12_method_11_code 24 = .ok (.iconst 0, 1) := by decide +kernel
theorem d_Mod_move_25 : decode prog_12_method_11_code 25 = .ok (.istore_n 3, 1) := by decide +kernel
theorem d_Mod_move_26 : decode prog_12_method_11_code 26 = .ok (.iload_n 3, 1) := by decide +kernel
theorem d_Mod_move_27 : decode prog_12_method_11_code 27 = .ok (.bipush 24, 2) := by decide +kernel
theorem d_Mod_move_29 : decode prog_12_method_11_code 29 = .ok (.if_icmp .ge 31, 3) := by decide +kernel
theorem d_Mod_move_60 : decode prog_12_method_11_code 60 = .ok (.iconst 0, 1) := by decide +kernel
theorem d_Mod_move_61 : decode prog_12_method_11_code 61 = .ok (.istore_n 3, 1) := by decide +kernel
theorem d_Mod_move_62 : decode prog_12_method_11_code 62 = .ok (.iload_n 3, 1) := by decide +kernel
theorem d_Mod_move_63 : decode prog_12_method_11_code 63 = .ok (.aload_n 0, 1) := by decide +kernel
theorem d_Mod_move_64 : decode prog_12_method_11_code 64 = .ok (.getfield 47, 3) := by decide +kernel
theorem d_Mod_move_67 : decode prog_12_method_11_code 67 = .ok (.iload_n 1, 1) := by decide +kernel
theorem d_Mod_move_68 : decode prog_12_method_11_code 68 = .ok (.iaload, 1) := by decide +kernel
theorem d_Mod_move_69 : decode prog_12_method_11_code 69 = .ok (.if_icmp .ge 33, 3) := by decide +kernel
theorem d_Mod_move_102 : decode prog_12_method_11_code 102 = .ok (.return_, 1) := by decide +kernel
theorem d_Mod_move_72 : decode prog_12_method_11_code 72 = .ok (.aload_n 0, 1) := by decide +kernel
theorem d_Mod_move_73 : decode prog_12_method_11_code 73 = .ok (.getfield 51, 3) := by decide +kernel
theorem k_1161 : (Jvm.Cond.fieldLink "PackageBookModel" (51 : Nat) "PackageBookModel" "data" "[B") ∈ uW := uW_c4 84 rfl (by decide +kernel)
theorem d_Mod_move_76 : decode prog_12_method_11_code 76 = .ok (.sipush 4000, 3) := by decide +kernel
theorem d_Mod_move_79 : decode prog_12_method_11_code 79 = .ok (.iload_n 2, 1) := by decide +kernel
theorem d_Mod_move_80 : decode prog_12_method_11_code 80 = .ok (.imul, 1) := by decide +kernel
theorem d_Mod_move_81 : decode prog_12_method_11_code 81 = .ok (.iload_n 3, 1) := by decide +kernel
theorem d_Mod_move_82 : decode prog_12_method_11_code 82 = .ok (.iadd, 1) := by decide +kernel
theorem d_Mod_move_83 : decode prog_12_method_11_code 83 = .ok (.aload_n 0, 1) := by decide +kernel
theorem d_Mod_move_84 : decode prog_12_method_11_code 84 = .ok (.getfield 51, 3) := by decide +kernel
theorem d_Mod_move_87 : decode prog_12_method_11_code 87 = .ok (.sipush 4000, 3) := by decide +kernel
theorem d_Mod_move_90 : decode prog_12_method_11_code 90 = .ok (.iload_n 1, 1) := by decide +kernel
theorem d_Mod_move_91 : decode prog_12_method_11_code 91 = .ok (.imul, 1) := by decide +kernel
theorem d_Mod_move_92 : decode prog_12_method_11_code 92 = .ok (.iload_n 3, 1) := by decide +kernel
theorem d_Mod_move_93 : decode prog_12_method_11_code 93 = .ok (.iadd, 1) := by decide +kernel
theorem d_Mod_move_94 : decode prog_12_method_11_code 94 = .ok (.baload, 1) := by decide +kernel
theorem d_Mod_move_95 : decode prog_12_method_11_code 95 = .ok (.bastore, 1) := by decide +kernel
theorem d_Mod_move_96 : decode prog_12_method_11_code 96 = .ok (.iinc 3 1, 3) := by decide +kernel
theorem d_Mod_move_99 : decode prog_12_method_11_code 99 = .ok (.goto (-37), 3) := by decide +kernel
theorem d_Mod_move_32 : decode prog_12_method_11_code 32 = .ok (.aload_n 0, 1) := by decide +kernel
theorem d_Mod_move_33 : decode prog_12_method_11_code 33 = .ok (.getfield 44, 3) := by decide +kernel
theorem d_Mod_move_36 : decode prog_12_method_11_code 36 = .ok (.bipush 24, 2) := by decide +kernel
theorem d_Mod_move_38 : decode prog_12_method_11_code 38 = .ok (.iload_n 2, 1) := by decide +kernel
theorem d_Mod_move_39 : decode prog_12_method_11_code 39 = .ok (.imul, 1) := by decide +kernel
theorem d_Mod_move_40 : decode prog_12_method_11_code 40 = .ok (.iload_n 3, 1) := by decide +kernel
theorem d_Mod_move_41 : decode prog_12_method_11_code 41 = .ok (.iadd, 1) := by decide +kernel
theorem d_Mod_move_42 : decode prog_12_method_11_code 42 = .ok (.aload_n 0, 1) := by decide +kernel
theorem d_Mod_move_43 : decode prog_12_method_11_code 43 = .ok (.getfield 44, 3) := by decide +kernel
theorem d_Mod_move_46 : decode prog_12_method_11_code 46 = .ok (.bipush 24, 2) := by decide +kernel
theorem d_Mod_move_48 : decode prog_12_method_11_code 48 = .ok (.iload_n 1, 1) := by decide +kernel
theorem d_Mod_move_49 : decode prog_12_method_11_code 49 = .ok (.imul, 1) := by decide +kernel
theorem d_Mod_move_50 : decode prog_12_method_11_code 50 = .ok (.iload_n 3, 1) := by decide +kernel
theorem d_Mod_move_51 : decode prog_12_method_11_code 51 = .ok (.iadd, 1) := by decide +kernel
theorem d_Mod_move_52 : decode prog_12_method_11_code 52 = .ok (.baload, 1) := by decide +kernel
theorem d_Mod_move_53 : decode prog_12_method_11_code 53 = .ok (.bastore, 1) := by decide +kernel
theorem d_Mod_move_54 : decode prog_12_method_11_code 54 = .ok (.iinc 3 1, 3) := by decide +kernel
theorem d_Mod_move_57 : decode prog_12_method_11_code 57 = .ok (.goto (-31), 3) := by decide +kernel
abbrev y_Mod_move : MethodName := ⟨"PackageBookModel", "move", "(II)V"⟩
abbrev i_Mod_move : pb_I := (y_Mod_move, prog_12_method_11_code, 4, (Option.none : Option Jvm.ClassFile.FieldType), [], { frames := 0, cells := 0, slots := 0, locals := 0 })
set_option maxRecDepth 100000 in
set_option maxHeartbeats 4000000 in
theorem g_Mod_move {l : Launch} (hl : l.stackTraces = false) (G : pb_G) (h : Nat) (m_rels : Nat) (m_openRels : Nat) (m_closeRels : Nat) (m_openRel : Nat) (m_closeRel : Nat) (m_comment : Nat) (m_ends : Nat) (m_order : Nat) (m_tape : Nat) (m_count : Nat) (m_nameSize : Nat) (m_names : Nat) (m_size : Nat) (m_data : Nat) (m_looked : Nat) (m_file : Nat) (m_directory : Nat) (m_out : Nat) (m_row : Nat) (m_made : Nat) (m_length : Nat) (m_pressed : Nat) (m_mark : Nat) (m_idSize : Nat) (m_ids : Nat) (m_goalSize : Nat) (m_goals : Nat) (m_value : Nat) (m_faults : Nat) (m_reached : Nat) (v_thrown : Int32) (v_taped : Int32) (v_lookedSize : Int32) (v_fileSize : Int32) (v_directorySize : Int32) (v_outSize : Int32) (v_rowSize : Int32) (v_bitAt : Int32) (v_bitEnd : Int32) (v_why : Int32) (v_madeSize : Int32) (v_firstCount : Int32) (v_secondCount : Int32) (v_heldBits : Int32) (v_heldCount : Int32) (v_pressedSize : Int32) (v_at : Int32) (v_bad : Int32) (v_markSize : Int32) (v_relationCount : Int32) (v_valueSize : Int32) (v_faultCount : Int32) (a_nameSize : Nat → Int32) (a_names : Nat → Int32) (a_size : Nat → Int32) (a_data : Nat → Int32) (fr : Int32) (to : Int32) (h0 : 0 ≤ fr.toInt) (h1 : fr.toInt ≤ 33) (h2 : 0 ≤ to.toInt) (h3 : to.toInt ≤ 33) (h4 : fr.toInt ≠ to.toInt) (h5 : 0 ≤ gx a_size fr.toInt) (h6 : gx a_size fr.toInt ≤ 4000) (F_a_names : sb_Fit a_names) (F_a_data : sb_Fit a_data) : Cn l G i_Mod_move [.ref h, .int fr, .int to] [(h, .inr (10, [.ref m_rels, .ref m_openRels, .ref m_closeRels, .ref m_openRel, .ref m_closeRel, .ref m_comment, .ref m_ends, .ref m_order, .int v_thrown, .int v_taped, .ref m_tape, .ref m_count, .ref m_nameSize, .ref m_names, .ref m_size, .ref m_data, .int v_lookedSize, .ref m_looked, .int v_fileSize, .ref m_file, .int v_directorySize, .ref m_directory, .int v_outSize, .ref m_out, .int v_rowSize, .ref m_row, .int v_bitAt, .int v_bitEnd, .int v_why, .int v_madeSize, .ref m_made, .ref m_length, .int v_firstCount, .int v_secondCount, .int v_heldBits, .int v_heldCount, .int v_pressedSize, .ref m_pressed, .int v_at, .int v_bad, .int v_markSize, .ref m_mark, .int v_relationCount, .ref m_idSize, .ref m_ids, .ref m_goalSize, .ref m_goals, .int v_valueSize, .ref m_value, .int v_faultCount, .ref m_faults, .ref m_reached])), (m_nameSize, .inl (G.2.2.1, 34, .inl a_nameSize)), (m_names, .inl (G.2.1, 816, .inl a_names)), (m_size, .inl (G.2.2.1, 34, .inl a_size)), (m_data, .inl (G.2.1, 136000, .inl a_data))] (S := (Nat → Int32) × (Nat → Int32) × (Nat → Int32) × (Nat → Int32)) (fun rv_ u => rv_ = none ∧ (mv_Z a_nameSize u.1 fr.toInt to.toInt) ∧ (mv_Z a_size u.2.2.1 fr.toInt to.toInt) ∧ (mv_N a_names u.2.1 fr.toInt to.toInt) ∧ (mv_D a_data u.2.2.2 fr.toInt to.toInt (gx a_size fr.toInt)) ∧ (sb_Fit u.2.1) ∧ (sb_Fit u.2.2.2)) (fun u => [(h, .inr (10, [.ref m_rels, .ref m_openRels, .ref m_closeRels, .ref m_openRel, .ref m_closeRel, .ref m_comment, .ref m_ends, .ref m_order, .int v_thrown, .int v_taped, .ref m_tape, .ref m_count, .ref m_nameSize, .ref m_names, .ref m_size, .ref m_data, .int v_lookedSize, .ref m_looked, .int v_fileSize, .ref m_file, .int v_directorySize, .ref m_directory, .int v_outSize, .ref m_out, .int v_rowSize, .ref m_row, .int v_bitAt, .int v_bitEnd, .int v_why, .int v_madeSize, .ref m_made, .ref m_length, .int v_firstCount, .int v_secondCount, .int v_heldBits, .int v_heldCount, .int v_pressedSize, .ref m_pressed, .int v_at, .int v_bad, .int v_markSize, .ref m_mark, .int v_relationCount, .ref m_idSize, .ref m_ids, .ref m_goalSize, .ref m_goals, .int v_valueSize, .ref m_value, .int v_faultCount, .ref m_faults, .ref m_reached])), (m_nameSize, .inl (G.2.2.1, 34, .inl u.1)), (m_names, .inl (G.2.1, 816, .inl u.2.1)), (m_size, .inl (G.2.2.1, 34, .inl u.2.2.1)), (m_data, .inl (G.2.1, 136000, .inl u.2.2.2))]) := by
  refine Cn.of hl (by decide +kernel) rfl (Nat.le_of_ble_eq_true rfl) (fun M hQ => ?_)
  refine pb_eq (pc' := 0) (lo' := [(0, .ref h), (1, .int fr), (2, .int to)]) (rest' := []) (ws' := [(h, .inr (10, [.ref m_rels, .ref m_openRels, .ref m_closeRels, .ref m_openRel, .ref m_closeRel, .ref m_comment, .ref m_ends, .ref m_order, .int v_thrown, .int v_taped, .ref m_tape, .ref m_count, .ref m_nameSize, .ref m_names, .ref m_size, .ref m_data, .int v_lookedSize, .ref m_looked, .int v_fileSize, .ref m_file, .int v_directorySize, .ref m_directory, .int v_outSize, .ref m_out, .int v_rowSize, .ref m_row, .int v_bitAt, .int v_bitEnd, .int v_why, .int v_madeSize, .ref m_made, .ref m_length, .int v_firstCount, .int v_secondCount, .int v_heldBits, .int v_heldCount, .int v_pressedSize, .ref m_pressed, .int v_at, .int v_bad, .int v_markSize, .ref m_mark, .int v_relationCount, .ref m_idSize, .ref m_ids, .ref m_goalSize, .ref m_goals, .int v_valueSize, .ref m_value, .int v_faultCount, .ref m_faults, .ref m_reached])), (m_nameSize, .inl (G.2.2.1, 34, .inl a_nameSize)), (m_names, .inl (G.2.1, 816, .inl a_names)), (m_size, .inl (G.2.2.1, 34, .inl a_size)), (m_data, .inl (G.2.1, 136000, .inl a_data))]) ?_
  have zl0 : (0 : Int32).toInt = 0 := by decide
  have zl1 : (1 : Int32).toInt = 1 := by decide
  have zl24 : (24 : Int32).toInt = 24 := by decide
  have zl4000 : (4000 : Int32).toInt = 4000 := by decide
  refine pb_aload_n (pc := 0) d_Mod_move_0 0 rfl rfl ?_
  refine pb_get (pc := 1) d_Mod_move_1 0 12 rfl rfl (by decide) in_Mod k_1158 rfl ?_
  refine pb_iload_n (pc := 4) d_Mod_move_4 2 rfl rfl ?_
  refine pb_aload_n (pc := 5) d_Mod_move_5 0 rfl rfl ?_
  refine pb_get (pc := 6) d_Mod_move_6 0 12 rfl rfl (by decide) in_Mod k_1158 rfl ?_
  refine pb_iload_n (pc := 9) d_Mod_move_9 1 rfl rfl ?_
  refine pb_iald (pc := 10) d_Mod_move_10 1 rfl (vp_in_iff.mpr (by omega)) ?_
  refine pb_topi (fun i1 ei1 => ?_)
  have ti1 : i1.toInt = gx a_nameSize (fr.toInt) := gx_ld ei1 rfl
  refine pb_iast (pc := 11) (ws' := [(h, .inr (10, [.ref m_rels, .ref m_openRels, .ref m_closeRels, .ref m_openRel, .ref m_closeRel, .ref m_comment, .ref m_ends, .ref m_order, .int v_thrown, .int v_taped, .ref m_tape, .ref m_count, .ref m_nameSize, .ref m_names, .ref m_size, .ref m_data, .int v_lookedSize, .ref m_looked, .int v_fileSize, .ref m_file, .int v_directorySize, .ref m_directory, .int v_outSize, .ref m_out, .int v_rowSize, .ref m_row, .int v_bitAt, .int v_bitEnd, .int v_why, .int v_madeSize, .ref m_made, .ref m_length, .int v_firstCount, .int v_secondCount, .int v_heldBits, .int v_heldCount, .int v_pressedSize, .ref m_pressed, .int v_at, .int v_bad, .int v_markSize, .ref m_mark, .int v_relationCount, .ref m_idSize, .ref m_ids, .ref m_goalSize, .ref m_goals, .int v_valueSize, .ref m_value, .int v_faultCount, .ref m_faults, .ref m_reached])), (m_nameSize, .inl (G.2.2.1, 34, .inl (upd a_nameSize ((to : Int32).toNatClampNeg) i1))), (m_names, .inl (G.2.1, 816, .inl a_names)), (m_size, .inl (G.2.2.1, 34, .inl a_size)), (m_data, .inl (G.2.1, 136000, .inl a_data))]) d_Mod_move_11 1 rfl (vp_in_iff.mpr (by omega)) rfl ?_
  refine pb_aload_n (pc := 12) d_Mod_move_12 0 rfl rfl ?_
  refine pb_get (pc := 13) d_Mod_move_13 0 14 rfl rfl (by decide) in_Mod k_1160 rfl ?_
  refine pb_iload_n (pc := 16) d_Mod_move_16 2 rfl rfl ?_
  refine pb_aload_n (pc := 17) d_Mod_move_17 0 rfl rfl ?_
  refine pb_get (pc := 18) d_Mod_move_18 0 14 rfl rfl (by decide) in_Mod k_1160 rfl ?_
  refine pb_iload_n (pc := 21) d_Mod_move_21 1 rfl rfl ?_
  refine pb_iald (pc := 22) d_Mod_move_22 3 rfl (vp_in_iff.mpr (by omega)) ?_
  refine pb_topi (fun i2 ei2 => ?_)
  have ti2 : i2.toInt = gx a_size (fr.toInt) := gx_ld ei2 rfl
  refine pb_iast (pc := 23) (ws' := [(h, .inr (10, [.ref m_rels, .ref m_openRels, .ref m_closeRels, .ref m_openRel, .ref m_closeRel, .ref m_comment, .ref m_ends, .ref m_order, .int v_thrown, .int v_taped, .ref m_tape, .ref m_count, .ref m_nameSize, .ref m_names, .ref m_size, .ref m_data, .int v_lookedSize, .ref m_looked, .int v_fileSize, .ref m_file, .int v_directorySize, .ref m_directory, .int v_outSize, .ref m_out, .int v_rowSize, .ref m_row, .int v_bitAt, .int v_bitEnd, .int v_why, .int v_madeSize, .ref m_made, .ref m_length, .int v_firstCount, .int v_secondCount, .int v_heldBits, .int v_heldCount, .int v_pressedSize, .ref m_pressed, .int v_at, .int v_bad, .int v_markSize, .ref m_mark, .int v_relationCount, .ref m_idSize, .ref m_ids, .ref m_goalSize, .ref m_goals, .int v_valueSize, .ref m_value, .int v_faultCount, .ref m_faults, .ref m_reached])), (m_nameSize, .inl (G.2.2.1, 34, .inl (upd a_nameSize ((to : Int32).toNatClampNeg) i1))), (m_names, .inl (G.2.1, 816, .inl a_names)), (m_size, .inl (G.2.2.1, 34, .inl (upd a_size ((to : Int32).toNatClampNeg) i2))), (m_data, .inl (G.2.1, 136000, .inl a_data))]) d_Mod_move_23 3 rfl (vp_in_iff.mpr (by omega)) rfl ?_
  refine pb_iconst (pc := 24) (v := 0) d_Mod_move_24 (by decide) ?_
  refine pb_istore_n (pc := 25) (lo' := [(3, .int 0), (0, .ref h), (1, .int fr), (2, .int to)]) d_Mod_move_25 rfl (by decide) rfl ?_
  have hL26_3 : ∀ (N9 : Nat) (k : Int32) (ng : Nat → Int32) (zz : Nat → Int32) (ss : Nat → Int32), (sb_Fit ng) → (0 ≤ k.toInt) → (k.toInt ≤ 24) → (mv_Z a_nameSize zz fr.toInt to.toInt) → (mv_Z a_size ss fr.toInt to.toInt) → (∀ j : Int, 0 ≤ j → j < k.toInt → gx ng (24 * to.toInt + j) = gx a_names (24 * fr.toInt + j)) → (∀ x : Int, 0 ≤ x → (x < 24 * to.toInt ∨ 24 * to.toInt + 24 ≤ x) → gx ng x = gx a_names x) → ((24 - k.toInt).toNat) < N9 → pb_P l G M i_Mod_move 26 [(3, .int k), (0, .ref h), (1, .int fr), (2, .int to)] [] [(h, .inr (10, [.ref m_rels, .ref m_openRels, .ref m_closeRels, .ref m_openRel, .ref m_closeRel, .ref m_comment, .ref m_ends, .ref m_order, .int v_thrown, .int v_taped, .ref m_tape, .ref m_count, .ref m_nameSize, .ref m_names, .ref m_size, .ref m_data, .int v_lookedSize, .ref m_looked, .int v_fileSize, .ref m_file, .int v_directorySize, .ref m_directory, .int v_outSize, .ref m_out, .int v_rowSize, .ref m_row, .int v_bitAt, .int v_bitEnd, .int v_why, .int v_madeSize, .ref m_made, .ref m_length, .int v_firstCount, .int v_secondCount, .int v_heldBits, .int v_heldCount, .int v_pressedSize, .ref m_pressed, .int v_at, .int v_bad, .int v_markSize, .ref m_mark, .int v_relationCount, .ref m_idSize, .ref m_ids, .ref m_goalSize, .ref m_goals, .int v_valueSize, .ref m_value, .int v_faultCount, .ref m_faults, .ref m_reached])), (m_nameSize, .inl (G.2.2.1, 34, .inl zz)), (m_names, .inl (G.2.1, 816, .inl ng)), (m_size, .inl (G.2.2.1, 34, .inl ss)), (m_data, .inl (G.2.1, 136000, .inl a_data))] 0 0 := by
    intro N9
    induction N9 with
    | zero => intro k ng zz ss F_ng k0 k1 mz ms n0 n1 hm9; exact absurd hm9 (Nat.not_lt_zero _)
    | succ N9 ih26 =>
      intro k ng zz ss F_ng k0 k1 mz ms n0 n1 hm9
      refine pb_iload_n (pc := 26) d_Mod_move_26 0 rfl rfl ?_
      refine pb_bipush (pc := 27) (v := 24) d_Mod_move_27 (by decide) ?_
      refine pb_icmp_ge (pc := 29) (tgt := 60) d_Mod_move_29 (by decide) (fun w4 => ?_) (fun w4 => ?_)
      · have tw4 : 24 ≤ k.toInt := (ti_le (by decide) rfl).mp w4
        refine pb_iconst (pc := 60) (v := 0) d_Mod_move_60 (by decide) ?_
        refine pb_istore_n (pc := 61) (lo' := [(3, .int 0), (0, .ref h), (1, .int fr), (2, .int to)]) d_Mod_move_61 rfl (by decide) rfl ?_
        have hL62_5 : ∀ (N9 : Nat) (k2 : Int32) (dg : Nat → Int32), (sb_Fit dg) → (0 ≤ k2.toInt) → (k2.toInt ≤ gx a_size fr.toInt) → (∀ k : Int, 0 ≤ k → k < k2.toInt → gr dg (4000 * to.toInt + k) = gr a_data (4000 * fr.toInt + k)) → (∀ x : Int, 0 ≤ x → (x < 4000 * to.toInt ∨ 4000 * to.toInt + 4000 ≤ x) → gr dg x = gr a_data x) → ((gx a_size fr.toInt - k2.toInt).toNat) < N9 → pb_P l G M i_Mod_move 62 [(3, .int k2), (0, .ref h), (1, .int fr), (2, .int to)] [] [(h, .inr (10, [.ref m_rels, .ref m_openRels, .ref m_closeRels, .ref m_openRel, .ref m_closeRel, .ref m_comment, .ref m_ends, .ref m_order, .int v_thrown, .int v_taped, .ref m_tape, .ref m_count, .ref m_nameSize, .ref m_names, .ref m_size, .ref m_data, .int v_lookedSize, .ref m_looked, .int v_fileSize, .ref m_file, .int v_directorySize, .ref m_directory, .int v_outSize, .ref m_out, .int v_rowSize, .ref m_row, .int v_bitAt, .int v_bitEnd, .int v_why, .int v_madeSize, .ref m_made, .ref m_length, .int v_firstCount, .int v_secondCount, .int v_heldBits, .int v_heldCount, .int v_pressedSize, .ref m_pressed, .int v_at, .int v_bad, .int v_markSize, .ref m_mark, .int v_relationCount, .ref m_idSize, .ref m_ids, .ref m_goalSize, .ref m_goals, .int v_valueSize, .ref m_value, .int v_faultCount, .ref m_faults, .ref m_reached])), (m_nameSize, .inl (G.2.2.1, 34, .inl zz)), (m_names, .inl (G.2.1, 816, .inl ng)), (m_size, .inl (G.2.2.1, 34, .inl ss)), (m_data, .inl (G.2.1, 136000, .inl dg))] 0 0 := by
          intro N9
          induction N9 with
          | zero => intro k2 dg F_dg j0 j1 dz dx hm9; exact absurd hm9 (Nat.not_lt_zero _)
          | succ N9 ih62 =>
            intro k2 dg F_dg j0 j1 dz dx hm9
            refine pb_iload_n (pc := 62) d_Mod_move_62 0 rfl rfl ?_
            refine pb_aload_n (pc := 63) d_Mod_move_63 1 rfl rfl ?_
            refine pb_get (pc := 64) d_Mod_move_64 0 14 rfl rfl (by decide) in_Mod k_1160 rfl ?_
            refine pb_iload_n (pc := 67) d_Mod_move_67 2 rfl rfl ?_
            have q2 := ms fr.toInt (by omega)
            rw [if_neg h4] at q2
            refine pb_iald (pc := 68) d_Mod_move_68 3 rfl (vp_in_iff.mpr (by omega)) ?_
            refine pb_topi (fun i6 ei6 => ?_)
            have ti6 : i6.toInt = gx ss (fr.toInt) := gx_ld ei6 rfl
            refine pb_icmp_ge (pc := 69) (tgt := 102) d_Mod_move_69 (by decide) (fun w7 => ?_) (fun w7 => ?_)
            · have tw7 : i6.toInt ≤ k2.toInt := (ti_le rfl rfl).mp w7
              exact pb_vret (pc := 102) hQ d_Mod_move_102 rfl (zz, ng, ss, dg) ⟨rfl, mz, ms, (show mv_N a_names ng fr.toInt to.toInt from ⟨fun k k0 k1 => n0 k k0 (by omega), n1⟩), (show mv_D a_data dg fr.toInt to.toInt (gx a_size fr.toInt) from ⟨fun k k0 k1 => dz k k0 (by omega), dx⟩), F_ng, F_dg⟩ [0, 1, 2, 3, 4] (by decide) rfl rfl (by decide) (by decide)
            · have tw7 : ¬ i6.toInt ≤ k2.toInt := fun z9 => w7 ((ti_le rfl rfl).mpr z9)
              refine pb_aload_n (pc := 72) d_Mod_move_72 1 rfl rfl ?_
              refine pb_get (pc := 73) d_Mod_move_73 0 15 rfl rfl (by decide) in_Mod k_1161 rfl ?_
              refine pb_sipush (pc := 76) (v := 4000) d_Mod_move_76 (by decide) ?_
              refine pb_iload_n (pc := 79) d_Mod_move_79 3 rfl rfl ?_
              refine pb_imul (pc := 80) d_Mod_move_80 ?_
              refine pb_topi (fun i8 ei8 => ?_)
              try have ti8 : i8.toInt = 4000 * to.toInt := ti_mul ei8 (by decide) rfl (by omega) (by omega)
              refine pb_iload_n (pc := 81) d_Mod_move_81 0 rfl rfl ?_
              refine pb_iadd (pc := 82) d_Mod_move_82 ?_
              refine pb_topi (fun i9 ei9 => ?_)
              try have ti9 : i9.toInt = i8.toInt + k2.toInt := t2_add ei9 rfl rfl (by (first | exact omg_049b621951 h2 h3 h6 j0 q2 ti6 tw7 ti8 | omega))
              refine pb_aload_n (pc := 83) d_Mod_move_83 1 rfl rfl ?_
              refine pb_get (pc := 84) d_Mod_move_84 0 15 rfl rfl (by decide) in_Mod k_1161 rfl ?_
              refine pb_sipush (pc := 87) (v := 4000) d_Mod_move_87 (by decide) ?_
              refine pb_iload_n (pc := 90) d_Mod_move_90 2 rfl rfl ?_
              refine pb_imul (pc := 91) d_Mod_move_91 ?_
              refine pb_topi (fun i10 ei10 => ?_)
              try have ti10 : i10.toInt = 4000 * fr.toInt := ti_mul ei10 (by decide) rfl (by omega) (by omega)
              refine pb_iload_n (pc := 92) d_Mod_move_92 0 rfl rfl ?_
              refine pb_iadd (pc := 93) d_Mod_move_93 ?_
              refine pb_topi (fun i11 ei11 => ?_)
              try have ti11 : i11.toInt = i10.toInt + k2.toInt := t2_add ei11 rfl rfl (by (first | exact omg_049b621951 h0 h1 h6 j0 q2 ti6 tw7 ti10 | omega))
              refine pb_bald (pc := 94) d_Mod_move_94 4 rfl (vp_in_iff.mpr (by (first | exact omg_8387a60c64 h0 h1 h6 j0 q2 ti6 tw7 ti10 ti11 | omega))) ?_
              refine pb_topi (fun i12 ei12 => ?_)
              have xi12 : i12 = gr dg (4000 * fr.toInt + k2.toInt) := gr_ld ei12 (by (first | exact omg_8c483aafce ti10 ti11 | omega))
              have yi12 : i12.toInt = gx dg (4000 * fr.toInt + k2.toInt) := congrArg Int32.toInt xi12
              have ti12 : -128 ≤ i12.toInt ∧ i12.toInt ≤ 127 := ti_fit (F_dg _) ei12
              refine pb_bast (pc := 95) (ws' := [(h, .inr (10, [.ref m_rels, .ref m_openRels, .ref m_closeRels, .ref m_openRel, .ref m_closeRel, .ref m_comment, .ref m_ends, .ref m_order, .int v_thrown, .int v_taped, .ref m_tape, .ref m_count, .ref m_nameSize, .ref m_names, .ref m_size, .ref m_data, .int v_lookedSize, .ref m_looked, .int v_fileSize, .ref m_file, .int v_directorySize, .ref m_directory, .int v_outSize, .ref m_out, .int v_rowSize, .ref m_row, .int v_bitAt, .int v_bitEnd, .int v_why, .int v_madeSize, .ref m_made, .ref m_length, .int v_firstCount, .int v_secondCount, .int v_heldBits, .int v_heldCount, .int v_pressedSize, .ref m_pressed, .int v_at, .int v_bad, .int v_markSize, .ref m_mark, .int v_relationCount, .ref m_idSize, .ref m_ids, .ref m_goalSize, .ref m_goals, .int v_valueSize, .ref m_value, .int v_faultCount, .ref m_faults, .ref m_reached])), (m_nameSize, .inl (G.2.2.1, 34, .inl zz)), (m_names, .inl (G.2.1, 816, .inl ng)), (m_size, .inl (G.2.2.1, 34, .inl ss)), (m_data, .inl (G.2.1, 136000, .inl (upd dg ((i9 : Int32).toNatClampNeg) (vp_nar .byte i12))))]) d_Mod_move_95 4 rfl (vp_in_iff.mpr (by (first | exact omg_8387a60c64 h2 h3 h6 j0 q2 ti6 tw7 ti8 ti9 | omega))) rfl ?_
              refine pb_iincN (pc := 96) (c := 1) d_Mod_move_96 0 rfl (by decide) (by decide) (fun i13 ei13 => ?_)
              have ti13 : i13.toInt = k2.toInt + 1 := t2_add ei13 rfl (by decide) (by first | (first | exact omg_4cf3284d47 h6 j0 q2 ti6 tw7 | omega) | (have r90 := ti_rng k2; have r91 := ti_rng i13; have r92 := ti_rng fr; have r93 := ti_rng to; omega))
              refine pb_eq (pc' := 99) (lo' := [(3, .int i13), (0, .ref h), (1, .int fr), (2, .int to)]) (rest' := []) (ws' := [(h, .inr (10, [.ref m_rels, .ref m_openRels, .ref m_closeRels, .ref m_openRel, .ref m_closeRel, .ref m_comment, .ref m_ends, .ref m_order, .int v_thrown, .int v_taped, .ref m_tape, .ref m_count, .ref m_nameSize, .ref m_names, .ref m_size, .ref m_data, .int v_lookedSize, .ref m_looked, .int v_fileSize, .ref m_file, .int v_directorySize, .ref m_directory, .int v_outSize, .ref m_out, .int v_rowSize, .ref m_row, .int v_bitAt, .int v_bitEnd, .int v_why, .int v_madeSize, .ref m_made, .ref m_length, .int v_firstCount, .int v_secondCount, .int v_heldBits, .int v_heldCount, .int v_pressedSize, .ref m_pressed, .int v_at, .int v_bad, .int v_markSize, .ref m_mark, .int v_relationCount, .ref m_idSize, .ref m_ids, .ref m_goalSize, .ref m_goals, .int v_valueSize, .ref m_value, .int v_faultCount, .ref m_faults, .ref m_reached])), (m_nameSize, .inl (G.2.2.1, 34, .inl zz)), (m_names, .inl (G.2.1, 816, .inl ng)), (m_size, .inl (G.2.2.1, 34, .inl ss)), (m_data, .inl (G.2.1, 136000, .inl (upd dg ((i9 : Int32).toNatClampNeg) (vp_nar .byte i12))))]) ?_
              refine pb_goto (pc := 99) (tgt := 62) d_Mod_move_99 (by decide) ?_
              exact ih62 i13 (upd dg ((i9 : Int32).toNatClampNeg) (vp_nar .byte i12)) (sb_fitU F_dg (fit_nar _)) (by first | (with_reducible assumption) | (first | exact omg_c14412231a j0 ti13 | omega (splitDisjunctions := false)) | assumption | omega | decide) (by first | (with_reducible assumption) | (first | exact omg_824ece3cda q2 ti6 tw7 ti13 | omega (splitDisjunctions := false)) | assumption | omega | decide) (fun j j0 j1 => by rw [gr_updb (a := 4000 * to.toInt + k2.toInt) (by (first | exact omg_8c483aafce ti8 ti9 | omega)) _ (by omega) (by omega)]; split <;> first | (rename_i w; rw [show j = k2.toInt by omega, bz_fit (by omega)]; exact (show _ = gr dg (4000 * fr.toInt + k2.toInt) by assumption).trans (dx _ (by omega) (by omega))) | exact dz j j0 (by omega)) (fun x x0 x1 => by rw [gr_updb (a := 4000 * to.toInt + k2.toInt) (by omega) _ (by omega) (by omega), if_neg (by (first | exact omg_7d54897fee h6 j0 q2 ti6 tw7 x1 | omega))]; exact dx x x0 x1) (by (first | exact omg_79ae107613 hm9 q2 ti6 tw7 ti13 | omega))
        exact hL62_5 _ 0 a_data F_a_data (by first | (with_reducible assumption) | omega (splitDisjunctions := false) | assumption | omega | decide) (by first | (with_reducible assumption) | omega (splitDisjunctions := false) | assumption | omega | decide) (fun j h0 h1 => absurd h1 (by omega)) (fun x h0 h1 => rfl) (Nat.lt_succ_self _)
      · have tw4 : ¬ 24 ≤ k.toInt := fun z9 => w4 ((ti_le (by decide) rfl).mpr z9)
        refine pb_aload_n (pc := 32) d_Mod_move_32 1 rfl rfl ?_
        refine pb_get (pc := 33) d_Mod_move_33 0 13 rfl rfl (by decide) in_Mod k_1159 rfl ?_
        refine pb_bipush (pc := 36) (v := 24) d_Mod_move_36 (by decide) ?_
        refine pb_iload_n (pc := 38) d_Mod_move_38 3 rfl rfl ?_
        refine pb_imul (pc := 39) d_Mod_move_39 ?_
        refine pb_topi (fun i14 ei14 => ?_)
        try have ti14 : i14.toInt = 24 * to.toInt := ti_mul ei14 (by decide) rfl (by omega) (by omega)
        refine pb_iload_n (pc := 40) d_Mod_move_40 0 rfl rfl ?_
        refine pb_iadd (pc := 41) d_Mod_move_41 ?_
        refine pb_topi (fun i15 ei15 => ?_)
        try have ti15 : i15.toInt = i14.toInt + k.toInt := t2_add ei15 rfl rfl (by omega)
        refine pb_aload_n (pc := 42) d_Mod_move_42 1 rfl rfl ?_
        refine pb_get (pc := 43) d_Mod_move_43 0 13 rfl rfl (by decide) in_Mod k_1159 rfl ?_
        refine pb_bipush (pc := 46) (v := 24) d_Mod_move_46 (by decide) ?_
        refine pb_iload_n (pc := 48) d_Mod_move_48 2 rfl rfl ?_
        refine pb_imul (pc := 49) d_Mod_move_49 ?_
        refine pb_topi (fun i16 ei16 => ?_)
        try have ti16 : i16.toInt = 24 * fr.toInt := ti_mul ei16 (by decide) rfl (by omega) (by omega)
        refine pb_iload_n (pc := 50) d_Mod_move_50 0 rfl rfl ?_
        refine pb_iadd (pc := 51) d_Mod_move_51 ?_
        refine pb_topi (fun i17 ei17 => ?_)
        try have ti17 : i17.toInt = i16.toInt + k.toInt := t2_add ei17 rfl rfl (by omega)
        have q1 := n1 (24 * fr.toInt + k.toInt) (by (first | exact omg_54e3acd9bb h0 k0 | omega)) (by omega)
        refine pb_bald (pc := 52) d_Mod_move_52 2 rfl (vp_in_iff.mpr (by (first | exact omg_175bf75ad1 h0 h1 k0 tw4 ti16 ti17 | omega))) ?_
        refine pb_topi (fun i18 ei18 => ?_)
        have xi18 : i18 = gr ng (24 * fr.toInt + k.toInt) := gr_ld ei18 (by omega)
        have yi18 : i18.toInt = gx ng (24 * fr.toInt + k.toInt) := congrArg Int32.toInt xi18
        have ti18 : -128 ≤ i18.toInt ∧ i18.toInt ≤ 127 := ti_fit (F_ng _) ei18
        refine pb_bast (pc := 53) (ws' := [(h, .inr (10, [.ref m_rels, .ref m_openRels, .ref m_closeRels, .ref m_openRel, .ref m_closeRel, .ref m_comment, .ref m_ends, .ref m_order, .int v_thrown, .int v_taped, .ref m_tape, .ref m_count, .ref m_nameSize, .ref m_names, .ref m_size, .ref m_data, .int v_lookedSize, .ref m_looked, .int v_fileSize, .ref m_file, .int v_directorySize, .ref m_directory, .int v_outSize, .ref m_out, .int v_rowSize, .ref m_row, .int v_bitAt, .int v_bitEnd, .int v_why, .int v_madeSize, .ref m_made, .ref m_length, .int v_firstCount, .int v_secondCount, .int v_heldBits, .int v_heldCount, .int v_pressedSize, .ref m_pressed, .int v_at, .int v_bad, .int v_markSize, .ref m_mark, .int v_relationCount, .ref m_idSize, .ref m_ids, .ref m_goalSize, .ref m_goals, .int v_valueSize, .ref m_value, .int v_faultCount, .ref m_faults, .ref m_reached])), (m_nameSize, .inl (G.2.2.1, 34, .inl zz)), (m_names, .inl (G.2.1, 816, .inl (upd ng ((i15 : Int32).toNatClampNeg) (vp_nar .byte i18)))), (m_size, .inl (G.2.2.1, 34, .inl ss)), (m_data, .inl (G.2.1, 136000, .inl a_data))]) d_Mod_move_53 2 rfl (vp_in_iff.mpr (by (first | exact omg_175bf75ad1 h2 h3 k0 tw4 ti14 ti15 | omega))) rfl ?_
        refine pb_iincN (pc := 54) (c := 1) d_Mod_move_54 0 rfl (by decide) (by decide) (fun i19 ei19 => ?_)
        have ti19 : i19.toInt = k.toInt + 1 := t2_add ei19 rfl (by decide) (by first | omega | (have r90 := ti_rng k; have r91 := ti_rng i19; have r92 := ti_rng fr; have r93 := ti_rng to; omega))
        refine pb_eq (pc' := 57) (lo' := [(3, .int i19), (0, .ref h), (1, .int fr), (2, .int to)]) (rest' := []) (ws' := [(h, .inr (10, [.ref m_rels, .ref m_openRels, .ref m_closeRels, .ref m_openRel, .ref m_closeRel, .ref m_comment, .ref m_ends, .ref m_order, .int v_thrown, .int v_taped, .ref m_tape, .ref m_count, .ref m_nameSize, .ref m_names, .ref m_size, .ref m_data, .int v_lookedSize, .ref m_looked, .int v_fileSize, .ref m_file, .int v_directorySize, .ref m_directory, .int v_outSize, .ref m_out, .int v_rowSize, .ref m_row, .int v_bitAt, .int v_bitEnd, .int v_why, .int v_madeSize, .ref m_made, .ref m_length, .int v_firstCount, .int v_secondCount, .int v_heldBits, .int v_heldCount, .int v_pressedSize, .ref m_pressed, .int v_at, .int v_bad, .int v_markSize, .ref m_mark, .int v_relationCount, .ref m_idSize, .ref m_ids, .ref m_goalSize, .ref m_goals, .int v_valueSize, .ref m_value, .int v_faultCount, .ref m_faults, .ref m_reached])), (m_nameSize, .inl (G.2.2.1, 34, .inl zz)), (m_names, .inl (G.2.1, 816, .inl (upd ng ((i15 : Int32).toNatClampNeg) (vp_nar .byte i18)))), (m_size, .inl (G.2.2.1, 34, .inl ss)), (m_data, .inl (G.2.1, 136000, .inl a_data))]) ?_
        refine pb_goto (pc := 57) (tgt := 26) d_Mod_move_57 (by decide) ?_
        exact ih26 i19 (upd ng ((i15 : Int32).toNatClampNeg) (vp_nar .byte i18)) zz ss (sb_fitU F_ng (fit_nar _)) (by first | (with_reducible assumption) | (first | exact omg_c14412231a k0 ti19 | omega (splitDisjunctions := false)) | assumption | omega | decide) (by first | (with_reducible assumption) | omega (splitDisjunctions := false) | assumption | omega | decide) (by first | assumption | decide | omega) (by first | assumption | decide | omega) (fun j j0 j1 => by rw [gx_updb (a := 24 * to.toInt + k.toInt) (by omega) _ (by (first | exact omg_54e3acd9bb h2 k0 | omega)) (by omega) (by omega)]; split <;> first | (rename_i w; rw [show j = k.toInt by (first | exact omg_e44c1a8172 w | omega)]; (first | exact omg_99b4580df8 q1 yi18 | omega)) | exact n0 j j0 (by omega)) (fun x x0 x1 => by rw [gx_updb (a := 24 * to.toInt + k.toInt) (by omega) _ (by omega) (by omega) (by omega), if_neg (by omega)]; exact n1 x x0 x1) (by (first | exact omg_1de40a3955 hm9 tw4 ti19 | omega))
  exact hL26_3 _ 0 a_names (upd a_nameSize ((to : Int32).toNatClampNeg) i1) (upd a_size ((to : Int32).toNatClampNeg) i2) F_a_names (by first | (with_reducible assumption) | omega (splitDisjunctions := false) | assumption | omega | decide) (by first | (with_reducible assumption) | omega (splitDisjunctions := false) | assumption | omega | decide) (fun j h0 => by rw [gx_upd rfl j (by omega) h0]; split <;> first | omega | rfl) (fun j h0 => by rw [gx_upd rfl j (by omega) h0]; split <;> first | omega | rfl) (fun j h0 h1 => absurd h1 (by omega)) (fun x h0 h1 => rfl) (Nat.lt_succ_self _)
/-! ROWS OF NUMBERS -/
theorem omg_85f488137f {x0 : Int} {x1 : Int} {x2 : Int} {x3 : Int} {x4 : Int} {x5 : Int} {x6 : Int} {x7 : Int} {x8 : Int} (a0 : (((0 : Int) ≤ x0) → (x1 = x2))) (a1 : (x3 = x4)) (a2 : (x5 = (x3 - x1))) (a3 : (x6 = (x5 + x7))) (a4 : (¬ ((12000 : Int) < x6))) (a5 : ((0 : Int) ≤ x8)) (a6 : (x8 = x0)) : (((x4 - x2) + x7) ≤ (12000 : Int)) := by omega
theorem omg_d964c4f388 {x0 : Int} (a0 : (¬ ((4000 : Int) < x0))) : (x0 ≤ (4000 : Int)) := by omega
theorem omg_eb3a9d69ca {x0 : Int} {x1 : Int} {x2 : Int} {x3 : Int} {x4 : Int} (a0 : ((0 : Int) ≤ x0)) (a1 : (x0 ≤ (1 : Int))) (a2 : (x1 ≤ (16 : Int))) (a3 : (x2 < x1)) (a4 : ((0 : Int) ≤ x2)) (a5 : (x3 = ((17 : Int) * x0))) (a6 : (x4 = (x3 + x2))) : (((0 : Int) ≤ x4) ∧ (x4 < (((34 : Nat) : Nat) : Int))) := by omega
theorem omg_84e32e2c14 {x0 : Int} {x1 : Int} {x2 : Int} (a0 : (((1 : Int) ≤ x0) ∧ ((x0 ≤ (24 : Int)) ∧ (((0 : Int) ≤ x1) ∧ (x1 ≤ (4000 : Int)))))) (a1 : (x2 = x1)) : ((0 : Int) ≤ x2) := by omega
theorem d_Mod_isRoom_0 : decode prog_12_method_12_code 0 = .ok (.aload_n 0, 1) := by decide +kernel
theorem d_Mod_isRoom_1 : decode prog_12_method_12_code 1 = .ok (.iload_n 1, 1) := by decide +kernel
theorem d_Mod_isRoom_2 : decode prog_12_method_12_code 2 = .ok (.invokevirtual 121, 3) := by decide +kernel
theorem k_1330 : (Jvm.Cond.methodLink "PackageBookModel" (121 : Nat) ({ cls := "PackageBookModel", name := "find", desc := "(I)I" } : Jvm.MethodName)) ∈ uW := uW_c5 13 rfl (by decide +kernel)
theorem k_1333 : (Jvm.Cond.code ({ cls := "PackageBookModel", name := "find", desc := "(I)I" } : Jvm.MethodName) prog_12_method_9_code (4 : Nat) (Option.some Jvm.ClassFile.FieldType.int)) ∈ uW := uW_c5 16 rfl (by decide +kernel)
theorem k_1332 : (Jvm.Cond.instanceMethod ({ cls := "PackageBookModel", name := "find", desc := "(I)I" } : Jvm.MethodName)) ∈ uW := uW_c5 15 rfl (by decide +kernel)
theorem k_55 : Cond.selects "PackageBookModel" ⟨"PackageBookModel", "find", "(I)I"⟩ ⟨"PackageBookModel", "find", "(I)I"⟩ ∈ uW := uW_of 55 (by decide +kernel) (by decide +kernel)
theorem hy_Mod_find : (y_Mod_find).cls ≠ "java/lang/invoke/MethodHandle" ∧ (y_Mod_find).cls ≠ "java/lang/invoke/VarHandle" ∧ (parseMethodDescriptor (y_Mod_find).desc).map (fun d => d.parameters.length) = some 1 := by decide +kernel
theorem d_Mod_isRoom_5 : decode prog_12_method_12_code 5 = .ok (.istore_n 3, 1) := by decide +kernel
theorem d_Mod_isRoom_27 : decode prog_12_method_12_code 27 = .ok (.iload_n 2, 1) := by decide +kernel
theorem d_Mod_isRoom_28 : decode prog_12_method_12_code 28 = .ok (.sipush 4000, 3) := by decide +kernel
theorem d_Mod_isRoom_31 : decode prog_12_method_12_code 31 = .ok (.if_icmp .gt 38, 3) := by decide +kernel
theorem d_Mod_isRoom_69 : decode prog_12_method_12_code 69 = .ok (.iconst 0, 1) := by decide +kernel
theorem d_Mod_isRoom_70 : decode prog_12_method_12_code 70 = .ok (.ireturn, 1) := by decide +kernel
theorem d_Mod_isRoom_34 : decode prog_12_method_12_code 34 = .ok (.aload_n 0, 1) := by decide +kernel
theorem d_Mod_isRoom_35 : decode prog_12_method_12_code 35 = .ok (.iload_n 1, 1) := by decide +kernel
theorem d_Mod_isRoom_36 : decode prog_12_method_12_code 36 = .ok (.invokevirtual 125, 3) := by decide +kernel
theorem k_1338 : (Jvm.Cond.methodLink "PackageBookModel" (125 : Nat) ({ cls := "PackageBookModel", name := "allBytes", desc := "(I)I" } : Jvm.MethodName)) ∈ uW := uW_c5 21 rfl (by decide +kernel)
theorem k_1341 : (Jvm.Cond.code ({ cls := "PackageBookModel", name := "allBytes", desc := "(I)I" } : Jvm.MethodName) prog_12_method_10_code (4 : Nat) (Option.some Jvm.ClassFile.FieldType.int)) ∈ uW := uW_c5 24 rfl (by decide +kernel)
theorem k_1340 : (Jvm.Cond.instanceMethod ({ cls := "PackageBookModel", name := "allBytes", desc := "(I)I" } : Jvm.MethodName)) ∈ uW := uW_c5 23 rfl (by decide +kernel)
theorem k_57 : Cond.selects "PackageBookModel" ⟨"PackageBookModel", "allBytes", "(I)I"⟩ ⟨"PackageBookModel", "allBytes", "(I)I"⟩ ∈ uW := uW_of 57 (by decide +kernel) (by decide +kernel)
theorem hy_Mod_allBytes : (y_Mod_allBytes).cls ≠ "java/lang/invoke/MethodHandle" ∧ (y_Mod_allBytes).cls ≠ "java/lang/invoke/VarHandle" ∧ (parseMethodDescriptor (y_Mod_allBytes).desc).map (fun d => d.parameters.length) = some 1 := by decide +kernel
theorem d_Mod_isRoom_39 : decode prog_12_method_12_code 39 = .ok (.iload 4, 2) := by decide +kernel
theorem d_Mod_isRoom_41 : decode prog_12_method_12_code 41 = .ok (.isub, 1) := by decide +kernel
theorem d_Mod_isRoom_42 : decode prog_12_method_12_code 42 = .ok (.iload_n 2, 1) := by decide +kernel
theorem d_Mod_isRoom_43 : decode prog_12_method_12_code 43 = .ok (.iadd, 1) := by decide +kernel
theorem d_Mod_isRoom_44 : decode prog_12_method_12_code 44 = .ok (.sipush 12000, 3) := by decide +kernel
theorem d_Mod_isRoom_47 : decode prog_12_method_12_code 47 = .ok (.if_icmp .gt 22, 3) := by decide +kernel
theorem d_Mod_isRoom_50 : decode prog_12_method_12_code 50 = .ok (.iload_n 3, 1) := by decide +kernel
theorem d_Mod_isRoom_51 : decode prog_12_method_12_code 51 = .ok (.ifCond .ge 14, 3) := by decide +kernel
theorem d_Mod_isRoom_65 : decode prog_12_method_12_code 65 = .ok (.iconst 1, 1) := by decide +kernel
theorem d_Mod_isRoom_66 : decode prog_12_method_12_code 66 = .ok (.goto 4, 3) := by decide +kernel
theorem d_Mod_isRoom_54 : decode prog_12_method_12_code 54 = .ok (.aload_n 0, 1) := by decide +kernel
theorem d_Mod_isRoom_55 : decode prog_12_method_12_code 55 = .ok (.getfield 37, 3) := by decide +kernel
theorem d_Mod_isRoom_58 : decode prog_12_method_12_code 58 = .ok (.iload_n 1, 1) := by decide +kernel
theorem d_Mod_isRoom_59 : decode prog_12_method_12_code 59 = .ok (.iaload, 1) := by decide +kernel
theorem d_Mod_isRoom_60 : decode prog_12_method_12_code 60 = .ok (.bipush 16, 2) := by decide +kernel
theorem d_Mod_isRoom_62 : decode prog_12_method_12_code 62 = .ok (.if_icmp .ge 7, 3) := by decide +kernel
theorem d_Mod_isRoom_6 : decode prog_12_method_12_code 6 = .ok (.iload_n 3, 1) := by decide +kernel
theorem d_Mod_isRoom_7 : decode prog_12_method_12_code 7 = .ok (.ifCond .ge 7, 3) := by decide +kernel
theorem d_Mod_isRoom_14 : decode prog_12_method_12_code 14 = .ok (.aload_n 0, 1) := by decide +kernel
theorem d_Mod_isRoom_15 : decode prog_12_method_12_code 15 = .ok (.getfield 47, 3) := by decide +kernel
theorem d_Mod_isRoom_18 : decode prog_12_method_12_code 18 = .ok (.bipush 17, 2) := by decide +kernel
theorem d_Mod_isRoom_20 : decode prog_12_method_12_code 20 = .ok (.iload_n 1, 1) := by decide +kernel
theorem d_Mod_isRoom_21 : decode prog_12_method_12_code 21 = .ok (.imul, 1) := by decide +kernel
theorem d_Mod_isRoom_22 : decode prog_12_method_12_code 22 = .ok (.iload_n 3, 1) := by decide +kernel
theorem d_Mod_isRoom_23 : decode prog_12_method_12_code 23 = .ok (.iadd, 1) := by decide +kernel
theorem d_Mod_isRoom_24 : decode prog_12_method_12_code 24 = .ok (.iaload, 1) := by decide +kernel
theorem d_Mod_isRoom_25 : decode prog_12_method_12_code 25 = .ok (.istore 4, 2) := by decide +kernel
theorem d_Mod_isRoom_10 : decode prog_12_method_12_code 10 = .ok (.iconst 0, 1) := by decide +kernel
theorem d_Mod_isRoom_11 : decode prog_12_method_12_code 11 = .ok (.goto 14, 3) := by decide +kernel
abbrev y_Mod_isRoom : MethodName := ⟨"PackageBookModel", "isRoom", "(II)Z"⟩
abbrev i_Mod_isRoom : pb_I := (y_Mod_isRoom, prog_12_method_12_code, 5, (some Jvm.ClassFile.FieldType.boolean), [], { frames := 2, cells := 0, slots := 0, locals := 48 })
set_option maxRecDepth 100000 in
set_option maxHeartbeats 4000000 in
theorem g_Mod_isRoom {l : Launch} (hl : l.stackTraces = false) (G : pb_G) (h : Nat) (m_rels : Nat) (m_openRels : Nat) (m_closeRels : Nat) (m_openRel : Nat) (m_closeRel : Nat) (m_comment : Nat) (m_ends : Nat) (m_order : Nat) (m_tape : Nat) (m_count : Nat) (m_nameSize : Nat) (m_names : Nat) (m_size : Nat) (m_data : Nat) (m_looked : Nat) (m_file : Nat) (m_directory : Nat) (m_out : Nat) (m_row : Nat) (m_made : Nat) (m_length : Nat) (m_pressed : Nat) (m_mark : Nat) (m_idSize : Nat) (m_ids : Nat) (m_goalSize : Nat) (m_goals : Nat) (m_value : Nat) (m_faults : Nat) (m_reached : Nat) (v_thrown : Int32) (v_taped : Int32) (v_lookedSize : Int32) (v_fileSize : Int32) (v_directorySize : Int32) (v_outSize : Int32) (v_rowSize : Int32) (v_bitAt : Int32) (v_bitEnd : Int32) (v_why : Int32) (v_madeSize : Int32) (v_firstCount : Int32) (v_secondCount : Int32) (v_heldBits : Int32) (v_heldCount : Int32) (v_pressedSize : Int32) (v_at : Int32) (v_bad : Int32) (v_markSize : Int32) (v_relationCount : Int32) (v_valueSize : Int32) (v_faultCount : Int32) (a_count : Nat → Int32) (a_nameSize : Nat → Int32) (a_names : Nat → Int32) (a_looked : Nat → Int32) (a_size : Nat → Int32) (st : Int32) (n : Int32) (s0 : 0 ≤ st.toInt) (s1 : st.toInt ≤ 1) (I : ms_I (17 * st.toInt) (gx a_count st.toInt) a_nameSize a_size a_names) (l0 : 0 ≤ v_lookedSize.toInt) (l1 : v_lookedSize.toInt ≤ 1000000) (n0 : 0 ≤ n.toInt) (n1 : n.toInt ≤ 1000000) (F_a_names : sb_Fit a_names) (F_a_looked : sb_Fit a_looked) : Cn l G i_Mod_isRoom [.ref h, .int st, .int n] [(h, .inr (10, [.ref m_rels, .ref m_openRels, .ref m_closeRels, .ref m_openRel, .ref m_closeRel, .ref m_comment, .ref m_ends, .ref m_order, .int v_thrown, .int v_taped, .ref m_tape, .ref m_count, .ref m_nameSize, .ref m_names, .ref m_size, .ref m_data, .int v_lookedSize, .ref m_looked, .int v_fileSize, .ref m_file, .int v_directorySize, .ref m_directory, .int v_outSize, .ref m_out, .int v_rowSize, .ref m_row, .int v_bitAt, .int v_bitEnd, .int v_why, .int v_madeSize, .ref m_made, .ref m_length, .int v_firstCount, .int v_secondCount, .int v_heldBits, .int v_heldCount, .int v_pressedSize, .ref m_pressed, .int v_at, .int v_bad, .int v_markSize, .ref m_mark, .int v_relationCount, .ref m_idSize, .ref m_ids, .ref m_goalSize, .ref m_goals, .int v_valueSize, .ref m_value, .int v_faultCount, .ref m_faults, .ref m_reached])), (m_count, .inl (G.2.2.1, 2, .inl a_count)), (m_nameSize, .inl (G.2.2.1, 34, .inl a_nameSize)), (m_names, .inl (G.2.1, 816, .inl a_names)), (m_looked, .inl (G.2.1, 40, .inl a_looked)), (m_size, .inl (G.2.2.1, 34, .inl a_size))] (S := Int32) (fun rv_ u => rv_ = some (.int u) ∧ (u.toInt = 0 ∨ u.toInt = 1) ∧ (u.toInt = 1 → n.toInt ≤ 4000 ∧ (∀ i : Int, 0 ≤ i → i < gx a_count st.toInt → nl_eq a_nameSize a_names (17 * st.toInt + i) v_lookedSize.toInt a_looked → sm a_size (17 * st.toInt) (gx a_count st.toInt).toNat - gx a_size (17 * st.toInt + i) + n.toInt ≤ 12000) ∧ ((∀ i : Int, 0 ≤ i → i < gx a_count st.toInt → ¬ nl_eq a_nameSize a_names (17 * st.toInt + i) v_lookedSize.toInt a_looked) → sm a_size (17 * st.toInt) (gx a_count st.toInt).toNat + n.toInt ≤ 12000 ∧ gx a_count st.toInt < 16)) ∧ (u.toInt = 0 → ¬ (n.toInt ≤ 4000 ∧ (∀ i : Int, 0 ≤ i → i < gx a_count st.toInt → nl_eq a_nameSize a_names (17 * st.toInt + i) v_lookedSize.toInt a_looked → sm a_size (17 * st.toInt) (gx a_count st.toInt).toNat - gx a_size (17 * st.toInt + i) + n.toInt ≤ 12000) ∧ ((∀ i : Int, 0 ≤ i → i < gx a_count st.toInt → ¬ nl_eq a_nameSize a_names (17 * st.toInt + i) v_lookedSize.toInt a_looked) → sm a_size (17 * st.toInt) (gx a_count st.toInt).toNat + n.toInt ≤ 12000 ∧ gx a_count st.toInt < 16)))) (fun u => [(h, .inr (10, [.ref m_rels, .ref m_openRels, .ref m_closeRels, .ref m_openRel, .ref m_closeRel, .ref m_comment, .ref m_ends, .ref m_order, .int v_thrown, .int v_taped, .ref m_tape, .ref m_count, .ref m_nameSize, .ref m_names, .ref m_size, .ref m_data, .int v_lookedSize, .ref m_looked, .int v_fileSize, .ref m_file, .int v_directorySize, .ref m_directory, .int v_outSize, .ref m_out, .int v_rowSize, .ref m_row, .int v_bitAt, .int v_bitEnd, .int v_why, .int v_madeSize, .ref m_made, .ref m_length, .int v_firstCount, .int v_secondCount, .int v_heldBits, .int v_heldCount, .int v_pressedSize, .ref m_pressed, .int v_at, .int v_bad, .int v_markSize, .ref m_mark, .int v_relationCount, .ref m_idSize, .ref m_ids, .ref m_goalSize, .ref m_goals, .int v_valueSize, .ref m_value, .int v_faultCount, .ref m_faults, .ref m_reached])), (m_count, .inl (G.2.2.1, 2, .inl a_count)), (m_nameSize, .inl (G.2.2.1, 34, .inl a_nameSize)), (m_names, .inl (G.2.1, 816, .inl a_names)), (m_looked, .inl (G.2.1, 40, .inl a_looked)), (m_size, .inl (G.2.2.1, 34, .inl a_size))]) := by
  refine Cn.of hl (by decide +kernel) rfl (Nat.le_of_ble_eq_true rfl) (fun M hQ => ?_)
  refine pb_eq (pc' := 0) (lo' := [(0, .ref h), (1, .int st), (2, .int n)]) (rest' := []) (ws' := [(h, .inr (10, [.ref m_rels, .ref m_openRels, .ref m_closeRels, .ref m_openRel, .ref m_closeRel, .ref m_comment, .ref m_ends, .ref m_order, .int v_thrown, .int v_taped, .ref m_tape, .ref m_count, .ref m_nameSize, .ref m_names, .ref m_size, .ref m_data, .int v_lookedSize, .ref m_looked, .int v_fileSize, .ref m_file, .int v_directorySize, .ref m_directory, .int v_outSize, .ref m_out, .int v_rowSize, .ref m_row, .int v_bitAt, .int v_bitEnd, .int v_why, .int v_madeSize, .ref m_made, .ref m_length, .int v_firstCount, .int v_secondCount, .int v_heldBits, .int v_heldCount, .int v_pressedSize, .ref m_pressed, .int v_at, .int v_bad, .int v_markSize, .ref m_mark, .int v_relationCount, .ref m_idSize, .ref m_ids, .ref m_goalSize, .ref m_goals, .int v_valueSize, .ref m_value, .int v_faultCount, .ref m_faults, .ref m_reached])), (m_count, .inl (G.2.2.1, 2, .inl a_count)), (m_nameSize, .inl (G.2.2.1, 34, .inl a_nameSize)), (m_names, .inl (G.2.1, 816, .inl a_names)), (m_looked, .inl (G.2.1, 40, .inl a_looked)), (m_size, .inl (G.2.2.1, 34, .inl a_size))]) ?_
  have zl0 : (0 : Int32).toInt = 0 := by decide
  have zl1 : (1 : Int32).toInt = 1 := by decide
  have zl17 : (17 : Int32).toInt = 17 := by decide
  have w0 := I.1
  have w1 := I.2.1
  refine pb_aload_n (pc := 0) d_Mod_isRoom_0 0 rfl rfl ?_
  refine pb_iload_n (pc := 1) d_Mod_isRoom_1 1 rfl rfl ?_
  refine pb_callV (pc := 2) (I := i_Mod_isRoom) (qb := 0) (ci := 10) (nA := 1) (rest := []) (wr := [(m_size, .inl (G.2.2.1, 34, .inl a_size))]) d_Mod_isRoom_2 (g_Mod_find hl G h m_rels m_openRels m_closeRels m_openRel m_closeRel m_comment m_ends m_order m_tape m_count m_nameSize m_names m_size m_data m_looked m_file m_directory m_out m_row m_made m_length m_pressed m_mark m_idSize m_ids m_goalSize m_goals m_value m_faults m_reached v_thrown v_taped v_lookedSize v_fileSize v_directorySize v_outSize v_rowSize v_bitAt v_bitEnd v_why v_madeSize v_firstCount v_secondCount v_heldBits v_heldCount v_pressedSize v_at v_bad v_markSize v_relationCount v_valueSize v_faultCount a_count a_nameSize a_names a_looked st (by first | (with_reducible assumption) | omega (splitDisjunctions := false) | assumption | omega | decide) (by first | (with_reducible assumption) | omega (splitDisjunctions := false) | assumption | omega | decide) (fun i a0 a1 => ⟨(I.2.2.1 i a0 a1).1, (I.2.2.1 i a0 a1).2.1⟩) I.1 I.2.1 (by first | (with_reducible assumption) | omega (splitDisjunctions := false) | assumption | omega | decide) (by first | (with_reducible assumption) | omega (splitDisjunctions := false) | assumption | omega | decide) F_a_names F_a_looked) rfl rfl [0, 1, 2, 3, 4] [5] (by decide) rfl rfl rfl (by decide) (by decide) k_1333 rfl k_128 k_1330 k_1332 k_55 ⟨rfl, hy_Mod_find⟩ (by decide) rfl rfl (Nat.le_of_ble_eq_true rfl) (by decide) (fun v9 u2 ch1 => ?_)
  obtain ⟨r_3, rfl⟩ : ∃ z9, z9 = u2 := ⟨_, rfl⟩
  obtain ⟨ech1, ch1⟩ := ch1
  have ech1 : v9 = some (.int r_3) := ech1
  subst ech1
  obtain ⟨fh4, fh5, fh6, fh7⟩ : (-1 ≤ r_3.toInt) ∧ (r_3.toInt < gx a_count st.toInt) ∧ (0 ≤ r_3.toInt → nl_eq a_nameSize a_names ((17 * st.toInt + r_3.toInt)) v_lookedSize.toInt a_looked) ∧ (r_3.toInt = -1 → ∀ i : Int, 0 ≤ i → i < gx a_count st.toInt → ¬ nl_eq a_nameSize a_names (17 * st.toInt + i) v_lookedSize.toInt a_looked) := ch1
  refine pb_eq (pc' := 5) (lo' := [(0, .ref h), (1, .int st), (2, .int n)]) (rest' := [.int r_3]) (ws' := [(m_size, .inl (G.2.2.1, 34, .inl a_size)), (h, .inr (10, [.ref m_rels, .ref m_openRels, .ref m_closeRels, .ref m_openRel, .ref m_closeRel, .ref m_comment, .ref m_ends, .ref m_order, .int v_thrown, .int v_taped, .ref m_tape, .ref m_count, .ref m_nameSize, .ref m_names, .ref m_size, .ref m_data, .int v_lookedSize, .ref m_looked, .int v_fileSize, .ref m_file, .int v_directorySize, .ref m_directory, .int v_outSize, .ref m_out, .int v_rowSize, .ref m_row, .int v_bitAt, .int v_bitEnd, .int v_why, .int v_madeSize, .ref m_made, .ref m_length, .int v_firstCount, .int v_secondCount, .int v_heldBits, .int v_heldCount, .int v_pressedSize, .ref m_pressed, .int v_at, .int v_bad, .int v_markSize, .ref m_mark, .int v_relationCount, .ref m_idSize, .ref m_ids, .ref m_goalSize, .ref m_goals, .int v_valueSize, .ref m_value, .int v_faultCount, .ref m_faults, .ref m_reached])), (m_count, .inl (G.2.2.1, 2, .inl a_count)), (m_nameSize, .inl (G.2.2.1, 34, .inl a_nameSize)), (m_names, .inl (G.2.1, 816, .inl a_names)), (m_looked, .inl (G.2.1, 40, .inl a_looked))]) ?_
  refine pb_istore_n (pc := 5) (lo' := [(3, .int r_3), (0, .ref h), (1, .int st), (2, .int n)]) d_Mod_isRoom_5 rfl (by decide) rfl ?_
  have hJ27_8 : ∀ (fi : Int32) (le : Int32), (-1 ≤ fi.toInt) → (fi.toInt < gx a_count st.toInt) → (0 ≤ fi.toInt → nl_eq a_nameSize a_names ((17 * st.toInt + fi.toInt)) v_lookedSize.toInt a_looked) → (fi.toInt = -1 → ∀ i : Int, 0 ≤ i → i < gx a_count st.toInt → ¬ nl_eq a_nameSize a_names (17 * st.toInt + i) v_lookedSize.toInt a_looked) → (0 ≤ fi.toInt → le.toInt = gx a_size (17 * st.toInt + fi.toInt)) → (fi.toInt = -1 → le.toInt = 0) → (0 ≤ le.toInt) → (le.toInt ≤ 4000) → pb_P l G M i_Mod_isRoom 27 [(3, .int fi), (4, .int le), (0, .ref h), (1, .int st), (2, .int n)] [] [(h, .inr (10, [.ref m_rels, .ref m_openRels, .ref m_closeRels, .ref m_openRel, .ref m_closeRel, .ref m_comment, .ref m_ends, .ref m_order, .int v_thrown, .int v_taped, .ref m_tape, .ref m_count, .ref m_nameSize, .ref m_names, .ref m_size, .ref m_data, .int v_lookedSize, .ref m_looked, .int v_fileSize, .ref m_file, .int v_directorySize, .ref m_directory, .int v_outSize, .ref m_out, .int v_rowSize, .ref m_row, .int v_bitAt, .int v_bitEnd, .int v_why, .int v_madeSize, .ref m_made, .ref m_length, .int v_firstCount, .int v_secondCount, .int v_heldBits, .int v_heldCount, .int v_pressedSize, .ref m_pressed, .int v_at, .int v_bad, .int v_markSize, .ref m_mark, .int v_relationCount, .ref m_idSize, .ref m_ids, .ref m_goalSize, .ref m_goals, .int v_valueSize, .ref m_value, .int v_faultCount, .ref m_faults, .ref m_reached])), (m_count, .inl (G.2.2.1, 2, .inl a_count)), (m_nameSize, .inl (G.2.2.1, 34, .inl a_nameSize)), (m_names, .inl (G.2.1, 816, .inl a_names)), (m_looked, .inl (G.2.1, 40, .inl a_looked)), (m_size, .inl (G.2.2.1, 34, .inl a_size))] 0 0 := by
    intro fi le g0 g1 g2 g3 g4 g5 g6 g7
    refine pb_iload_n (pc := 27) d_Mod_isRoom_27 4 rfl rfl ?_
    refine pb_sipush (pc := 28) (v := 4000) d_Mod_isRoom_28 (by decide) ?_
    refine pb_icmp_gt (pc := 31) (tgt := 69) d_Mod_isRoom_31 (by decide) (fun w9 => ?_) (fun w9 => ?_)
    · have tw9 : 4000 < n.toInt := (ti_lt (by decide) rfl).mp w9
      refine pb_iconst (pc := 69) (v := 0) d_Mod_isRoom_69 (by decide) ?_
      exact pb_iret (pc := 70) hQ d_Mod_isRoom_70 rfl rfl (0) ⟨rfl, (by (try dsimp only); first | done | (with_reducible assumption) | omega (splitDisjunctions := false) | assumption | (clear fh6 fh7 g2 g3 g4 g5; first | omega (splitDisjunctions := false) | omega) | omega | decide), (show (0 : Int32).toInt = 1 → n.toInt ≤ 4000 ∧ (∀ i : Int, 0 ≤ i → i < gx a_count st.toInt → nl_eq a_nameSize a_names (17 * st.toInt + i) v_lookedSize.toInt a_looked → sm a_size (17 * st.toInt) (gx a_count st.toInt).toNat - gx a_size (17 * st.toInt + i) + n.toInt ≤ 12000) ∧ ((∀ i : Int, 0 ≤ i → i < gx a_count st.toInt → ¬ nl_eq a_nameSize a_names (17 * st.toInt + i) v_lookedSize.toInt a_looked) → sm a_size (17 * st.toInt) (gx a_count st.toInt).toNat + n.toInt ≤ 12000 ∧ gx a_count st.toInt < 16) from (by first | exact fun h9 => absurd h9 (by omega) | exact fun _ => ⟨by omega, fun i i0 i1 hn => by have e9 : i = fi.toInt := nl_uniq I i0 i1 (by omega) (by omega) hn (g2 (by omega)); rw [e9]; omega, fun hn => absurd (g2 (by omega)) (hn fi.toInt (by omega) (by omega))⟩ | exact fun _ => ⟨by omega, fun i i0 i1 hn => absurd hn (g3 (by omega) i i0 i1), fun _ => ⟨by omega, by omega⟩⟩)), (show (0 : Int32).toInt = 0 → ¬ (n.toInt ≤ 4000 ∧ (∀ i : Int, 0 ≤ i → i < gx a_count st.toInt → nl_eq a_nameSize a_names (17 * st.toInt + i) v_lookedSize.toInt a_looked → sm a_size (17 * st.toInt) (gx a_count st.toInt).toNat - gx a_size (17 * st.toInt + i) + n.toInt ≤ 12000) ∧ ((∀ i : Int, 0 ≤ i → i < gx a_count st.toInt → ¬ nl_eq a_nameSize a_names (17 * st.toInt + i) v_lookedSize.toInt a_looked) → sm a_size (17 * st.toInt) (gx a_count st.toInt).toNat + n.toInt ≤ 12000 ∧ gx a_count st.toInt < 16)) from (by first | exact fun h9 => absurd h9 (by omega) | exact fun _ q9 => absurd q9.1 (by omega) | exact fun _ q9 => if w9 : 0 ≤ fi.toInt then (by have q8 := q9.2.1 fi.toInt w9 (by omega) (g2 w9); have q7 := g4 w9; omega) else (by have q8 := q9.2.2 (g3 (by omega)); have q7 := g5 (by omega); omega)))⟩ [0, 1, 2, 3, 4, 5] (by decide) rfl rfl (by decide) (by decide)
    · have tw9 : ¬ 4000 < n.toInt := fun z9 => w9 ((ti_lt (by decide) rfl).mpr z9)
      refine pb_aload_n (pc := 34) d_Mod_isRoom_34 2 rfl rfl ?_
      refine pb_iload_n (pc := 35) d_Mod_isRoom_35 3 rfl rfl ?_
      refine pb_callV (pc := 36) (I := i_Mod_isRoom) (qb := 0) (ci := 10) (nA := 1) (rest := []) (wr := [(m_nameSize, .inl (G.2.2.1, 34, .inl a_nameSize)), (m_names, .inl (G.2.1, 816, .inl a_names)), (m_looked, .inl (G.2.1, 40, .inl a_looked))]) d_Mod_isRoom_36 (g_Mod_allBytes hl G h m_rels m_openRels m_closeRels m_openRel m_closeRel m_comment m_ends m_order m_tape m_count m_nameSize m_names m_size m_data m_looked m_file m_directory m_out m_row m_made m_length m_pressed m_mark m_idSize m_ids m_goalSize m_goals m_value m_faults m_reached v_thrown v_taped v_lookedSize v_fileSize v_directorySize v_outSize v_rowSize v_bitAt v_bitEnd v_why v_madeSize v_firstCount v_secondCount v_heldBits v_heldCount v_pressedSize v_at v_bad v_markSize v_relationCount v_valueSize v_faultCount a_count a_size st (by first | (with_reducible assumption) | omega (splitDisjunctions := false) | assumption | (clear fh6 fh7 g2 g3 g4 g5; first | omega (splitDisjunctions := false) | omega) | omega | decide) (by first | (with_reducible assumption) | omega (splitDisjunctions := false) | assumption | (clear fh6 fh7 g2 g3 g4 g5; first | omega (splitDisjunctions := false) | omega) | omega | decide) (fun i a0 a1 => (I.2.2.1 i a0 a1).2.2) I.1 I.2.1) rfl rfl [0, 1, 5] [2, 3, 4] (by decide) rfl rfl rfl (by decide) (by decide) k_1341 rfl k_128 k_1338 k_1340 k_57 ⟨rfl, hy_Mod_allBytes⟩ (by decide) rfl rfl (Nat.le_of_ble_eq_true rfl) (by decide) (fun v9 u11 ch10 => ?_)
      obtain ⟨r_12, rfl⟩ : ∃ z9, z9 = u11 := ⟨_, rfl⟩
      obtain ⟨ech10, ch10⟩ := ch10
      have ech10 : v9 = some (.int r_12) := ech10
      subst ech10
      obtain ⟨fh13, fh14, fh15⟩ : (r_12.toInt = sm a_size (17 * st.toInt) (gx a_count st.toInt).toNat) ∧ (0 ≤ r_12.toInt) ∧ (r_12.toInt ≤ 64000) := ch10
      refine pb_eq (pc' := 39) (lo' := [(3, .int fi), (4, .int le), (0, .ref h), (1, .int st), (2, .int n)]) (rest' := [.int r_12]) (ws' := [(m_nameSize, .inl (G.2.2.1, 34, .inl a_nameSize)), (m_names, .inl (G.2.1, 816, .inl a_names)), (m_looked, .inl (G.2.1, 40, .inl a_looked)), (h, .inr (10, [.ref m_rels, .ref m_openRels, .ref m_closeRels, .ref m_openRel, .ref m_closeRel, .ref m_comment, .ref m_ends, .ref m_order, .int v_thrown, .int v_taped, .ref m_tape, .ref m_count, .ref m_nameSize, .ref m_names, .ref m_size, .ref m_data, .int v_lookedSize, .ref m_looked, .int v_fileSize, .ref m_file, .int v_directorySize, .ref m_directory, .int v_outSize, .ref m_out, .int v_rowSize, .ref m_row, .int v_bitAt, .int v_bitEnd, .int v_why, .int v_madeSize, .ref m_made, .ref m_length, .int v_firstCount, .int v_secondCount, .int v_heldBits, .int v_heldCount, .int v_pressedSize, .ref m_pressed, .int v_at, .int v_bad, .int v_markSize, .ref m_mark, .int v_relationCount, .ref m_idSize, .ref m_ids, .ref m_goalSize, .ref m_goals, .int v_valueSize, .ref m_value, .int v_faultCount, .ref m_faults, .ref m_reached])), (m_count, .inl (G.2.2.1, 2, .inl a_count)), (m_size, .inl (G.2.2.1, 34, .inl a_size))]) ?_
      refine pb_iload (pc := 39) d_Mod_isRoom_39 1 rfl ?_
      refine pb_isub (pc := 41) d_Mod_isRoom_41 ?_
      refine pb_topi (fun i16 ei16 => ?_)
      try have ti16 : i16.toInt = r_12.toInt - le.toInt := t2_sub ei16 rfl rfl (by omega)
      refine pb_iload_n (pc := 42) d_Mod_isRoom_42 4 rfl rfl ?_
      refine pb_iadd (pc := 43) d_Mod_isRoom_43 ?_
      refine pb_topi (fun i17 ei17 => ?_)
      try have ti17 : i17.toInt = i16.toInt + n.toInt := t2_add ei17 rfl rfl (by omega)
      refine pb_sipush (pc := 44) (v := 12000) d_Mod_isRoom_44 (by decide) ?_
      refine pb_icmp_gt (pc := 47) (tgt := 69) d_Mod_isRoom_47 (by decide) (fun w18 => ?_) (fun w18 => ?_)
      · have tw18 : 12000 < i17.toInt := (ti_lt (by decide) rfl).mp w18
        refine pb_iconst (pc := 69) (v := 0) d_Mod_isRoom_69 (by decide) ?_
        exact pb_iret (pc := 70) hQ d_Mod_isRoom_70 rfl rfl (0) ⟨rfl, (by (try dsimp only); first | done | (with_reducible assumption) | omega (splitDisjunctions := false) | assumption | (clear fh6 fh7 g2 g3 g4 g5; first | omega (splitDisjunctions := false) | omega) | omega | decide), (show (0 : Int32).toInt = 1 → n.toInt ≤ 4000 ∧ (∀ i : Int, 0 ≤ i → i < gx a_count st.toInt → nl_eq a_nameSize a_names (17 * st.toInt + i) v_lookedSize.toInt a_looked → sm a_size (17 * st.toInt) (gx a_count st.toInt).toNat - gx a_size (17 * st.toInt + i) + n.toInt ≤ 12000) ∧ ((∀ i : Int, 0 ≤ i → i < gx a_count st.toInt → ¬ nl_eq a_nameSize a_names (17 * st.toInt + i) v_lookedSize.toInt a_looked) → sm a_size (17 * st.toInt) (gx a_count st.toInt).toNat + n.toInt ≤ 12000 ∧ gx a_count st.toInt < 16) from (by first | exact fun h9 => absurd h9 (by omega) | exact fun _ => ⟨by omega, fun i i0 i1 hn => by have e9 : i = fi.toInt := nl_uniq I i0 i1 (by omega) (by omega) hn (g2 (by omega)); rw [e9]; omega, fun hn => absurd (g2 (by omega)) (hn fi.toInt (by omega) (by omega))⟩ | exact fun _ => ⟨by omega, fun i i0 i1 hn => absurd hn (g3 (by omega) i i0 i1), fun _ => ⟨by omega, by omega⟩⟩)), (show (0 : Int32).toInt = 0 → ¬ (n.toInt ≤ 4000 ∧ (∀ i : Int, 0 ≤ i → i < gx a_count st.toInt → nl_eq a_nameSize a_names (17 * st.toInt + i) v_lookedSize.toInt a_looked → sm a_size (17 * st.toInt) (gx a_count st.toInt).toNat - gx a_size (17 * st.toInt + i) + n.toInt ≤ 12000) ∧ ((∀ i : Int, 0 ≤ i → i < gx a_count st.toInt → ¬ nl_eq a_nameSize a_names (17 * st.toInt + i) v_lookedSize.toInt a_looked) → sm a_size (17 * st.toInt) (gx a_count st.toInt).toNat + n.toInt ≤ 12000 ∧ gx a_count st.toInt < 16)) from (by first | exact fun h9 => absurd h9 (by omega) | exact fun _ q9 => absurd q9.1 (by omega) | exact fun _ q9 => if w9 : 0 ≤ fi.toInt then (by have q8 := q9.2.1 fi.toInt w9 (by omega) (g2 w9); have q7 := g4 w9; omega) else (by have q8 := q9.2.2 (g3 (by omega)); have q7 := g5 (by omega); omega)))⟩ [3, 4, 0, 1, 2, 5] (by decide) rfl rfl (by decide) (by decide)
      · have tw18 : ¬ 12000 < i17.toInt := fun z9 => w18 ((ti_lt (by decide) rfl).mpr z9)
        refine pb_iload_n (pc := 50) d_Mod_isRoom_50 0 rfl rfl ?_
        refine pb_if_ge (pc := 51) (tgt := 65) d_Mod_isRoom_51 (by decide) (fun w19 => ?_) (fun w19 => ?_)
        · have tw19 : 0 ≤ fi.toInt := (ti_le (by decide) rfl).mp w19
          refine pb_iconst (pc := 65) (v := 1) d_Mod_isRoom_65 (by decide) ?_
          refine pb_goto (pc := 66) (tgt := 70) d_Mod_isRoom_66 (by decide) ?_
          exact pb_iret (pc := 70) hQ d_Mod_isRoom_70 rfl rfl (1) ⟨rfl, (by (try dsimp only); first | done | (with_reducible assumption) | omega (splitDisjunctions := false) | assumption | (have y90 := g2 tw19; have y91 := g4 tw19; clear fh6 fh7 g2 g3 g4 g5; first | omega (splitDisjunctions := false) | omega) | omega | decide), (show (1 : Int32).toInt = 1 → n.toInt ≤ 4000 ∧ (∀ i : Int, 0 ≤ i → i < gx a_count st.toInt → nl_eq a_nameSize a_names (17 * st.toInt + i) v_lookedSize.toInt a_looked → sm a_size (17 * st.toInt) (gx a_count st.toInt).toNat - gx a_size (17 * st.toInt + i) + n.toInt ≤ 12000) ∧ ((∀ i : Int, 0 ≤ i → i < gx a_count st.toInt → ¬ nl_eq a_nameSize a_names (17 * st.toInt + i) v_lookedSize.toInt a_looked) → sm a_size (17 * st.toInt) (gx a_count st.toInt).toNat + n.toInt ≤ 12000 ∧ gx a_count st.toInt < 16) from (by first | exact fun h9 => absurd h9 (by omega) | exact fun _ => ⟨by (first | exact omg_d964c4f388 tw9 | omega), fun i i0 i1 hn => by have e9 : i = fi.toInt := nl_uniq I i0 i1 (by omega) (by omega) hn (g2 (by omega)); rw [e9]; (first | exact omg_85f488137f g4 fh13 ti16 ti17 tw18 i0 e9 | omega), fun hn => absurd (g2 (by omega)) (hn fi.toInt (by omega) (by omega))⟩ | exact fun _ => ⟨by omega, fun i i0 i1 hn => absurd hn (g3 (by omega) i i0 i1), fun _ => ⟨by omega, by omega⟩⟩)), (show (1 : Int32).toInt = 0 → ¬ (n.toInt ≤ 4000 ∧ (∀ i : Int, 0 ≤ i → i < gx a_count st.toInt → nl_eq a_nameSize a_names (17 * st.toInt + i) v_lookedSize.toInt a_looked → sm a_size (17 * st.toInt) (gx a_count st.toInt).toNat - gx a_size (17 * st.toInt + i) + n.toInt ≤ 12000) ∧ ((∀ i : Int, 0 ≤ i → i < gx a_count st.toInt → ¬ nl_eq a_nameSize a_names (17 * st.toInt + i) v_lookedSize.toInt a_looked) → sm a_size (17 * st.toInt) (gx a_count st.toInt).toNat + n.toInt ≤ 12000 ∧ gx a_count st.toInt < 16)) from (by first | exact fun h9 => absurd h9 (by omega) | exact fun _ q9 => absurd q9.1 (by omega) | exact fun _ q9 => if w9 : 0 ≤ fi.toInt then (by have q8 := q9.2.1 fi.toInt w9 (by omega) (g2 w9); have q7 := g4 w9; omega) else (by have q8 := q9.2.2 (g3 (by omega)); have q7 := g5 (by omega); omega)))⟩ [3, 4, 0, 1, 2, 5] (by decide) rfl rfl (by decide) (by decide)
        · have tw19 : ¬ 0 ≤ fi.toInt := fun z9 => w19 ((ti_le (by decide) rfl).mpr z9)
          refine pb_aload_n (pc := 54) d_Mod_isRoom_54 2 rfl rfl ?_
          refine pb_get (pc := 55) d_Mod_isRoom_55 3 11 rfl rfl (by decide) in_Mod k_1157 rfl ?_
          refine pb_iload_n (pc := 58) d_Mod_isRoom_58 3 rfl rfl ?_
          refine pb_iald (pc := 59) d_Mod_isRoom_59 4 rfl (vp_in_iff.mpr (by omega)) ?_
          refine pb_topi (fun i20 ei20 => ?_)
          have ti20 : i20.toInt = gx a_count (st.toInt) := gx_ld ei20 rfl
          refine pb_bipush (pc := 60) (v := 16) d_Mod_isRoom_60 (by decide) ?_
          refine pb_icmp_ge (pc := 62) (tgt := 69) d_Mod_isRoom_62 (by decide) (fun w21 => ?_) (fun w21 => ?_)
          · have tw21 : 16 ≤ i20.toInt := (ti_le (by decide) rfl).mp w21
            refine pb_iconst (pc := 69) (v := 0) d_Mod_isRoom_69 (by decide) ?_
            exact pb_iret (pc := 70) hQ d_Mod_isRoom_70 rfl rfl (0) ⟨rfl, (by (try dsimp only); first | done | (with_reducible assumption) | omega (splitDisjunctions := false) | assumption | (clear fh6 fh7 g2 g3 g4 g5; first | omega (splitDisjunctions := false) | omega) | omega | decide), (show (0 : Int32).toInt = 1 → n.toInt ≤ 4000 ∧ (∀ i : Int, 0 ≤ i → i < gx a_count st.toInt → nl_eq a_nameSize a_names (17 * st.toInt + i) v_lookedSize.toInt a_looked → sm a_size (17 * st.toInt) (gx a_count st.toInt).toNat - gx a_size (17 * st.toInt + i) + n.toInt ≤ 12000) ∧ ((∀ i : Int, 0 ≤ i → i < gx a_count st.toInt → ¬ nl_eq a_nameSize a_names (17 * st.toInt + i) v_lookedSize.toInt a_looked) → sm a_size (17 * st.toInt) (gx a_count st.toInt).toNat + n.toInt ≤ 12000 ∧ gx a_count st.toInt < 16) from (by first | exact fun h9 => absurd h9 (by omega) | exact fun _ => ⟨by omega, fun i i0 i1 hn => by have e9 : i = fi.toInt := nl_uniq I i0 i1 (by omega) (by omega) hn (g2 (by omega)); rw [e9]; omega, fun hn => absurd (g2 (by omega)) (hn fi.toInt (by omega) (by omega))⟩ | exact fun _ => ⟨by omega, fun i i0 i1 hn => absurd hn (g3 (by omega) i i0 i1), fun _ => ⟨by omega, by omega⟩⟩)), (show (0 : Int32).toInt = 0 → ¬ (n.toInt ≤ 4000 ∧ (∀ i : Int, 0 ≤ i → i < gx a_count st.toInt → nl_eq a_nameSize a_names (17 * st.toInt + i) v_lookedSize.toInt a_looked → sm a_size (17 * st.toInt) (gx a_count st.toInt).toNat - gx a_size (17 * st.toInt + i) + n.toInt ≤ 12000) ∧ ((∀ i : Int, 0 ≤ i → i < gx a_count st.toInt → ¬ nl_eq a_nameSize a_names (17 * st.toInt + i) v_lookedSize.toInt a_looked) → sm a_size (17 * st.toInt) (gx a_count st.toInt).toNat + n.toInt ≤ 12000 ∧ gx a_count st.toInt < 16)) from (by first | exact fun h9 => absurd h9 (by omega) | exact fun _ q9 => absurd q9.1 (by omega) | exact fun _ q9 => if w9 : 0 ≤ fi.toInt then (by have q8 := q9.2.1 fi.toInt w9 (by omega) (g2 w9); have q7 := g4 w9; omega) else (by have q8 := q9.2.2 (g3 (by omega)); have q7 := g5 (by omega); omega)))⟩ [3, 4, 0, 1, 2, 5] (by decide) rfl rfl (by decide) (by decide)
          · have tw21 : ¬ 16 ≤ i20.toInt := fun z9 => w21 ((ti_le (by decide) rfl).mpr z9)
            refine pb_iconst (pc := 65) (v := 1) d_Mod_isRoom_65 (by decide) ?_
            refine pb_goto (pc := 66) (tgt := 70) d_Mod_isRoom_66 (by decide) ?_
            exact pb_iret (pc := 70) hQ d_Mod_isRoom_70 rfl rfl (1) ⟨rfl, (by (try dsimp only); first | done | (with_reducible assumption) | omega (splitDisjunctions := false) | assumption | (clear fh6 fh7 g2 g3 g4 g5; first | omega (splitDisjunctions := false) | omega) | omega | decide), (show (1 : Int32).toInt = 1 → n.toInt ≤ 4000 ∧ (∀ i : Int, 0 ≤ i → i < gx a_count st.toInt → nl_eq a_nameSize a_names (17 * st.toInt + i) v_lookedSize.toInt a_looked → sm a_size (17 * st.toInt) (gx a_count st.toInt).toNat - gx a_size (17 * st.toInt + i) + n.toInt ≤ 12000) ∧ ((∀ i : Int, 0 ≤ i → i < gx a_count st.toInt → ¬ nl_eq a_nameSize a_names (17 * st.toInt + i) v_lookedSize.toInt a_looked) → sm a_size (17 * st.toInt) (gx a_count st.toInt).toNat + n.toInt ≤ 12000 ∧ gx a_count st.toInt < 16) from (by first | exact fun h9 => absurd h9 (by omega) | exact fun _ => ⟨by (first | exact omg_d964c4f388 tw9 | omega), fun i i0 i1 hn => by have e9 : i = fi.toInt := nl_uniq I i0 i1 (by omega) (by omega) hn (g2 (by omega)); rw [e9]; omega, fun hn => absurd (g2 (by omega)) (hn fi.toInt (by omega) (by omega))⟩ | exact fun _ => ⟨by omega, fun i i0 i1 hn => absurd hn (g3 (by omega) i i0 i1), fun _ => ⟨by omega, by omega⟩⟩)), (show (1 : Int32).toInt = 0 → ¬ (n.toInt ≤ 4000 ∧ (∀ i : Int, 0 ≤ i → i < gx a_count st.toInt → nl_eq a_nameSize a_names (17 * st.toInt + i) v_lookedSize.toInt a_looked → sm a_size (17 * st.toInt) (gx a_count st.toInt).toNat - gx a_size (17 * st.toInt + i) + n.toInt ≤ 12000) ∧ ((∀ i : Int, 0 ≤ i → i < gx a_count st.toInt → ¬ nl_eq a_nameSize a_names (17 * st.toInt + i) v_lookedSize.toInt a_looked) → sm a_size (17 * st.toInt) (gx a_count st.toInt).toNat + n.toInt ≤ 12000 ∧ gx a_count st.toInt < 16)) from (by first | exact fun h9 => absurd h9 (by omega) | exact fun _ q9 => absurd q9.1 (by omega) | exact fun _ q9 => if w9 : 0 ≤ fi.toInt then (by have q8 := q9.2.1 fi.toInt w9 (by omega) (g2 w9); have q7 := g4 w9; omega) else (by have q8 := q9.2.2 (g3 (by omega)); have q7 := g5 (by omega); omega)))⟩ [3, 4, 0, 1, 2, 5] (by decide) rfl rfl (by decide) (by decide)
  refine pb_iload_n (pc := 6) d_Mod_isRoom_6 0 rfl rfl ?_
  refine pb_if_ge (pc := 7) (tgt := 14) d_Mod_isRoom_7 (by decide) (fun w22 => ?_) (fun w22 => ?_)
  · have tw22 : 0 ≤ r_3.toInt := (ti_le (by decide) rfl).mp w22
    have q3 := I.2.2.1 r_3.toInt (by omega) (by omega)
    refine pb_aload_n (pc := 14) d_Mod_isRoom_14 1 rfl rfl ?_
    refine pb_get (pc := 15) d_Mod_isRoom_15 1 14 rfl rfl (by decide) in_Mod k_1160 rfl ?_
    refine pb_bipush (pc := 18) (v := 17) d_Mod_isRoom_18 (by decide) ?_
    refine pb_iload_n (pc := 20) d_Mod_isRoom_20 2 rfl rfl ?_
    refine pb_imul (pc := 21) d_Mod_isRoom_21 ?_
    refine pb_topi (fun i23 ei23 => ?_)
    try have ti23 : i23.toInt = 17 * st.toInt := ti_mul ei23 (by decide) rfl (by omega) (by omega)
    refine pb_iload_n (pc := 22) d_Mod_isRoom_22 0 rfl rfl ?_
    refine pb_iadd (pc := 23) d_Mod_isRoom_23 ?_
    refine pb_topi (fun i24 ei24 => ?_)
    try have ti24 : i24.toInt = i23.toInt + r_3.toInt := t2_add ei24 rfl rfl (by omega)
    refine pb_iald (pc := 24) d_Mod_isRoom_24 0 rfl (vp_in_iff.mpr (by (first | exact omg_eb3a9d69ca s0 s1 w1 fh5 tw22 ti23 ti24 | omega))) ?_
    refine pb_topi (fun i25 ei25 => ?_)
    have ti25 : i25.toInt = gx a_size ((17 * st.toInt + r_3.toInt)) := gx_ld ei25 (by omega)
    refine pb_istore (pc := 25) (lo' := [(4, .int i25), (3, .int r_3), (0, .ref h), (1, .int st), (2, .int n)]) d_Mod_isRoom_25 (by decide) rfl ?_
    refine pb_re (ws' := [(h, .inr (10, [.ref m_rels, .ref m_openRels, .ref m_closeRels, .ref m_openRel, .ref m_closeRel, .ref m_comment, .ref m_ends, .ref m_order, .int v_thrown, .int v_taped, .ref m_tape, .ref m_count, .ref m_nameSize, .ref m_names, .ref m_size, .ref m_data, .int v_lookedSize, .ref m_looked, .int v_fileSize, .ref m_file, .int v_directorySize, .ref m_directory, .int v_outSize, .ref m_out, .int v_rowSize, .ref m_row, .int v_bitAt, .int v_bitEnd, .int v_why, .int v_madeSize, .ref m_made, .ref m_length, .int v_firstCount, .int v_secondCount, .int v_heldBits, .int v_heldCount, .int v_pressedSize, .ref m_pressed, .int v_at, .int v_bad, .int v_markSize, .ref m_mark, .int v_relationCount, .ref m_idSize, .ref m_ids, .ref m_goalSize, .ref m_goals, .int v_valueSize, .ref m_value, .int v_faultCount, .ref m_faults, .ref m_reached])), (m_count, .inl (G.2.2.1, 2, .inl a_count)), (m_nameSize, .inl (G.2.2.1, 34, .inl a_nameSize)), (m_names, .inl (G.2.1, 816, .inl a_names)), (m_looked, .inl (G.2.1, 40, .inl a_looked)), (m_size, .inl (G.2.2.1, 34, .inl a_size))]) (lo' := [(3, .int r_3), (4, .int i25), (0, .ref h), (1, .int st), (2, .int n)]) [1, 2, 3, 4, 5, 0] [1, 0, 2, 3, 4] (by decide) rfl rfl rfl ?_
    exact hJ27_8 r_3 i25 (by first | (with_reducible assumption) | omega (splitDisjunctions := false) | assumption | (have y90 := fh6 tw22; clear fh6 fh7; first | omega (splitDisjunctions := false) | omega) | omega | decide) (by first | (with_reducible assumption) | omega (splitDisjunctions := false) | assumption | (have y90 := fh6 tw22; clear fh6 fh7; first | omega (splitDisjunctions := false) | omega) | omega | decide) (by first | assumption | decide | omega) (by first | assumption | decide | omega) (by first | (with_reducible assumption) | omega (splitDisjunctions := false) | assumption | exact fun q90 => (by have y90 := fh6 q90; clear fh6 fh7; first | omega (splitDisjunctions := false) | omega) | omega | decide) (by first | (with_reducible assumption) | omega (splitDisjunctions := false) | assumption | exact fun q90 => (by have y90 := fh6 tw22; have y91 := fh7 q90; clear fh6 fh7 y91; first | omega (splitDisjunctions := false) | omega) | omega | decide) (by first | (with_reducible assumption) | (first | exact omg_84e32e2c14 q3 ti25 | omega (splitDisjunctions := false)) | assumption | (have y90 := fh6 tw22; clear fh6 fh7; first | omega (splitDisjunctions := false) | omega) | omega | decide) (by first | (with_reducible assumption) | omega (splitDisjunctions := false) | assumption | (have y90 := fh6 tw22; clear fh6 fh7; first | omega (splitDisjunctions := false) | omega) | omega | decide)
  · have tw22 : ¬ 0 ≤ r_3.toInt := fun z9 => w22 ((ti_le (by decide) rfl).mpr z9)
    refine pb_iconst (pc := 10) (v := 0) d_Mod_isRoom_10 (by decide) ?_
    refine pb_goto (pc := 11) (tgt := 25) d_Mod_isRoom_11 (by decide) ?_
    refine pb_istore (pc := 25) (lo' := [(4, .int 0), (3, .int r_3), (0, .ref h), (1, .int st), (2, .int n)]) d_Mod_isRoom_25 (by decide) rfl ?_
    refine pb_re (ws' := [(h, .inr (10, [.ref m_rels, .ref m_openRels, .ref m_closeRels, .ref m_openRel, .ref m_closeRel, .ref m_comment, .ref m_ends, .ref m_order, .int v_thrown, .int v_taped, .ref m_tape, .ref m_count, .ref m_nameSize, .ref m_names, .ref m_size, .ref m_data, .int v_lookedSize, .ref m_looked, .int v_fileSize, .ref m_file, .int v_directorySize, .ref m_directory, .int v_outSize, .ref m_out, .int v_rowSize, .ref m_row, .int v_bitAt, .int v_bitEnd, .int v_why, .int v_madeSize, .ref m_made, .ref m_length, .int v_firstCount, .int v_secondCount, .int v_heldBits, .int v_heldCount, .int v_pressedSize, .ref m_pressed, .int v_at, .int v_bad, .int v_markSize, .ref m_mark, .int v_relationCount, .ref m_idSize, .ref m_ids, .ref m_goalSize, .ref m_goals, .int v_valueSize, .ref m_value, .int v_faultCount, .ref m_faults, .ref m_reached])), (m_count, .inl (G.2.2.1, 2, .inl a_count)), (m_nameSize, .inl (G.2.2.1, 34, .inl a_nameSize)), (m_names, .inl (G.2.1, 816, .inl a_names)), (m_looked, .inl (G.2.1, 40, .inl a_looked)), (m_size, .inl (G.2.2.1, 34, .inl a_size))]) (lo' := [(3, .int r_3), (4, .int 0), (0, .ref h), (1, .int st), (2, .int n)]) [1, 2, 3, 4, 5, 0] [1, 0, 2, 3, 4] (by decide) rfl rfl rfl ?_
    exact hJ27_8 r_3 0 (by first | (with_reducible assumption) | omega (splitDisjunctions := false) | assumption | (clear fh6 fh7; first | omega (splitDisjunctions := false) | omega) | omega | decide) (by first | (with_reducible assumption) | omega (splitDisjunctions := false) | assumption | (clear fh6 fh7; first | omega (splitDisjunctions := false) | omega) | omega | decide) (by first | assumption | decide | omega) (by first | assumption | decide | omega) (by first | (with_reducible assumption) | omega (splitDisjunctions := false) | assumption | exact fun q90 => (by have y90 := fh6 q90; clear fh6 fh7; first | omega (splitDisjunctions := false) | omega) | omega | decide) (by first | (with_reducible assumption) | omega (splitDisjunctions := false) | assumption | exact fun q90 => (by have y90 := fh7 q90; clear fh6 fh7 y90; first | omega (splitDisjunctions := false) | omega) | omega | decide) (by first | (with_reducible assumption) | omega (splitDisjunctions := false) | assumption | (clear fh6 fh7; first | omega (splitDisjunctions := false) | omega) | omega | decide) (by first | (with_reducible assumption) | omega (splitDisjunctions := false) | assumption | (clear fh6 fh7; first | omega (splitDisjunctions := false) | omega) | omega | decide)
/-! ROWS OF NUMBERS -/
theorem omg_7b26acebc9 {x0 : Int} {x1 : Int} {x2 : Nat} {x3 : Int} {x4 : Int} (a0 : ((Int.toNat (((8 : Int) * x0) - x1)) < (x2 + (1 : Nat)))) (a1 : (x3 = ((8 : Int) * x0))) (a2 : (¬ (x3 ≤ x1))) (a3 : (x4 = (x1 + (1 : Int)))) : ((Int.toNat (((8 : Int) * x0) - x4)) < x2) := by omega
theorem d_Mod_sumOf_0 : decode prog_12_method_18_code 0 = .ok (.iconst (-1), 1) := by decide +kernel
theorem d_Mod_sumOf_1 : decode prog_12_method_18_code 1 = .ok (.istore_n 3, 1) := by decide +kernel
theorem d_Mod_sumOf_2 : decode prog_12_method_18_code 2 = .ok (.iconst 0, 1) := by decide +kernel
theorem d_Mod_sumOf_3 : decode prog_12_method_18_code 3 = .ok (.istore 4, 2) := by decide +kernel
theorem d_Mod_sumOf_5 : decode prog_12_method_18_code 5 = .ok (.iload 4, 2) := by decide +kernel
theorem d_Mod_sumOf_7 : decode prog_12_method_18_code 7 = .ok (.bipush 8, 2) := by decide +kernel
theorem d_Mod_sumOf_9 : decode prog_12_method_18_code 9 = .ok (.iload_n 2, 1) := by decide +kernel
theorem d_Mod_sumOf_10 : decode prog_12_method_18_code 10 = .ok (.imul, 1) := by decide +kernel
theorem d_Mod_sumOf_11 : decode prog_12_method_18_code 11 = .ok (.if_icmp .ge 61, 3) := by decide +kernel
theorem d_Mod_sumOf_72 : decode prog_12_method_18_code 72 = .ok (.iload_n 3, 1) := by decide +kernel
theorem d_Mod_sumOf_73 : decode prog_12_method_18_code 73 = .ok (.iconst (-1), 1) := by decide +kernel
theorem d_Mod_sumOf_74 : decode prog_12_method_18_code 74 = .ok (.ixor, 1) := by decide +kernel
theorem d_Mod_sumOf_75 : decode prog_12_method_18_code 75 = .ok (.ireturn, 1) := by decide +kernel
theorem d_Mod_sumOf_14 : decode prog_12_method_18_code 14 = .ok (.aload_n 0, 1) := by decide +kernel
theorem d_Mod_sumOf_15 : decode prog_12_method_18_code 15 = .ok (.iload_n 1, 1) := by decide +kernel
theorem d_Mod_sumOf_16 : decode prog_12_method_18_code 16 = .ok (.iload 4, 2) := by decide +kernel
theorem d_Mod_sumOf_18 : decode prog_12_method_18_code 18 = .ok (.bipush 8, 2) := by decide +kernel
theorem d_Mod_sumOf_20 : decode prog_12_method_18_code 20 = .ok (.idiv, 1) := by decide +kernel
theorem d_Mod_sumOf_21 : decode prog_12_method_18_code 21 = .ok (.iadd, 1) := by decide +kernel
theorem d_Mod_sumOf_22 : decode prog_12_method_18_code 22 = .ok (.baload, 1) := by decide +kernel
theorem d_Mod_sumOf_23 : decode prog_12_method_18_code 23 = .ok (.iload 4, 2) := by decide +kernel
theorem d_Mod_sumOf_25 : decode prog_12_method_18_code 25 = .ok (.bipush 8, 2) := by decide +kernel
theorem d_Mod_sumOf_27 : decode prog_12_method_18_code 27 = .ok (.irem, 1) := by decide +kernel
theorem d_Mod_sumOf_28 : decode prog_12_method_18_code 28 = .ok (.ishr, 1) := by decide +kernel
theorem d_Mod_sumOf_29 : decode prog_12_method_18_code 29 = .ok (.iconst 1, 1) := by decide +kernel
theorem d_Mod_sumOf_30 : decode prog_12_method_18_code 30 = .ok (.iand, 1) := by decide +kernel
theorem d_Mod_sumOf_31 : decode prog_12_method_18_code 31 = .ok (.istore 5, 2) := by decide +kernel
theorem d_Mod_sumOf_33 : decode prog_12_method_18_code 33 = .ok (.iload_n 3, 1) := by decide +kernel
theorem d_Mod_sumOf_34 : decode prog_12_method_18_code 34 = .ok (.iconst 1, 1) := by decide +kernel
theorem d_Mod_sumOf_35 : decode prog_12_method_18_code 35 = .ok (.iand, 1) := by decide +kernel
theorem d_Mod_sumOf_36 : decode prog_12_method_18_code 36 = .ok (.iload 5, 2) := by decide +kernel
theorem d_Mod_sumOf_38 : decode prog_12_method_18_code 38 = .ok (.if_icmp .eq 7, 3) := by decide +kernel
theorem d_Mod_sumOf_45 : decode prog_12_method_18_code 45 = .ok (.iconst 0, 1) := by decide +kernel
theorem d_Mod_sumOf_46 : decode prog_12_method_18_code 46 = .ok (.istore 6, 2) := by decide +kernel
theorem d_Mod_sumOf_48 : decode prog_12_method_18_code 48 = .ok (.iload_n 3, 1) := by decide +kernel
theorem d_Mod_sumOf_49 : decode prog_12_method_18_code 49 = .ok (.iconst 1, 1) := by decide +kernel
theorem d_Mod_sumOf_50 : decode prog_12_method_18_code 50 = .ok (.iushr, 1) := by decide +kernel
theorem d_Mod_sumOf_51 : decode prog_12_method_18_code 51 = .ok (.istore_n 3, 1) := by decide +kernel
theorem d_Mod_sumOf_52 : decode prog_12_method_18_code 52 = .ok (.iload 6, 2) := by decide +kernel
theorem d_Mod_sumOf_54 : decode prog_12_method_18_code 54 = .ok (.ifCond .eq 10, 3) := by decide +kernel
theorem d_Mod_sumOf_64 : decode prog_12_method_18_code 64 = .ok (.iload_n 3, 1) := by decide +kernel
theorem d_Mod_sumOf_65 : decode prog_12_method_18_code 65 = .ok (.istore_n 3, 1) := by decide +kernel
theorem d_Mod_sumOf_66 : decode prog_12_method_18_code 66 = .ok (.iinc 4 1, 3) := by decide +kernel
theorem d_Mod_sumOf_69 : decode prog_12_method_18_code 69 = .ok (.goto (-64), 3) := by decide +kernel
theorem d_Mod_sumOf_41 : decode prog_12_method_18_code 41 = .ok (.iconst 1, 1) := by decide +kernel
theorem d_Mod_sumOf_42 : decode prog_12_method_18_code 42 = .ok (.goto 4, 3) := by decide +kernel
theorem d_Mod_sumOf_57 : decode prog_12_method_18_code 57 = .ok (.iload_n 3, 1) := by decide +kernel
theorem d_Mod_sumOf_58 : decode prog_12_method_18_code 58 = .ok (.ldc 148, 2) := by decide +kernel
theorem k_1369 : (Jvm.Cond.constant "PackageBookModel" (148 : Nat) (-306674912 : Int32)) ∈ uW := uW_c5 52 rfl (by decide +kernel)
theorem d_Mod_sumOf_60 : decode prog_12_method_18_code 60 = .ok (.ixor, 1) := by decide +kernel
theorem d_Mod_sumOf_61 : decode prog_12_method_18_code 61 = .ok (.goto 4, 3) := by decide +kernel
abbrev y_Mod_sumOf : MethodName := ⟨"PackageBookModel", "sumOf", "([BII)I"⟩
abbrev i_Mod_sumOf : pb_I := (y_Mod_sumOf, prog_12_method_18_code, 7, (some Jvm.ClassFile.FieldType.int), [], { frames := 0, cells := 0, slots := 0, locals := 0 })
set_option maxRecDepth 100000 in
set_option maxHeartbeats 4000000 in
theorem g_Mod_sumOf {l : Launch} (hl : l.stackTraces = false) (G : pb_G) (a : Nat) (Na : Nat) (f : Nat → Int32) (x : Int32) (n : Int32) (h0 : 0 ≤ x.toInt) (h1 : 0 ≤ n.toInt) (h2 : x.toInt + n.toInt ≤ Na) (h3 : Na ≤ 1000000) (F_f : sb_Fit f) : Cn l G i_Mod_sumOf [.ref a, .int x, .int n] [(a, .inl (G.2.1, Na, .inl f))] (S := Int32) (fun rv_ u => rv_ = some (.int u) ∧ (u = cr_n f x.toInt n.toInt.toNat ^^^ (-1))) (fun u => [(a, .inl (G.2.1, Na, .inl f))]) := by
  refine Cn.of hl (by decide +kernel) rfl (Nat.le_of_ble_eq_true rfl) (fun M hQ => ?_)
  refine pb_eq (pc' := 0) (lo' := [(0, .ref a), (1, .int x), (2, .int n)]) (rest' := []) (ws' := [(a, .inl (G.2.1, Na, .inl f))]) ?_
  have zm1 : ((-1) : Int32).toInt = (-1) := by decide
  have zl0 : (0 : Int32).toInt = 0 := by decide
  have zl1 : (1 : Int32).toInt = 1 := by decide
  have zl8 : (8 : Int32).toInt = 8 := by decide
  refine pb_iconst (pc := 0) (v := (-1)) d_Mod_sumOf_0 (by decide) ?_
  refine pb_istore_n (pc := 1) (lo' := [(3, .int (-1)), (0, .ref a), (1, .int x), (2, .int n)]) d_Mod_sumOf_1 rfl (by decide) rfl ?_
  refine pb_iconst (pc := 2) (v := 0) d_Mod_sumOf_2 (by decide) ?_
  refine pb_istore (pc := 3) (lo' := [(4, .int 0), (3, .int (-1)), (0, .ref a), (1, .int x), (2, .int n)]) d_Mod_sumOf_3 (by decide) rfl ?_
  have hL5_1 : ∀ (N9 : Nat) (k : Int32) (s : Int32), (0 ≤ k.toInt) → (k.toInt ≤ 8 * n.toInt) → (s = cq_n f x.toInt k.toInt.toNat) → ((8 * n.toInt - k.toInt).toNat) < N9 → pb_P l G M i_Mod_sumOf 5 [(4, .int k), (3, .int s), (0, .ref a), (1, .int x), (2, .int n)] [] [(a, .inl (G.2.1, Na, .inl f))] 0 0 := by
    intro N9
    induction N9 with
    | zero => intro k s hk hk2 hs hm9; exact absurd hm9 (Nat.not_lt_zero _)
    | succ N9 ih5 =>
      intro k s hk hk2 hs hm9
      refine pb_iload (pc := 5) d_Mod_sumOf_5 0 rfl ?_
      refine pb_bipush (pc := 7) (v := 8) d_Mod_sumOf_7 (by decide) ?_
      refine pb_iload_n (pc := 9) d_Mod_sumOf_9 4 rfl rfl ?_
      refine pb_imul (pc := 10) d_Mod_sumOf_10 ?_
      refine pb_topi (fun i2 ei2 => ?_)
      try have ti2 : i2.toInt = 8 * n.toInt := ti_mul ei2 (by decide) rfl (by omega) (by omega)
      refine pb_icmp_ge (pc := 11) (tgt := 72) d_Mod_sumOf_11 (by decide) (fun w3 => ?_) (fun w3 => ?_)
      · have tw3 : i2.toInt ≤ k.toInt := (ti_le rfl rfl).mp w3
        refine pb_iload_n (pc := 72) d_Mod_sumOf_72 1 rfl rfl ?_
        refine pb_iconst (pc := 73) (v := (-1)) d_Mod_sumOf_73 (by decide) ?_
        refine pb_ixor (pc := 74) d_Mod_sumOf_74 ?_
        refine pb_topi (fun i4 ei4 => ?_)
        exact pb_iret (pc := 75) hQ d_Mod_sumOf_75 rfl rfl (i4) ⟨rfl, (show i4 = cr_n f x.toInt n.toInt.toNat ^^^ (-1) from (cq_ret hs (by omega) (by omega) (by assumption)))⟩ [0] (by decide) rfl rfl (by decide) (by decide)
      · have tw3 : ¬ i2.toInt ≤ k.toInt := fun z9 => w3 ((ti_le rfl rfl).mpr z9)
        refine pb_aload_n (pc := 14) d_Mod_sumOf_14 2 rfl rfl ?_
        refine pb_iload_n (pc := 15) d_Mod_sumOf_15 3 rfl rfl ?_
        refine pb_iload (pc := 16) d_Mod_sumOf_16 0 rfl ?_
        refine pb_bipush (pc := 18) (v := 8) d_Mod_sumOf_18 (by decide) ?_
        refine pb_idiv (pc := 20) d_Mod_sumOf_20 (by decide) ?_
        refine pb_topi (fun i5 ei5 => ?_)
        try have ti5 : i5.toInt = k.toInt / 8 := ti_div 8 ei5 rfl (by decide) (by omega) (by decide)
        refine pb_iadd (pc := 21) d_Mod_sumOf_21 ?_
        refine pb_topi (fun i6 ei6 => ?_)
        try have ti6 : i6.toInt = x.toInt + i5.toInt := t2_add ei6 rfl rfl (by omega)
        refine pb_bald (pc := 22) d_Mod_sumOf_22 0 rfl (vp_in_iff.mpr (by omega)) ?_
        refine pb_topi (fun i7 ei7 => ?_)
        have xi7 : i7 = gr f (x.toInt + k.toInt / 8) := gr_ld ei7 (by omega)
        have yi7 : i7.toInt = gx f (x.toInt + k.toInt / 8) := congrArg Int32.toInt xi7
        have ti7 : -128 ≤ i7.toInt ∧ i7.toInt ≤ 127 := ti_fit (F_f _) ei7
        refine pb_iload (pc := 23) d_Mod_sumOf_23 0 rfl ?_
        refine pb_bipush (pc := 25) (v := 8) d_Mod_sumOf_25 (by decide) ?_
        refine pb_irem (pc := 27) d_Mod_sumOf_27 (by decide) ?_
        refine pb_topi (fun i8 ei8 => ?_)
        try have ti8 : i8.toInt = k.toInt % 8 := ti_rem 8 ei8 rfl (by decide) (by omega) (by decide)
        refine pb_ishr (pc := 28) d_Mod_sumOf_28 ?_
        refine pb_topi (fun i9 ei9 => ?_)
        refine pb_iconst (pc := 29) (v := 1) d_Mod_sumOf_29 (by decide) ?_
        refine pb_iand (pc := 30) d_Mod_sumOf_30 ?_
        refine pb_topi (fun i10 ei10 => ?_)
        have ti10 : 0 ≤ i10.toInt ∧ i10.toInt ≤ 1 := ti_and 1 ei10 (by decide) (by decide)
        refine pb_istore (pc := 31) (lo' := [(5, .int i10), (4, .int k), (3, .int s), (0, .ref a), (1, .int x), (2, .int n)]) d_Mod_sumOf_31 (by decide) rfl ?_
        refine pb_iload_n (pc := 33) d_Mod_sumOf_33 2 rfl rfl ?_
        refine pb_iconst (pc := 34) (v := 1) d_Mod_sumOf_34 (by decide) ?_
        refine pb_iand (pc := 35) d_Mod_sumOf_35 ?_
        refine pb_topi (fun i11 ei11 => ?_)
        have ti11 : 0 ≤ i11.toInt ∧ i11.toInt ≤ 1 := ti_and 1 ei11 (by decide) (by decide)
        refine pb_iload (pc := 36) d_Mod_sumOf_36 0 rfl ?_
        refine pb_icmp_eq (pc := 38) (tgt := 45) d_Mod_sumOf_38 (by decide) (fun w12 => ?_) (fun w12 => ?_)
        · have tw12 : i11.toInt = i10.toInt := (ti_eq rfl rfl).mp w12
          refine pb_iconst (pc := 45) (v := 0) d_Mod_sumOf_45 (by decide) ?_
          refine pb_istore (pc := 46) (lo' := [(6, .int 0), (5, .int i10), (4, .int k), (3, .int s), (0, .ref a), (1, .int x), (2, .int n)]) d_Mod_sumOf_46 (by decide) rfl ?_
          refine pb_iload_n (pc := 48) d_Mod_sumOf_48 3 rfl rfl ?_
          refine pb_iconst (pc := 49) (v := 1) d_Mod_sumOf_49 (by decide) ?_
          refine pb_iushr (pc := 50) d_Mod_sumOf_50 rfl ?_
          refine pb_topi (fun i13 ei13 => ?_)
          refine pb_istore_n (pc := 51) (lo' := [(3, .int i13), (6, .int 0), (5, .int i10), (4, .int k), (0, .ref a), (1, .int x), (2, .int n)]) d_Mod_sumOf_51 rfl (by decide) rfl ?_
          refine pb_iload (pc := 52) d_Mod_sumOf_52 1 rfl ?_
          refine pb_if_eq (pc := 54) (tgt := 64) d_Mod_sumOf_54 (by decide) (fun _ => ?_) (fun h9 => absurd h9 (by decide))
          refine pb_iload_n (pc := 64) d_Mod_sumOf_64 0 rfl rfl ?_
          refine pb_istore_n (pc := 65) (lo' := [(3, .int i13), (6, .int 0), (5, .int i10), (4, .int k), (0, .ref a), (1, .int x), (2, .int n)]) d_Mod_sumOf_65 rfl (by decide) rfl ?_
          refine pb_iincN (pc := 66) (c := 1) d_Mod_sumOf_66 3 rfl (by decide) (by decide) (fun i15 ei15 => ?_)
          have ti15 : i15.toInt = k.toInt + 1 := t2_add ei15 rfl (by decide) (by first | omega | (have r90 := ti_rng k; have r91 := ti_rng i15; have r92 := ti_rng i13; have r93 := ti_rng i10; have r94 := ti_rng x; have r95 := ti_rng n; omega))
          refine pb_eq (pc' := 69) (lo' := [(4, .int i15), (3, .int i13), (6, .int 0), (5, .int i10), (0, .ref a), (1, .int x), (2, .int n)]) (rest' := []) (ws' := [(a, .inl (G.2.1, Na, .inl f))]) ?_
          refine pb_goto (pc := 69) (tgt := 5) d_Mod_sumOf_69 (by decide) ?_
          refine pb_re (ws' := [(a, .inl (G.2.1, Na, .inl f))]) (lo' := [(4, .int i15), (3, .int i13), (0, .ref a), (1, .int x), (2, .int n)]) [0] [0, 1, 4, 5, 6] (by decide) rfl rfl rfl ?_
          exact ih5 i15 i13 (by first | (with_reducible assumption) | omega (splitDisjunctions := false) | assumption | omega | decide) (by first | (with_reducible assumption) | omega (splitDisjunctions := false) | assumption | omega | decide) (by first | (refine cq_st hs (by omega) (by omega) ?_ (cq_e1 (by assumption) (by assumption) (by assumption) (by assumption)); exact cq_bb (by assumption) (by assumption) (by assumption) (by omega)) | (refine cq_st hs (by omega) (by omega) ?_ (cq_e0 (by assumption) (by assumption) (by assumption)); exact cq_bb (by assumption) (by assumption) (by assumption) (by omega))) (by (first | exact omg_7b26acebc9 hm9 ti2 tw3 ti15 | omega))
        · have tw12 : ¬ i11.toInt = i10.toInt := fun z9 => w12 ((ti_eq rfl rfl).mpr z9)
          refine pb_iconst (pc := 41) (v := 1) d_Mod_sumOf_41 (by decide) ?_
          refine pb_goto (pc := 42) (tgt := 46) d_Mod_sumOf_42 (by decide) ?_
          refine pb_istore (pc := 46) (lo' := [(6, .int 1), (5, .int i10), (4, .int k), (3, .int s), (0, .ref a), (1, .int x), (2, .int n)]) d_Mod_sumOf_46 (by decide) rfl ?_
          refine pb_iload_n (pc := 48) d_Mod_sumOf_48 3 rfl rfl ?_
          refine pb_iconst (pc := 49) (v := 1) d_Mod_sumOf_49 (by decide) ?_
          refine pb_iushr (pc := 50) d_Mod_sumOf_50 rfl ?_
          refine pb_topi (fun i16 ei16 => ?_)
          refine pb_istore_n (pc := 51) (lo' := [(3, .int i16), (6, .int 1), (5, .int i10), (4, .int k), (0, .ref a), (1, .int x), (2, .int n)]) d_Mod_sumOf_51 rfl (by decide) rfl ?_
          refine pb_iload (pc := 52) d_Mod_sumOf_52 1 rfl ?_
          refine pb_if_eq (pc := 54) (tgt := 64) d_Mod_sumOf_54 (by decide) (fun h9 => absurd h9 (by decide)) (fun _ => ?_)
          refine pb_iload_n (pc := 57) d_Mod_sumOf_57 0 rfl rfl ?_
          refine pb_ldc (pc := 58) (v := (-306674912)) d_Mod_sumOf_58 k_1369 ?_
          refine pb_ixor (pc := 60) d_Mod_sumOf_60 ?_
          refine pb_topi (fun i18 ei18 => ?_)
          refine pb_goto (pc := 61) (tgt := 65) d_Mod_sumOf_61 (by decide) ?_
          refine pb_istore_n (pc := 65) (lo' := [(3, .int i18), (6, .int 1), (5, .int i10), (4, .int k), (0, .ref a), (1, .int x), (2, .int n)]) d_Mod_sumOf_65 rfl (by decide) rfl ?_
          refine pb_iincN (pc := 66) (c := 1) d_Mod_sumOf_66 3 rfl (by decide) (by decide) (fun i19 ei19 => ?_)
          have ti19 : i19.toInt = k.toInt + 1 := t2_add ei19 rfl (by decide) (by first | omega | (have r90 := ti_rng k; have r91 := ti_rng i19; have r92 := ti_rng i18; have r93 := ti_rng i10; have r94 := ti_rng x; have r95 := ti_rng n; omega))
          refine pb_eq (pc' := 69) (lo' := [(4, .int i19), (3, .int i18), (6, .int 1), (5, .int i10), (0, .ref a), (1, .int x), (2, .int n)]) (rest' := []) (ws' := [(a, .inl (G.2.1, Na, .inl f))]) ?_
          refine pb_goto (pc := 69) (tgt := 5) d_Mod_sumOf_69 (by decide) ?_
          refine pb_re (ws' := [(a, .inl (G.2.1, Na, .inl f))]) (lo' := [(4, .int i19), (3, .int i18), (0, .ref a), (1, .int x), (2, .int n)]) [0] [0, 1, 4, 5, 6] (by decide) rfl rfl rfl ?_
          exact ih5 i19 i18 (by first | (with_reducible assumption) | omega (splitDisjunctions := false) | assumption | omega | decide) (by first | (with_reducible assumption) | omega (splitDisjunctions := false) | assumption | omega | decide) (by first | (refine cq_st hs (by omega) (by omega) ?_ (cq_e1 (by assumption) (by assumption) (by assumption) (by assumption)); exact cq_bb (by assumption) (by assumption) (by assumption) (by omega)) | (refine cq_st hs (by omega) (by omega) ?_ (cq_e0 (by assumption) (by assumption) (by assumption)); exact cq_bb (by assumption) (by assumption) (by assumption) (by omega))) (by (first | exact omg_7b26acebc9 hm9 ti2 tw3 ti19 | omega))
  exact hL5_1 _ 0 (-1) (by first | (with_reducible assumption) | omega (splitDisjunctions := false) | assumption | omega | decide) (by first | (with_reducible assumption) | omega (splitDisjunctions := false) | assumption | omega | decide) (by rw [zl0]; rfl) (Nat.lt_succ_self _)

theorem d_Mod_sum_0 : decode prog_12_method_19_code 0 = .ok (.aload_n 0, 1) := by decide +kernel
theorem d_Mod_sum_1 : decode prog_12_method_19_code 1 = .ok (.iconst 0, 1) := by decide +kernel
theorem d_Mod_sum_2 : decode prog_12_method_19_code 2 = .ok (.putfield 103, 3) := by decide +kernel
theorem d_Mod_sum_5 : decode prog_12_method_19_code 5 = .ok (.aload_n 0, 1) := by decide +kernel
theorem d_Mod_sum_6 : decode prog_12_method_19_code 6 = .ok (.getfield 107, 3) := by decide +kernel
theorem d_Mod_sum_9 : decode prog_12_method_19_code 9 = .ok (.istore_n 1, 1) := by decide +kernel
theorem d_Mod_sum_10 : decode prog_12_method_19_code 10 = .ok (.aload_n 0, 1) := by decide +kernel
theorem d_Mod_sum_11 : decode prog_12_method_19_code 11 = .ok (.iconst 0, 1) := by decide +kernel
theorem d_Mod_sum_12 : decode prog_12_method_19_code 12 = .ok (.putfield 107, 3) := by decide +kernel
theorem d_Mod_sum_15 : decode prog_12_method_19_code 15 = .ok (.aload_n 0, 1) := by decide +kernel
theorem d_Mod_sum_16 : decode prog_12_method_19_code 16 = .ok (.getfield 34, 3) := by decide +kernel
theorem d_Mod_sum_19 : decode prog_12_method_19_code 19 = .ok (.iconst 0, 1) := by decide +kernel
theorem d_Mod_sum_20 : decode prog_12_method_19_code 20 = .ok (.iload_n 1, 1) := by decide +kernel
theorem d_Mod_sum_21 : decode prog_12_method_19_code 21 = .ok (.invokestatic 149, 3) := by decide +kernel
theorem k_1366 : (Jvm.Cond.methodLink "PackageBookModel" (149 : Nat) ({ cls := "PackageBookModel", name := "sumOf", desc := "([BII)I" } : Jvm.MethodName)) ∈ uW := uW_c5 49 rfl (by decide +kernel)
theorem k_1368 : (Jvm.Cond.code ({ cls := "PackageBookModel", name := "sumOf", desc := "([BII)I" } : Jvm.MethodName) prog_12_method_18_code (7 : Nat) (Option.some Jvm.ClassFile.FieldType.int)) ∈ uW := uW_c5 51 rfl (by decide +kernel)
theorem k_1367 : (Jvm.Cond.static ({ cls := "PackageBookModel", name := "sumOf", desc := "([BII)I" } : Jvm.MethodName)) ∈ uW := uW_c5 50 rfl (by decide +kernel)
theorem hy_Mod_sumOf : (y_Mod_sumOf).cls ≠ "java/lang/invoke/MethodHandle" ∧ (y_Mod_sumOf).cls ≠ "java/lang/invoke/VarHandle" ∧ (parseMethodDescriptor (y_Mod_sumOf).desc).map (fun d => d.parameters.length) = some 3 := by decide +kernel
theorem d_Mod_sum_24 : decode prog_12_method_19_code 24 = .ok (.ireturn, 1) := by decide +kernel
abbrev y_Mod_sum : MethodName := ⟨"PackageBookModel", "sum", "()I"⟩
abbrev i_Mod_sum : pb_I := (y_Mod_sum, prog_12_method_19_code, 2, (some Jvm.ClassFile.FieldType.int), [], { frames := 1, cells := 0, slots := 0, locals := 26 })
set_option maxRecDepth 100000 in
set_option maxHeartbeats 4000000 in
theorem g_Mod_sum {l : Launch} (hl : l.stackTraces = false) (G : pb_G) (h : Nat) (m_rels : Nat) (m_openRels : Nat) (m_closeRels : Nat) (m_openRel : Nat) (m_closeRel : Nat) (m_comment : Nat) (m_ends : Nat) (m_order : Nat) (m_tape : Nat) (m_count : Nat) (m_nameSize : Nat) (m_names : Nat) (m_size : Nat) (m_data : Nat) (m_looked : Nat) (m_file : Nat) (m_directory : Nat) (m_out : Nat) (m_row : Nat) (m_made : Nat) (m_length : Nat) (m_pressed : Nat) (m_mark : Nat) (m_idSize : Nat) (m_ids : Nat) (m_goalSize : Nat) (m_goals : Nat) (m_value : Nat) (m_faults : Nat) (m_reached : Nat) (v_thrown : Int32) (v_taped : Int32) (v_lookedSize : Int32) (v_fileSize : Int32) (v_directorySize : Int32) (v_outSize : Int32) (v_rowSize : Int32) (v_bitAt : Int32) (v_bitEnd : Int32) (v_why : Int32) (v_madeSize : Int32) (v_firstCount : Int32) (v_secondCount : Int32) (v_heldBits : Int32) (v_heldCount : Int32) (v_pressedSize : Int32) (v_at : Int32) (v_bad : Int32) (v_markSize : Int32) (v_relationCount : Int32) (v_valueSize : Int32) (v_faultCount : Int32) (a_tape : Nat → Int32) (t0 : 0 ≤ v_taped.toInt) (t1 : v_taped.toInt ≤ 8000) (F_a_tape : sb_Fit a_tape) : Cn l G i_Mod_sum [.ref h] [(h, .inr (10, [.ref m_rels, .ref m_openRels, .ref m_closeRels, .ref m_openRel, .ref m_closeRel, .ref m_comment, .ref m_ends, .ref m_order, .int v_thrown, .int v_taped, .ref m_tape, .ref m_count, .ref m_nameSize, .ref m_names, .ref m_size, .ref m_data, .int v_lookedSize, .ref m_looked, .int v_fileSize, .ref m_file, .int v_directorySize, .ref m_directory, .int v_outSize, .ref m_out, .int v_rowSize, .ref m_row, .int v_bitAt, .int v_bitEnd, .int v_why, .int v_madeSize, .ref m_made, .ref m_length, .int v_firstCount, .int v_secondCount, .int v_heldBits, .int v_heldCount, .int v_pressedSize, .ref m_pressed, .int v_at, .int v_bad, .int v_markSize, .ref m_mark, .int v_relationCount, .ref m_idSize, .ref m_ids, .ref m_goalSize, .ref m_goals, .int v_valueSize, .ref m_value, .int v_faultCount, .ref m_faults, .ref m_reached])), (m_tape, .inl (G.2.1, 8000, .inl a_tape))] (S := Int32) (fun rv_ u => rv_ = some (.int u) ∧ (u = cr_n a_tape (0 : Int32).toInt v_taped.toInt.toNat ^^^ (-1))) (fun u => [(h, .inr (10, [.ref m_rels, .ref m_openRels, .ref m_closeRels, .ref m_openRel, .ref m_closeRel, .ref m_comment, .ref m_ends, .ref m_order, .int 0, .int 0, .ref m_tape, .ref m_count, .ref m_nameSize, .ref m_names, .ref m_size, .ref m_data, .int v_lookedSize, .ref m_looked, .int v_fileSize, .ref m_file, .int v_directorySize, .ref m_directory, .int v_outSize, .ref m_out, .int v_rowSize, .ref m_row, .int v_bitAt, .int v_bitEnd, .int v_why, .int v_madeSize, .ref m_made, .ref m_length, .int v_firstCount, .int v_secondCount, .int v_heldBits, .int v_heldCount, .int v_pressedSize, .ref m_pressed, .int v_at, .int v_bad, .int v_markSize, .ref m_mark, .int v_relationCount, .ref m_idSize, .ref m_ids, .ref m_goalSize, .ref m_goals, .int v_valueSize, .ref m_value, .int v_faultCount, .ref m_faults, .ref m_reached])), (m_tape, .inl (G.2.1, 8000, .inl a_tape))]) := by
  refine Cn.of hl (by decide +kernel) rfl (Nat.le_of_ble_eq_true rfl) (fun M hQ => ?_)
  refine pb_eq (pc' := 0) (lo' := [(0, .ref h)]) (rest' := []) (ws' := [(h, .inr (10, [.ref m_rels, .ref m_openRels, .ref m_closeRels, .ref m_openRel, .ref m_closeRel, .ref m_comment, .ref m_ends, .ref m_order, .int v_thrown, .int v_taped, .ref m_tape, .ref m_count, .ref m_nameSize, .ref m_names, .ref m_size, .ref m_data, .int v_lookedSize, .ref m_looked, .int v_fileSize, .ref m_file, .int v_directorySize, .ref m_directory, .int v_outSize, .ref m_out, .int v_rowSize, .ref m_row, .int v_bitAt, .int v_bitEnd, .int v_why, .int v_madeSize, .ref m_made, .ref m_length, .int v_firstCount, .int v_secondCount, .int v_heldBits, .int v_heldCount, .int v_pressedSize, .ref m_pressed, .int v_at, .int v_bad, .int v_markSize, .ref m_mark, .int v_relationCount, .ref m_idSize, .ref m_ids, .ref m_goalSize, .ref m_goals, .int v_valueSize, .ref m_value, .int v_faultCount, .ref m_faults, .ref m_reached])), (m_tape, .inl (G.2.1, 8000, .inl a_tape))]) ?_
  have zl0 : (0 : Int32).toInt = 0 := by decide
  have zl1 : (1 : Int32).toInt = 1 := by decide
  refine pb_aload_n (pc := 0) d_Mod_sum_0 0 rfl rfl ?_
  refine pb_iconst (pc := 1) (v := 0) d_Mod_sum_1 (by decide) ?_
  refine pb_put (pc := 2) (ty := .int) (ws' := [(h, .inr (10, [.ref m_rels, .ref m_openRels, .ref m_closeRels, .ref m_openRel, .ref m_closeRel, .ref m_comment, .ref m_ends, .ref m_order, .int 0, .int v_taped, .ref m_tape, .ref m_count, .ref m_nameSize, .ref m_names, .ref m_size, .ref m_data, .int v_lookedSize, .ref m_looked, .int v_fileSize, .ref m_file, .int v_directorySize, .ref m_directory, .int v_outSize, .ref m_out, .int v_rowSize, .ref m_row, .int v_bitAt, .int v_bitEnd, .int v_why, .int v_madeSize, .ref m_made, .ref m_length, .int v_firstCount, .int v_secondCount, .int v_heldBits, .int v_heldCount, .int v_pressedSize, .ref m_pressed, .int v_at, .int v_bad, .int v_markSize, .ref m_mark, .int v_relationCount, .ref m_idSize, .ref m_ids, .ref m_goalSize, .ref m_goals, .int v_valueSize, .ref m_value, .int v_faultCount, .ref m_faults, .ref m_reached])), (m_tape, .inl (G.2.1, 8000, .inl a_tape))]) d_Mod_sum_2 0 8 t_Mod t_Mod_ok n_Mod rfl rfl (by decide) in_Mod k_1154 rfl (by decide +kernel) rfl rfl (Nat.le_of_ble_eq_true rfl) rfl ?_
  refine pb_aload_n (pc := 5) d_Mod_sum_5 0 rfl rfl ?_
  refine pb_get (pc := 6) d_Mod_sum_6 0 9 rfl rfl (by decide) in_Mod k_1155 rfl ?_
  refine pb_istore_n (pc := 9) (lo' := [(1, .int v_taped), (0, .ref h)]) d_Mod_sum_9 rfl (by decide) rfl ?_
  refine pb_aload_n (pc := 10) d_Mod_sum_10 1 rfl rfl ?_
  refine pb_iconst (pc := 11) (v := 0) d_Mod_sum_11 (by decide) ?_
  refine pb_put (pc := 12) (ty := .int) (ws' := [(h, .inr (10, [.ref m_rels, .ref m_openRels, .ref m_closeRels, .ref m_openRel, .ref m_closeRel, .ref m_comment, .ref m_ends, .ref m_order, .int 0, .int 0, .ref m_tape, .ref m_count, .ref m_nameSize, .ref m_names, .ref m_size, .ref m_data, .int v_lookedSize, .ref m_looked, .int v_fileSize, .ref m_file, .int v_directorySize, .ref m_directory, .int v_outSize, .ref m_out, .int v_rowSize, .ref m_row, .int v_bitAt, .int v_bitEnd, .int v_why, .int v_madeSize, .ref m_made, .ref m_length, .int v_firstCount, .int v_secondCount, .int v_heldBits, .int v_heldCount, .int v_pressedSize, .ref m_pressed, .int v_at, .int v_bad, .int v_markSize, .ref m_mark, .int v_relationCount, .ref m_idSize, .ref m_ids, .ref m_goalSize, .ref m_goals, .int v_valueSize, .ref m_value, .int v_faultCount, .ref m_faults, .ref m_reached])), (m_tape, .inl (G.2.1, 8000, .inl a_tape))]) d_Mod_sum_12 0 9 t_Mod t_Mod_ok n_Mod rfl rfl (by decide) in_Mod k_1155 rfl (by decide +kernel) rfl rfl (Nat.le_of_ble_eq_true rfl) rfl ?_
  refine pb_aload_n (pc := 15) d_Mod_sum_15 1 rfl rfl ?_
  refine pb_get (pc := 16) d_Mod_sum_16 0 10 rfl rfl (by decide) in_Mod k_1156 rfl ?_
  refine pb_iconst (pc := 19) (v := 0) d_Mod_sum_19 (by decide) ?_
  refine pb_iload_n (pc := 20) d_Mod_sum_20 0 rfl rfl ?_
  refine pb_callS (pc := 21) (I := i_Mod_sum) (nA := 3) (rest := []) (wr := [(h, .inr (10, [.ref m_rels, .ref m_openRels, .ref m_closeRels, .ref m_openRel, .ref m_closeRel, .ref m_comment, .ref m_ends, .ref m_order, .int 0, .int 0, .ref m_tape, .ref m_count, .ref m_nameSize, .ref m_names, .ref m_size, .ref m_data, .int v_lookedSize, .ref m_looked, .int v_fileSize, .ref m_file, .int v_directorySize, .ref m_directory, .int v_outSize, .ref m_out, .int v_rowSize, .ref m_row, .int v_bitAt, .int v_bitEnd, .int v_why, .int v_madeSize, .ref m_made, .ref m_length, .int v_firstCount, .int v_secondCount, .int v_heldBits, .int v_heldCount, .int v_pressedSize, .ref m_pressed, .int v_at, .int v_bad, .int v_markSize, .ref m_mark, .int v_relationCount, .ref m_idSize, .ref m_ids, .ref m_goalSize, .ref m_goals, .int v_valueSize, .ref m_value, .int v_faultCount, .ref m_faults, .ref m_reached]))]) d_Mod_sum_21 (g_Mod_sumOf hl G m_tape 8000 a_tape 0 v_taped (by first | (with_reducible assumption) | omega (splitDisjunctions := false) | assumption | omega | decide) (by first | (with_reducible assumption) | omega (splitDisjunctions := false) | assumption | omega | decide) (by first | (with_reducible assumption) | omega (splitDisjunctions := false) | assumption | omega | decide) (by first | (with_reducible assumption) | omega (splitDisjunctions := false) | assumption | omega | decide) F_a_tape) [1] [0] (by decide) rfl rfl rfl (by decide) (by decide) k_1368 rfl k_128 k_1366 k_1367 hy_Mod_sumOf (by decide) rfl rfl (Nat.le_of_ble_eq_true rfl) (by decide) (fun v9 u2 ch1 => ?_)
  obtain ⟨r_3, rfl⟩ : ∃ z9, z9 = u2 := ⟨_, rfl⟩
  obtain ⟨ech1, ch1⟩ := ch1
  have ech1 : v9 = some (.int r_3) := ech1
  subst ech1
  have fh4 : r_3 = cr_n a_tape (0 : Int32).toInt v_taped.toInt.toNat ^^^ (-1) := ch1
  refine pb_eq (pc' := 24) (lo' := [(1, .int v_taped), (0, .ref h)]) (rest' := [.int r_3]) (ws' := [(h, .inr (10, [.ref m_rels, .ref m_openRels, .ref m_closeRels, .ref m_openRel, .ref m_closeRel, .ref m_comment, .ref m_ends, .ref m_order, .int 0, .int 0, .ref m_tape, .ref m_count, .ref m_nameSize, .ref m_names, .ref m_size, .ref m_data, .int v_lookedSize, .ref m_looked, .int v_fileSize, .ref m_file, .int v_directorySize, .ref m_directory, .int v_outSize, .ref m_out, .int v_rowSize, .ref m_row, .int v_bitAt, .int v_bitEnd, .int v_why, .int v_madeSize, .ref m_made, .ref m_length, .int v_firstCount, .int v_secondCount, .int v_heldBits, .int v_heldCount, .int v_pressedSize, .ref m_pressed, .int v_at, .int v_bad, .int v_markSize, .ref m_mark, .int v_relationCount, .ref m_idSize, .ref m_ids, .ref m_goalSize, .ref m_goals, .int v_valueSize, .ref m_value, .int v_faultCount, .ref m_faults, .ref m_reached])), (m_tape, .inl (G.2.1, 8000, .inl a_tape))]) ?_
  exact pb_iret (pc := 24) hQ d_Mod_sum_24 rfl rfl (r_3) ⟨rfl, (by (try dsimp only); first | done | (with_reducible assumption) | omega (splitDisjunctions := false) | assumption | omega | decide)⟩ [0, 1] (by decide) rfl rfl (by decide) (by decide)

theorem d_Mod_takeRow_0 : decode prog_12_method_46_code 0 = .ok (.aload_n 0, 1) := by decide +kernel
theorem d_Mod_takeRow_1 : decode prog_12_method_46_code 1 = .ok (.aload_n 0, 1) := by decide +kernel
theorem d_Mod_takeRow_2 : decode prog_12_method_46_code 2 = .ok (.getfield 107, 3) := by decide +kernel
theorem d_Mod_takeRow_5 : decode prog_12_method_46_code 5 = .ok (.putfield 260, 3) := by decide +kernel
theorem k_1170 : (Jvm.Cond.fieldLink "PackageBookModel" (260 : Nat) "PackageBookModel" "rowSize" "I") ∈ uW := uW_c4 93 rfl (by decide +kernel)
theorem d_Mod_takeRow_8 : decode prog_12_method_46_code 8 = .ok (.iconst 0, 1) := by decide +kernel
theorem d_Mod_takeRow_9 : decode prog_12_method_46_code 9 = .ok (.istore_n 1, 1) := by decide +kernel
theorem d_Mod_takeRow_10 : decode prog_12_method_46_code 10 = .ok (.iload_n 1, 1) := by decide +kernel
theorem d_Mod_takeRow_11 : decode prog_12_method_46_code 11 = .ok (.aload_n 0, 1) := by decide +kernel
theorem d_Mod_takeRow_12 : decode prog_12_method_46_code 12 = .ok (.getfield 107, 3) := by decide +kernel
theorem d_Mod_takeRow_15 : decode prog_12_method_46_code 15 = .ok (.if_icmp .ge 21, 3) := by decide +kernel
theorem d_Mod_takeRow_36 : decode prog_12_method_46_code 36 = .ok (.aload_n 0, 1) := by decide +kernel
theorem d_Mod_takeRow_37 : decode prog_12_method_46_code 37 = .ok (.iconst 0, 1) := by decide +kernel
theorem d_Mod_takeRow_38 : decode prog_12_method_46_code 38 = .ok (.putfield 107, 3) := by decide +kernel
theorem d_Mod_takeRow_41 : decode prog_12_method_46_code 41 = .ok (.return_, 1) := by decide +kernel
theorem d_Mod_takeRow_18 : decode prog_12_method_46_code 18 = .ok (.aload_n 0, 1) := by decide +kernel
theorem d_Mod_takeRow_19 : decode prog_12_method_46_code 19 = .ok (.getfield 66, 3) := by decide +kernel
theorem k_1171 : (Jvm.Cond.fieldLink "PackageBookModel" (66 : Nat) "PackageBookModel" "row" "[B") ∈ uW := uW_c4 94 rfl (by decide +kernel)
theorem d_Mod_takeRow_22 : decode prog_12_method_46_code 22 = .ok (.iload_n 1, 1) := by decide +kernel
theorem d_Mod_takeRow_23 : decode prog_12_method_46_code 23 = .ok (.aload_n 0, 1) := by decide +kernel
theorem d_Mod_takeRow_24 : decode prog_12_method_46_code 24 = .ok (.getfield 34, 3) := by decide +kernel
theorem d_Mod_takeRow_27 : decode prog_12_method_46_code 27 = .ok (.iload_n 1, 1) := by decide +kernel
theorem d_Mod_takeRow_28 : decode prog_12_method_46_code 28 = .ok (.baload, 1) := by decide +kernel
theorem d_Mod_takeRow_29 : decode prog_12_method_46_code 29 = .ok (.bastore, 1) := by decide +kernel
theorem d_Mod_takeRow_30 : decode prog_12_method_46_code 30 = .ok (.iinc 1 1, 3) := by decide +kernel
theorem d_Mod_takeRow_33 : decode prog_12_method_46_code 33 = .ok (.goto (-23), 3) := by decide +kernel
abbrev y_Mod_takeRow : MethodName := ⟨"PackageBookModel", "takeRow", "()V"⟩
abbrev i_Mod_takeRow : pb_I := (y_Mod_takeRow, prog_12_method_46_code, 2, (Option.none : Option Jvm.ClassFile.FieldType), [], { frames := 0, cells := 0, slots := 0, locals := 0 })
set_option maxRecDepth 100000 in
set_option maxHeartbeats 4000000 in
theorem g_Mod_takeRow {l : Launch} (hl : l.stackTraces = false) (G : pb_G) (h : Nat) (m_rels : Nat) (m_openRels : Nat) (m_closeRels : Nat) (m_openRel : Nat) (m_closeRel : Nat) (m_comment : Nat) (m_ends : Nat) (m_order : Nat) (m_tape : Nat) (m_count : Nat) (m_nameSize : Nat) (m_names : Nat) (m_size : Nat) (m_data : Nat) (m_looked : Nat) (m_file : Nat) (m_directory : Nat) (m_out : Nat) (m_row : Nat) (m_made : Nat) (m_length : Nat) (m_pressed : Nat) (m_mark : Nat) (m_idSize : Nat) (m_ids : Nat) (m_goalSize : Nat) (m_goals : Nat) (m_value : Nat) (m_faults : Nat) (m_reached : Nat) (v_thrown : Int32) (v_taped : Int32) (v_lookedSize : Int32) (v_fileSize : Int32) (v_directorySize : Int32) (v_outSize : Int32) (v_rowSize : Int32) (v_bitAt : Int32) (v_bitEnd : Int32) (v_why : Int32) (v_madeSize : Int32) (v_firstCount : Int32) (v_secondCount : Int32) (v_heldBits : Int32) (v_heldCount : Int32) (v_pressedSize : Int32) (v_at : Int32) (v_bad : Int32) (v_markSize : Int32) (v_relationCount : Int32) (v_valueSize : Int32) (v_faultCount : Int32) (a_tape : Nat → Int32) (a_row : Nat → Int32) (t0 : 0 ≤ v_taped.toInt) (t1 : v_taped.toInt ≤ 8000) (F_a_tape : sb_Fit a_tape) (F_a_row : sb_Fit a_row) : Cn l G i_Mod_takeRow [.ref h] [(h, .inr (10, [.ref m_rels, .ref m_openRels, .ref m_closeRels, .ref m_openRel, .ref m_closeRel, .ref m_comment, .ref m_ends, .ref m_order, .int v_thrown, .int v_taped, .ref m_tape, .ref m_count, .ref m_nameSize, .ref m_names, .ref m_size, .ref m_data, .int v_lookedSize, .ref m_looked, .int v_fileSize, .ref m_file, .int v_directorySize, .ref m_directory, .int v_outSize, .ref m_out, .int v_rowSize, .ref m_row, .int v_bitAt, .int v_bitEnd, .int v_why, .int v_madeSize, .ref m_made, .ref m_length, .int v_firstCount, .int v_secondCount, .int v_heldBits, .int v_heldCount, .int v_pressedSize, .ref m_pressed, .int v_at, .int v_bad, .int v_markSize, .ref m_mark, .int v_relationCount, .ref m_idSize, .ref m_ids, .ref m_goalSize, .ref m_goals, .int v_valueSize, .ref m_value, .int v_faultCount, .ref m_faults, .ref m_reached])), (m_tape, .inl (G.2.1, 8000, .inl a_tape)), (m_row, .inl (G.2.1, 20000, .inl a_row))] (S := (Nat → Int32)) (fun rv_ u => rv_ = none ∧ (rl_B a_tape u v_taped.toInt) ∧ (sb_Fit u)) (fun u => [(h, .inr (10, [.ref m_rels, .ref m_openRels, .ref m_closeRels, .ref m_openRel, .ref m_closeRel, .ref m_comment, .ref m_ends, .ref m_order, .int v_thrown, .int 0, .ref m_tape, .ref m_count, .ref m_nameSize, .ref m_names, .ref m_size, .ref m_data, .int v_lookedSize, .ref m_looked, .int v_fileSize, .ref m_file, .int v_directorySize, .ref m_directory, .int v_outSize, .ref m_out, .int v_taped, .ref m_row, .int v_bitAt, .int v_bitEnd, .int v_why, .int v_madeSize, .ref m_made, .ref m_length, .int v_firstCount, .int v_secondCount, .int v_heldBits, .int v_heldCount, .int v_pressedSize, .ref m_pressed, .int v_at, .int v_bad, .int v_markSize, .ref m_mark, .int v_relationCount, .ref m_idSize, .ref m_ids, .ref m_goalSize, .ref m_goals, .int v_valueSize, .ref m_value, .int v_faultCount, .ref m_faults, .ref m_reached])), (m_tape, .inl (G.2.1, 8000, .inl a_tape)), (m_row, .inl (G.2.1, 20000, .inl u))]) := by
  refine Cn.of hl (by decide +kernel) rfl (Nat.le_of_ble_eq_true rfl) (fun M hQ => ?_)
  refine pb_eq (pc' := 0) (lo' := [(0, .ref h)]) (rest' := []) (ws' := [(h, .inr (10, [.ref m_rels, .ref m_openRels, .ref m_closeRels, .ref m_openRel, .ref m_closeRel, .ref m_comment, .ref m_ends, .ref m_order, .int v_thrown, .int v_taped, .ref m_tape, .ref m_count, .ref m_nameSize, .ref m_names, .ref m_size, .ref m_data, .int v_lookedSize, .ref m_looked, .int v_fileSize, .ref m_file, .int v_directorySize, .ref m_directory, .int v_outSize, .ref m_out, .int v_rowSize, .ref m_row, .int v_bitAt, .int v_bitEnd, .int v_why, .int v_madeSize, .ref m_made, .ref m_length, .int v_firstCount, .int v_secondCount, .int v_heldBits, .int v_heldCount, .int v_pressedSize, .ref m_pressed, .int v_at, .int v_bad, .int v_markSize, .ref m_mark, .int v_relationCount, .ref m_idSize, .ref m_ids, .ref m_goalSize, .ref m_goals, .int v_valueSize, .ref m_value, .int v_faultCount, .ref m_faults, .ref m_reached])), (m_tape, .inl (G.2.1, 8000, .inl a_tape)), (m_row, .inl (G.2.1, 20000, .inl a_row))]) ?_
  have zl0 : (0 : Int32).toInt = 0 := by decide
  have zl1 : (1 : Int32).toInt = 1 := by decide
  refine pb_aload_n (pc := 0) d_Mod_takeRow_0 0 rfl rfl ?_
  refine pb_aload_n (pc := 1) d_Mod_takeRow_1 0 rfl rfl ?_
  refine pb_get (pc := 2) d_Mod_takeRow_2 0 9 rfl rfl (by decide) in_Mod k_1155 rfl ?_
  refine pb_put (pc := 5) (ty := .int) (ws' := [(h, .inr (10, [.ref m_rels, .ref m_openRels, .ref m_closeRels, .ref m_openRel, .ref m_closeRel, .ref m_comment, .ref m_ends, .ref m_order, .int v_thrown, .int v_taped, .ref m_tape, .ref m_count, .ref m_nameSize, .ref m_names, .ref m_size, .ref m_data, .int v_lookedSize, .ref m_looked, .int v_fileSize, .ref m_file, .int v_directorySize, .ref m_directory, .int v_outSize, .ref m_out, .int v_taped, .ref m_row, .int v_bitAt, .int v_bitEnd, .int v_why, .int v_madeSize, .ref m_made, .ref m_length, .int v_firstCount, .int v_secondCount, .int v_heldBits, .int v_heldCount, .int v_pressedSize, .ref m_pressed, .int v_at, .int v_bad, .int v_markSize, .ref m_mark, .int v_relationCount, .ref m_idSize, .ref m_ids, .ref m_goalSize, .ref m_goals, .int v_valueSize, .ref m_value, .int v_faultCount, .ref m_faults, .ref m_reached])), (m_tape, .inl (G.2.1, 8000, .inl a_tape)), (m_row, .inl (G.2.1, 20000, .inl a_row))]) d_Mod_takeRow_5 0 24 t_Mod t_Mod_ok n_Mod rfl rfl (by decide) in_Mod k_1170 rfl (by decide +kernel) rfl rfl (Nat.le_of_ble_eq_true rfl) rfl ?_
  refine pb_iconst (pc := 8) (v := 0) d_Mod_takeRow_8 (by decide) ?_
  refine pb_istore_n (pc := 9) (lo' := [(1, .int 0), (0, .ref h)]) d_Mod_takeRow_9 rfl (by decide) rfl ?_
  have hL10_1 : ∀ (N9 : Nat) (k : Int32) (g : Nat → Int32), (sb_Fit g) → (0 ≤ k.toInt) → (k.toInt ≤ v_taped.toInt) → (rl_B a_tape g k.toInt) → ((v_taped.toInt - k.toInt).toNat) < N9 → pb_P l G M i_Mod_takeRow 10 [(1, .int k), (0, .ref h)] [] [(h, .inr (10, [.ref m_rels, .ref m_openRels, .ref m_closeRels, .ref m_openRel, .ref m_closeRel, .ref m_comment, .ref m_ends, .ref m_order, .int v_thrown, .int v_taped, .ref m_tape, .ref m_count, .ref m_nameSize, .ref m_names, .ref m_size, .ref m_data, .int v_lookedSize, .ref m_looked, .int v_fileSize, .ref m_file, .int v_directorySize, .ref m_directory, .int v_outSize, .ref m_out, .int v_taped, .ref m_row, .int v_bitAt, .int v_bitEnd, .int v_why, .int v_madeSize, .ref m_made, .ref m_length, .int v_firstCount, .int v_secondCount, .int v_heldBits, .int v_heldCount, .int v_pressedSize, .ref m_pressed, .int v_at, .int v_bad, .int v_markSize, .ref m_mark, .int v_relationCount, .ref m_idSize, .ref m_ids, .ref m_goalSize, .ref m_goals, .int v_valueSize, .ref m_value, .int v_faultCount, .ref m_faults, .ref m_reached])), (m_tape, .inl (G.2.1, 8000, .inl a_tape)), (m_row, .inl (G.2.1, 20000, .inl g))] 0 0 := by
    intro N9
    induction N9 with
    | zero => intro k g F_g hk hk2 ht hm9; exact absurd hm9 (Nat.not_lt_zero _)
    | succ N9 ih10 =>
      intro k g F_g hk hk2 ht hm9
      refine pb_iload_n (pc := 10) d_Mod_takeRow_10 0 rfl rfl ?_
      refine pb_aload_n (pc := 11) d_Mod_takeRow_11 1 rfl rfl ?_
      refine pb_get (pc := 12) d_Mod_takeRow_12 0 9 rfl rfl (by decide) in_Mod k_1155 rfl ?_
      refine pb_icmp_ge (pc := 15) (tgt := 36) d_Mod_takeRow_15 (by decide) (fun w2 => ?_) (fun w2 => ?_)
      · have tw2 : v_taped.toInt ≤ k.toInt := (ti_le rfl rfl).mp w2
        refine pb_aload_n (pc := 36) d_Mod_takeRow_36 1 rfl rfl ?_
        refine pb_iconst (pc := 37) (v := 0) d_Mod_takeRow_37 (by decide) ?_
        refine pb_put (pc := 38) (ty := .int) (ws' := [(h, .inr (10, [.ref m_rels, .ref m_openRels, .ref m_closeRels, .ref m_openRel, .ref m_closeRel, .ref m_comment, .ref m_ends, .ref m_order, .int v_thrown, .int 0, .ref m_tape, .ref m_count, .ref m_nameSize, .ref m_names, .ref m_size, .ref m_data, .int v_lookedSize, .ref m_looked, .int v_fileSize, .ref m_file, .int v_directorySize, .ref m_directory, .int v_outSize, .ref m_out, .int v_taped, .ref m_row, .int v_bitAt, .int v_bitEnd, .int v_why, .int v_madeSize, .ref m_made, .ref m_length, .int v_firstCount, .int v_secondCount, .int v_heldBits, .int v_heldCount, .int v_pressedSize, .ref m_pressed, .int v_at, .int v_bad, .int v_markSize, .ref m_mark, .int v_relationCount, .ref m_idSize, .ref m_ids, .ref m_goalSize, .ref m_goals, .int v_valueSize, .ref m_value, .int v_faultCount, .ref m_faults, .ref m_reached])), (m_tape, .inl (G.2.1, 8000, .inl a_tape)), (m_row, .inl (G.2.1, 20000, .inl g))]) d_Mod_takeRow_38 0 9 t_Mod t_Mod_ok n_Mod rfl rfl (by decide) in_Mod k_1155 rfl (by decide +kernel) rfl rfl (Nat.le_of_ble_eq_true rfl) rfl ?_
        exact pb_vret (pc := 41) hQ d_Mod_takeRow_41 rfl (g) ⟨rfl, (show rl_B a_tape g v_taped.toInt from (by rw [show v_taped.toInt = k.toInt by omega]; exact ht)), F_g⟩ [0, 1, 2] (by decide) rfl rfl (by decide) (by decide)
      · have tw2 : ¬ v_taped.toInt ≤ k.toInt := fun z9 => w2 ((ti_le rfl rfl).mpr z9)
        refine pb_aload_n (pc := 18) d_Mod_takeRow_18 1 rfl rfl ?_
        refine pb_get (pc := 19) d_Mod_takeRow_19 0 25 rfl rfl (by decide) in_Mod k_1171 rfl ?_
        refine pb_iload_n (pc := 22) d_Mod_takeRow_22 0 rfl rfl ?_
        refine pb_aload_n (pc := 23) d_Mod_takeRow_23 1 rfl rfl ?_
        refine pb_get (pc := 24) d_Mod_takeRow_24 0 10 rfl rfl (by decide) in_Mod k_1156 rfl ?_
        refine pb_iload_n (pc := 27) d_Mod_takeRow_27 0 rfl rfl ?_
        refine pb_bald (pc := 28) d_Mod_takeRow_28 1 rfl (vp_in_iff.mpr (by omega)) ?_
        refine pb_topi (fun i3 ei3 => ?_)
        have xi3 : i3 = gr a_tape (k.toInt) := gr_ld ei3 (by omega)
        have yi3 : i3.toInt = gx a_tape (k.toInt) := congrArg Int32.toInt xi3
        have ti3 : -128 ≤ i3.toInt ∧ i3.toInt ≤ 127 := ti_fit (F_a_tape _) ei3
        refine pb_bast (pc := 29) (ws' := [(h, .inr (10, [.ref m_rels, .ref m_openRels, .ref m_closeRels, .ref m_openRel, .ref m_closeRel, .ref m_comment, .ref m_ends, .ref m_order, .int v_thrown, .int v_taped, .ref m_tape, .ref m_count, .ref m_nameSize, .ref m_names, .ref m_size, .ref m_data, .int v_lookedSize, .ref m_looked, .int v_fileSize, .ref m_file, .int v_directorySize, .ref m_directory, .int v_outSize, .ref m_out, .int v_taped, .ref m_row, .int v_bitAt, .int v_bitEnd, .int v_why, .int v_madeSize, .ref m_made, .ref m_length, .int v_firstCount, .int v_secondCount, .int v_heldBits, .int v_heldCount, .int v_pressedSize, .ref m_pressed, .int v_at, .int v_bad, .int v_markSize, .ref m_mark, .int v_relationCount, .ref m_idSize, .ref m_ids, .ref m_goalSize, .ref m_goals, .int v_valueSize, .ref m_value, .int v_faultCount, .ref m_faults, .ref m_reached])), (m_tape, .inl (G.2.1, 8000, .inl a_tape)), (m_row, .inl (G.2.1, 20000, .inl (upd g ((k : Int32).toNatClampNeg) (vp_nar .byte i3))))]) d_Mod_takeRow_29 2 rfl (vp_in_iff.mpr (by omega)) rfl ?_
        refine pb_iincN (pc := 30) (c := 1) d_Mod_takeRow_30 0 rfl (by decide) (by decide) (fun i4 ei4 => ?_)
        have ti4 : i4.toInt = k.toInt + 1 := t2_add ei4 rfl (by decide) (by first | omega | (have r90 := ti_rng k; have r91 := ti_rng i4; omega))
        refine pb_eq (pc' := 33) (lo' := [(1, .int i4), (0, .ref h)]) (rest' := []) (ws' := [(h, .inr (10, [.ref m_rels, .ref m_openRels, .ref m_closeRels, .ref m_openRel, .ref m_closeRel, .ref m_comment, .ref m_ends, .ref m_order, .int v_thrown, .int v_taped, .ref m_tape, .ref m_count, .ref m_nameSize, .ref m_names, .ref m_size, .ref m_data, .int v_lookedSize, .ref m_looked, .int v_fileSize, .ref m_file, .int v_directorySize, .ref m_directory, .int v_outSize, .ref m_out, .int v_taped, .ref m_row, .int v_bitAt, .int v_bitEnd, .int v_why, .int v_madeSize, .ref m_made, .ref m_length, .int v_firstCount, .int v_secondCount, .int v_heldBits, .int v_heldCount, .int v_pressedSize, .ref m_pressed, .int v_at, .int v_bad, .int v_markSize, .ref m_mark, .int v_relationCount, .ref m_idSize, .ref m_ids, .ref m_goalSize, .ref m_goals, .int v_valueSize, .ref m_value, .int v_faultCount, .ref m_faults, .ref m_reached])), (m_tape, .inl (G.2.1, 8000, .inl a_tape)), (m_row, .inl (G.2.1, 20000, .inl (upd g ((k : Int32).toNatClampNeg) (vp_nar .byte i3))))]) ?_
        refine pb_goto (pc := 33) (tgt := 10) d_Mod_takeRow_33 (by decide) ?_
        exact ih10 i4 (upd g ((k : Int32).toNatClampNeg) (vp_nar .byte i3)) (sb_fitU F_g (fit_nar _)) (by first | (with_reducible assumption) | omega (splitDisjunctions := false) | assumption | omega | decide) (by first | (with_reducible assumption) | omega (splitDisjunctions := false) | assumption | omega | decide) (rl_st ht (fun j hj => gr_updb rfl j (by omega) hj) (by omega) (by assumption) (by omega)) (by omega)
  exact hL10_1 _ 0 a_row F_a_row (by first | (with_reducible assumption) | omega (splitDisjunctions := false) | assumption | omega | decide) (by first | (with_reducible assumption) | omega (splitDisjunctions := false) | assumption | omega | decide) (rl_0 (by omega)) (Nat.lt_succ_self _)

theorem d_Mod_out_0 : decode prog_12_method_48_code 0 = .ok (.aload_n 0, 1) := by decide +kernel
theorem d_Mod_out_1 : decode prog_12_method_48_code 1 = .ok (.iload_n 1, 1) := by decide +kernel
theorem d_Mod_out_2 : decode prog_12_method_48_code 2 = .ok (.ifCond .lt 11, 3) := by decide +kernel
theorem d_Mod_out_13 : decode prog_12_method_48_code 13 = .ok (.iconst 1, 1) := by decide +kernel
theorem d_Mod_out_14 : decode prog_12_method_48_code 14 = .ok (.goto 4, 3) := by decide +kernel
theorem d_Mod_out_18 : decode prog_12_method_48_code 18 = .ok (.putfield 103, 3) := by decide +kernel
theorem d_Mod_out_21 : decode prog_12_method_48_code 21 = .ok (.aload_n 0, 1) := by decide +kernel
theorem d_Mod_out_22 : decode prog_12_method_48_code 22 = .ok (.getfield 103, 3) := by decide +kernel
theorem d_Mod_out_25 : decode prog_12_method_48_code 25 = .ok (.ifCond .le 7, 3) := by decide +kernel
theorem d_Mod_out_28 : decode prog_12_method_48_code 28 = .ok (.iconst 0, 1) := by decide +kernel
theorem d_Mod_out_29 : decode prog_12_method_48_code 29 = .ok (.goto 13, 3) := by decide +kernel
theorem d_Mod_out_42 : decode prog_12_method_48_code 42 = .ok (.ireturn, 1) := by decide +kernel
theorem d_Mod_out_5 : decode prog_12_method_48_code 5 = .ok (.iload_n 1, 1) := by decide +kernel
theorem d_Mod_out_6 : decode prog_12_method_48_code 6 = .ok (.aload_n 0, 1) := by decide +kernel
theorem d_Mod_out_7 : decode prog_12_method_48_code 7 = .ok (.getfield 194, 3) := by decide +kernel
theorem k_1168 : (Jvm.Cond.fieldLink "PackageBookModel" (194 : Nat) "PackageBookModel" "outSize" "I") ∈ uW := uW_c4 91 rfl (by decide +kernel)
theorem d_Mod_out_10 : decode prog_12_method_48_code 10 = .ok (.if_icmp .lt 7, 3) := by decide +kernel
theorem d_Mod_out_17 : decode prog_12_method_48_code 17 = .ok (.iconst 0, 1) := by decide +kernel
theorem d_Mod_out_32 : decode prog_12_method_48_code 32 = .ok (.aload_n 0, 1) := by decide +kernel
theorem d_Mod_out_33 : decode prog_12_method_48_code 33 = .ok (.getfield 63, 3) := by decide +kernel
theorem k_1169 : (Jvm.Cond.fieldLink "PackageBookModel" (63 : Nat) "PackageBookModel" "out" "[B") ∈ uW := uW_c4 92 rfl (by decide +kernel)
theorem d_Mod_out_36 : decode prog_12_method_48_code 36 = .ok (.iload_n 1, 1) := by decide +kernel
theorem d_Mod_out_37 : decode prog_12_method_48_code 37 = .ok (.baload, 1) := by decide +kernel
theorem d_Mod_out_38 : decode prog_12_method_48_code 38 = .ok (.sipush 255, 3) := by decide +kernel
theorem d_Mod_out_41 : decode prog_12_method_48_code 41 = .ok (.iand, 1) := by decide +kernel
abbrev y_Mod_out : MethodName := ⟨"PackageBookModel", "out", "(I)I"⟩
abbrev i_Mod_out : pb_I := (y_Mod_out, prog_12_method_48_code, 2, (some Jvm.ClassFile.FieldType.int), [], { frames := 0, cells := 0, slots := 0, locals := 0 })
set_option maxRecDepth 100000 in
set_option maxHeartbeats 4000000 in
theorem g_Mod_out {l : Launch} (hl : l.stackTraces = false) (G : pb_G) (h : Nat) (m_rels : Nat) (m_openRels : Nat) (m_closeRels : Nat) (m_openRel : Nat) (m_closeRel : Nat) (m_comment : Nat) (m_ends : Nat) (m_order : Nat) (m_tape : Nat) (m_count : Nat) (m_nameSize : Nat) (m_names : Nat) (m_size : Nat) (m_data : Nat) (m_looked : Nat) (m_file : Nat) (m_directory : Nat) (m_out : Nat) (m_row : Nat) (m_made : Nat) (m_length : Nat) (m_pressed : Nat) (m_mark : Nat) (m_idSize : Nat) (m_ids : Nat) (m_goalSize : Nat) (m_goals : Nat) (m_value : Nat) (m_faults : Nat) (m_reached : Nat) (v_thrown : Int32) (v_taped : Int32) (v_lookedSize : Int32) (v_fileSize : Int32) (v_directorySize : Int32) (v_outSize : Int32) (v_rowSize : Int32) (v_bitAt : Int32) (v_bitEnd : Int32) (v_why : Int32) (v_madeSize : Int32) (v_firstCount : Int32) (v_secondCount : Int32) (v_heldBits : Int32) (v_heldCount : Int32) (v_pressedSize : Int32) (v_at : Int32) (v_bad : Int32) (v_markSize : Int32) (v_relationCount : Int32) (v_valueSize : Int32) (v_faultCount : Int32) (a_out : Nat → Int32) (i : Int32) (h0 : v_outSize.toInt ≤ 5000) (F_a_out : sb_Fit a_out) : Cn l G i_Mod_out [.ref h, .int i] [(h, .inr (10, [.ref m_rels, .ref m_openRels, .ref m_closeRels, .ref m_openRel, .ref m_closeRel, .ref m_comment, .ref m_ends, .ref m_order, .int v_thrown, .int v_taped, .ref m_tape, .ref m_count, .ref m_nameSize, .ref m_names, .ref m_size, .ref m_data, .int v_lookedSize, .ref m_looked, .int v_fileSize, .ref m_file, .int v_directorySize, .ref m_directory, .int v_outSize, .ref m_out, .int v_rowSize, .ref m_row, .int v_bitAt, .int v_bitEnd, .int v_why, .int v_madeSize, .ref m_made, .ref m_length, .int v_firstCount, .int v_secondCount, .int v_heldBits, .int v_heldCount, .int v_pressedSize, .ref m_pressed, .int v_at, .int v_bad, .int v_markSize, .ref m_mark, .int v_relationCount, .ref m_idSize, .ref m_ids, .ref m_goalSize, .ref m_goals, .int v_valueSize, .ref m_value, .int v_faultCount, .ref m_faults, .ref m_reached])), (m_out, .inl (G.2.1, 5000, .inl a_out))] (S := Int32 × Int32) (fun rv_ u => rv_ = some (.int u.1) ∧ (u.2.toInt = 0 ∧ 0 ≤ i.toInt ∧ i.toInt < v_outSize.toInt ∨ u.2.toInt = 1 ∧ ¬ (0 ≤ i.toInt ∧ i.toInt < v_outSize.toInt)) ∧ (u.2.toInt = 0 → u.1 = gr a_out i.toInt &&& 255)) (fun u => [(h, .inr (10, [.ref m_rels, .ref m_openRels, .ref m_closeRels, .ref m_openRel, .ref m_closeRel, .ref m_comment, .ref m_ends, .ref m_order, .int u.2, .int v_taped, .ref m_tape, .ref m_count, .ref m_nameSize, .ref m_names, .ref m_size, .ref m_data, .int v_lookedSize, .ref m_looked, .int v_fileSize, .ref m_file, .int v_directorySize, .ref m_directory, .int v_outSize, .ref m_out, .int v_rowSize, .ref m_row, .int v_bitAt, .int v_bitEnd, .int v_why, .int v_madeSize, .ref m_made, .ref m_length, .int v_firstCount, .int v_secondCount, .int v_heldBits, .int v_heldCount, .int v_pressedSize, .ref m_pressed, .int v_at, .int v_bad, .int v_markSize, .ref m_mark, .int v_relationCount, .ref m_idSize, .ref m_ids, .ref m_goalSize, .ref m_goals, .int v_valueSize, .ref m_value, .int v_faultCount, .ref m_faults, .ref m_reached])), (m_out, .inl (G.2.1, 5000, .inl a_out))]) := by
  refine Cn.of hl (by decide +kernel) rfl (Nat.le_of_ble_eq_true rfl) (fun M hQ => ?_)
  refine pb_eq (pc' := 0) (lo' := [(0, .ref h), (1, .int i)]) (rest' := []) (ws' := [(h, .inr (10, [.ref m_rels, .ref m_openRels, .ref m_closeRels, .ref m_openRel, .ref m_closeRel, .ref m_comment, .ref m_ends, .ref m_order, .int v_thrown, .int v_taped, .ref m_tape, .ref m_count, .ref m_nameSize, .ref m_names, .ref m_size, .ref m_data, .int v_lookedSize, .ref m_looked, .int v_fileSize, .ref m_file, .int v_directorySize, .ref m_directory, .int v_outSize, .ref m_out, .int v_rowSize, .ref m_row, .int v_bitAt, .int v_bitEnd, .int v_why, .int v_madeSize, .ref m_made, .ref m_length, .int v_firstCount, .int v_secondCount, .int v_heldBits, .int v_heldCount, .int v_pressedSize, .ref m_pressed, .int v_at, .int v_bad, .int v_markSize, .ref m_mark, .int v_relationCount, .ref m_idSize, .ref m_ids, .ref m_goalSize, .ref m_goals, .int v_valueSize, .ref m_value, .int v_faultCount, .ref m_faults, .ref m_reached])), (m_out, .inl (G.2.1, 5000, .inl a_out))]) ?_
  have zl0 : (0 : Int32).toInt = 0 := by decide
  have zl1 : (1 : Int32).toInt = 1 := by decide
  refine pb_aload_n (pc := 0) d_Mod_out_0 0 rfl rfl ?_
  refine pb_iload_n (pc := 1) d_Mod_out_1 1 rfl rfl ?_
  refine pb_if_lt (pc := 2) (tgt := 13) d_Mod_out_2 (by decide) (fun w1 => ?_) (fun w1 => ?_)
  · have tw1 : i.toInt < 0 := (ti_lt rfl (by decide)).mp w1
    refine pb_iconst (pc := 13) (v := 1) d_Mod_out_13 (by decide) ?_
    refine pb_goto (pc := 14) (tgt := 18) d_Mod_out_14 (by decide) ?_
    refine pb_put (pc := 18) (ty := .int) (ws' := [(h, .inr (10, [.ref m_rels, .ref m_openRels, .ref m_closeRels, .ref m_openRel, .ref m_closeRel, .ref m_comment, .ref m_ends, .ref m_order, .int 1, .int v_taped, .ref m_tape, .ref m_count, .ref m_nameSize, .ref m_names, .ref m_size, .ref m_data, .int v_lookedSize, .ref m_looked, .int v_fileSize, .ref m_file, .int v_directorySize, .ref m_directory, .int v_outSize, .ref m_out, .int v_rowSize, .ref m_row, .int v_bitAt, .int v_bitEnd, .int v_why, .int v_madeSize, .ref m_made, .ref m_length, .int v_firstCount, .int v_secondCount, .int v_heldBits, .int v_heldCount, .int v_pressedSize, .ref m_pressed, .int v_at, .int v_bad, .int v_markSize, .ref m_mark, .int v_relationCount, .ref m_idSize, .ref m_ids, .ref m_goalSize, .ref m_goals, .int v_valueSize, .ref m_value, .int v_faultCount, .ref m_faults, .ref m_reached])), (m_out, .inl (G.2.1, 5000, .inl a_out))]) d_Mod_out_18 0 8 t_Mod t_Mod_ok n_Mod rfl rfl (by decide) in_Mod k_1154 rfl (by decide +kernel) rfl rfl (Nat.le_of_ble_eq_true rfl) rfl ?_
    refine pb_aload_n (pc := 21) d_Mod_out_21 0 rfl rfl ?_
    refine pb_get (pc := 22) d_Mod_out_22 0 8 rfl rfl (by decide) in_Mod k_1154 rfl ?_
    refine pb_if_le (pc := 25) (tgt := 32) d_Mod_out_25 (by decide) (fun h9 => absurd h9 (by decide)) (fun _ => ?_)
    refine pb_iconst (pc := 28) (v := 0) d_Mod_out_28 (by decide) ?_
    refine pb_goto (pc := 29) (tgt := 42) d_Mod_out_29 (by decide) ?_
    exact pb_iret (pc := 42) hQ d_Mod_out_42 rfl rfl (0, 1) ⟨rfl, (by (try dsimp only); first | done | (with_reducible assumption) | omega (splitDisjunctions := false) | assumption | omega | decide), (show (1 : Int32).toInt = 0 → (0 : Int32) = gr a_out i.toInt &&& 255 from (by first | exact fun q9 => absurd q9 (by omega) | exact fun _ => by simp only []))⟩ [0, 1] (by decide) rfl rfl (by decide) (by decide)
  · have tw1 : ¬ i.toInt < 0 := fun z9 => w1 ((ti_lt rfl (by decide)).mpr z9)
    refine pb_iload_n (pc := 5) d_Mod_out_5 1 rfl rfl ?_
    refine pb_aload_n (pc := 6) d_Mod_out_6 0 rfl rfl ?_
    refine pb_get (pc := 7) d_Mod_out_7 0 22 rfl rfl (by decide) in_Mod k_1168 rfl ?_
    refine pb_icmp_lt (pc := 10) (tgt := 17) d_Mod_out_10 (by decide) (fun w3 => ?_) (fun w3 => ?_)
    · have tw3 : i.toInt < v_outSize.toInt := (ti_lt rfl rfl).mp w3
      refine pb_iconst (pc := 17) (v := 0) d_Mod_out_17 (by decide) ?_
      refine pb_put (pc := 18) (ty := .int) (ws' := [(h, .inr (10, [.ref m_rels, .ref m_openRels, .ref m_closeRels, .ref m_openRel, .ref m_closeRel, .ref m_comment, .ref m_ends, .ref m_order, .int 0, .int v_taped, .ref m_tape, .ref m_count, .ref m_nameSize, .ref m_names, .ref m_size, .ref m_data, .int v_lookedSize, .ref m_looked, .int v_fileSize, .ref m_file, .int v_directorySize, .ref m_directory, .int v_outSize, .ref m_out, .int v_rowSize, .ref m_row, .int v_bitAt, .int v_bitEnd, .int v_why, .int v_madeSize, .ref m_made, .ref m_length, .int v_firstCount, .int v_secondCount, .int v_heldBits, .int v_heldCount, .int v_pressedSize, .ref m_pressed, .int v_at, .int v_bad, .int v_markSize, .ref m_mark, .int v_relationCount, .ref m_idSize, .ref m_ids, .ref m_goalSize, .ref m_goals, .int v_valueSize, .ref m_value, .int v_faultCount, .ref m_faults, .ref m_reached])), (m_out, .inl (G.2.1, 5000, .inl a_out))]) d_Mod_out_18 0 8 t_Mod t_Mod_ok n_Mod rfl rfl (by decide) in_Mod k_1154 rfl (by decide +kernel) rfl rfl (Nat.le_of_ble_eq_true rfl) rfl ?_
      refine pb_aload_n (pc := 21) d_Mod_out_21 0 rfl rfl ?_
      refine pb_get (pc := 22) d_Mod_out_22 0 8 rfl rfl (by decide) in_Mod k_1154 rfl ?_
      refine pb_if_le (pc := 25) (tgt := 32) d_Mod_out_25 (by decide) (fun _ => ?_) (fun h9 => absurd h9 (by decide))
      refine pb_aload_n (pc := 32) d_Mod_out_32 0 rfl rfl ?_
      refine pb_get (pc := 33) d_Mod_out_33 0 23 rfl rfl (by decide) in_Mod k_1169 rfl ?_
      refine pb_iload_n (pc := 36) d_Mod_out_36 1 rfl rfl ?_
      refine pb_bald (pc := 37) d_Mod_out_37 1 rfl (vp_in_iff.mpr (by omega)) ?_
      refine pb_topi (fun i5 ei5 => ?_)
      have xi5 : i5 = gr a_out (i.toInt) := gr_ld ei5 (by omega)
      have yi5 : i5.toInt = gx a_out (i.toInt) := congrArg Int32.toInt xi5
      have ti5 : -128 ≤ i5.toInt ∧ i5.toInt ≤ 127 := ti_fit (F_a_out _) ei5
      refine pb_sipush (pc := 38) (v := 255) d_Mod_out_38 (by decide) ?_
      refine pb_iand (pc := 41) d_Mod_out_41 ?_
      refine pb_topi (fun i6 ei6 => ?_)
      have ti6 : 0 ≤ i6.toInt ∧ i6.toInt ≤ 255 := ti_and 8 ei6 (by decide) (by decide)
      exact pb_iret (pc := 42) hQ d_Mod_out_42 rfl rfl (i6, 0) ⟨rfl, (by (try dsimp only); first | done | (with_reducible assumption) | omega (splitDisjunctions := false) | assumption | omega | decide), (show (0 : Int32).toInt = 0 → i6 = gr a_out i.toInt &&& 255 from (by first | exact fun q9 => absurd q9 (by omega) | exact fun _ => by simp only [xi5, ei6]))⟩ [0, 1] (by decide) rfl rfl (by decide) (by decide)
    · have tw3 : ¬ i.toInt < v_outSize.toInt := fun z9 => w3 ((ti_lt rfl rfl).mpr z9)
      refine pb_iconst (pc := 13) (v := 1) d_Mod_out_13 (by decide) ?_
      refine pb_goto (pc := 14) (tgt := 18) d_Mod_out_14 (by decide) ?_
      refine pb_put (pc := 18) (ty := .int) (ws' := [(h, .inr (10, [.ref m_rels, .ref m_openRels, .ref m_closeRels, .ref m_openRel, .ref m_closeRel, .ref m_comment, .ref m_ends, .ref m_order, .int 1, .int v_taped, .ref m_tape, .ref m_count, .ref m_nameSize, .ref m_names, .ref m_size, .ref m_data, .int v_lookedSize, .ref m_looked, .int v_fileSize, .ref m_file, .int v_directorySize, .ref m_directory, .int v_outSize, .ref m_out, .int v_rowSize, .ref m_row, .int v_bitAt, .int v_bitEnd, .int v_why, .int v_madeSize, .ref m_made, .ref m_length, .int v_firstCount, .int v_secondCount, .int v_heldBits, .int v_heldCount, .int v_pressedSize, .ref m_pressed, .int v_at, .int v_bad, .int v_markSize, .ref m_mark, .int v_relationCount, .ref m_idSize, .ref m_ids, .ref m_goalSize, .ref m_goals, .int v_valueSize, .ref m_value, .int v_faultCount, .ref m_faults, .ref m_reached])), (m_out, .inl (G.2.1, 5000, .inl a_out))]) d_Mod_out_18 0 8 t_Mod t_Mod_ok n_Mod rfl rfl (by decide) in_Mod k_1154 rfl (by decide +kernel) rfl rfl (Nat.le_of_ble_eq_true rfl) rfl ?_
      refine pb_aload_n (pc := 21) d_Mod_out_21 0 rfl rfl ?_
      refine pb_get (pc := 22) d_Mod_out_22 0 8 rfl rfl (by decide) in_Mod k_1154 rfl ?_
      refine pb_if_le (pc := 25) (tgt := 32) d_Mod_out_25 (by decide) (fun h9 => absurd h9 (by decide)) (fun _ => ?_)
      refine pb_iconst (pc := 28) (v := 0) d_Mod_out_28 (by decide) ?_
      refine pb_goto (pc := 29) (tgt := 42) d_Mod_out_29 (by decide) ?_
      exact pb_iret (pc := 42) hQ d_Mod_out_42 rfl rfl (0, 1) ⟨rfl, (by (try dsimp only); first | done | (with_reducible assumption) | omega (splitDisjunctions := false) | assumption | omega | decide), (show (1 : Int32).toInt = 0 → (0 : Int32) = gr a_out i.toInt &&& 255 from (by first | exact fun q9 => absurd q9 (by omega) | exact fun _ => by simp only []))⟩ [0, 1] (by decide) rfl rfl (by decide) (by decide)

theorem d_Mod_file_0 : decode prog_12_method_53_code 0 = .ok (.aload_n 0, 1) := by decide +kernel
theorem d_Mod_file_1 : decode prog_12_method_53_code 1 = .ok (.iload_n 1, 1) := by decide +kernel
theorem d_Mod_file_2 : decode prog_12_method_53_code 2 = .ok (.ifCond .lt 11, 3) := by decide +kernel
theorem d_Mod_file_13 : decode prog_12_method_53_code 13 = .ok (.iconst 1, 1) := by decide +kernel
theorem d_Mod_file_14 : decode prog_12_method_53_code 14 = .ok (.goto 4, 3) := by decide +kernel
theorem d_Mod_file_18 : decode prog_12_method_53_code 18 = .ok (.putfield 103, 3) := by decide +kernel
theorem d_Mod_file_21 : decode prog_12_method_53_code 21 = .ok (.aload_n 0, 1) := by decide +kernel
theorem d_Mod_file_22 : decode prog_12_method_53_code 22 = .ok (.getfield 103, 3) := by decide +kernel
theorem d_Mod_file_25 : decode prog_12_method_53_code 25 = .ok (.ifCond .le 7, 3) := by decide +kernel
theorem d_Mod_file_28 : decode prog_12_method_53_code 28 = .ok (.iconst 0, 1) := by decide +kernel
theorem d_Mod_file_29 : decode prog_12_method_53_code 29 = .ok (.goto 13, 3) := by decide +kernel
theorem d_Mod_file_42 : decode prog_12_method_53_code 42 = .ok (.ireturn, 1) := by decide +kernel
theorem d_Mod_file_5 : decode prog_12_method_53_code 5 = .ok (.iload_n 1, 1) := by decide +kernel
theorem d_Mod_file_6 : decode prog_12_method_53_code 6 = .ok (.aload_n 0, 1) := by decide +kernel
theorem d_Mod_file_7 : decode prog_12_method_53_code 7 = .ok (.getfield 269, 3) := by decide +kernel
theorem k_1164 : (Jvm.Cond.fieldLink "PackageBookModel" (269 : Nat) "PackageBookModel" "fileSize" "I") ∈ uW := uW_c4 87 rfl (by decide +kernel)
theorem d_Mod_file_10 : decode prog_12_method_53_code 10 = .ok (.if_icmp .lt 7, 3) := by decide +kernel
theorem d_Mod_file_17 : decode prog_12_method_53_code 17 = .ok (.iconst 0, 1) := by decide +kernel
theorem d_Mod_file_32 : decode prog_12_method_53_code 32 = .ok (.aload_n 0, 1) := by decide +kernel
theorem d_Mod_file_33 : decode prog_12_method_53_code 33 = .ok (.getfield 57, 3) := by decide +kernel
theorem k_1165 : (Jvm.Cond.fieldLink "PackageBookModel" (57 : Nat) "PackageBookModel" "file" "[B") ∈ uW := uW_c4 88 rfl (by decide +kernel)
theorem d_Mod_file_36 : decode prog_12_method_53_code 36 = .ok (.iload_n 1, 1) := by decide +kernel
theorem d_Mod_file_37 : decode prog_12_method_53_code 37 = .ok (.baload, 1) := by decide +kernel
theorem d_Mod_file_38 : decode prog_12_method_53_code 38 = .ok (.sipush 255, 3) := by decide +kernel
theorem d_Mod_file_41 : decode prog_12_method_53_code 41 = .ok (.iand, 1) := by decide +kernel
abbrev y_Mod_file : MethodName := ⟨"PackageBookModel", "file", "(I)I"⟩
abbrev i_Mod_file : pb_I := (y_Mod_file, prog_12_method_53_code, 2, (some Jvm.ClassFile.FieldType.int), [], { frames := 0, cells := 0, slots := 0, locals := 0 })
set_option maxRecDepth 100000 in
set_option maxHeartbeats 4000000 in
theorem g_Mod_file {l : Launch} (hl : l.stackTraces = false) (G : pb_G) (h : Nat) (m_rels : Nat) (m_openRels : Nat) (m_closeRels : Nat) (m_openRel : Nat) (m_closeRel : Nat) (m_comment : Nat) (m_ends : Nat) (m_order : Nat) (m_tape : Nat) (m_count : Nat) (m_nameSize : Nat) (m_names : Nat) (m_size : Nat) (m_data : Nat) (m_looked : Nat) (m_file : Nat) (m_directory : Nat) (m_out : Nat) (m_row : Nat) (m_made : Nat) (m_length : Nat) (m_pressed : Nat) (m_mark : Nat) (m_idSize : Nat) (m_ids : Nat) (m_goalSize : Nat) (m_goals : Nat) (m_value : Nat) (m_faults : Nat) (m_reached : Nat) (v_thrown : Int32) (v_taped : Int32) (v_lookedSize : Int32) (v_fileSize : Int32) (v_directorySize : Int32) (v_outSize : Int32) (v_rowSize : Int32) (v_bitAt : Int32) (v_bitEnd : Int32) (v_why : Int32) (v_madeSize : Int32) (v_firstCount : Int32) (v_secondCount : Int32) (v_heldBits : Int32) (v_heldCount : Int32) (v_pressedSize : Int32) (v_at : Int32) (v_bad : Int32) (v_markSize : Int32) (v_relationCount : Int32) (v_valueSize : Int32) (v_faultCount : Int32) (a_file : Nat → Int32) (i : Int32) (h0 : v_fileSize.toInt ≤ 20000) (F_a_file : sb_Fit a_file) : Cn l G i_Mod_file [.ref h, .int i] [(h, .inr (10, [.ref m_rels, .ref m_openRels, .ref m_closeRels, .ref m_openRel, .ref m_closeRel, .ref m_comment, .ref m_ends, .ref m_order, .int v_thrown, .int v_taped, .ref m_tape, .ref m_count, .ref m_nameSize, .ref m_names, .ref m_size, .ref m_data, .int v_lookedSize, .ref m_looked, .int v_fileSize, .ref m_file, .int v_directorySize, .ref m_directory, .int v_outSize, .ref m_out, .int v_rowSize, .ref m_row, .int v_bitAt, .int v_bitEnd, .int v_why, .int v_madeSize, .ref m_made, .ref m_length, .int v_firstCount, .int v_secondCount, .int v_heldBits, .int v_heldCount, .int v_pressedSize, .ref m_pressed, .int v_at, .int v_bad, .int v_markSize, .ref m_mark, .int v_relationCount, .ref m_idSize, .ref m_ids, .ref m_goalSize, .ref m_goals, .int v_valueSize, .ref m_value, .int v_faultCount, .ref m_faults, .ref m_reached])), (m_file, .inl (G.2.1, 20000, .inl a_file))] (S := Int32 × Int32) (fun rv_ u => rv_ = some (.int u.1) ∧ (u.2.toInt = 0 ∧ 0 ≤ i.toInt ∧ i.toInt < v_fileSize.toInt ∨ u.2.toInt = 1 ∧ ¬ (0 ≤ i.toInt ∧ i.toInt < v_fileSize.toInt)) ∧ (u.2.toInt = 0 → u.1 = gr a_file i.toInt &&& 255)) (fun u => [(h, .inr (10, [.ref m_rels, .ref m_openRels, .ref m_closeRels, .ref m_openRel, .ref m_closeRel, .ref m_comment, .ref m_ends, .ref m_order, .int u.2, .int v_taped, .ref m_tape, .ref m_count, .ref m_nameSize, .ref m_names, .ref m_size, .ref m_data, .int v_lookedSize, .ref m_looked, .int v_fileSize, .ref m_file, .int v_directorySize, .ref m_directory, .int v_outSize, .ref m_out, .int v_rowSize, .ref m_row, .int v_bitAt, .int v_bitEnd, .int v_why, .int v_madeSize, .ref m_made, .ref m_length, .int v_firstCount, .int v_secondCount, .int v_heldBits, .int v_heldCount, .int v_pressedSize, .ref m_pressed, .int v_at, .int v_bad, .int v_markSize, .ref m_mark, .int v_relationCount, .ref m_idSize, .ref m_ids, .ref m_goalSize, .ref m_goals, .int v_valueSize, .ref m_value, .int v_faultCount, .ref m_faults, .ref m_reached])), (m_file, .inl (G.2.1, 20000, .inl a_file))]) := by
  refine Cn.of hl (by decide +kernel) rfl (Nat.le_of_ble_eq_true rfl) (fun M hQ => ?_)
  refine pb_eq (pc' := 0) (lo' := [(0, .ref h), (1, .int i)]) (rest' := []) (ws' := [(h, .inr (10, [.ref m_rels, .ref m_openRels, .ref m_closeRels, .ref m_openRel, .ref m_closeRel, .ref m_comment, .ref m_ends, .ref m_order, .int v_thrown, .int v_taped, .ref m_tape, .ref m_count, .ref m_nameSize, .ref m_names, .ref m_size, .ref m_data, .int v_lookedSize, .ref m_looked, .int v_fileSize, .ref m_file, .int v_directorySize, .ref m_directory, .int v_outSize, .ref m_out, .int v_rowSize, .ref m_row, .int v_bitAt, .int v_bitEnd, .int v_why, .int v_madeSize, .ref m_made, .ref m_length, .int v_firstCount, .int v_secondCount, .int v_heldBits, .int v_heldCount, .int v_pressedSize, .ref m_pressed, .int v_at, .int v_bad, .int v_markSize, .ref m_mark, .int v_relationCount, .ref m_idSize, .ref m_ids, .ref m_goalSize, .ref m_goals, .int v_valueSize, .ref m_value, .int v_faultCount, .ref m_faults, .ref m_reached])), (m_file, .inl (G.2.1, 20000, .inl a_file))]) ?_
  have zl0 : (0 : Int32).toInt = 0 := by decide
  have zl1 : (1 : Int32).toInt = 1 := by decide
  refine pb_aload_n (pc := 0) d_Mod_file_0 0 rfl rfl ?_
  refine pb_iload_n (pc := 1) d_Mod_file_1 1 rfl rfl ?_
  refine pb_if_lt (pc := 2) (tgt := 13) d_Mod_file_2 (by decide) (fun w1 => ?_) (fun w1 => ?_)
  · have tw1 : i.toInt < 0 := (ti_lt rfl (by decide)).mp w1
    refine pb_iconst (pc := 13) (v := 1) d_Mod_file_13 (by decide) ?_
    refine pb_goto (pc := 14) (tgt := 18) d_Mod_file_14 (by decide) ?_
    refine pb_put (pc := 18) (ty := .int) (ws' := [(h, .inr (10, [.ref m_rels, .ref m_openRels, .ref m_closeRels, .ref m_openRel, .ref m_closeRel, .ref m_comment, .ref m_ends, .ref m_order, .int 1, .int v_taped, .ref m_tape, .ref m_count, .ref m_nameSize, .ref m_names, .ref m_size, .ref m_data, .int v_lookedSize, .ref m_looked, .int v_fileSize, .ref m_file, .int v_directorySize, .ref m_directory, .int v_outSize, .ref m_out, .int v_rowSize, .ref m_row, .int v_bitAt, .int v_bitEnd, .int v_why, .int v_madeSize, .ref m_made, .ref m_length, .int v_firstCount, .int v_secondCount, .int v_heldBits, .int v_heldCount, .int v_pressedSize, .ref m_pressed, .int v_at, .int v_bad, .int v_markSize, .ref m_mark, .int v_relationCount, .ref m_idSize, .ref m_ids, .ref m_goalSize, .ref m_goals, .int v_valueSize, .ref m_value, .int v_faultCount, .ref m_faults, .ref m_reached])), (m_file, .inl (G.2.1, 20000, .inl a_file))]) d_Mod_file_18 0 8 t_Mod t_Mod_ok n_Mod rfl rfl (by decide) in_Mod k_1154 rfl (by decide +kernel) rfl rfl (Nat.le_of_ble_eq_true rfl) rfl ?_
    refine pb_aload_n (pc := 21) d_Mod_file_21 0 rfl rfl ?_
    refine pb_get (pc := 22) d_Mod_file_22 0 8 rfl rfl (by decide) in_Mod k_1154 rfl ?_
    refine pb_if_le (pc := 25) (tgt := 32) d_Mod_file_25 (by decide) (fun h9 => absurd h9 (by decide)) (fun _ => ?_)
    refine pb_iconst (pc := 28) (v := 0) d_Mod_file_28 (by decide) ?_
    refine pb_goto (pc := 29) (tgt := 42) d_Mod_file_29 (by decide) ?_
    exact pb_iret (pc := 42) hQ d_Mod_file_42 rfl rfl (0, 1) ⟨rfl, (by (try dsimp only); first | done | (with_reducible assumption) | omega (splitDisjunctions := false) | assumption | omega | decide), (show (1 : Int32).toInt = 0 → (0 : Int32) = gr a_file i.toInt &&& 255 from (by first | exact fun q9 => absurd q9 (by omega) | exact fun _ => by simp only []))⟩ [0, 1] (by decide) rfl rfl (by decide) (by decide)
  · have tw1 : ¬ i.toInt < 0 := fun z9 => w1 ((ti_lt rfl (by decide)).mpr z9)
    refine pb_iload_n (pc := 5) d_Mod_file_5 1 rfl rfl ?_
    refine pb_aload_n (pc := 6) d_Mod_file_6 0 rfl rfl ?_
    refine pb_get (pc := 7) d_Mod_file_7 0 18 rfl rfl (by decide) in_Mod k_1164 rfl ?_
    refine pb_icmp_lt (pc := 10) (tgt := 17) d_Mod_file_10 (by decide) (fun w3 => ?_) (fun w3 => ?_)
    · have tw3 : i.toInt < v_fileSize.toInt := (ti_lt rfl rfl).mp w3
      refine pb_iconst (pc := 17) (v := 0) d_Mod_file_17 (by decide) ?_
      refine pb_put (pc := 18) (ty := .int) (ws' := [(h, .inr (10, [.ref m_rels, .ref m_openRels, .ref m_closeRels, .ref m_openRel, .ref m_closeRel, .ref m_comment, .ref m_ends, .ref m_order, .int 0, .int v_taped, .ref m_tape, .ref m_count, .ref m_nameSize, .ref m_names, .ref m_size, .ref m_data, .int v_lookedSize, .ref m_looked, .int v_fileSize, .ref m_file, .int v_directorySize, .ref m_directory, .int v_outSize, .ref m_out, .int v_rowSize, .ref m_row, .int v_bitAt, .int v_bitEnd, .int v_why, .int v_madeSize, .ref m_made, .ref m_length, .int v_firstCount, .int v_secondCount, .int v_heldBits, .int v_heldCount, .int v_pressedSize, .ref m_pressed, .int v_at, .int v_bad, .int v_markSize, .ref m_mark, .int v_relationCount, .ref m_idSize, .ref m_ids, .ref m_goalSize, .ref m_goals, .int v_valueSize, .ref m_value, .int v_faultCount, .ref m_faults, .ref m_reached])), (m_file, .inl (G.2.1, 20000, .inl a_file))]) d_Mod_file_18 0 8 t_Mod t_Mod_ok n_Mod rfl rfl (by decide) in_Mod k_1154 rfl (by decide +kernel) rfl rfl (Nat.le_of_ble_eq_true rfl) rfl ?_
      refine pb_aload_n (pc := 21) d_Mod_file_21 0 rfl rfl ?_
      refine pb_get (pc := 22) d_Mod_file_22 0 8 rfl rfl (by decide) in_Mod k_1154 rfl ?_
      refine pb_if_le (pc := 25) (tgt := 32) d_Mod_file_25 (by decide) (fun _ => ?_) (fun h9 => absurd h9 (by decide))
      refine pb_aload_n (pc := 32) d_Mod_file_32 0 rfl rfl ?_
      refine pb_get (pc := 33) d_Mod_file_33 0 19 rfl rfl (by decide) in_Mod k_1165 rfl ?_
      refine pb_iload_n (pc := 36) d_Mod_file_36 1 rfl rfl ?_
      refine pb_bald (pc := 37) d_Mod_file_37 1 rfl (vp_in_iff.mpr (by omega)) ?_
      refine pb_topi (fun i5 ei5 => ?_)
      have xi5 : i5 = gr a_file (i.toInt) := gr_ld ei5 (by omega)
      have yi5 : i5.toInt = gx a_file (i.toInt) := congrArg Int32.toInt xi5
      have ti5 : -128 ≤ i5.toInt ∧ i5.toInt ≤ 127 := ti_fit (F_a_file _) ei5
      refine pb_sipush (pc := 38) (v := 255) d_Mod_file_38 (by decide) ?_
      refine pb_iand (pc := 41) d_Mod_file_41 ?_
      refine pb_topi (fun i6 ei6 => ?_)
      have ti6 : 0 ≤ i6.toInt ∧ i6.toInt ≤ 255 := ti_and 8 ei6 (by decide) (by decide)
      exact pb_iret (pc := 42) hQ d_Mod_file_42 rfl rfl (i6, 0) ⟨rfl, (by (try dsimp only); first | done | (with_reducible assumption) | omega (splitDisjunctions := false) | assumption | omega | decide), (show (0 : Int32).toInt = 0 → i6 = gr a_file i.toInt &&& 255 from (by first | exact fun q9 => absurd q9 (by omega) | exact fun _ => by simp only [xi5, ei6]))⟩ [0, 1] (by decide) rfl rfl (by decide) (by decide)
    · have tw3 : ¬ i.toInt < v_fileSize.toInt := fun z9 => w3 ((ti_lt rfl rfl).mpr z9)
      refine pb_iconst (pc := 13) (v := 1) d_Mod_file_13 (by decide) ?_
      refine pb_goto (pc := 14) (tgt := 18) d_Mod_file_14 (by decide) ?_
      refine pb_put (pc := 18) (ty := .int) (ws' := [(h, .inr (10, [.ref m_rels, .ref m_openRels, .ref m_closeRels, .ref m_openRel, .ref m_closeRel, .ref m_comment, .ref m_ends, .ref m_order, .int 1, .int v_taped, .ref m_tape, .ref m_count, .ref m_nameSize, .ref m_names, .ref m_size, .ref m_data, .int v_lookedSize, .ref m_looked, .int v_fileSize, .ref m_file, .int v_directorySize, .ref m_directory, .int v_outSize, .ref m_out, .int v_rowSize, .ref m_row, .int v_bitAt, .int v_bitEnd, .int v_why, .int v_madeSize, .ref m_made, .ref m_length, .int v_firstCount, .int v_secondCount, .int v_heldBits, .int v_heldCount, .int v_pressedSize, .ref m_pressed, .int v_at, .int v_bad, .int v_markSize, .ref m_mark, .int v_relationCount, .ref m_idSize, .ref m_ids, .ref m_goalSize, .ref m_goals, .int v_valueSize, .ref m_value, .int v_faultCount, .ref m_faults, .ref m_reached])), (m_file, .inl (G.2.1, 20000, .inl a_file))]) d_Mod_file_18 0 8 t_Mod t_Mod_ok n_Mod rfl rfl (by decide) in_Mod k_1154 rfl (by decide +kernel) rfl rfl (Nat.le_of_ble_eq_true rfl) rfl ?_
      refine pb_aload_n (pc := 21) d_Mod_file_21 0 rfl rfl ?_
      refine pb_get (pc := 22) d_Mod_file_22 0 8 rfl rfl (by decide) in_Mod k_1154 rfl ?_
      refine pb_if_le (pc := 25) (tgt := 32) d_Mod_file_25 (by decide) (fun h9 => absurd h9 (by decide)) (fun _ => ?_)
      refine pb_iconst (pc := 28) (v := 0) d_Mod_file_28 (by decide) ?_
      refine pb_goto (pc := 29) (tgt := 42) d_Mod_file_29 (by decide) ?_
      exact pb_iret (pc := 42) hQ d_Mod_file_42 rfl rfl (0, 1) ⟨rfl, (by (try dsimp only); first | done | (with_reducible assumption) | omega (splitDisjunctions := false) | assumption | omega | decide), (show (1 : Int32).toInt = 0 → (0 : Int32) = gr a_file i.toInt &&& 255 from (by first | exact fun q9 => absurd q9 (by omega) | exact fun _ => by simp only []))⟩ [0, 1] (by decide) rfl rfl (by decide) (by decide)

theorem d_Mod_lay_0 : decode prog_12_method_49_code 0 = .ok (.iconst 0, 1) := by decide +kernel
theorem d_Mod_lay_1 : decode prog_12_method_49_code 1 = .ok (.istore 4, 2) := by decide +kernel
theorem d_Mod_lay_3 : decode prog_12_method_49_code 3 = .ok (.iload 4, 2) := by decide +kernel
theorem d_Mod_lay_5 : decode prog_12_method_49_code 5 = .ok (.iload_n 3, 1) := by decide +kernel
theorem d_Mod_lay_6 : decode prog_12_method_49_code 6 = .ok (.if_icmp .ge 37, 3) := by decide +kernel
theorem d_Mod_lay_43 : decode prog_12_method_49_code 43 = .ok (.return_, 1) := by decide +kernel
theorem d_Mod_lay_9 : decode prog_12_method_49_code 9 = .ok (.aload_n 0, 1) := by decide +kernel
theorem d_Mod_lay_10 : decode prog_12_method_49_code 10 = .ok (.getfield 57, 3) := by decide +kernel
theorem d_Mod_lay_13 : decode prog_12_method_49_code 13 = .ok (.aload_n 0, 1) := by decide +kernel
theorem d_Mod_lay_14 : decode prog_12_method_49_code 14 = .ok (.getfield 269, 3) := by decide +kernel
theorem d_Mod_lay_17 : decode prog_12_method_49_code 17 = .ok (.lload_n 1, 1) := by decide +kernel
theorem d_Mod_lay_18 : decode prog_12_method_49_code 18 = .ok (.bipush 8, 2) := by decide +kernel
theorem d_Mod_lay_20 : decode prog_12_method_49_code 20 = .ok (.iload 4, 2) := by decide +kernel
theorem d_Mod_lay_22 : decode prog_12_method_49_code 22 = .ok (.imul, 1) := by decide +kernel
theorem d_Mod_lay_23 : decode prog_12_method_49_code 23 = .ok (.lshr, 1) := by decide +kernel
theorem d_Mod_lay_24 : decode prog_12_method_49_code 24 = .ok (.l2i, 1) := by decide +kernel
theorem d_Mod_lay_25 : decode prog_12_method_49_code 25 = .ok (.i2b, 1) := by decide +kernel
theorem d_Mod_lay_26 : decode prog_12_method_49_code 26 = .ok (.bastore, 1) := by decide +kernel
theorem d_Mod_lay_27 : decode prog_12_method_49_code 27 = .ok (.aload_n 0, 1) := by decide +kernel
theorem d_Mod_lay_28 : decode prog_12_method_49_code 28 = .ok (.dup, 1) := by decide +kernel
theorem d_Mod_lay_29 : decode prog_12_method_49_code 29 = .ok (.getfield 269, 3) := by decide +kernel
theorem d_Mod_lay_32 : decode prog_12_method_49_code 32 = .ok (.iconst 1, 1) := by decide +kernel
theorem d_Mod_lay_33 : decode prog_12_method_49_code 33 = .ok (.iadd, 1) := by decide +kernel
theorem d_Mod_lay_34 : decode prog_12_method_49_code 34 = .ok (.putfield 269, 3) := by decide +kernel
theorem d_Mod_lay_37 : decode prog_12_method_49_code 37 = .ok (.iinc 4 1, 3) := by decide +kernel
theorem d_Mod_lay_40 : decode prog_12_method_49_code 40 = .ok (.goto (-37), 3) := by decide +kernel
abbrev y_Mod_lay : MethodName := ⟨"PackageBookModel", "lay", "(JI)V"⟩
abbrev i_Mod_lay : pb_I := (y_Mod_lay, prog_12_method_49_code, 5, (Option.none : Option Jvm.ClassFile.FieldType), [], { frames := 0, cells := 0, slots := 0, locals := 0 })
set_option maxRecDepth 100000 in
set_option maxHeartbeats 4000000 in
theorem g_Mod_lay {l : Launch} (hl : l.stackTraces = false) (G : pb_G) (h : Nat) (m_rels : Nat) (m_openRels : Nat) (m_closeRels : Nat) (m_openRel : Nat) (m_closeRel : Nat) (m_comment : Nat) (m_ends : Nat) (m_order : Nat) (m_tape : Nat) (m_count : Nat) (m_nameSize : Nat) (m_names : Nat) (m_size : Nat) (m_data : Nat) (m_looked : Nat) (m_file : Nat) (m_directory : Nat) (m_out : Nat) (m_row : Nat) (m_made : Nat) (m_length : Nat) (m_pressed : Nat) (m_mark : Nat) (m_idSize : Nat) (m_ids : Nat) (m_goalSize : Nat) (m_goals : Nat) (m_value : Nat) (m_faults : Nat) (m_reached : Nat) (v_thrown : Int32) (v_taped : Int32) (v_lookedSize : Int32) (v_fileSize : Int32) (v_directorySize : Int32) (v_outSize : Int32) (v_rowSize : Int32) (v_bitAt : Int32) (v_bitEnd : Int32) (v_why : Int32) (v_madeSize : Int32) (v_firstCount : Int32) (v_secondCount : Int32) (v_heldBits : Int32) (v_heldCount : Int32) (v_pressedSize : Int32) (v_at : Int32) (v_bad : Int32) (v_markSize : Int32) (v_relationCount : Int32) (v_valueSize : Int32) (v_faultCount : Int32) (a_file : Nat → Int32) (w : Int64) (n : Int32) (h0 : 0 ≤ v_fileSize.toInt) (h1 : 0 ≤ n.toInt) (h2 : v_fileSize.toInt + n.toInt ≤ 20000) (h3 : n.toInt ≤ 8) (F_a_file : sb_Fit a_file) : Cn l G i_Mod_lay [.ref h, .long w, .int n] [(h, .inr (10, [.ref m_rels, .ref m_openRels, .ref m_closeRels, .ref m_openRel, .ref m_closeRel, .ref m_comment, .ref m_ends, .ref m_order, .int v_thrown, .int v_taped, .ref m_tape, .ref m_count, .ref m_nameSize, .ref m_names, .ref m_size, .ref m_data, .int v_lookedSize, .ref m_looked, .int v_fileSize, .ref m_file, .int v_directorySize, .ref m_directory, .int v_outSize, .ref m_out, .int v_rowSize, .ref m_row, .int v_bitAt, .int v_bitEnd, .int v_why, .int v_madeSize, .ref m_made, .ref m_length, .int v_firstCount, .int v_secondCount, .int v_heldBits, .int v_heldCount, .int v_pressedSize, .ref m_pressed, .int v_at, .int v_bad, .int v_markSize, .ref m_mark, .int v_relationCount, .ref m_idSize, .ref m_ids, .ref m_goalSize, .ref m_goals, .int v_valueSize, .ref m_value, .int v_faultCount, .ref m_faults, .ref m_reached])), (m_file, .inl (G.2.1, 20000, .inl a_file))] (S := Int32 × (Nat → Int32)) (fun rv_ u => rv_ = none ∧ (u.1.toInt = v_fileSize.toInt + n.toInt) ∧ (ap_ a_file v_fileSize.toInt u.2 u.1.toInt (nk_ w.toInt n.toInt.toNat)) ∧ (sb_Fit u.2)) (fun u => [(h, .inr (10, [.ref m_rels, .ref m_openRels, .ref m_closeRels, .ref m_openRel, .ref m_closeRel, .ref m_comment, .ref m_ends, .ref m_order, .int v_thrown, .int v_taped, .ref m_tape, .ref m_count, .ref m_nameSize, .ref m_names, .ref m_size, .ref m_data, .int v_lookedSize, .ref m_looked, .int u.1, .ref m_file, .int v_directorySize, .ref m_directory, .int v_outSize, .ref m_out, .int v_rowSize, .ref m_row, .int v_bitAt, .int v_bitEnd, .int v_why, .int v_madeSize, .ref m_made, .ref m_length, .int v_firstCount, .int v_secondCount, .int v_heldBits, .int v_heldCount, .int v_pressedSize, .ref m_pressed, .int v_at, .int v_bad, .int v_markSize, .ref m_mark, .int v_relationCount, .ref m_idSize, .ref m_ids, .ref m_goalSize, .ref m_goals, .int v_valueSize, .ref m_value, .int v_faultCount, .ref m_faults, .ref m_reached])), (m_file, .inl (G.2.1, 20000, .inl u.2))]) := by
  refine Cn.of hl (by decide +kernel) rfl (Nat.le_of_ble_eq_true rfl) (fun M hQ => ?_)
  refine pb_eq (pc' := 0) (lo' := [(0, .ref h), (1, .long w), (3, .int n)]) (rest' := []) (ws' := [(h, .inr (10, [.ref m_rels, .ref m_openRels, .ref m_closeRels, .ref m_openRel, .ref m_closeRel, .ref m_comment, .ref m_ends, .ref m_order, .int v_thrown, .int v_taped, .ref m_tape, .ref m_count, .ref m_nameSize, .ref m_names, .ref m_size, .ref m_data, .int v_lookedSize, .ref m_looked, .int v_fileSize, .ref m_file, .int v_directorySize, .ref m_directory, .int v_outSize, .ref m_out, .int v_rowSize, .ref m_row, .int v_bitAt, .int v_bitEnd, .int v_why, .int v_madeSize, .ref m_made, .ref m_length, .int v_firstCount, .int v_secondCount, .int v_heldBits, .int v_heldCount, .int v_pressedSize, .ref m_pressed, .int v_at, .int v_bad, .int v_markSize, .ref m_mark, .int v_relationCount, .ref m_idSize, .ref m_ids, .ref m_goalSize, .ref m_goals, .int v_valueSize, .ref m_value, .int v_faultCount, .ref m_faults, .ref m_reached])), (m_file, .inl (G.2.1, 20000, .inl a_file))]) ?_
  have zl0 : (0 : Int32).toInt = 0 := by decide
  have zl1 : (1 : Int32).toInt = 1 := by decide
  have zl8 : (8 : Int32).toInt = 8 := by decide
  refine pb_iconst (pc := 0) (v := 0) d_Mod_lay_0 (by decide) ?_
  refine pb_istore (pc := 1) (lo' := [(4, .int 0), (0, .ref h), (1, .long w), (3, .int n)]) d_Mod_lay_1 (by decide) rfl ?_
  have hL3_1 : ∀ (N9 : Nat) (k : Int32) (t : Int32) (g : Nat → Int32), (sb_Fit g) → (0 ≤ k.toInt) → (k.toInt ≤ n.toInt) → (t.toInt = v_fileSize.toInt + k.toInt) → (ap_ a_file v_fileSize.toInt g t.toInt (nk_ w.toInt k.toInt.toNat)) → ((n.toInt - k.toInt).toNat) < N9 → pb_P l G M i_Mod_lay 3 [(4, .int k), (0, .ref h), (1, .long w), (3, .int n)] [] [(h, .inr (10, [.ref m_rels, .ref m_openRels, .ref m_closeRels, .ref m_openRel, .ref m_closeRel, .ref m_comment, .ref m_ends, .ref m_order, .int v_thrown, .int v_taped, .ref m_tape, .ref m_count, .ref m_nameSize, .ref m_names, .ref m_size, .ref m_data, .int v_lookedSize, .ref m_looked, .int t, .ref m_file, .int v_directorySize, .ref m_directory, .int v_outSize, .ref m_out, .int v_rowSize, .ref m_row, .int v_bitAt, .int v_bitEnd, .int v_why, .int v_madeSize, .ref m_made, .ref m_length, .int v_firstCount, .int v_secondCount, .int v_heldBits, .int v_heldCount, .int v_pressedSize, .ref m_pressed, .int v_at, .int v_bad, .int v_markSize, .ref m_mark, .int v_relationCount, .ref m_idSize, .ref m_ids, .ref m_goalSize, .ref m_goals, .int v_valueSize, .ref m_value, .int v_faultCount, .ref m_faults, .ref m_reached])), (m_file, .inl (G.2.1, 20000, .inl g))] 0 0 := by
    intro N9
    induction N9 with
    | zero => intro k t g F_g k0 k1 k2 ka hm9; exact absurd hm9 (Nat.not_lt_zero _)
    | succ N9 ih3 =>
      intro k t g F_g k0 k1 k2 ka hm9
      refine pb_iload (pc := 3) d_Mod_lay_3 0 rfl ?_
      refine pb_iload_n (pc := 5) d_Mod_lay_5 3 rfl rfl ?_
      refine pb_icmp_ge (pc := 6) (tgt := 43) d_Mod_lay_6 (by decide) (fun w2 => ?_) (fun w2 => ?_)
      · have tw2 : n.toInt ≤ k.toInt := (ti_le rfl rfl).mp w2
        exact pb_vret (pc := 43) hQ d_Mod_lay_43 rfl (t, g) ⟨rfl, (by (try dsimp only); first | done | (with_reducible assumption) | omega (splitDisjunctions := false) | assumption | omega | decide), (show ap_ a_file v_fileSize.toInt g t.toInt (nk_ w.toInt n.toInt.toNat) from (by rw [show n.toInt = k.toInt by omega]; exact ka)), F_g⟩ [0, 1] (by decide) rfl rfl (by decide) (by decide)
      · have tw2 : ¬ n.toInt ≤ k.toInt := fun z9 => w2 ((ti_le rfl rfl).mpr z9)
        refine pb_aload_n (pc := 9) d_Mod_lay_9 1 rfl rfl ?_
        refine pb_get (pc := 10) d_Mod_lay_10 0 19 rfl rfl (by decide) in_Mod k_1165 rfl ?_
        refine pb_aload_n (pc := 13) d_Mod_lay_13 1 rfl rfl ?_
        refine pb_get (pc := 14) d_Mod_lay_14 0 18 rfl rfl (by decide) in_Mod k_1164 rfl ?_
        refine pb_lload_n (pc := 17) d_Mod_lay_17 2 rfl rfl ?_
        refine pb_bipush (pc := 18) (v := 8) d_Mod_lay_18 (by decide) ?_
        refine pb_iload (pc := 20) d_Mod_lay_20 0 rfl ?_
        refine pb_imul (pc := 22) d_Mod_lay_22 ?_
        refine pb_topi (fun i3 ei3 => ?_)
        try have ti3 : i3.toInt = 8 * k.toInt := ti_mul ei3 (by decide) rfl (by omega) (by omega)
        refine pb_lshr (pc := 23) d_Mod_lay_23 rfl ?_
        refine pb_topl (fun j4 ej4 => ?_)
        refine pb_l2i (pc := 24) d_Mod_lay_24 rfl ?_
        refine pb_topi (fun i5 ei5 => ?_)
        try have ti5 : i5.toInt = j4.toInt := ti_l2i ei5 rfl (by omega) (by omega)
        refine pb_i2b (pc := 25) d_Mod_lay_25 rfl ?_
        refine pb_topi (fun i6 ei6 => ?_)
        have ti6 : -128 ≤ i6.toInt ∧ i6.toInt ≤ 127 := ti_i2b ei6
        refine pb_bast (pc := 26) (ws' := [(h, .inr (10, [.ref m_rels, .ref m_openRels, .ref m_closeRels, .ref m_openRel, .ref m_closeRel, .ref m_comment, .ref m_ends, .ref m_order, .int v_thrown, .int v_taped, .ref m_tape, .ref m_count, .ref m_nameSize, .ref m_names, .ref m_size, .ref m_data, .int v_lookedSize, .ref m_looked, .int t, .ref m_file, .int v_directorySize, .ref m_directory, .int v_outSize, .ref m_out, .int v_rowSize, .ref m_row, .int v_bitAt, .int v_bitEnd, .int v_why, .int v_madeSize, .ref m_made, .ref m_length, .int v_firstCount, .int v_secondCount, .int v_heldBits, .int v_heldCount, .int v_pressedSize, .ref m_pressed, .int v_at, .int v_bad, .int v_markSize, .ref m_mark, .int v_relationCount, .ref m_idSize, .ref m_ids, .ref m_goalSize, .ref m_goals, .int v_valueSize, .ref m_value, .int v_faultCount, .ref m_faults, .ref m_reached])), (m_file, .inl (G.2.1, 20000, .inl (upd g ((t : Int32).toNatClampNeg) (vp_nar .byte i6))))]) d_Mod_lay_26 1 rfl (vp_in_iff.mpr (by omega)) rfl ?_
        refine pb_aload_n (pc := 27) d_Mod_lay_27 1 rfl rfl ?_
        refine pb_dup (pc := 28) d_Mod_lay_28 rfl ?_
        refine pb_get (pc := 29) d_Mod_lay_29 0 18 rfl rfl (by decide) in_Mod k_1164 rfl ?_
        refine pb_iconst (pc := 32) (v := 1) d_Mod_lay_32 (by decide) ?_
        refine pb_iadd (pc := 33) d_Mod_lay_33 ?_
        refine pb_topi (fun i7 ei7 => ?_)
        try have ti7 : i7.toInt = t.toInt + 1 := t2_add ei7 rfl (by decide) (by omega)
        refine pb_put (pc := 34) (ty := .int) (ws' := [(h, .inr (10, [.ref m_rels, .ref m_openRels, .ref m_closeRels, .ref m_openRel, .ref m_closeRel, .ref m_comment, .ref m_ends, .ref m_order, .int v_thrown, .int v_taped, .ref m_tape, .ref m_count, .ref m_nameSize, .ref m_names, .ref m_size, .ref m_data, .int v_lookedSize, .ref m_looked, .int i7, .ref m_file, .int v_directorySize, .ref m_directory, .int v_outSize, .ref m_out, .int v_rowSize, .ref m_row, .int v_bitAt, .int v_bitEnd, .int v_why, .int v_madeSize, .ref m_made, .ref m_length, .int v_firstCount, .int v_secondCount, .int v_heldBits, .int v_heldCount, .int v_pressedSize, .ref m_pressed, .int v_at, .int v_bad, .int v_markSize, .ref m_mark, .int v_relationCount, .ref m_idSize, .ref m_ids, .ref m_goalSize, .ref m_goals, .int v_valueSize, .ref m_value, .int v_faultCount, .ref m_faults, .ref m_reached])), (m_file, .inl (G.2.1, 20000, .inl (upd g ((t : Int32).toNatClampNeg) (vp_nar .byte i6))))]) d_Mod_lay_34 0 18 t_Mod t_Mod_ok n_Mod rfl rfl (by decide) in_Mod k_1164 rfl (by decide +kernel) rfl rfl (Nat.le_of_ble_eq_true rfl) rfl ?_
        refine pb_iincN (pc := 37) (c := 1) d_Mod_lay_37 0 rfl (by decide) (by decide) (fun i8 ei8 => ?_)
        have ti8 : i8.toInt = k.toInt + 1 := t2_add ei8 rfl (by decide) (by first | omega | (have r90 := ti_rng k; have r91 := ti_rng i8; have r92 := ti_rng n; omega))
        refine pb_eq (pc' := 40) (lo' := [(4, .int i8), (0, .ref h), (1, .long w), (3, .int n)]) (rest' := []) (ws' := [(h, .inr (10, [.ref m_rels, .ref m_openRels, .ref m_closeRels, .ref m_openRel, .ref m_closeRel, .ref m_comment, .ref m_ends, .ref m_order, .int v_thrown, .int v_taped, .ref m_tape, .ref m_count, .ref m_nameSize, .ref m_names, .ref m_size, .ref m_data, .int v_lookedSize, .ref m_looked, .int i7, .ref m_file, .int v_directorySize, .ref m_directory, .int v_outSize, .ref m_out, .int v_rowSize, .ref m_row, .int v_bitAt, .int v_bitEnd, .int v_why, .int v_madeSize, .ref m_made, .ref m_length, .int v_firstCount, .int v_secondCount, .int v_heldBits, .int v_heldCount, .int v_pressedSize, .ref m_pressed, .int v_at, .int v_bad, .int v_markSize, .ref m_mark, .int v_relationCount, .ref m_idSize, .ref m_ids, .ref m_goalSize, .ref m_goals, .int v_valueSize, .ref m_value, .int v_faultCount, .ref m_faults, .ref m_reached])), (m_file, .inl (G.2.1, 20000, .inl (upd g ((t : Int32).toNatClampNeg) (vp_nar .byte i6))))]) ?_
        refine pb_goto (pc := 40) (tgt := 3) d_Mod_lay_40 (by decide) ?_
        exact ih3 i8 i7 (upd g ((t : Int32).toNatClampNeg) (vp_nar .byte i6)) (sb_fitU F_g (fit_nar _)) (by first | (with_reducible assumption) | omega (splitDisjunctions := false) | assumption | omega | decide) (by first | (with_reducible assumption) | omega (splitDisjunctions := false) | assumption | omega | decide) (by first | (with_reducible assumption) | omega (splitDisjunctions := false) | assumption | omega | decide) (ap_nk h0 ka k0 (by omega) (fun j hj => gr_updb rfl j (by omega) hj) (tp_m2 (by assumption) (by assumption) (by assumption) (by omega)) (by omega) (by omega)) (by omega)
  exact hL3_1 _ 0 v_fileSize a_file F_a_file (by first | (with_reducible assumption) | omega (splitDisjunctions := false) | assumption | omega | decide) (by first | (with_reducible assumption) | omega (splitDisjunctions := false) | assumption | omega | decide) (by first | (with_reducible assumption) | omega (splitDisjunctions := false) | assumption | omega | decide) (by rw [show (0 : Int32).toInt.toNat = 0 by omega]; exact ap_nil rfl) (Nat.lt_succ_self _)
/-! ROWS OF NUMBERS -/
theorem omg_1d140a567a {x0 : Int} {x1 : Int} (a0 : (x0 ≤ (8 : Int))) (a1 : ((0 : Int) ≤ x1)) (a2 : (¬ (x0 ≤ x1))) : (((-(2147483648 : Int)) ≤ (x1 + (1 : Int))) ∧ ((x1 + (1 : Int)) < (2147483648 : Int))) := by omega
theorem d_Mod_enter_0 : decode prog_12_method_50_code 0 = .ok (.iconst 0, 1) := by decide +kernel
theorem d_Mod_enter_1 : decode prog_12_method_50_code 1 = .ok (.istore 4, 2) := by decide +kernel
theorem d_Mod_enter_3 : decode prog_12_method_50_code 3 = .ok (.iload 4, 2) := by decide +kernel
theorem d_Mod_enter_5 : decode prog_12_method_50_code 5 = .ok (.iload_n 3, 1) := by decide +kernel
theorem d_Mod_enter_6 : decode prog_12_method_50_code 6 = .ok (.if_icmp .ge 37, 3) := by decide +kernel
theorem d_Mod_enter_43 : decode prog_12_method_50_code 43 = .ok (.return_, 1) := by decide +kernel
theorem d_Mod_enter_9 : decode prog_12_method_50_code 9 = .ok (.aload_n 0, 1) := by decide +kernel
theorem d_Mod_enter_10 : decode prog_12_method_50_code 10 = .ok (.getfield 60, 3) := by decide +kernel
theorem k_1167 : (Jvm.Cond.fieldLink "PackageBookModel" (60 : Nat) "PackageBookModel" "directory" "[B") ∈ uW := uW_c4 90 rfl (by decide +kernel)
theorem d_Mod_enter_13 : decode prog_12_method_50_code 13 = .ok (.aload_n 0, 1) := by decide +kernel
theorem d_Mod_enter_14 : decode prog_12_method_50_code 14 = .ok (.getfield 272, 3) := by decide +kernel
theorem k_1166 : (Jvm.Cond.fieldLink "PackageBookModel" (272 : Nat) "PackageBookModel" "directorySize" "I") ∈ uW := uW_c4 89 rfl (by decide +kernel)
theorem d_Mod_enter_17 : decode prog_12_method_50_code 17 = .ok (.lload_n 1, 1) := by decide +kernel
theorem d_Mod_enter_18 : decode prog_12_method_50_code 18 = .ok (.bipush 8, 2) := by decide +kernel
theorem d_Mod_enter_20 : decode prog_12_method_50_code 20 = .ok (.iload 4, 2) := by decide +kernel
theorem d_Mod_enter_22 : decode prog_12_method_50_code 22 = .ok (.imul, 1) := by decide +kernel
theorem d_Mod_enter_23 : decode prog_12_method_50_code 23 = .ok (.lshr, 1) := by decide +kernel
theorem d_Mod_enter_24 : decode prog_12_method_50_code 24 = .ok (.l2i, 1) := by decide +kernel
theorem d_Mod_enter_25 : decode prog_12_method_50_code 25 = .ok (.i2b, 1) := by decide +kernel
theorem d_Mod_enter_26 : decode prog_12_method_50_code 26 = .ok (.bastore, 1) := by decide +kernel
theorem d_Mod_enter_27 : decode prog_12_method_50_code 27 = .ok (.aload_n 0, 1) := by decide +kernel
theorem d_Mod_enter_28 : decode prog_12_method_50_code 28 = .ok (.dup, 1) := by decide +kernel
theorem d_Mod_enter_29 : decode prog_12_method_50_code 29 = .ok (.getfield 272, 3) := by decide +kernel
theorem d_Mod_enter_32 : decode prog_12_method_50_code 32 = .ok (.iconst 1, 1) := by decide +kernel
theorem d_Mod_enter_33 : decode prog_12_method_50_code 33 = .ok (.iadd, 1) := by decide +kernel
theorem d_Mod_enter_34 : decode prog_12_method_50_code 34 = .ok (.putfield 272, 3) := by decide +kernel
theorem d_Mod_enter_37 : decode prog_12_method_50_code 37 = .ok (.iinc 4 1, 3) := by decide +kernel
theorem d_Mod_enter_40 : decode prog_12_method_50_code 40 = .ok (.goto (-37), 3) := by decide +kernel
abbrev y_Mod_enter : MethodName := ⟨"PackageBookModel", "enter", "(JI)V"⟩
abbrev i_Mod_enter : pb_I := (y_Mod_enter, prog_12_method_50_code, 5, (Option.none : Option Jvm.ClassFile.FieldType), [], { frames := 0, cells := 0, slots := 0, locals := 0 })
set_option maxRecDepth 100000 in
set_option maxHeartbeats 4000000 in
theorem g_Mod_enter {l : Launch} (hl : l.stackTraces = false) (G : pb_G) (h : Nat) (m_rels : Nat) (m_openRels : Nat) (m_closeRels : Nat) (m_openRel : Nat) (m_closeRel : Nat) (m_comment : Nat) (m_ends : Nat) (m_order : Nat) (m_tape : Nat) (m_count : Nat) (m_nameSize : Nat) (m_names : Nat) (m_size : Nat) (m_data : Nat) (m_looked : Nat) (m_file : Nat) (m_directory : Nat) (m_out : Nat) (m_row : Nat) (m_made : Nat) (m_length : Nat) (m_pressed : Nat) (m_mark : Nat) (m_idSize : Nat) (m_ids : Nat) (m_goalSize : Nat) (m_goals : Nat) (m_value : Nat) (m_faults : Nat) (m_reached : Nat) (v_thrown : Int32) (v_taped : Int32) (v_lookedSize : Int32) (v_fileSize : Int32) (v_directorySize : Int32) (v_outSize : Int32) (v_rowSize : Int32) (v_bitAt : Int32) (v_bitEnd : Int32) (v_why : Int32) (v_madeSize : Int32) (v_firstCount : Int32) (v_secondCount : Int32) (v_heldBits : Int32) (v_heldCount : Int32) (v_pressedSize : Int32) (v_at : Int32) (v_bad : Int32) (v_markSize : Int32) (v_relationCount : Int32) (v_valueSize : Int32) (v_faultCount : Int32) (a_directory : Nat → Int32) (w : Int64) (n : Int32) (h0 : 0 ≤ v_directorySize.toInt) (h1 : 0 ≤ n.toInt) (h2 : v_directorySize.toInt + n.toInt ≤ 2000) (h3 : n.toInt ≤ 8) (F_a_directory : sb_Fit a_directory) : Cn l G i_Mod_enter [.ref h, .long w, .int n] [(h, .inr (10, [.ref m_rels, .ref m_openRels, .ref m_closeRels, .ref m_openRel, .ref m_closeRel, .ref m_comment, .ref m_ends, .ref m_order, .int v_thrown, .int v_taped, .ref m_tape, .ref m_count, .ref m_nameSize, .ref m_names, .ref m_size, .ref m_data, .int v_lookedSize, .ref m_looked, .int v_fileSize, .ref m_file, .int v_directorySize, .ref m_directory, .int v_outSize, .ref m_out, .int v_rowSize, .ref m_row, .int v_bitAt, .int v_bitEnd, .int v_why, .int v_madeSize, .ref m_made, .ref m_length, .int v_firstCount, .int v_secondCount, .int v_heldBits, .int v_heldCount, .int v_pressedSize, .ref m_pressed, .int v_at, .int v_bad, .int v_markSize, .ref m_mark, .int v_relationCount, .ref m_idSize, .ref m_ids, .ref m_goalSize, .ref m_goals, .int v_valueSize, .ref m_value, .int v_faultCount, .ref m_faults, .ref m_reached])), (m_directory, .inl (G.2.1, 2000, .inl a_directory))] (S := Int32 × (Nat → Int32)) (fun rv_ u => rv_ = none ∧ (u.1.toInt = v_directorySize.toInt + n.toInt) ∧ (ap_ a_directory v_directorySize.toInt u.2 u.1.toInt (nk_ w.toInt n.toInt.toNat)) ∧ (sb_Fit u.2)) (fun u => [(h, .inr (10, [.ref m_rels, .ref m_openRels, .ref m_closeRels, .ref m_openRel, .ref m_closeRel, .ref m_comment, .ref m_ends, .ref m_order, .int v_thrown, .int v_taped, .ref m_tape, .ref m_count, .ref m_nameSize, .ref m_names, .ref m_size, .ref m_data, .int v_lookedSize, .ref m_looked, .int v_fileSize, .ref m_file, .int u.1, .ref m_directory, .int v_outSize, .ref m_out, .int v_rowSize, .ref m_row, .int v_bitAt, .int v_bitEnd, .int v_why, .int v_madeSize, .ref m_made, .ref m_length, .int v_firstCount, .int v_secondCount, .int v_heldBits, .int v_heldCount, .int v_pressedSize, .ref m_pressed, .int v_at, .int v_bad, .int v_markSize, .ref m_mark, .int v_relationCount, .ref m_idSize, .ref m_ids, .ref m_goalSize, .ref m_goals, .int v_valueSize, .ref m_value, .int v_faultCount, .ref m_faults, .ref m_reached])), (m_directory, .inl (G.2.1, 2000, .inl u.2))]) := by
  refine Cn.of hl (by decide +kernel) rfl (Nat.le_of_ble_eq_true rfl) (fun M hQ => ?_)
  refine pb_eq (pc' := 0) (lo' := [(0, .ref h), (1, .long w), (3, .int n)]) (rest' := []) (ws' := [(h, .inr (10, [.ref m_rels, .ref m_openRels, .ref m_closeRels, .ref m_openRel, .ref m_closeRel, .ref m_comment, .ref m_ends, .ref m_order, .int v_thrown, .int v_taped, .ref m_tape, .ref m_count, .ref m_nameSize, .ref m_names, .ref m_size, .ref m_data, .int v_lookedSize, .ref m_looked, .int v_fileSize, .ref m_file, .int v_directorySize, .ref m_directory, .int v_outSize, .ref m_out, .int v_rowSize, .ref m_row, .int v_bitAt, .int v_bitEnd, .int v_why, .int v_madeSize, .ref m_made, .ref m_length, .int v_firstCount, .int v_secondCount, .int v_heldBits, .int v_heldCount, .int v_pressedSize, .ref m_pressed, .int v_at, .int v_bad, .int v_markSize, .ref m_mark, .int v_relationCount, .ref m_idSize, .ref m_ids, .ref m_goalSize, .ref m_goals, .int v_valueSize, .ref m_value, .int v_faultCount, .ref m_faults, .ref m_reached])), (m_directory, .inl (G.2.1, 2000, .inl a_directory))]) ?_
  have zl0 : (0 : Int32).toInt = 0 := by decide
  have zl1 : (1 : Int32).toInt = 1 := by decide
  have zl8 : (8 : Int32).toInt = 8 := by decide
  refine pb_iconst (pc := 0) (v := 0) d_Mod_enter_0 (by decide) ?_
  refine pb_istore (pc := 1) (lo' := [(4, .int 0), (0, .ref h), (1, .long w), (3, .int n)]) d_Mod_enter_1 (by decide) rfl ?_
  have hL3_1 : ∀ (N9 : Nat) (k : Int32) (t : Int32) (g : Nat → Int32), (sb_Fit g) → (0 ≤ k.toInt) → (k.toInt ≤ n.toInt) → (t.toInt = v_directorySize.toInt + k.toInt) → (ap_ a_directory v_directorySize.toInt g t.toInt (nk_ w.toInt k.toInt.toNat)) → ((n.toInt - k.toInt).toNat) < N9 → pb_P l G M i_Mod_enter 3 [(4, .int k), (0, .ref h), (1, .long w), (3, .int n)] [] [(h, .inr (10, [.ref m_rels, .ref m_openRels, .ref m_closeRels, .ref m_openRel, .ref m_closeRel, .ref m_comment, .ref m_ends, .ref m_order, .int v_thrown, .int v_taped, .ref m_tape, .ref m_count, .ref m_nameSize, .ref m_names, .ref m_size, .ref m_data, .int v_lookedSize, .ref m_looked, .int v_fileSize, .ref m_file, .int t, .ref m_directory, .int v_outSize, .ref m_out, .int v_rowSize, .ref m_row, .int v_bitAt, .int v_bitEnd, .int v_why, .int v_madeSize, .ref m_made, .ref m_length, .int v_firstCount, .int v_secondCount, .int v_heldBits, .int v_heldCount, .int v_pressedSize, .ref m_pressed, .int v_at, .int v_bad, .int v_markSize, .ref m_mark, .int v_relationCount, .ref m_idSize, .ref m_ids, .ref m_goalSize, .ref m_goals, .int v_valueSize, .ref m_value, .int v_faultCount, .ref m_faults, .ref m_reached])), (m_directory, .inl (G.2.1, 2000, .inl g))] 0 0 := by
    intro N9
    induction N9 with
    | zero => intro k t g F_g k0 k1 k2 ka hm9; exact absurd hm9 (Nat.not_lt_zero _)
    | succ N9 ih3 =>
      intro k t g F_g k0 k1 k2 ka hm9
      refine pb_iload (pc := 3) d_Mod_enter_3 0 rfl ?_
      refine pb_iload_n (pc := 5) d_Mod_enter_5 3 rfl rfl ?_
      refine pb_icmp_ge (pc := 6) (tgt := 43) d_Mod_enter_6 (by decide) (fun w2 => ?_) (fun w2 => ?_)
      · have tw2 : n.toInt ≤ k.toInt := (ti_le rfl rfl).mp w2
        exact pb_vret (pc := 43) hQ d_Mod_enter_43 rfl (t, g) ⟨rfl, (by (try dsimp only); first | done | (with_reducible assumption) | omega (splitDisjunctions := false) | assumption | omega | decide), (show ap_ a_directory v_directorySize.toInt g t.toInt (nk_ w.toInt n.toInt.toNat) from (by rw [show n.toInt = k.toInt by omega]; exact ka)), F_g⟩ [0, 1] (by decide) rfl rfl (by decide) (by decide)
      · have tw2 : ¬ n.toInt ≤ k.toInt := fun z9 => w2 ((ti_le rfl rfl).mpr z9)
        refine pb_aload_n (pc := 9) d_Mod_enter_9 1 rfl rfl ?_
        refine pb_get (pc := 10) d_Mod_enter_10 0 21 rfl rfl (by decide) in_Mod k_1167 rfl ?_
        refine pb_aload_n (pc := 13) d_Mod_enter_13 1 rfl rfl ?_
        refine pb_get (pc := 14) d_Mod_enter_14 0 20 rfl rfl (by decide) in_Mod k_1166 rfl ?_
        refine pb_lload_n (pc := 17) d_Mod_enter_17 2 rfl rfl ?_
        refine pb_bipush (pc := 18) (v := 8) d_Mod_enter_18 (by decide) ?_
        refine pb_iload (pc := 20) d_Mod_enter_20 0 rfl ?_
        refine pb_imul (pc := 22) d_Mod_enter_22 ?_
        refine pb_topi (fun i3 ei3 => ?_)
        try have ti3 : i3.toInt = 8 * k.toInt := ti_mul ei3 (by decide) rfl (by omega) (by omega)
        refine pb_lshr (pc := 23) d_Mod_enter_23 rfl ?_
        refine pb_topl (fun j4 ej4 => ?_)
        refine pb_l2i (pc := 24) d_Mod_enter_24 rfl ?_
        refine pb_topi (fun i5 ei5 => ?_)
        try have ti5 : i5.toInt = j4.toInt := ti_l2i ei5 rfl (by omega) (by omega)
        refine pb_i2b (pc := 25) d_Mod_enter_25 rfl ?_
        refine pb_topi (fun i6 ei6 => ?_)
        have ti6 : -128 ≤ i6.toInt ∧ i6.toInt ≤ 127 := ti_i2b ei6
        refine pb_bast (pc := 26) (ws' := [(h, .inr (10, [.ref m_rels, .ref m_openRels, .ref m_closeRels, .ref m_openRel, .ref m_closeRel, .ref m_comment, .ref m_ends, .ref m_order, .int v_thrown, .int v_taped, .ref m_tape, .ref m_count, .ref m_nameSize, .ref m_names, .ref m_size, .ref m_data, .int v_lookedSize, .ref m_looked, .int v_fileSize, .ref m_file, .int t, .ref m_directory, .int v_outSize, .ref m_out, .int v_rowSize, .ref m_row, .int v_bitAt, .int v_bitEnd, .int v_why, .int v_madeSize, .ref m_made, .ref m_length, .int v_firstCount, .int v_secondCount, .int v_heldBits, .int v_heldCount, .int v_pressedSize, .ref m_pressed, .int v_at, .int v_bad, .int v_markSize, .ref m_mark, .int v_relationCount, .ref m_idSize, .ref m_ids, .ref m_goalSize, .ref m_goals, .int v_valueSize, .ref m_value, .int v_faultCount, .ref m_faults, .ref m_reached])), (m_directory, .inl (G.2.1, 2000, .inl (upd g ((t : Int32).toNatClampNeg) (vp_nar .byte i6))))]) d_Mod_enter_26 1 rfl (vp_in_iff.mpr (by omega)) rfl ?_
        refine pb_aload_n (pc := 27) d_Mod_enter_27 1 rfl rfl ?_
        refine pb_dup (pc := 28) d_Mod_enter_28 rfl ?_
        refine pb_get (pc := 29) d_Mod_enter_29 0 20 rfl rfl (by decide) in_Mod k_1166 rfl ?_
        refine pb_iconst (pc := 32) (v := 1) d_Mod_enter_32 (by decide) ?_
        refine pb_iadd (pc := 33) d_Mod_enter_33 ?_
        refine pb_topi (fun i7 ei7 => ?_)
        try have ti7 : i7.toInt = t.toInt + 1 := t2_add ei7 rfl (by decide) (by omega)
        refine pb_put (pc := 34) (ty := .int) (ws' := [(h, .inr (10, [.ref m_rels, .ref m_openRels, .ref m_closeRels, .ref m_openRel, .ref m_closeRel, .ref m_comment, .ref m_ends, .ref m_order, .int v_thrown, .int v_taped, .ref m_tape, .ref m_count, .ref m_nameSize, .ref m_names, .ref m_size, .ref m_data, .int v_lookedSize, .ref m_looked, .int v_fileSize, .ref m_file, .int i7, .ref m_directory, .int v_outSize, .ref m_out, .int v_rowSize, .ref m_row, .int v_bitAt, .int v_bitEnd, .int v_why, .int v_madeSize, .ref m_made, .ref m_length, .int v_firstCount, .int v_secondCount, .int v_heldBits, .int v_heldCount, .int v_pressedSize, .ref m_pressed, .int v_at, .int v_bad, .int v_markSize, .ref m_mark, .int v_relationCount, .ref m_idSize, .ref m_ids, .ref m_goalSize, .ref m_goals, .int v_valueSize, .ref m_value, .int v_faultCount, .ref m_faults, .ref m_reached])), (m_directory, .inl (G.2.1, 2000, .inl (upd g ((t : Int32).toNatClampNeg) (vp_nar .byte i6))))]) d_Mod_enter_34 0 20 t_Mod t_Mod_ok n_Mod rfl rfl (by decide) in_Mod k_1166 rfl (by decide +kernel) rfl rfl (Nat.le_of_ble_eq_true rfl) rfl ?_
        refine pb_iincN (pc := 37) (c := 1) d_Mod_enter_37 0 rfl (by decide) (by decide) (fun i8 ei8 => ?_)
        have ti8 : i8.toInt = k.toInt + 1 := t2_add ei8 rfl (by decide) (by first | (exact omg_1d140a567a h3 k0 tw2) | (have r90 := ti_rng k; have r91 := ti_rng i8; have r92 := ti_rng n; omega))
        refine pb_eq (pc' := 40) (lo' := [(4, .int i8), (0, .ref h), (1, .long w), (3, .int n)]) (rest' := []) (ws' := [(h, .inr (10, [.ref m_rels, .ref m_openRels, .ref m_closeRels, .ref m_openRel, .ref m_closeRel, .ref m_comment, .ref m_ends, .ref m_order, .int v_thrown, .int v_taped, .ref m_tape, .ref m_count, .ref m_nameSize, .ref m_names, .ref m_size, .ref m_data, .int v_lookedSize, .ref m_looked, .int v_fileSize, .ref m_file, .int i7, .ref m_directory, .int v_outSize, .ref m_out, .int v_rowSize, .ref m_row, .int v_bitAt, .int v_bitEnd, .int v_why, .int v_madeSize, .ref m_made, .ref m_length, .int v_firstCount, .int v_secondCount, .int v_heldBits, .int v_heldCount, .int v_pressedSize, .ref m_pressed, .int v_at, .int v_bad, .int v_markSize, .ref m_mark, .int v_relationCount, .ref m_idSize, .ref m_ids, .ref m_goalSize, .ref m_goals, .int v_valueSize, .ref m_value, .int v_faultCount, .ref m_faults, .ref m_reached])), (m_directory, .inl (G.2.1, 2000, .inl (upd g ((t : Int32).toNatClampNeg) (vp_nar .byte i6))))]) ?_
        refine pb_goto (pc := 40) (tgt := 3) d_Mod_enter_40 (by decide) ?_
        exact ih3 i8 i7 (upd g ((t : Int32).toNatClampNeg) (vp_nar .byte i6)) (sb_fitU F_g (fit_nar _)) (by first | (with_reducible assumption) | omega (splitDisjunctions := false) | assumption | omega | decide) (by first | (with_reducible assumption) | omega (splitDisjunctions := false) | assumption | omega | decide) (by first | (with_reducible assumption) | omega (splitDisjunctions := false) | assumption | omega | decide) (ap_nk h0 ka k0 (by omega) (fun j hj => gr_updb rfl j (by omega) hj) (tp_m2 (by assumption) (by assumption) (by assumption) (by omega)) (by omega) (by omega)) (by (exact omg_7c8a06b1f5 hm9 tw2 ti8))
  exact hL3_1 _ 0 v_directorySize a_directory F_a_directory (by first | (with_reducible assumption) | omega (splitDisjunctions := false) | assumption | omega | decide) (by first | (with_reducible assumption) | omega (splitDisjunctions := false) | assumption | omega | decide) (by first | (with_reducible assumption) | omega (splitDisjunctions := false) | assumption | omega | decide) (by rw [show (0 : Int32).toInt.toNat = 0 by omega]; exact ap_nil rfl) (Nat.lt_succ_self _)
