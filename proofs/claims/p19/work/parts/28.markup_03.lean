/-! ROWS OF NUMBERS -/
theorem omg_4c27f0e6a7 {x0 : Int} {x1 : Int} {x2 : Int} {x3 : Int} (a0 : (x0 = x1)) (a1 : (¬ (x0 < (97 : Int)))) (a2 : (x2 = x1)) (a3 : ((((0 : Int) ≤ x2) ∧ (x3 = x2)) ∨ ((x2 < (0 : Int)) ∧ ((128 : Int) ≤ x3)))) (a4 : (¬ ((122 : Int) < x2))) : (((97 : Int) ≤ x3) ∧ (x3 ≤ (122 : Int))) := by omega
theorem omg_4b6a8e5a1f {x0 : Int} {x1 : Int} {x2 : Int} {x3 : Int} {x4 : Int} {x5 : Int} {x6 : Int} (a0 : (x0 ≤ x1)) (a1 : (x1 ≤ (12000 : Int))) (a2 : (((-(2147483648 : Int)) ≤ x2) ∧ (x2 < (2147483648 : Int)))) (a3 : ((x3 = (0 : Int)) ∨ (x3 = (1 : Int)))) (a4 : ((x3 = (1 : Int)) → ((x0 - x2) = x4))) (a5 : ((0 : Int) ≤ x5)) (a6 : (x6 = x4)) (a7 : (¬ (x6 ≤ x5))) (a8 : (¬ (x3 = (0 : Int)))) : (((-(2147483648 : Int)) ≤ (x2 + x5)) ∧ ((x2 + x5) < (2147483648 : Int))) := by omega
theorem omg_2502584797 {x0 : Int} {x1 : Int} {x2 : Int} {x3 : Int} {x4 : Int} {x5 : Int} {x6 : Int} {x7 : Int} (a0 : (x0 ≤ x1)) (a1 : (x1 ≤ (12000 : Int))) (a2 : ((0 : Int) ≤ x2)) (a3 : ((x3 = (0 : Int)) ∨ (x3 = (1 : Int)))) (a4 : ((x3 = (1 : Int)) → ((x0 - x2) = x4))) (a5 : ((0 : Int) ≤ x5)) (a6 : (x6 = x4)) (a7 : (¬ (x6 ≤ x5))) (a8 : (¬ (x3 = (0 : Int)))) (a9 : (x7 = (x2 + x5))) : (((0 : Int) ≤ x7) ∧ (x7 < (((12000 : Nat) : Nat) : Int))) := by omega
theorem omg_825d369e30 {x0 : Int} {x1 : Int} {x2 : Int} {x3 : Int} {x4 : Int} {x5 : Int} {x6 : Int} {x7 : Int} (a0 : (x0 ≤ x1)) (a1 : ((x2 = (0 : Int)) ∨ (x2 = (1 : Int)))) (a2 : ((x2 = (1 : Int)) → ((x0 - x3) = x4))) (a3 : (x5 = x4)) (a4 : (¬ (x5 ≤ x6))) (a5 : (¬ (x2 = (0 : Int)))) : (((x3 - x7) + x6) < (x1 - x7)) := by omega
theorem omg_977dafba84 {x0 : Int} {x1 : Int} {x2 : Int} {x3 : Int} {x4 : Int} (a0 : (x0 = (0 : Int))) (a1 : ((((0 : Int) ≤ x1) ∧ (x2 = x1)) ∨ ((x1 < (0 : Int)) ∧ ((128 : Int) ≤ x2)))) (a2 : (x3 = x4)) (a3 : (((0 : Int) ≤ x4) ∧ (x4 ≤ (127 : Int)))) (a4 : (¬ (x1 = x3))) : (((x0 = (1 : Int)) ∧ (x2 = x4)) ∨ ((x0 = (0 : Int)) ∧ (¬ (x2 = x4)))) := by omega
theorem omg_5271d995ac {x0 : Int} {x1 : Int} {x2 : Int} {x3 : Int} {x4 : Int} (a0 : (x0 = (1 : Int))) (a1 : ((((0 : Int) ≤ x1) ∧ (x2 = x1)) ∨ ((x1 < (0 : Int)) ∧ ((128 : Int) ≤ x2)))) (a2 : (x3 = x4)) (a3 : (((0 : Int) ≤ x4) ∧ (x4 ≤ (127 : Int)))) (a4 : (x1 = x3)) : (((x0 = (1 : Int)) ∧ (x2 = x4)) ∨ ((x0 = (0 : Int)) ∧ (¬ (x2 = x4)))) := by omega
theorem omg_0ee089787d {x0 : Int} {x1 : Int} {x2 : Int} {x3 : Int} {x4 : Int} (a0 : ((x0 = (0 : Int)) ∨ (x0 = (1 : Int)))) (a1 : ((x0 = (1 : Int)) → ((x1 - x2) = x3))) (a2 : (¬ (x0 = (0 : Int)))) : ((x4 = (1 : Int)) → ((x1 - x2) = x3)) := by omega
theorem omg_0f7446dc31 {x0 : Int} {x1 : Int} {x2 : Int} {x3 : Int} {x4 : Int} {x5 : Int} {x6 : Int} {x7 : Int} {x8 : Int} (a0 : (x0 ≤ x1)) (a1 : (x1 ≤ (12000 : Int))) (a2 : ((0 : Int) ≤ x2)) (a3 : (x3 = (x0 - x2))) (a4 : (x4 = x5)) (a5 : (x3 = x4)) (a6 : ((0 : Int) ≤ x6)) (a7 : (x7 = x5)) (a8 : (¬ (x7 ≤ x6))) (a9 : (x8 = (x2 + x6))) : (((0 : Int) ≤ x8) ∧ (x8 < (((12000 : Nat) : Nat) : Int))) := by omega
theorem omg_670d9c80e4 {x0 : Int} {x1 : Int} {x2 : Int} {x3 : Int} {x4 : Int} {x5 : Int} {x6 : Int} (a0 : (x0 = (1 : Int))) (a1 : (x1 = (x2 - x3))) (a2 : (x4 = x5)) (a3 : (x1 = x4)) : (((x0 = (1 : Int)) ∧ (((x2 - x6) - (x3 - x6)) = x5)) ∨ ((x0 = (0 : Int)) ∧ (¬ (((x2 - x6) - (x3 - x6)) = x5)))) := by omega
theorem d_Markup_next_0 : decode prog_7_method_24_code 0 = .ok (.aload_n 0, 1) := by decide +kernel
theorem d_Markup_next_1 : decode prog_7_method_24_code 1 = .ok (.getfield 48, 3) := by decide +kernel
theorem k_326 : (Jvm.Cond.fieldLink "PackageBook$Markup" (48 : Nat) "PackageBook$Markup" "at" "I") ∈ uW := uW_of 326 (by decide +kernel) (by decide +kernel)
theorem d_Markup_next_4 : decode prog_7_method_24_code 4 = .ok (.iload_n 1, 1) := by decide +kernel
theorem d_Markup_next_5 : decode prog_7_method_24_code 5 = .ok (.iadd, 1) := by decide +kernel
theorem d_Markup_next_6 : decode prog_7_method_24_code 6 = .ok (.aload_n 0, 1) := by decide +kernel
theorem d_Markup_next_7 : decode prog_7_method_24_code 7 = .ok (.getfield 51, 3) := by decide +kernel
theorem k_327 : (Jvm.Cond.fieldLink "PackageBook$Markup" (51 : Nat) "PackageBook$Markup" "end" "I") ∈ uW := uW_of 327 (by decide +kernel) (by decide +kernel)
theorem d_Markup_next_10 : decode prog_7_method_24_code 10 = .ok (.if_icmp .ge 21, 3) := by decide +kernel
theorem d_Markup_next_31 : decode prog_7_method_24_code 31 = .ok (.iconst (-1), 1) := by decide +kernel
theorem d_Markup_next_32 : decode prog_7_method_24_code 32 = .ok (.ireturn, 1) := by decide +kernel
theorem d_Markup_next_13 : decode prog_7_method_24_code 13 = .ok (.aload_n 0, 1) := by decide +kernel
theorem d_Markup_next_14 : decode prog_7_method_24_code 14 = .ok (.getfield 23, 3) := by decide +kernel
theorem d_Markup_next_17 : decode prog_7_method_24_code 17 = .ok (.aload_n 0, 1) := by decide +kernel
theorem d_Markup_next_18 : decode prog_7_method_24_code 18 = .ok (.getfield 48, 3) := by decide +kernel
theorem d_Markup_next_21 : decode prog_7_method_24_code 21 = .ok (.iload_n 1, 1) := by decide +kernel
theorem d_Markup_next_22 : decode prog_7_method_24_code 22 = .ok (.iadd, 1) := by decide +kernel
theorem d_Markup_next_23 : decode prog_7_method_24_code 23 = .ok (.baload, 1) := by decide +kernel
theorem d_Markup_next_24 : decode prog_7_method_24_code 24 = .ok (.sipush 255, 3) := by decide +kernel
theorem d_Markup_next_27 : decode prog_7_method_24_code 27 = .ok (.iand, 1) := by decide +kernel
theorem d_Markup_next_28 : decode prog_7_method_24_code 28 = .ok (.goto 4, 3) := by decide +kernel
abbrev y_Markup_next : MethodName := ⟨"PackageBook$Markup", "next", "(I)I"⟩
abbrev i_Markup_next : pb_I := (y_Markup_next, prog_7_method_24_code, 2, (some Jvm.ClassFile.FieldType.int), [], { frames := 0, cells := 0, slots := 0, locals := 0 })
set_option maxRecDepth 100000 in
set_option maxHeartbeats 4000000 in
theorem g_Mu_next {l : Launch} (hl : l.stackTraces = false) (G : pb_G) (h : Nat) (ui : Nat) (ug : Nat) (uv : Nat) (ur : Nat) (ct : Int32) (fa : Int32) (bg : Int32) (at_ : Int32) (en : Int32) (vs : Int32) (io : Int32) (hi : Int32) (ht : Int32) (uf : Nat → Int32) (k : Int32) (a0 : 0 ≤ at_.toInt) (a1 : at_.toInt ≤ en.toInt) (a2 : en.toInt ≤ 12000) (a3 : 0 ≤ bg.toInt) (a4 : bg.toInt ≤ at_.toInt) (k0 : 0 ≤ k.toInt) (k1 : k.toInt ≤ 1) (F_uf : sb_Fit uf) : Cn l G i_Markup_next [.ref h, .int k] [(h, .inr (8, [.ref ui, .ref ug, .ref uv, .ref ur, .int ct, .int fa, .int bg, .int at_, .int en, .int vs, .int io, .int hi, .int ht])), (ur, .inl (G.2.1, 12000, .inl uf))] (S := Int32) (fun rv_ u => rv_ = some (.int u) ∧ (-1 ≤ u.toInt) ∧ (u.toInt ≤ 255) ∧ (0 ≤ u.toInt → at_.toInt + k.toInt < en.toInt) ∧ (u.toInt = cm_ (mB_ uf bg.toInt) (en.toInt - bg.toInt) ((at_.toInt - bg.toInt) + k.toInt))) (fun u => [(h, .inr (8, [.ref ui, .ref ug, .ref uv, .ref ur, .int ct, .int fa, .int bg, .int at_, .int en, .int vs, .int io, .int hi, .int ht])), (ur, .inl (G.2.1, 12000, .inl uf))]) := by
  refine Cn.of hl (by decide +kernel) rfl (Nat.le_of_ble_eq_true rfl) (fun M hQ => ?_)
  refine pb_eq (pc' := 0) (lo' := [(0, .ref h), (1, .int k)]) (rest' := []) (ws' := [(h, .inr (8, [.ref ui, .ref ug, .ref uv, .ref ur, .int ct, .int fa, .int bg, .int at_, .int en, .int vs, .int io, .int hi, .int ht])), (ur, .inl (G.2.1, 12000, .inl uf))]) ?_
  have zm1 : ((-1) : Int32).toInt = (-1) := by decide
  have zl0 : (0 : Int32).toInt = 0 := by decide
  have zl1 : (1 : Int32).toInt = 1 := by decide
  refine pb_aload_n (pc := 0) d_Markup_next_0 0 rfl rfl ?_
  refine pb_get (pc := 1) d_Markup_next_1 0 7 rfl rfl (by decide) in_Markup k_326 rfl ?_
  refine pb_iload_n (pc := 4) d_Markup_next_4 1 rfl rfl ?_
  refine pb_iadd (pc := 5) d_Markup_next_5 ?_
  refine pb_topi (fun i1 ei1 => ?_)
  try have ti1 : i1.toInt = at_.toInt + k.toInt := t2_add ei1 rfl rfl (by omega)
  refine pb_aload_n (pc := 6) d_Markup_next_6 0 rfl rfl ?_
  refine pb_get (pc := 7) d_Markup_next_7 0 8 rfl rfl (by decide) in_Markup k_327 rfl ?_
  refine pb_icmp_ge (pc := 10) (tgt := 31) d_Markup_next_10 (by decide) (fun w2 => ?_) (fun w2 => ?_)
  · have tw2 : en.toInt ≤ i1.toInt := (ti_le rfl rfl).mp w2
    refine pb_iconst (pc := 31) (v := (-1)) d_Markup_next_31 (by decide) ?_
    exact pb_iret (pc := 32) hQ d_Markup_next_32 rfl rfl ((-1)) ⟨rfl, (by (try dsimp only); first | done | (with_reducible assumption) | omega (splitDisjunctions := false) | assumption | omega | decide), (by (try dsimp only); first | done | (with_reducible assumption) | omega (splitDisjunctions := false) | assumption | omega | decide), (by (try dsimp only); first | done | (with_reducible assumption) | omega (splitDisjunctions := false) | assumption | omega | decide), (show ((-1) : Int32).toInt = cm_ (mB_ uf bg.toInt) (en.toInt - bg.toInt) ((at_.toInt - bg.toInt) + k.toInt) from (by first | exact cm_ld (B := (mB_ uf bg.toInt)) eA xA (by omega) (by omega) | (rw [cm_out (by omega)]; decide)))⟩ [0, 1] (by decide) rfl rfl (by decide) (by decide)
  · have tw2 : ¬ en.toInt ≤ i1.toInt := fun z9 => w2 ((ti_le rfl rfl).mpr z9)
    refine pb_aload_n (pc := 13) d_Markup_next_13 0 rfl rfl ?_
    refine pb_get (pc := 14) d_Markup_next_14 0 3 rfl rfl (by decide) in_Markup k_320 rfl ?_
    refine pb_aload_n (pc := 17) d_Markup_next_17 0 rfl rfl ?_
    refine pb_get (pc := 18) d_Markup_next_18 0 7 rfl rfl (by decide) in_Markup k_326 rfl ?_
    refine pb_iload_n (pc := 21) d_Markup_next_21 1 rfl rfl ?_
    refine pb_iadd (pc := 22) d_Markup_next_22 ?_
    refine pb_topi (fun i3 ei3 => ?_)
    try have ti3 : i3.toInt = at_.toInt + k.toInt := t2_add ei3 rfl rfl (by omega)
    refine pb_bald (pc := 23) d_Markup_next_23 1 rfl (vp_in_iff.mpr (by omega)) ?_
    refine pb_topi (fun i4 ei4 => ?_)
    have xi4 : i4 = gr uf (bg.toInt + ((at_.toInt - bg.toInt) + k.toInt)) := gr_ld ei4 (by omega)
    have yi4 : i4.toInt = gx uf (bg.toInt + ((at_.toInt - bg.toInt) + k.toInt)) := congrArg Int32.toInt xi4
    have ti4 : -128 ≤ i4.toInt ∧ i4.toInt ≤ 127 := ti_fit (F_uf _) ei4
    have xA := xi4
    refine pb_sipush (pc := 24) (v := 255) d_Markup_next_24 (by decide) ?_
    refine pb_iand (pc := 27) d_Markup_next_27 ?_
    refine pb_topi (fun i5 ei5 => ?_)
    have ti5 : 0 ≤ i5.toInt ∧ i5.toInt ≤ 255 := ti_and 8 ei5 (by decide) (by decide)
    have eA := ei5
    refine pb_goto (pc := 28) (tgt := 32) d_Markup_next_28 (by decide) ?_
    exact pb_iret (pc := 32) hQ d_Markup_next_32 rfl rfl (i5) ⟨rfl, (by (try dsimp only); first | done | (with_reducible assumption) | omega (splitDisjunctions := false) | assumption | omega | decide), (by (try dsimp only); first | done | (with_reducible assumption) | omega (splitDisjunctions := false) | assumption | omega | decide), (by (try dsimp only); first | done | (with_reducible assumption) | omega (splitDisjunctions := false) | assumption | omega | decide), (show i5.toInt = cm_ (mB_ uf bg.toInt) (en.toInt - bg.toInt) ((at_.toInt - bg.toInt) + k.toInt) from (by first | exact cm_ld (B := (mB_ uf bg.toInt)) eA xA (by omega) (by omega) | (rw [cm_out (by omega)]; decide)))⟩ [0, 1] (by decide) rfl rfl (by decide) (by decide)

theorem d_Markup_fail_0 : decode prog_7_method_25_code 0 = .ok (.aload_n 0, 1) := by decide +kernel
theorem d_Markup_fail_1 : decode prog_7_method_25_code 1 = .ok (.iload_n 1, 1) := by decide +kernel
theorem d_Markup_fail_2 : decode prog_7_method_25_code 2 = .ok (.aload_n 0, 1) := by decide +kernel
theorem d_Markup_fail_3 : decode prog_7_method_25_code 3 = .ok (.getfield 45, 3) := by decide +kernel
theorem k_325 : (Jvm.Cond.fieldLink "PackageBook$Markup" (45 : Nat) "PackageBook$Markup" "begin" "I") ∈ uW := uW_of 325 (by decide +kernel) (by decide +kernel)
theorem d_Markup_fail_6 : decode prog_7_method_25_code 6 = .ok (.isub, 1) := by decide +kernel
theorem d_Markup_fail_7 : decode prog_7_method_25_code 7 = .ok (.putfield 26, 3) := by decide +kernel
theorem d_Markup_fail_10 : decode prog_7_method_25_code 10 = .ok (.iconst 0, 1) := by decide +kernel
theorem d_Markup_fail_11 : decode prog_7_method_25_code 11 = .ok (.ireturn, 1) := by decide +kernel
abbrev y_Markup_fail : MethodName := ⟨"PackageBook$Markup", "fail", "(I)Z"⟩
abbrev i_Markup_fail : pb_I := (y_Markup_fail, prog_7_method_25_code, 2, (some Jvm.ClassFile.FieldType.boolean), [], { frames := 0, cells := 0, slots := 0, locals := 0 })
set_option maxRecDepth 100000 in
set_option maxHeartbeats 4000000 in
theorem g_Mu_fail {l : Launch} (hl : l.stackTraces = false) (G : pb_G) (h : Nat) (ui : Nat) (ug : Nat) (uv : Nat) (ur : Nat) (ct : Int32) (fa : Int32) (bg : Int32) (at_ : Int32) (en : Int32) (vs : Int32) (io : Int32) (hi : Int32) (ht : Int32) (p : Int32) (b0 : 0 ≤ bg.toInt) (b1 : bg.toInt ≤ p.toInt) (b2 : p.toInt ≤ 13000) : Cn l G i_Markup_fail [.ref h, .int p] [(h, .inr (8, [.ref ui, .ref ug, .ref uv, .ref ur, .int ct, .int fa, .int bg, .int at_, .int en, .int vs, .int io, .int hi, .int ht]))] (S := Int32) (fun rv_ u => rv_ = some (.int 0) ∧ (0 ≤ u.toInt)) (fun u => [(h, .inr (8, [.ref ui, .ref ug, .ref uv, .ref ur, .int ct, .int u, .int bg, .int at_, .int en, .int vs, .int io, .int hi, .int ht]))]) := by
  refine Cn.of hl (by decide +kernel) rfl (Nat.le_of_ble_eq_true rfl) (fun M hQ => ?_)
  refine pb_eq (pc' := 0) (lo' := [(0, .ref h), (1, .int p)]) (rest' := []) (ws' := [(h, .inr (8, [.ref ui, .ref ug, .ref uv, .ref ur, .int ct, .int fa, .int bg, .int at_, .int en, .int vs, .int io, .int hi, .int ht]))]) ?_
  have zl0 : (0 : Int32).toInt = 0 := by decide
  have zl1 : (1 : Int32).toInt = 1 := by decide
  refine pb_aload_n (pc := 0) d_Markup_fail_0 0 rfl rfl ?_
  refine pb_iload_n (pc := 1) d_Markup_fail_1 1 rfl rfl ?_
  refine pb_aload_n (pc := 2) d_Markup_fail_2 0 rfl rfl ?_
  refine pb_get (pc := 3) d_Markup_fail_3 0 6 rfl rfl (by decide) in_Markup k_325 rfl ?_
  refine pb_isub (pc := 6) d_Markup_fail_6 ?_
  refine pb_topi (fun i1 ei1 => ?_)
  try have ti1 : i1.toInt = p.toInt - bg.toInt := t2_sub ei1 rfl rfl (by omega)
  refine pb_put (pc := 7) (ty := .int) (ws' := [(h, .inr (8, [.ref ui, .ref ug, .ref uv, .ref ur, .int ct, .int i1, .int bg, .int at_, .int en, .int vs, .int io, .int hi, .int ht]))]) d_Markup_fail_7 0 5 t_Markup t_Markup_ok n_Markup rfl rfl (by decide) in_Markup k_323 rfl (by decide +kernel) rfl rfl (Nat.le_of_ble_eq_true rfl) rfl ?_
  refine pb_iconst (pc := 10) (v := 0) d_Markup_fail_10 (by decide) ?_
  exact pb_iret (pc := 11) hQ d_Markup_fail_11 rfl rfl (i1) ⟨rfl, (by (try dsimp only); first | done | (with_reducible assumption) | omega (splitDisjunctions := false) | assumption | omega | decide)⟩ [0] (by decide) rfl rfl (by decide) (by decide)

theorem d_Markup_isSpace_0 : decode prog_7_method_23_code 0 = .ok (.iload_n 0, 1) := by decide +kernel
theorem d_Markup_isSpace_1 : decode prog_7_method_23_code 1 = .ok (.bipush 32, 2) := by decide +kernel
theorem d_Markup_isSpace_3 : decode prog_7_method_23_code 3 = .ok (.if_icmp .eq 21, 3) := by decide +kernel
theorem d_Markup_isSpace_24 : decode prog_7_method_23_code 24 = .ok (.iconst 1, 1) := by decide +kernel
theorem d_Markup_isSpace_25 : decode prog_7_method_23_code 25 = .ok (.goto 4, 3) := by decide +kernel
theorem d_Markup_isSpace_29 : decode prog_7_method_23_code 29 = .ok (.ireturn, 1) := by decide +kernel
theorem d_Markup_isSpace_6 : decode prog_7_method_23_code 6 = .ok (.iload_n 0, 1) := by decide +kernel
theorem d_Markup_isSpace_7 : decode prog_7_method_23_code 7 = .ok (.bipush 9, 2) := by decide +kernel
theorem d_Markup_isSpace_9 : decode prog_7_method_23_code 9 = .ok (.if_icmp .eq 15, 3) := by decide +kernel
theorem d_Markup_isSpace_12 : decode prog_7_method_23_code 12 = .ok (.iload_n 0, 1) := by decide +kernel
theorem d_Markup_isSpace_13 : decode prog_7_method_23_code 13 = .ok (.bipush 10, 2) := by decide +kernel
theorem d_Markup_isSpace_15 : decode prog_7_method_23_code 15 = .ok (.if_icmp .eq 9, 3) := by decide +kernel
theorem d_Markup_isSpace_18 : decode prog_7_method_23_code 18 = .ok (.iload_n 0, 1) := by decide +kernel
theorem d_Markup_isSpace_19 : decode prog_7_method_23_code 19 = .ok (.bipush 13, 2) := by decide +kernel
theorem d_Markup_isSpace_21 : decode prog_7_method_23_code 21 = .ok (.if_icmp .ne 7, 3) := by decide +kernel
theorem d_Markup_isSpace_28 : decode prog_7_method_23_code 28 = .ok (.iconst 0, 1) := by decide +kernel
abbrev y_Markup_isSpace : MethodName := ⟨"PackageBook$Markup", "isSpace", "(I)Z"⟩
abbrev i_Markup_isSpace : pb_I := (y_Markup_isSpace, prog_7_method_23_code, 1, (some Jvm.ClassFile.FieldType.boolean), [], { frames := 0, cells := 0, slots := 0, locals := 0 })
set_option maxRecDepth 100000 in
set_option maxHeartbeats 4000000 in
theorem g_Mu_isSpace {l : Launch} (hl : l.stackTraces = false) (G : pb_G) (b : Int32) : Cn l G i_Markup_isSpace [.int b] [] (S := Int32) (fun rv_ u => rv_ = some (.int u) ∧ (u.toInt = 0 ∨ u.toInt = 1) ∧ (hid_ (u.toInt = 1 ↔ sp_c b.toInt = true))) (fun u => []) := by
  refine Cn.of hl (by decide +kernel) rfl (Nat.le_of_ble_eq_true rfl) (fun M hQ => ?_)
  refine pb_eq (pc' := 0) (lo' := [(0, .int b)]) (rest' := []) (ws' := []) ?_
  have zl0 : (0 : Int32).toInt = 0 := by decide
  have zl1 : (1 : Int32).toInt = 1 := by decide
  refine pb_iload_n (pc := 0) d_Markup_isSpace_0 0 rfl rfl ?_
  refine pb_bipush (pc := 1) (v := 32) d_Markup_isSpace_1 (by decide) ?_
  refine pb_icmp_eq (pc := 3) (tgt := 24) d_Markup_isSpace_3 (by decide) (fun w1 => ?_) (fun w1 => ?_)
  · have tw1 : b.toInt = 32 := (ti_eq rfl (by decide)).mp w1
    refine pb_iconst (pc := 24) (v := 1) d_Markup_isSpace_24 (by decide) ?_
    refine pb_goto (pc := 25) (tgt := 29) d_Markup_isSpace_25 (by decide) ?_
    exact pb_iret (pc := 29) hQ d_Markup_isSpace_29 rfl rfl (1) ⟨rfl, (by (try dsimp only); first | done | (with_reducible assumption) | omega (splitDisjunctions := false) | assumption | omega | decide), (show hid_ ((1 : Int32).toInt = 1 ↔ sp_c b.toInt = true) from (hid_i (by rw [sp_i]; constructor <;> (intro q9; omega))))⟩ [] (by decide) rfl rfl (by decide) (by decide)
  · have tw1 : ¬ b.toInt = 32 := fun z9 => w1 ((ti_eq rfl (by decide)).mpr z9)
    refine pb_iload_n (pc := 6) d_Markup_isSpace_6 0 rfl rfl ?_
    refine pb_bipush (pc := 7) (v := 9) d_Markup_isSpace_7 (by decide) ?_
    refine pb_icmp_eq (pc := 9) (tgt := 24) d_Markup_isSpace_9 (by decide) (fun w2 => ?_) (fun w2 => ?_)
    · have tw2 : b.toInt = 9 := (ti_eq rfl (by decide)).mp w2
      refine pb_iconst (pc := 24) (v := 1) d_Markup_isSpace_24 (by decide) ?_
      refine pb_goto (pc := 25) (tgt := 29) d_Markup_isSpace_25 (by decide) ?_
      exact pb_iret (pc := 29) hQ d_Markup_isSpace_29 rfl rfl (1) ⟨rfl, (by (try dsimp only); first | done | (with_reducible assumption) | omega (splitDisjunctions := false) | assumption | omega | decide), (show hid_ ((1 : Int32).toInt = 1 ↔ sp_c b.toInt = true) from (hid_i (by rw [sp_i]; constructor <;> (intro q9; omega))))⟩ [] (by decide) rfl rfl (by decide) (by decide)
    · have tw2 : ¬ b.toInt = 9 := fun z9 => w2 ((ti_eq rfl (by decide)).mpr z9)
      refine pb_iload_n (pc := 12) d_Markup_isSpace_12 0 rfl rfl ?_
      refine pb_bipush (pc := 13) (v := 10) d_Markup_isSpace_13 (by decide) ?_
      refine pb_icmp_eq (pc := 15) (tgt := 24) d_Markup_isSpace_15 (by decide) (fun w3 => ?_) (fun w3 => ?_)
      · have tw3 : b.toInt = 10 := (ti_eq rfl (by decide)).mp w3
        refine pb_iconst (pc := 24) (v := 1) d_Markup_isSpace_24 (by decide) ?_
        refine pb_goto (pc := 25) (tgt := 29) d_Markup_isSpace_25 (by decide) ?_
        exact pb_iret (pc := 29) hQ d_Markup_isSpace_29 rfl rfl (1) ⟨rfl, (by (try dsimp only); first | done | (with_reducible assumption) | omega (splitDisjunctions := false) | assumption | omega | decide), (show hid_ ((1 : Int32).toInt = 1 ↔ sp_c b.toInt = true) from (hid_i (by rw [sp_i]; constructor <;> (intro q9; omega))))⟩ [] (by decide) rfl rfl (by decide) (by decide)
      · have tw3 : ¬ b.toInt = 10 := fun z9 => w3 ((ti_eq rfl (by decide)).mpr z9)
        refine pb_iload_n (pc := 18) d_Markup_isSpace_18 0 rfl rfl ?_
        refine pb_bipush (pc := 19) (v := 13) d_Markup_isSpace_19 (by decide) ?_
        refine pb_icmp_ne (pc := 21) (tgt := 28) d_Markup_isSpace_21 (by decide) (fun w4 => ?_) (fun w4 => ?_)
        · have tw4 : ¬ b.toInt = 13 := fun z9 => w4 ((ti_eq rfl (by decide)).mpr z9)
          refine pb_iconst (pc := 28) (v := 0) d_Markup_isSpace_28 (by decide) ?_
          exact pb_iret (pc := 29) hQ d_Markup_isSpace_29 rfl rfl (0) ⟨rfl, (by (try dsimp only); first | done | (with_reducible assumption) | omega (splitDisjunctions := false) | assumption | omega | decide), (show hid_ ((0 : Int32).toInt = 1 ↔ sp_c b.toInt = true) from (hid_i (by rw [sp_i]; constructor <;> (intro q9; omega))))⟩ [] (by decide) rfl rfl (by decide) (by decide)
        · have tw4 : b.toInt = 13 := (ti_eq rfl (by decide)).mp w4
          refine pb_iconst (pc := 24) (v := 1) d_Markup_isSpace_24 (by decide) ?_
          refine pb_goto (pc := 25) (tgt := 29) d_Markup_isSpace_25 (by decide) ?_
          exact pb_iret (pc := 29) hQ d_Markup_isSpace_29 rfl rfl (1) ⟨rfl, (by (try dsimp only); first | done | (with_reducible assumption) | omega (splitDisjunctions := false) | assumption | omega | decide), (show hid_ ((1 : Int32).toInt = 1 ↔ sp_c b.toInt = true) from (hid_i (by rw [sp_i]; constructor <;> (intro q9; omega))))⟩ [] (by decide) rfl rfl (by decide) (by decide)

theorem d_Markup_skipSpace_0 : decode prog_7_method_19_code 0 = .ok (.aload_n 0, 1) := by decide +kernel
theorem d_Markup_skipSpace_1 : decode prog_7_method_19_code 1 = .ok (.getfield 48, 3) := by decide +kernel
theorem d_Markup_skipSpace_4 : decode prog_7_method_19_code 4 = .ok (.istore_n 1, 1) := by decide +kernel
theorem d_Markup_skipSpace_5 : decode prog_7_method_19_code 5 = .ok (.aload_n 0, 1) := by decide +kernel
theorem d_Markup_skipSpace_6 : decode prog_7_method_19_code 6 = .ok (.getfield 48, 3) := by decide +kernel
theorem d_Markup_skipSpace_9 : decode prog_7_method_19_code 9 = .ok (.aload_n 0, 1) := by decide +kernel
theorem d_Markup_skipSpace_10 : decode prog_7_method_19_code 10 = .ok (.getfield 51, 3) := by decide +kernel
theorem d_Markup_skipSpace_13 : decode prog_7_method_19_code 13 = .ok (.if_icmp .ge 27, 3) := by decide +kernel
theorem d_Markup_skipSpace_40 : decode prog_7_method_19_code 40 = .ok (.aload_n 0, 1) := by decide +kernel
theorem d_Markup_skipSpace_41 : decode prog_7_method_19_code 41 = .ok (.getfield 48, 3) := by decide +kernel
theorem d_Markup_skipSpace_44 : decode prog_7_method_19_code 44 = .ok (.iload_n 1, 1) := by decide +kernel
theorem d_Markup_skipSpace_45 : decode prog_7_method_19_code 45 = .ok (.if_icmp .le 7, 3) := by decide +kernel
theorem d_Markup_skipSpace_52 : decode prog_7_method_19_code 52 = .ok (.iconst 0, 1) := by decide +kernel
theorem d_Markup_skipSpace_53 : decode prog_7_method_19_code 53 = .ok (.ireturn, 1) := by decide +kernel
theorem d_Markup_skipSpace_48 : decode prog_7_method_19_code 48 = .ok (.iconst 1, 1) := by decide +kernel
theorem d_Markup_skipSpace_49 : decode prog_7_method_19_code 49 = .ok (.goto 4, 3) := by decide +kernel
theorem d_Markup_skipSpace_16 : decode prog_7_method_19_code 16 = .ok (.aload_n 0, 1) := by decide +kernel
theorem d_Markup_skipSpace_17 : decode prog_7_method_19_code 17 = .ok (.iconst 0, 1) := by decide +kernel
theorem d_Markup_skipSpace_18 : decode prog_7_method_19_code 18 = .ok (.invokevirtual 80, 3) := by decide +kernel
theorem k_810 : (Jvm.Cond.methodLink "PackageBook$Markup" (80 : Nat) ({ cls := "PackageBook$Markup", name := "next", desc := "(I)I" } : Jvm.MethodName)) ∈ uW := uW_of 810 (by decide +kernel) (by decide +kernel)
theorem k_813 : (Jvm.Cond.code ({ cls := "PackageBook$Markup", name := "next", desc := "(I)I" } : Jvm.MethodName) prog_7_method_24_code (2 : Nat) (Option.some Jvm.ClassFile.FieldType.int)) ∈ uW := uW_of 813 (by decide +kernel) (by decide +kernel)
theorem k_812 : (Jvm.Cond.instanceMethod ({ cls := "PackageBook$Markup", name := "next", desc := "(I)I" } : Jvm.MethodName)) ∈ uW := uW_of 812 (by decide +kernel) (by decide +kernel)
theorem k_33 : Cond.selects "PackageBook$Markup" ⟨"PackageBook$Markup", "next", "(I)I"⟩ ⟨"PackageBook$Markup", "next", "(I)I"⟩ ∈ uW := uW_of 33 (by decide +kernel) (by decide +kernel)
theorem hy_Markup_next : (y_Markup_next).cls ≠ "java/lang/invoke/MethodHandle" ∧ (y_Markup_next).cls ≠ "java/lang/invoke/VarHandle" ∧ (parseMethodDescriptor (y_Markup_next).desc).map (fun d => d.parameters.length) = some 1 := by decide +kernel
theorem d_Markup_skipSpace_21 : decode prog_7_method_19_code 21 = .ok (.invokestatic 172, 3) := by decide +kernel
theorem k_814 : (Jvm.Cond.methodLink "PackageBook$Markup" (172 : Nat) ({ cls := "PackageBook$Markup", name := "isSpace", desc := "(I)Z" } : Jvm.MethodName)) ∈ uW := uW_of 814 (by decide +kernel) (by decide +kernel)
theorem k_816 : (Jvm.Cond.code ({ cls := "PackageBook$Markup", name := "isSpace", desc := "(I)Z" } : Jvm.MethodName) prog_7_method_23_code (1 : Nat) (Option.some Jvm.ClassFile.FieldType.boolean)) ∈ uW := uW_of 816 (by decide +kernel) (by decide +kernel)
theorem k_815 : (Jvm.Cond.static ({ cls := "PackageBook$Markup", name := "isSpace", desc := "(I)Z" } : Jvm.MethodName)) ∈ uW := uW_of 815 (by decide +kernel) (by decide +kernel)
theorem hy_Markup_isSpace : (y_Markup_isSpace).cls ≠ "java/lang/invoke/MethodHandle" ∧ (y_Markup_isSpace).cls ≠ "java/lang/invoke/VarHandle" ∧ (parseMethodDescriptor (y_Markup_isSpace).desc).map (fun d => d.parameters.length) = some 1 := by decide +kernel
theorem d_Markup_skipSpace_24 : decode prog_7_method_19_code 24 = .ok (.ifCond .eq 16, 3) := by decide +kernel
theorem d_Markup_skipSpace_27 : decode prog_7_method_19_code 27 = .ok (.aload_n 0, 1) := by decide +kernel
theorem d_Markup_skipSpace_28 : decode prog_7_method_19_code 28 = .ok (.dup, 1) := by decide +kernel
theorem d_Markup_skipSpace_29 : decode prog_7_method_19_code 29 = .ok (.getfield 48, 3) := by decide +kernel
theorem d_Markup_skipSpace_32 : decode prog_7_method_19_code 32 = .ok (.iconst 1, 1) := by decide +kernel
theorem d_Markup_skipSpace_33 : decode prog_7_method_19_code 33 = .ok (.iadd, 1) := by decide +kernel
theorem d_Markup_skipSpace_34 : decode prog_7_method_19_code 34 = .ok (.putfield 48, 3) := by decide +kernel
theorem d_Markup_skipSpace_37 : decode prog_7_method_19_code 37 = .ok (.goto (-32), 3) := by decide +kernel
abbrev y_Markup_skipSpace : MethodName := ⟨"PackageBook$Markup", "skipSpace", "()Z"⟩
abbrev i_Markup_skipSpace : pb_I := (y_Markup_skipSpace, prog_7_method_19_code, 2, (some Jvm.ClassFile.FieldType.boolean), [], { frames := 1, cells := 0, slots := 0, locals := 21 })
set_option maxRecDepth 100000 in
set_option maxHeartbeats 4000000 in
theorem g_Mu_skipSpace {l : Launch} (hl : l.stackTraces = false) (G : pb_G) (h : Nat) (ui : Nat) (ug : Nat) (uv : Nat) (ur : Nat) (ct : Int32) (fa : Int32) (bg : Int32) (at_ : Int32) (en : Int32) (vs : Int32) (io : Int32) (hi : Int32) (ht : Int32) (uf : Nat → Int32) (a0 : 0 ≤ at_.toInt) (a1 : at_.toInt ≤ en.toInt) (a2 : en.toInt ≤ 12000) (a3 : 0 ≤ bg.toInt) (a4 : bg.toInt ≤ at_.toInt) (F_uf : sb_Fit uf) : Cn l G i_Markup_skipSpace [.ref h] [(h, .inr (8, [.ref ui, .ref ug, .ref uv, .ref ur, .int ct, .int fa, .int bg, .int at_, .int en, .int vs, .int io, .int hi, .int ht])), (ur, .inl (G.2.1, 12000, .inl uf))] (S := Int32 × Int32) (fun rv_ u => rv_ = some (.int u.1) ∧ (u.1.toInt = 0 ∨ u.1.toInt = 1) ∧ (at_.toInt ≤ u.2.toInt) ∧ (u.2.toInt ≤ en.toInt) ∧ (u.2.toInt - bg.toInt = sF (mB_ uf bg.toInt) (en.toInt - bg.toInt) (at_.toInt - bg.toInt)) ∧ (hid_ (u.1.toInt = 1 ∧ at_.toInt < u.2.toInt ∨ u.1.toInt = 0 ∧ u.2.toInt = at_.toInt))) (fun u => [(h, .inr (8, [.ref ui, .ref ug, .ref uv, .ref ur, .int ct, .int fa, .int bg, .int u.2, .int en, .int vs, .int io, .int hi, .int ht])), (ur, .inl (G.2.1, 12000, .inl uf))]) := by
  refine Cn.of hl (by decide +kernel) rfl (Nat.le_of_ble_eq_true rfl) (fun M hQ => ?_)
  refine pb_eq (pc' := 0) (lo' := [(0, .ref h)]) (rest' := []) (ws' := [(h, .inr (8, [.ref ui, .ref ug, .ref uv, .ref ur, .int ct, .int fa, .int bg, .int at_, .int en, .int vs, .int io, .int hi, .int ht])), (ur, .inl (G.2.1, 12000, .inl uf))]) ?_
  have zl0 : (0 : Int32).toInt = 0 := by decide
  have zl1 : (1 : Int32).toInt = 1 := by decide
  refine pb_aload_n (pc := 0) d_Markup_skipSpace_0 0 rfl rfl ?_
  refine pb_get (pc := 1) d_Markup_skipSpace_1 0 7 rfl rfl (by decide) in_Markup k_326 rfl ?_
  refine pb_istore_n (pc := 4) (lo' := [(1, .int at_), (0, .ref h)]) d_Markup_skipSpace_4 rfl (by decide) rfl ?_
  have hL5_1 : ∀ (N9 : Nat) (a : Int32), (at_.toInt ≤ a.toInt) → (a.toInt ≤ en.toInt) → (sF (mB_ uf bg.toInt) (en.toInt - bg.toInt) (a.toInt - bg.toInt) = sF (mB_ uf bg.toInt) (en.toInt - bg.toInt) (at_.toInt - bg.toInt)) → ((en.toInt - a.toInt).toNat) < N9 → pb_P l G M i_Markup_skipSpace 5 [(1, .int at_), (0, .ref h)] [] [(h, .inr (8, [.ref ui, .ref ug, .ref uv, .ref ur, .int ct, .int fa, .int bg, .int a, .int en, .int vs, .int io, .int hi, .int ht])), (ur, .inl (G.2.1, 12000, .inl uf))] 0 0 := by
    intro N9
    induction N9 with
    | zero => intro a k0 k1 kS_ hm9; exact absurd hm9 (Nat.not_lt_zero _)
    | succ N9 ih5 =>
      intro a k0 k1 kS_ hm9
      refine pb_aload_n (pc := 5) d_Markup_skipSpace_5 1 rfl rfl ?_
      refine pb_get (pc := 6) d_Markup_skipSpace_6 0 7 rfl rfl (by decide) in_Markup k_326 rfl ?_
      refine pb_aload_n (pc := 9) d_Markup_skipSpace_9 1 rfl rfl ?_
      refine pb_get (pc := 10) d_Markup_skipSpace_10 0 8 rfl rfl (by decide) in_Markup k_327 rfl ?_
      refine pb_icmp_ge (pc := 13) (tgt := 40) d_Markup_skipSpace_13 (by decide) (fun w2 => ?_) (fun w2 => ?_)
      · have tw2 : en.toInt ≤ a.toInt := (ti_le rfl rfl).mp w2
        refine pb_aload_n (pc := 40) d_Markup_skipSpace_40 1 rfl rfl ?_
        refine pb_get (pc := 41) d_Markup_skipSpace_41 0 7 rfl rfl (by decide) in_Markup k_326 rfl ?_
        refine pb_iload_n (pc := 44) d_Markup_skipSpace_44 0 rfl rfl ?_
        refine pb_icmp_le (pc := 45) (tgt := 52) d_Markup_skipSpace_45 (by decide) (fun w3 => ?_) (fun w3 => ?_)
        · have tw3 : a.toInt ≤ at_.toInt := (ti_le rfl rfl).mp w3
          refine pb_iconst (pc := 52) (v := 0) d_Markup_skipSpace_52 (by decide) ?_
          exact pb_iret (pc := 53) hQ d_Markup_skipSpace_53 rfl rfl (0, a) ⟨rfl, (by (try dsimp only); first | done | (with_reducible assumption) | omega (splitDisjunctions := false) | assumption | omega | decide), (by (try dsimp only); first | done | (with_reducible assumption) | omega (splitDisjunctions := false) | assumption | omega | decide), (by (try dsimp only); first | done | (with_reducible assumption) | omega (splitDisjunctions := false) | assumption | omega | decide), (show a.toInt - bg.toInt = sF (mB_ uf bg.toInt) (en.toInt - bg.toInt) (at_.toInt - bg.toInt) from (by rw [← kS_]; first | exact (sF_n (fun q9 => absurd (sF9.mpr q9) (by omega))).symm | exact (sF_o (by omega)).symm)), (show hid_ ((0 : Int32).toInt = 1 ∧ at_.toInt < a.toInt ∨ (0 : Int32).toInt = 0 ∧ a.toInt = at_.toInt) from (hid_i (by omega)))⟩ [0, 1] (by decide) rfl rfl (by decide) (by decide)
        · have tw3 : ¬ a.toInt ≤ at_.toInt := fun z9 => w3 ((ti_le rfl rfl).mpr z9)
          refine pb_iconst (pc := 48) (v := 1) d_Markup_skipSpace_48 (by decide) ?_
          refine pb_goto (pc := 49) (tgt := 53) d_Markup_skipSpace_49 (by decide) ?_
          exact pb_iret (pc := 53) hQ d_Markup_skipSpace_53 rfl rfl (1, a) ⟨rfl, (by (try dsimp only); first | done | (with_reducible assumption) | omega (splitDisjunctions := false) | assumption | omega | decide), (by (try dsimp only); first | done | (with_reducible assumption) | omega (splitDisjunctions := false) | assumption | omega | decide), (by (try dsimp only); first | done | (with_reducible assumption) | omega (splitDisjunctions := false) | assumption | omega | decide), (show a.toInt - bg.toInt = sF (mB_ uf bg.toInt) (en.toInt - bg.toInt) (at_.toInt - bg.toInt) from (by rw [← kS_]; first | exact (sF_n (fun q9 => absurd (sF9.mpr q9) (by omega))).symm | exact (sF_o (by omega)).symm)), (show hid_ ((1 : Int32).toInt = 1 ∧ at_.toInt < a.toInt ∨ (1 : Int32).toInt = 0 ∧ a.toInt = at_.toInt) from (hid_i (by omega)))⟩ [0, 1] (by decide) rfl rfl (by decide) (by decide)
      · have tw2 : ¬ en.toInt ≤ a.toInt := fun z9 => w2 ((ti_le rfl rfl).mpr z9)
        refine pb_aload_n (pc := 16) d_Markup_skipSpace_16 1 rfl rfl ?_
        refine pb_iconst (pc := 17) (v := 0) d_Markup_skipSpace_17 (by decide) ?_
        refine pb_callV (pc := 18) (I := i_Markup_skipSpace) (qb := 0) (ci := 8) (nA := 1) (rest := []) (wr := []) d_Markup_skipSpace_18 (g_Mu_next hl G h ui ug uv ur ct fa bg a en vs io hi ht uf 0 (by first | (with_reducible assumption) | omega (splitDisjunctions := false) | assumption | omega | decide) (by first | (with_reducible assumption) | omega (splitDisjunctions := false) | assumption | omega | decide) (by first | (with_reducible assumption) | omega (splitDisjunctions := false) | assumption | omega | decide) (by first | (with_reducible assumption) | omega (splitDisjunctions := false) | assumption | omega | decide) (by first | (with_reducible assumption) | omega (splitDisjunctions := false) | assumption | omega | decide) (by first | (with_reducible assumption) | omega (splitDisjunctions := false) | assumption | omega | decide) (by first | (with_reducible assumption) | omega (splitDisjunctions := false) | assumption | omega | decide) F_uf) rfl rfl [0, 1] [] (by decide) rfl rfl rfl (by decide) (by decide) k_813 rfl k_125 k_810 k_812 k_33 ⟨rfl, hy_Markup_next⟩ (by decide) rfl rfl (Nat.le_of_ble_eq_true rfl) (by decide) (fun v9 u5 ch4 => ?_)
        obtain ⟨r_6, rfl⟩ : ∃ z9, z9 = u5 := ⟨_, rfl⟩
        obtain ⟨ech4, ch4⟩ := ch4
        have ech4 : v9 = some (.int r_6) := ech4
        subst ech4
        obtain ⟨fh7, fh8, fh9, fh10⟩ : (-1 ≤ r_6.toInt) ∧ (r_6.toInt ≤ 255) ∧ (0 ≤ r_6.toInt → a.toInt + (0 : Int32).toInt < en.toInt) ∧ (r_6.toInt = cm_ (mB_ uf bg.toInt) (en.toInt - bg.toInt) ((a.toInt - bg.toInt) + (0 : Int32).toInt)) := ch4
        have hF := fh10
        rw [zl0, Int.add_zero] at hF
        refine pb_eq (pc' := 21) (lo' := [(1, .int at_), (0, .ref h)]) (rest' := [.int r_6]) (ws' := [(h, .inr (8, [.ref ui, .ref ug, .ref uv, .ref ur, .int ct, .int fa, .int bg, .int a, .int en, .int vs, .int io, .int hi, .int ht])), (ur, .inl (G.2.1, 12000, .inl uf))]) ?_
        refine pb_callS (pc := 21) (I := i_Markup_skipSpace) (nA := 1) (rest := []) (wr := [(h, .inr (8, [.ref ui, .ref ug, .ref uv, .ref ur, .int ct, .int fa, .int bg, .int a, .int en, .int vs, .int io, .int hi, .int ht])), (ur, .inl (G.2.1, 12000, .inl uf))]) d_Markup_skipSpace_21 (g_Mu_isSpace hl G r_6) [] [0, 1] (by decide) rfl rfl rfl (by decide) (by decide) k_816 rfl k_125 k_814 k_815 hy_Markup_isSpace (by decide) rfl rfl (Nat.le_of_ble_eq_true rfl) (by decide) (fun v9 u12 ch11 => ?_)
        obtain ⟨r_13, rfl⟩ : ∃ z9, z9 = u12 := ⟨_, rfl⟩
        obtain ⟨ech11, ch11⟩ := ch11
        have ech11 : v9 = some (.int r_13) := ech11
        subst ech11
        obtain ⟨fh14, fh15⟩ : (r_13.toInt = 0 ∨ r_13.toInt = 1) ∧ (hid_ (r_13.toInt = 1 ↔ sp_c r_6.toInt = true)) := ch11
        have sF9 := hid_o fh15
        rw [hF] at sF9
        refine pb_eq (pc' := 24) (lo' := [(1, .int at_), (0, .ref h)]) (rest' := [.int r_13]) (ws' := [(h, .inr (8, [.ref ui, .ref ug, .ref uv, .ref ur, .int ct, .int fa, .int bg, .int a, .int en, .int vs, .int io, .int hi, .int ht])), (ur, .inl (G.2.1, 12000, .inl uf))]) ?_
        refine pb_if_eq (pc := 24) (tgt := 40) d_Markup_skipSpace_24 (by decide) (fun w16 => ?_) (fun w16 => ?_)
        · have tw16 : r_13.toInt = 0 := (ti_eq rfl (by decide)).mp w16
          refine pb_aload_n (pc := 40) d_Markup_skipSpace_40 1 rfl rfl ?_
          refine pb_get (pc := 41) d_Markup_skipSpace_41 0 7 rfl rfl (by decide) in_Markup k_326 rfl ?_
          refine pb_iload_n (pc := 44) d_Markup_skipSpace_44 0 rfl rfl ?_
          refine pb_icmp_le (pc := 45) (tgt := 52) d_Markup_skipSpace_45 (by decide) (fun w17 => ?_) (fun w17 => ?_)
          · have tw17 : a.toInt ≤ at_.toInt := (ti_le rfl rfl).mp w17
            refine pb_iconst (pc := 52) (v := 0) d_Markup_skipSpace_52 (by decide) ?_
            exact pb_iret (pc := 53) hQ d_Markup_skipSpace_53 rfl rfl (0, a) ⟨rfl, (by (try dsimp only); first | done | (with_reducible assumption) | omega (splitDisjunctions := false) | assumption | (clear fh9 hm9; first | omega (splitDisjunctions := false) | omega) | omega | decide), (by (try dsimp only); first | done | (with_reducible assumption) | omega (splitDisjunctions := false) | assumption | (clear fh9 hm9; first | omega (splitDisjunctions := false) | omega) | omega | decide), (by (try dsimp only); first | done | (with_reducible assumption) | omega (splitDisjunctions := false) | assumption | (clear fh9 hm9; first | omega (splitDisjunctions := false) | omega) | omega | decide), (show a.toInt - bg.toInt = sF (mB_ uf bg.toInt) (en.toInt - bg.toInt) (at_.toInt - bg.toInt) from (by rw [← kS_]; first | exact (sF_n (fun q9 => absurd (sF9.mpr q9) (by omega))).symm | exact (sF_o (by omega)).symm)), (show hid_ ((0 : Int32).toInt = 1 ∧ at_.toInt < a.toInt ∨ (0 : Int32).toInt = 0 ∧ a.toInt = at_.toInt) from (hid_i (by omega)))⟩ [0, 1] (by decide) rfl rfl (by decide) (by decide)
          · have tw17 : ¬ a.toInt ≤ at_.toInt := fun z9 => w17 ((ti_le rfl rfl).mpr z9)
            refine pb_iconst (pc := 48) (v := 1) d_Markup_skipSpace_48 (by decide) ?_
            refine pb_goto (pc := 49) (tgt := 53) d_Markup_skipSpace_49 (by decide) ?_
            exact pb_iret (pc := 53) hQ d_Markup_skipSpace_53 rfl rfl (1, a) ⟨rfl, (by (try dsimp only); first | done | (with_reducible assumption) | omega (splitDisjunctions := false) | assumption | (clear fh9 hm9; first | omega (splitDisjunctions := false) | omega) | omega | decide), (by (try dsimp only); first | done | (with_reducible assumption) | omega (splitDisjunctions := false) | assumption | (clear fh9 hm9; first | omega (splitDisjunctions := false) | omega) | omega | decide), (by (try dsimp only); first | done | (with_reducible assumption) | omega (splitDisjunctions := false) | assumption | (clear fh9 hm9; first | omega (splitDisjunctions := false) | omega) | omega | decide), (show a.toInt - bg.toInt = sF (mB_ uf bg.toInt) (en.toInt - bg.toInt) (at_.toInt - bg.toInt) from (by rw [← kS_]; first | exact (sF_n (fun q9 => absurd (sF9.mpr q9) (by omega))).symm | exact (sF_o (by omega)).symm)), (show hid_ ((1 : Int32).toInt = 1 ∧ at_.toInt < a.toInt ∨ (1 : Int32).toInt = 0 ∧ a.toInt = at_.toInt) from (hid_i (by omega)))⟩ [0, 1] (by decide) rfl rfl (by decide) (by decide)
        · have tw16 : ¬ r_13.toInt = 0 := fun z9 => w16 ((ti_eq rfl (by decide)).mpr z9)
          refine pb_aload_n (pc := 27) d_Markup_skipSpace_27 1 rfl rfl ?_
          refine pb_dup (pc := 28) d_Markup_skipSpace_28 rfl ?_
          refine pb_get (pc := 29) d_Markup_skipSpace_29 0 7 rfl rfl (by decide) in_Markup k_326 rfl ?_
          refine pb_iconst (pc := 32) (v := 1) d_Markup_skipSpace_32 (by decide) ?_
          refine pb_iadd (pc := 33) d_Markup_skipSpace_33 ?_
          refine pb_topi (fun i18 ei18 => ?_)
          try have ti18 : i18.toInt = a.toInt + 1 := t2_add ei18 rfl (by decide) (by omega)
          refine pb_put (pc := 34) (ty := .int) (ws' := [(h, .inr (8, [.ref ui, .ref ug, .ref uv, .ref ur, .int ct, .int fa, .int bg, .int i18, .int en, .int vs, .int io, .int hi, .int ht])), (ur, .inl (G.2.1, 12000, .inl uf))]) d_Markup_skipSpace_34 0 7 t_Markup t_Markup_ok n_Markup rfl rfl (by decide) in_Markup k_326 rfl (by decide +kernel) rfl rfl (Nat.le_of_ble_eq_true rfl) rfl ?_
          refine pb_goto (pc := 37) (tgt := 5) d_Markup_skipSpace_37 (by decide) ?_
          exact ih5 i18 (by first | (with_reducible assumption) | omega (splitDisjunctions := false) | assumption | (clear fh9 hm9; first | omega (splitDisjunctions := false) | omega) | omega | decide) (by first | (with_reducible assumption) | omega (splitDisjunctions := false) | assumption | (clear fh9 hm9; first | omega (splitDisjunctions := false) | omega) | omega | decide) (by rw [← kS_]; exact sF_y (sF9.mp (by omega)) (by omega)) (by first | (clear fh9; (exact omg_7c8a06b1f5 hm9 tw2 ti18)) | omega)
  exact hL5_1 _ at_ (by first | (with_reducible assumption) | omega (splitDisjunctions := false) | assumption | omega | decide) (by first | (with_reducible assumption) | omega (splitDisjunctions := false) | assumption | omega | decide) rfl (Nat.lt_succ_self _)

theorem d_Markup_skipLetters_0 : decode prog_7_method_20_code 0 = .ok (.aload_n 0, 1) := by decide +kernel
theorem d_Markup_skipLetters_1 : decode prog_7_method_20_code 1 = .ok (.getfield 48, 3) := by decide +kernel
theorem d_Markup_skipLetters_4 : decode prog_7_method_20_code 4 = .ok (.aload_n 0, 1) := by decide +kernel
theorem d_Markup_skipLetters_5 : decode prog_7_method_20_code 5 = .ok (.getfield 51, 3) := by decide +kernel
theorem d_Markup_skipLetters_8 : decode prog_7_method_20_code 8 = .ok (.if_icmp .ge 44, 3) := by decide +kernel
theorem d_Markup_skipLetters_52 : decode prog_7_method_20_code 52 = .ok (.return_, 1) := by decide +kernel
theorem d_Markup_skipLetters_11 : decode prog_7_method_20_code 11 = .ok (.aload_n 0, 1) := by decide +kernel
theorem d_Markup_skipLetters_12 : decode prog_7_method_20_code 12 = .ok (.getfield 23, 3) := by decide +kernel
theorem d_Markup_skipLetters_15 : decode prog_7_method_20_code 15 = .ok (.aload_n 0, 1) := by decide +kernel
theorem d_Markup_skipLetters_16 : decode prog_7_method_20_code 16 = .ok (.getfield 48, 3) := by decide +kernel
theorem d_Markup_skipLetters_19 : decode prog_7_method_20_code 19 = .ok (.baload, 1) := by decide +kernel
theorem d_Markup_skipLetters_20 : decode prog_7_method_20_code 20 = .ok (.bipush 97, 2) := by decide +kernel
theorem d_Markup_skipLetters_22 : decode prog_7_method_20_code 22 = .ok (.if_icmp .lt 30, 3) := by decide +kernel
theorem d_Markup_skipLetters_25 : decode prog_7_method_20_code 25 = .ok (.aload_n 0, 1) := by decide +kernel
theorem d_Markup_skipLetters_26 : decode prog_7_method_20_code 26 = .ok (.getfield 23, 3) := by decide +kernel
theorem d_Markup_skipLetters_29 : decode prog_7_method_20_code 29 = .ok (.aload_n 0, 1) := by decide +kernel
theorem d_Markup_skipLetters_30 : decode prog_7_method_20_code 30 = .ok (.getfield 48, 3) := by decide +kernel
theorem d_Markup_skipLetters_33 : decode prog_7_method_20_code 33 = .ok (.baload, 1) := by decide +kernel
theorem d_Markup_skipLetters_34 : decode prog_7_method_20_code 34 = .ok (.bipush 122, 2) := by decide +kernel
theorem d_Markup_skipLetters_36 : decode prog_7_method_20_code 36 = .ok (.if_icmp .gt 16, 3) := by decide +kernel
theorem d_Markup_skipLetters_39 : decode prog_7_method_20_code 39 = .ok (.aload_n 0, 1) := by decide +kernel
theorem d_Markup_skipLetters_40 : decode prog_7_method_20_code 40 = .ok (.dup, 1) := by decide +kernel
theorem d_Markup_skipLetters_41 : decode prog_7_method_20_code 41 = .ok (.getfield 48, 3) := by decide +kernel
theorem d_Markup_skipLetters_44 : decode prog_7_method_20_code 44 = .ok (.iconst 1, 1) := by decide +kernel
theorem d_Markup_skipLetters_45 : decode prog_7_method_20_code 45 = .ok (.iadd, 1) := by decide +kernel
theorem d_Markup_skipLetters_46 : decode prog_7_method_20_code 46 = .ok (.putfield 48, 3) := by decide +kernel
theorem d_Markup_skipLetters_49 : decode prog_7_method_20_code 49 = .ok (.goto (-49), 3) := by decide +kernel
abbrev y_Markup_skipLetters : MethodName := ⟨"PackageBook$Markup", "skipLetters", "()V"⟩
abbrev i_Markup_skipLetters : pb_I := (y_Markup_skipLetters, prog_7_method_20_code, 1, (Option.none : Option Jvm.ClassFile.FieldType), [], { frames := 0, cells := 0, slots := 0, locals := 0 })
set_option maxRecDepth 100000 in
set_option maxHeartbeats 4000000 in
theorem g_Mu_skipLetters {l : Launch} (hl : l.stackTraces = false) (G : pb_G) (h : Nat) (ui : Nat) (ug : Nat) (uv : Nat) (ur : Nat) (ct : Int32) (fa : Int32) (bg : Int32) (at_ : Int32) (en : Int32) (vs : Int32) (io : Int32) (hi : Int32) (ht : Int32) (uf : Nat → Int32) (a0 : 0 ≤ at_.toInt) (a1 : at_.toInt ≤ en.toInt) (a2 : en.toInt ≤ 12000) (a3 : 0 ≤ bg.toInt) (a4 : bg.toInt ≤ at_.toInt) (F_uf : sb_Fit uf) : Cn l G i_Markup_skipLetters [.ref h] [(h, .inr (8, [.ref ui, .ref ug, .ref uv, .ref ur, .int ct, .int fa, .int bg, .int at_, .int en, .int vs, .int io, .int hi, .int ht])), (ur, .inl (G.2.1, 12000, .inl uf))] (S := Int32) (fun rv_ u => rv_ = none ∧ (at_.toInt ≤ u.toInt) ∧ (u.toInt ≤ en.toInt) ∧ (u.toInt - bg.toInt = lF (mB_ uf bg.toInt) (en.toInt - bg.toInt) (at_.toInt - bg.toInt))) (fun u => [(h, .inr (8, [.ref ui, .ref ug, .ref uv, .ref ur, .int ct, .int fa, .int bg, .int u, .int en, .int vs, .int io, .int hi, .int ht])), (ur, .inl (G.2.1, 12000, .inl uf))]) := by
  refine Cn.of hl (by decide +kernel) rfl (Nat.le_of_ble_eq_true rfl) (fun M hQ => ?_)
  refine pb_eq (pc' := 0) (lo' := [(0, .ref h)]) (rest' := []) (ws' := [(h, .inr (8, [.ref ui, .ref ug, .ref uv, .ref ur, .int ct, .int fa, .int bg, .int at_, .int en, .int vs, .int io, .int hi, .int ht])), (ur, .inl (G.2.1, 12000, .inl uf))]) ?_
  have zl0 : (0 : Int32).toInt = 0 := by decide
  have zl1 : (1 : Int32).toInt = 1 := by decide
  have hL0_1 : ∀ (N9 : Nat) (a : Int32), (at_.toInt ≤ a.toInt) → (a.toInt ≤ en.toInt) → (lF (mB_ uf bg.toInt) (en.toInt - bg.toInt) (a.toInt - bg.toInt) = lF (mB_ uf bg.toInt) (en.toInt - bg.toInt) (at_.toInt - bg.toInt)) → ((en.toInt - a.toInt).toNat) < N9 → pb_P l G M i_Markup_skipLetters 0 [(0, .ref h)] [] [(h, .inr (8, [.ref ui, .ref ug, .ref uv, .ref ur, .int ct, .int fa, .int bg, .int a, .int en, .int vs, .int io, .int hi, .int ht])), (ur, .inl (G.2.1, 12000, .inl uf))] 0 0 := by
    intro N9
    induction N9 with
    | zero => intro a k0 k1 kl hm9; exact absurd hm9 (Nat.not_lt_zero _)
    | succ N9 ih0 =>
      intro a k0 k1 kl hm9
      refine pb_aload_n (pc := 0) d_Markup_skipLetters_0 0 rfl rfl ?_
      refine pb_get (pc := 1) d_Markup_skipLetters_1 0 7 rfl rfl (by decide) in_Markup k_326 rfl ?_
      refine pb_aload_n (pc := 4) d_Markup_skipLetters_4 0 rfl rfl ?_
      refine pb_get (pc := 5) d_Markup_skipLetters_5 0 8 rfl rfl (by decide) in_Markup k_327 rfl ?_
      refine pb_icmp_ge (pc := 8) (tgt := 52) d_Markup_skipLetters_8 (by decide) (fun w2 => ?_) (fun w2 => ?_)
      · have tw2 : en.toInt ≤ a.toInt := (ti_le rfl rfl).mp w2
        exact pb_vret (pc := 52) hQ d_Markup_skipLetters_52 rfl (a) ⟨rfl, (by (try dsimp only); first | done | (with_reducible assumption) | omega (splitDisjunctions := false) | assumption | omega | decide), (by (try dsimp only); first | done | (with_reducible assumption) | omega (splitDisjunctions := false) | assumption | omega | decide), (show a.toInt - bg.toInt = lF (mB_ uf bg.toInt) (en.toInt - bg.toInt) (at_.toInt - bg.toInt) from (by rw [← kl]; first | exact (lF_n (by omega)).symm | exact (lF_o (by omega)).symm))⟩ [0, 1] (by decide) rfl rfl (by decide) (by decide)
      · have tw2 : ¬ en.toInt ≤ a.toInt := fun z9 => w2 ((ti_le rfl rfl).mpr z9)
        refine pb_aload_n (pc := 11) d_Markup_skipLetters_11 0 rfl rfl ?_
        refine pb_get (pc := 12) d_Markup_skipLetters_12 0 3 rfl rfl (by decide) in_Markup k_320 rfl ?_
        refine pb_aload_n (pc := 15) d_Markup_skipLetters_15 0 rfl rfl ?_
        refine pb_get (pc := 16) d_Markup_skipLetters_16 0 7 rfl rfl (by decide) in_Markup k_326 rfl ?_
        refine pb_bald (pc := 19) d_Markup_skipLetters_19 1 rfl (vp_in_iff.mpr (by omega)) ?_
        refine pb_topi (fun i3 ei3 => ?_)
        have xi3 : i3 = gr uf (bg.toInt + (a.toInt - bg.toInt)) := gr_ld ei3 (by omega)
        have yi3 : i3.toInt = gx uf (bg.toInt + (a.toInt - bg.toInt)) := congrArg Int32.toInt xi3
        have ti3 : -128 ≤ i3.toInt ∧ i3.toInt ≤ 127 := ti_fit (F_uf _) ei3
        have sg1 := cm_sg (B := (mB_ uf bg.toInt)) (n := (en.toInt - bg.toInt)) (j := a.toInt - bg.toInt) xi3 ti3 (by omega) (by omega)
        refine pb_bipush (pc := 20) (v := 97) d_Markup_skipLetters_20 (by decide) ?_
        refine pb_icmp_lt (pc := 22) (tgt := 52) d_Markup_skipLetters_22 (by decide) (fun w4 => ?_) (fun w4 => ?_)
        · have tw4 : i3.toInt < 97 := (ti_lt rfl (by decide)).mp w4
          exact pb_vret (pc := 52) hQ d_Markup_skipLetters_52 rfl (a) ⟨rfl, (by (try dsimp only); first | done | (with_reducible assumption) | omega (splitDisjunctions := false) | assumption | omega | decide), (by (try dsimp only); first | done | (with_reducible assumption) | omega (splitDisjunctions := false) | assumption | omega | decide), (show a.toInt - bg.toInt = lF (mB_ uf bg.toInt) (en.toInt - bg.toInt) (at_.toInt - bg.toInt) from (by rw [← kl]; first | exact (lF_n (by omega)).symm | exact (lF_o (by omega)).symm))⟩ [0, 1] (by decide) rfl rfl (by decide) (by decide)
        · have tw4 : ¬ i3.toInt < 97 := fun z9 => w4 ((ti_lt rfl (by decide)).mpr z9)
          refine pb_aload_n (pc := 25) d_Markup_skipLetters_25 0 rfl rfl ?_
          refine pb_get (pc := 26) d_Markup_skipLetters_26 0 3 rfl rfl (by decide) in_Markup k_320 rfl ?_
          refine pb_aload_n (pc := 29) d_Markup_skipLetters_29 0 rfl rfl ?_
          refine pb_get (pc := 30) d_Markup_skipLetters_30 0 7 rfl rfl (by decide) in_Markup k_326 rfl ?_
          refine pb_bald (pc := 33) d_Markup_skipLetters_33 1 rfl (vp_in_iff.mpr (by omega)) ?_
          refine pb_topi (fun i5 ei5 => ?_)
          have xi5 : i5 = gr uf (bg.toInt + (a.toInt - bg.toInt)) := gr_ld ei5 (by omega)
          have yi5 : i5.toInt = gx uf (bg.toInt + (a.toInt - bg.toInt)) := congrArg Int32.toInt xi5
          have ti5 : -128 ≤ i5.toInt ∧ i5.toInt ≤ 127 := ti_fit (F_uf _) ei5
          have sg2 := cm_sg (B := (mB_ uf bg.toInt)) (n := (en.toInt - bg.toInt)) (j := a.toInt - bg.toInt) xi5 ti5 (by omega) (by omega)
          refine pb_bipush (pc := 34) (v := 122) d_Markup_skipLetters_34 (by decide) ?_
          refine pb_icmp_gt (pc := 36) (tgt := 52) d_Markup_skipLetters_36 (by decide) (fun w6 => ?_) (fun w6 => ?_)
          · have tw6 : 122 < i5.toInt := (ti_lt (by decide) rfl).mp w6
            exact pb_vret (pc := 52) hQ d_Markup_skipLetters_52 rfl (a) ⟨rfl, (by (try dsimp only); first | done | (with_reducible assumption) | omega (splitDisjunctions := false) | assumption | omega | decide), (by (try dsimp only); first | done | (with_reducible assumption) | omega (splitDisjunctions := false) | assumption | omega | decide), (show a.toInt - bg.toInt = lF (mB_ uf bg.toInt) (en.toInt - bg.toInt) (at_.toInt - bg.toInt) from (by rw [← kl]; first | exact (lF_n (by omega)).symm | exact (lF_o (by omega)).symm))⟩ [0, 1] (by decide) rfl rfl (by decide) (by decide)
          · have tw6 : ¬ 122 < i5.toInt := fun z9 => w6 ((ti_lt (by decide) rfl).mpr z9)
            refine pb_aload_n (pc := 39) d_Markup_skipLetters_39 0 rfl rfl ?_
            refine pb_dup (pc := 40) d_Markup_skipLetters_40 rfl ?_
            refine pb_get (pc := 41) d_Markup_skipLetters_41 0 7 rfl rfl (by decide) in_Markup k_326 rfl ?_
            refine pb_iconst (pc := 44) (v := 1) d_Markup_skipLetters_44 (by decide) ?_
            refine pb_iadd (pc := 45) d_Markup_skipLetters_45 ?_
            refine pb_topi (fun i7 ei7 => ?_)
            try have ti7 : i7.toInt = a.toInt + 1 := t2_add ei7 rfl (by decide) (by omega)
            refine pb_put (pc := 46) (ty := .int) (ws' := [(h, .inr (8, [.ref ui, .ref ug, .ref uv, .ref ur, .int ct, .int fa, .int bg, .int i7, .int en, .int vs, .int io, .int hi, .int ht])), (ur, .inl (G.2.1, 12000, .inl uf))]) d_Markup_skipLetters_46 0 7 t_Markup t_Markup_ok n_Markup rfl rfl (by decide) in_Markup k_326 rfl (by decide +kernel) rfl rfl (Nat.le_of_ble_eq_true rfl) rfl ?_
            refine pb_goto (pc := 49) (tgt := 0) d_Markup_skipLetters_49 (by decide) ?_
            exact ih0 i7 (by first | (with_reducible assumption) | omega (splitDisjunctions := false) | assumption | omega | decide) (by first | (with_reducible assumption) | omega (splitDisjunctions := false) | assumption | omega | decide) (by rw [← kl]; exact lF_y (by (exact omg_4c27f0e6a7 yi3 tw4 yi5 sg2 tw6)) (by omega)) (by (exact omg_7c8a06b1f5 hm9 tw2 ti7))
  exact hL0_1 _ at_ (by first | (with_reducible assumption) | omega (splitDisjunctions := false) | assumption | omega | decide) (by first | (with_reducible assumption) | omega (splitDisjunctions := false) | assumption | omega | decide) rfl (Nat.lt_succ_self _)

theorem d_Markup_takeText_0 : decode prog_7_method_21_code 0 = .ok (.iconst 0, 1) := by decide +kernel
theorem d_Markup_takeText_1 : decode prog_7_method_21_code 1 = .ok (.istore_n 2, 1) := by decide +kernel
theorem d_Markup_takeText_2 : decode prog_7_method_21_code 2 = .ok (.iload_n 2, 1) := by decide +kernel
theorem d_Markup_takeText_3 : decode prog_7_method_21_code 3 = .ok (.aload_n 1, 1) := by decide +kernel
theorem d_Markup_takeText_4 : decode prog_7_method_21_code 4 = .ok (.invokevirtual 175, 3) := by decide +kernel
theorem k_826 : (Jvm.Cond.methodLink "PackageBook$Markup" (175 : Nat) ({ cls := "java/lang/String", name := "length", desc := "()I" } : Jvm.MethodName)) ∈ uW := uW_of 826 (by decide +kernel) (by decide +kernel)
theorem d_Markup_takeText_7 : decode prog_7_method_21_code 7 = .ok (.if_icmp .ge 41, 3) := by decide +kernel
theorem d_Markup_takeText_48 : decode prog_7_method_21_code 48 = .ok (.iconst 1, 1) := by decide +kernel
theorem d_Markup_takeText_49 : decode prog_7_method_21_code 49 = .ok (.ireturn, 1) := by decide +kernel
theorem d_Markup_takeText_10 : decode prog_7_method_21_code 10 = .ok (.aload_n 0, 1) := by decide +kernel
theorem d_Markup_takeText_11 : decode prog_7_method_21_code 11 = .ok (.iconst 0, 1) := by decide +kernel
theorem d_Markup_takeText_12 : decode prog_7_method_21_code 12 = .ok (.invokevirtual 80, 3) := by decide +kernel
theorem d_Markup_takeText_15 : decode prog_7_method_21_code 15 = .ok (.aload_n 1, 1) := by decide +kernel
theorem d_Markup_takeText_16 : decode prog_7_method_21_code 16 = .ok (.iload_n 2, 1) := by decide +kernel
theorem d_Markup_takeText_17 : decode prog_7_method_21_code 17 = .ok (.invokevirtual 180, 3) := by decide +kernel
theorem k_827 : (Jvm.Cond.methodLink "PackageBook$Markup" (180 : Nat) ({ cls := "java/lang/String", name := "charAt", desc := "(I)C" } : Jvm.MethodName)) ∈ uW := uW_of 827 (by decide +kernel) (by decide +kernel)
theorem d_Markup_takeText_20 : decode prog_7_method_21_code 20 = .ok (.if_icmp .eq 12, 3) := by decide +kernel
theorem d_Markup_takeText_32 : decode prog_7_method_21_code 32 = .ok (.aload_n 0, 1) := by decide +kernel
theorem d_Markup_takeText_33 : decode prog_7_method_21_code 33 = .ok (.dup, 1) := by decide +kernel
theorem d_Markup_takeText_34 : decode prog_7_method_21_code 34 = .ok (.getfield 48, 3) := by decide +kernel
theorem d_Markup_takeText_37 : decode prog_7_method_21_code 37 = .ok (.iconst 1, 1) := by decide +kernel
theorem d_Markup_takeText_38 : decode prog_7_method_21_code 38 = .ok (.iadd, 1) := by decide +kernel
theorem d_Markup_takeText_39 : decode prog_7_method_21_code 39 = .ok (.putfield 48, 3) := by decide +kernel
theorem d_Markup_takeText_42 : decode prog_7_method_21_code 42 = .ok (.iinc 2 1, 3) := by decide +kernel
theorem d_Markup_takeText_45 : decode prog_7_method_21_code 45 = .ok (.goto (-43), 3) := by decide +kernel
theorem d_Markup_takeText_23 : decode prog_7_method_21_code 23 = .ok (.aload_n 0, 1) := by decide +kernel
theorem d_Markup_takeText_24 : decode prog_7_method_21_code 24 = .ok (.aload_n 0, 1) := by decide +kernel
theorem d_Markup_takeText_25 : decode prog_7_method_21_code 25 = .ok (.getfield 48, 3) := by decide +kernel
theorem d_Markup_takeText_28 : decode prog_7_method_21_code 28 = .ok (.invokevirtual 96, 3) := by decide +kernel
theorem k_828 : (Jvm.Cond.methodLink "PackageBook$Markup" (96 : Nat) ({ cls := "PackageBook$Markup", name := "fail", desc := "(I)Z" } : Jvm.MethodName)) ∈ uW := uW_of 828 (by decide +kernel) (by decide +kernel)
theorem k_831 : (Jvm.Cond.code ({ cls := "PackageBook$Markup", name := "fail", desc := "(I)Z" } : Jvm.MethodName) prog_7_method_25_code (2 : Nat) (Option.some Jvm.ClassFile.FieldType.boolean)) ∈ uW := uW_of 831 (by decide +kernel) (by decide +kernel)
theorem k_830 : (Jvm.Cond.instanceMethod ({ cls := "PackageBook$Markup", name := "fail", desc := "(I)Z" } : Jvm.MethodName)) ∈ uW := uW_of 830 (by decide +kernel) (by decide +kernel)
theorem k_36 : Cond.selects "PackageBook$Markup" ⟨"PackageBook$Markup", "fail", "(I)Z"⟩ ⟨"PackageBook$Markup", "fail", "(I)Z"⟩ ∈ uW := uW_of 36 (by decide +kernel) (by decide +kernel)
theorem hy_Markup_fail : (y_Markup_fail).cls ≠ "java/lang/invoke/MethodHandle" ∧ (y_Markup_fail).cls ≠ "java/lang/invoke/VarHandle" ∧ (parseMethodDescriptor (y_Markup_fail).desc).map (fun d => d.parameters.length) = some 1 := by decide +kernel
theorem d_Markup_takeText_31 : decode prog_7_method_21_code 31 = .ok (.ireturn, 1) := by decide +kernel
abbrev y_Markup_takeText : MethodName := ⟨"PackageBook$Markup", "takeText", "(Ljava/lang/String;)Z"⟩
abbrev i_Markup_takeText : pb_I := (y_Markup_takeText, prog_7_method_21_code, 3, (some Jvm.ClassFile.FieldType.boolean), [], { frames := 4, cells := 0, slots := 0, locals := 85 })
set_option maxRecDepth 100000 in
set_option maxHeartbeats 4000000 in
theorem g_Mu_takeText {l : Launch} (hl : l.stackTraces = false) (G : pb_G) (h : Nat) (ui : Nat) (ug : Nat) (uv : Nat) (ur : Nat) (ct : Int32) (fa : Int32) (bg : Int32) (at_ : Int32) (en : Int32) (vs : Int32) (io : Int32) (hi : Int32) (ht : Int32) (uf : Nat → Int32) (k : Nat) (a0 : 0 ≤ at_.toInt) (a1 : at_.toInt ≤ en.toInt) (a2 : en.toInt ≤ 12000) (a3 : 0 ≤ bg.toInt) (a4 : bg.toInt ≤ at_.toInt) (hk : k < st_n) (F_uf : sb_Fit uf) : Cn l G i_Markup_takeText [.ref h, .ref (G.2.2.2.2.2.1 k)] [(h, .inr (8, [.ref ui, .ref ug, .ref uv, .ref ur, .int ct, .int fa, .int bg, .int at_, .int en, .int vs, .int io, .int hi, .int ht])), (ur, .inl (G.2.1, 12000, .inl uf))] (S := Int32 × Int32 × Int32) (fun rv_ u => rv_ = some (.int u.1) ∧ (u.1.toInt = 0 ∨ u.1.toInt = 1) ∧ (at_.toInt ≤ u.2.1.toInt) ∧ (u.2.1.toInt ≤ en.toInt) ∧ (oy_ u.1.toInt (u.2.1.toInt - bg.toInt) = wk_ (mB_ uf bg.toInt) (en.toInt - bg.toInt) (st_c k) (st_len k).toNat (at_.toInt - bg.toInt)) ∧ (ft_ u.1.toInt fa.toInt u.2.2.toInt)) (fun u => [(h, .inr (8, [.ref ui, .ref ug, .ref uv, .ref ur, .int ct, .int u.2.2, .int bg, .int u.2.1, .int en, .int vs, .int io, .int hi, .int ht])), (ur, .inl (G.2.1, 12000, .inl uf))]) := by
  refine Cn.of hl (by decide +kernel) rfl (Nat.le_of_ble_eq_true rfl) (fun M hQ => ?_)
  refine pb_eq (pc' := 0) (lo' := [(0, .ref h), (1, .ref (G.2.2.2.2.2.1 k))]) (rest' := []) (ws' := [(h, .inr (8, [.ref ui, .ref ug, .ref uv, .ref ur, .int ct, .int fa, .int bg, .int at_, .int en, .int vs, .int io, .int hi, .int ht])), (ur, .inl (G.2.1, 12000, .inl uf))]) ?_
  have zl0 : (0 : Int32).toInt = 0 := by decide
  have zl1 : (1 : Int32).toInt = 1 := by decide
  have sl := st_len_rng k
  refine pb_iconst (pc := 0) (v := 0) d_Markup_takeText_0 (by decide) ?_
  refine pb_istore_n (pc := 1) (lo' := [(2, .int 0), (0, .ref h), (1, .ref (G.2.2.2.2.2.1 k))]) d_Markup_takeText_1 rfl (by decide) rfl ?_
  have hL2_1 : ∀ (N9 : Nat) (j : Int32) (a : Int32), (at_.toInt ≤ a.toInt) → (a.toInt ≤ en.toInt) → (0 ≤ j.toInt) → (j.toInt ≤ st_len k) → (wk_ (mB_ uf bg.toInt) (en.toInt - bg.toInt) (st_c k) j.toInt.toNat (at_.toInt - bg.toInt) = some (a.toInt - bg.toInt)) → ((st_len k - j.toInt).toNat) < N9 → pb_P l G M i_Markup_takeText 2 [(2, .int j), (0, .ref h), (1, .ref (G.2.2.2.2.2.1 k))] [] [(h, .inr (8, [.ref ui, .ref ug, .ref uv, .ref ur, .int ct, .int fa, .int bg, .int a, .int en, .int vs, .int io, .int hi, .int ht])), (ur, .inl (G.2.1, 12000, .inl uf))] 0 0 := by
    intro N9
    induction N9 with
    | zero => intro j a k0 k1 k2 k3 kW hm9; exact absurd hm9 (Nat.not_lt_zero _)
    | succ N9 ih2 =>
      intro j a k0 k1 k2 k3 kW hm9
      refine pb_iload_n (pc := 2) d_Markup_takeText_2 0 rfl rfl ?_
      refine pb_aload_n (pc := 3) d_Markup_takeText_3 2 rfl rfl ?_
      refine pb_callVS (pc := 4) (I := i_Markup_takeText) (k := k) (nA := 0) (rest := [.int j]) (wr := [(h, .inr (8, [.ref ui, .ref ug, .ref uv, .ref ur, .int ct, .int fa, .int bg, .int a, .int en, .int vs, .int io, .int hi, .int ht])), (ur, .inl (G.2.1, 12000, .inl uf))]) d_Markup_takeText_4 (g_Str_length hl G k (by first | assumption | decide | omega)) hk rfl [] [0, 1] (by decide) rfl rfl rfl (by decide) (by decide) k_744 rfl k_138 k_826 k_742 k_743 ⟨rfl, hy_JString_length⟩ (by decide) rfl rfl (Nat.le_of_ble_eq_true rfl) (by decide) (fun v9 u3 ch2 => ?_)
      obtain ⟨r_4, rfl⟩ : ∃ z9, z9 = u3 := ⟨_, rfl⟩
      obtain ⟨ech2, ch2⟩ := ch2
      have ech2 : v9 = some (.int r_4) := ech2
      subst ech2
      have fh5 : r_4.toInt = st_len k := ch2
      refine pb_eq (pc' := 7) (lo' := [(2, .int j), (0, .ref h), (1, .ref (G.2.2.2.2.2.1 k))]) (rest' := [.int r_4, .int j]) (ws' := [(h, .inr (8, [.ref ui, .ref ug, .ref uv, .ref ur, .int ct, .int fa, .int bg, .int a, .int en, .int vs, .int io, .int hi, .int ht])), (ur, .inl (G.2.1, 12000, .inl uf))]) ?_
      refine pb_icmp_ge (pc := 7) (tgt := 48) d_Markup_takeText_7 (by decide) (fun w6 => ?_) (fun w6 => ?_)
      · have tw6 : r_4.toInt ≤ j.toInt := (ti_le rfl rfl).mp w6
        refine pb_iconst (pc := 48) (v := 1) d_Markup_takeText_48 (by decide) ?_
        exact pb_iret (pc := 49) hQ d_Markup_takeText_49 rfl rfl (1, a, fa) ⟨rfl, (by (try dsimp only); first | done | (with_reducible assumption) | omega (splitDisjunctions := false) | assumption | omega | decide), (by (try dsimp only); first | done | (with_reducible assumption) | omega (splitDisjunctions := false) | assumption | omega | decide), (by (try dsimp only); first | done | (with_reducible assumption) | omega (splitDisjunctions := false) | assumption | omega | decide), (show oy_ (1 : Int32).toInt (a.toInt - bg.toInt) = wk_ (mB_ uf bg.toInt) (en.toInt - bg.toInt) (st_c k) (st_len k).toNat (at_.toInt - bg.toInt) from (by rw [oy_t (by omega), show st_len k = j.toInt by omega]; exact kW.symm)), (show ft_ (1 : Int32).toInt fa.toInt fa.toInt from (by unfold ft_; omega))⟩ [0, 1] (by decide) rfl rfl (by decide) (by decide)
      · have tw6 : ¬ r_4.toInt ≤ j.toInt := fun z9 => w6 ((ti_le rfl rfl).mpr z9)
        refine pb_aload_n (pc := 10) d_Markup_takeText_10 1 rfl rfl ?_
        refine pb_iconst (pc := 11) (v := 0) d_Markup_takeText_11 (by decide) ?_
        refine pb_callV (pc := 12) (I := i_Markup_takeText) (qb := 0) (ci := 8) (nA := 1) (rest := []) (wr := []) d_Markup_takeText_12 (g_Mu_next hl G h ui ug uv ur ct fa bg a en vs io hi ht uf 0 (by first | (with_reducible assumption) | omega (splitDisjunctions := false) | assumption | omega | decide) (by first | (with_reducible assumption) | omega (splitDisjunctions := false) | assumption | omega | decide) (by first | (with_reducible assumption) | omega (splitDisjunctions := false) | assumption | omega | decide) (by first | (with_reducible assumption) | omega (splitDisjunctions := false) | assumption | omega | decide) (by first | (with_reducible assumption) | omega (splitDisjunctions := false) | assumption | omega | decide) (by first | (with_reducible assumption) | omega (splitDisjunctions := false) | assumption | omega | decide) (by first | (with_reducible assumption) | omega (splitDisjunctions := false) | assumption | omega | decide) F_uf) rfl rfl [0, 1] [] (by decide) rfl rfl rfl (by decide) (by decide) k_813 rfl k_125 k_810 k_812 k_33 ⟨rfl, hy_Markup_next⟩ (by decide) rfl rfl (Nat.le_of_ble_eq_true rfl) (by decide) (fun v9 u8 ch7 => ?_)
        obtain ⟨r_9, rfl⟩ : ∃ z9, z9 = u8 := ⟨_, rfl⟩
        obtain ⟨ech7, ch7⟩ := ch7
        have ech7 : v9 = some (.int r_9) := ech7
        subst ech7
        obtain ⟨fh10, fh11, fh12, fh13⟩ : (-1 ≤ r_9.toInt) ∧ (r_9.toInt ≤ 255) ∧ (0 ≤ r_9.toInt → a.toInt + (0 : Int32).toInt < en.toInt) ∧ (r_9.toInt = cm_ (mB_ uf bg.toInt) (en.toInt - bg.toInt) ((a.toInt - bg.toInt) + (0 : Int32).toInt)) := ch7
        have hF := fh13
        rw [zl0, Int.add_zero] at hF
        refine pb_eq (pc' := 15) (lo' := [(2, .int j), (0, .ref h), (1, .ref (G.2.2.2.2.2.1 k))]) (rest' := [.int r_9]) (ws' := [(h, .inr (8, [.ref ui, .ref ug, .ref uv, .ref ur, .int ct, .int fa, .int bg, .int a, .int en, .int vs, .int io, .int hi, .int ht])), (ur, .inl (G.2.1, 12000, .inl uf))]) ?_
        refine pb_aload_n (pc := 15) d_Markup_takeText_15 2 rfl rfl ?_
        refine pb_iload_n (pc := 16) d_Markup_takeText_16 0 rfl rfl ?_
        refine pb_callVS (pc := 17) (I := i_Markup_takeText) (k := k) (nA := 1) (rest := [.int r_9]) (wr := [(h, .inr (8, [.ref ui, .ref ug, .ref uv, .ref ur, .int ct, .int fa, .int bg, .int a, .int en, .int vs, .int io, .int hi, .int ht])), (ur, .inl (G.2.1, 12000, .inl uf))]) d_Markup_takeText_17 (g_Str_charAt hl G k j (by first | assumption | decide | omega) (by first | (with_reducible assumption) | omega (splitDisjunctions := false) | assumption | (clear fh12 hm9; first | omega (splitDisjunctions := false) | omega) | omega | decide) (by first | (with_reducible assumption) | omega (splitDisjunctions := false) | assumption | (clear fh12 hm9; first | omega (splitDisjunctions := false) | omega) | omega | decide)) hk rfl [] [0, 1] (by decide) rfl rfl rfl (by decide) (by decide) k_754 rfl k_138 k_827 k_752 k_753 ⟨rfl, hy_JString_charAt⟩ (by decide) rfl rfl (Nat.le_of_ble_eq_true rfl) (by decide) (fun v9 u15 ch14 => ?_)
        obtain ⟨r_16, rfl⟩ : ∃ z9, z9 = u15 := ⟨_, rfl⟩
        obtain ⟨ech14, ch14⟩ := ch14
        have ech14 : v9 = some (.int r_16) := ech14
        subst ech14
        obtain ⟨fh17, fh18, fh19⟩ : (0 ≤ r_16.toInt) ∧ (r_16.toInt ≤ 255) ∧ (r_16.toInt = st_c k j.toInt) := ch14
        have cF9 := fh19
        refine pb_eq (pc' := 20) (lo' := [(2, .int j), (0, .ref h), (1, .ref (G.2.2.2.2.2.1 k))]) (rest' := [.int r_16, .int r_9]) (ws' := [(h, .inr (8, [.ref ui, .ref ug, .ref uv, .ref ur, .int ct, .int fa, .int bg, .int a, .int en, .int vs, .int io, .int hi, .int ht])), (ur, .inl (G.2.1, 12000, .inl uf))]) ?_
        refine pb_icmp_eq (pc := 20) (tgt := 32) d_Markup_takeText_20 (by decide) (fun w20 => ?_) (fun w20 => ?_)
        · have tw20 : r_9.toInt = r_16.toInt := (ti_eq rfl rfl).mp w20
          refine pb_aload_n (pc := 32) d_Markup_takeText_32 1 rfl rfl ?_
          refine pb_dup (pc := 33) d_Markup_takeText_33 rfl ?_
          refine pb_get (pc := 34) d_Markup_takeText_34 0 7 rfl rfl (by decide) in_Markup k_326 rfl ?_
          refine pb_iconst (pc := 37) (v := 1) d_Markup_takeText_37 (by decide) ?_
          refine pb_iadd (pc := 38) d_Markup_takeText_38 ?_
          refine pb_topi (fun i21 ei21 => ?_)
          try have ti21 : i21.toInt = a.toInt + 1 := t2_add ei21 rfl (by decide) (by omega)
          refine pb_put (pc := 39) (ty := .int) (ws' := [(h, .inr (8, [.ref ui, .ref ug, .ref uv, .ref ur, .int ct, .int fa, .int bg, .int i21, .int en, .int vs, .int io, .int hi, .int ht])), (ur, .inl (G.2.1, 12000, .inl uf))]) d_Markup_takeText_39 0 7 t_Markup t_Markup_ok n_Markup rfl rfl (by decide) in_Markup k_326 rfl (by decide +kernel) rfl rfl (Nat.le_of_ble_eq_true rfl) rfl ?_
          refine pb_iincN (pc := 42) (c := 1) d_Markup_takeText_42 0 rfl (by decide) (by decide) (fun i22 ei22 => ?_)
          have ti22 : i22.toInt = j.toInt + 1 := t2_add ei22 rfl (by decide) (by first | omega | (have r90 := ti_rng i22; omega))
          refine pb_eq (pc' := 45) (lo' := [(2, .int i22), (0, .ref h), (1, .ref (G.2.2.2.2.2.1 k))]) (rest' := []) (ws' := [(h, .inr (8, [.ref ui, .ref ug, .ref uv, .ref ur, .int ct, .int fa, .int bg, .int i21, .int en, .int vs, .int io, .int hi, .int ht])), (ur, .inl (G.2.1, 12000, .inl uf))]) ?_
          refine pb_goto (pc := 45) (tgt := 2) d_Markup_takeText_45 (by decide) ?_
          exact ih2 i22 i21 (by first | (with_reducible assumption) | omega (splitDisjunctions := false) | assumption | (clear fh12 hm9; first | omega (splitDisjunctions := false) | omega) | omega | decide) (by first | (with_reducible assumption) | omega (splitDisjunctions := false) | assumption | (clear fh12 hm9; first | omega (splitDisjunctions := false) | omega) | omega | decide) (by first | (with_reducible assumption) | omega (splitDisjunctions := false) | assumption | (clear fh12 hm9; first | omega (splitDisjunctions := false) | omega) | omega | decide) (by first | (with_reducible assumption) | omega (splitDisjunctions := false) | assumption | (clear fh12 hm9; first | omega (splitDisjunctions := false) | omega) | omega | decide) (wk_y kW (by omega) k2 (by omega) (by omega)) (by first | (clear fh12; (exact omg_b30a0bed9f hm9 ch2 tw6 ti22)) | omega)
        · have tw20 : ¬ r_9.toInt = r_16.toInt := fun z9 => w20 ((ti_eq rfl rfl).mpr z9)
          refine pb_aload_n (pc := 23) d_Markup_takeText_23 1 rfl rfl ?_
          refine pb_aload_n (pc := 24) d_Markup_takeText_24 1 rfl rfl ?_
          refine pb_get (pc := 25) d_Markup_takeText_25 0 7 rfl rfl (by decide) in_Markup k_326 rfl ?_
          refine pb_callV (pc := 28) (I := i_Markup_takeText) (qb := 0) (ci := 8) (nA := 1) (rest := []) (wr := [(ur, .inl (G.2.1, 12000, .inl uf))]) d_Markup_takeText_28 (g_Mu_fail hl G h ui ug uv ur ct fa bg a en vs io hi ht a (by first | (with_reducible assumption) | omega (splitDisjunctions := false) | assumption | (clear fh12 hm9; first | omega (splitDisjunctions := false) | omega) | omega | decide) (by first | (with_reducible assumption) | omega (splitDisjunctions := false) | assumption | (clear fh12 hm9; first | omega (splitDisjunctions := false) | omega) | omega | decide) (by first | (with_reducible assumption) | omega (splitDisjunctions := false) | assumption | (clear fh12 hm9; first | omega (splitDisjunctions := false) | omega) | omega | decide)) rfl rfl [0] [1] (by decide) rfl rfl rfl (by decide) (by decide) k_831 rfl k_125 k_828 k_830 k_36 ⟨rfl, hy_Markup_fail⟩ (by decide) rfl rfl (Nat.le_of_ble_eq_true rfl) (by decide) (fun v9 u24 ch23 => ?_)
          obtain ⟨f_25, rfl⟩ : ∃ z9, z9 = u24 := ⟨_, rfl⟩
          obtain ⟨ech23, ch23⟩ := ch23
          have ech23 : v9 = some (.int 0) := ech23
          subst ech23
          have fh26 : 0 ≤ f_25.toInt := ch23
          refine pb_eq (pc' := 31) (lo' := [(2, .int j), (0, .ref h), (1, .ref (G.2.2.2.2.2.1 k))]) (rest' := [.int 0]) (ws' := [(ur, .inl (G.2.1, 12000, .inl uf)), (h, .inr (8, [.ref ui, .ref ug, .ref uv, .ref ur, .int ct, .int f_25, .int bg, .int a, .int en, .int vs, .int io, .int hi, .int ht]))]) ?_
          exact pb_iret (pc := 31) hQ d_Markup_takeText_31 rfl rfl (0, a, f_25) ⟨rfl, (by (try dsimp only); first | done | (with_reducible assumption) | omega (splitDisjunctions := false) | assumption | (clear fh12 hm9; first | omega (splitDisjunctions := false) | omega) | omega | decide), (by (try dsimp only); first | done | (with_reducible assumption) | omega (splitDisjunctions := false) | assumption | (clear fh12 hm9; first | omega (splitDisjunctions := false) | omega) | omega | decide), (by (try dsimp only); first | done | (with_reducible assumption) | omega (splitDisjunctions := false) | assumption | (clear fh12 hm9; first | omega (splitDisjunctions := false) | omega) | omega | decide), (show oy_ (0 : Int32).toInt (a.toInt - bg.toInt) = wk_ (mB_ uf bg.toInt) (en.toInt - bg.toInt) (st_c k) (st_len k).toNat (at_.toInt - bg.toInt) from (by rw [oy_f (by omega)]; exact (wk_no kW (by omega) k2 (by omega)).symm)), (show ft_ (0 : Int32).toInt fa.toInt f_25.toInt from (by unfold ft_; omega))⟩ [1, 0] (by decide) rfl rfl (by decide) (by decide)
  exact hL2_1 _ 0 at_ (by first | (with_reducible assumption) | omega (splitDisjunctions := false) | assumption | omega | decide) (by first | (with_reducible assumption) | omega (splitDisjunctions := false) | assumption | omega | decide) (by first | (with_reducible assumption) | omega (splitDisjunctions := false) | assumption | omega | decide) (by first | (with_reducible assumption) | omega (splitDisjunctions := false) | assumption | omega | decide) (by rw [zl0]; rfl) (Nat.lt_succ_self _)

theorem d_Markup_isText_0 : decode prog_7_method_22_code 0 = .ok (.aload_n 0, 1) := by decide +kernel
theorem d_Markup_isText_1 : decode prog_7_method_22_code 1 = .ok (.getfield 48, 3) := by decide +kernel
theorem d_Markup_isText_4 : decode prog_7_method_22_code 4 = .ok (.iload_n 1, 1) := by decide +kernel
theorem d_Markup_isText_5 : decode prog_7_method_22_code 5 = .ok (.isub, 1) := by decide +kernel
theorem d_Markup_isText_6 : decode prog_7_method_22_code 6 = .ok (.aload_n 2, 1) := by decide +kernel
theorem d_Markup_isText_7 : decode prog_7_method_22_code 7 = .ok (.invokevirtual 175, 3) := by decide +kernel
theorem d_Markup_isText_10 : decode prog_7_method_22_code 10 = .ok (.if_icmp .ne 7, 3) := by decide +kernel
theorem d_Markup_isText_17 : decode prog_7_method_22_code 17 = .ok (.iconst 0, 1) := by decide +kernel
theorem d_Markup_isText_18 : decode prog_7_method_22_code 18 = .ok (.istore_n 3, 1) := by decide +kernel
theorem d_Markup_isText_19 : decode prog_7_method_22_code 19 = .ok (.iconst 0, 1) := by decide +kernel
theorem d_Markup_isText_20 : decode prog_7_method_22_code 20 = .ok (.istore 4, 2) := by decide +kernel
theorem d_Markup_isText_22 : decode prog_7_method_22_code 22 = .ok (.iload 4, 2) := by decide +kernel
theorem d_Markup_isText_24 : decode prog_7_method_22_code 24 = .ok (.aload_n 2, 1) := by decide +kernel
theorem d_Markup_isText_25 : decode prog_7_method_22_code 25 = .ok (.invokevirtual 175, 3) := by decide +kernel
theorem d_Markup_isText_28 : decode prog_7_method_22_code 28 = .ok (.if_icmp .ge 37, 3) := by decide +kernel
theorem d_Markup_isText_65 : decode prog_7_method_22_code 65 = .ok (.iload_n 3, 1) := by decide +kernel
theorem d_Markup_isText_66 : decode prog_7_method_22_code 66 = .ok (.ireturn, 1) := by decide +kernel
theorem d_Markup_isText_31 : decode prog_7_method_22_code 31 = .ok (.iload_n 3, 1) := by decide +kernel
theorem d_Markup_isText_32 : decode prog_7_method_22_code 32 = .ok (.ifCond .eq 33, 3) := by decide +kernel
theorem d_Markup_isText_35 : decode prog_7_method_22_code 35 = .ok (.aload_n 0, 1) := by decide +kernel
theorem d_Markup_isText_36 : decode prog_7_method_22_code 36 = .ok (.getfield 23, 3) := by decide +kernel
theorem d_Markup_isText_39 : decode prog_7_method_22_code 39 = .ok (.iload_n 1, 1) := by decide +kernel
theorem d_Markup_isText_40 : decode prog_7_method_22_code 40 = .ok (.iload 4, 2) := by decide +kernel
theorem d_Markup_isText_42 : decode prog_7_method_22_code 42 = .ok (.iadd, 1) := by decide +kernel
theorem d_Markup_isText_43 : decode prog_7_method_22_code 43 = .ok (.baload, 1) := by decide +kernel
theorem d_Markup_isText_44 : decode prog_7_method_22_code 44 = .ok (.aload_n 2, 1) := by decide +kernel
theorem d_Markup_isText_45 : decode prog_7_method_22_code 45 = .ok (.iload 4, 2) := by decide +kernel
theorem d_Markup_isText_47 : decode prog_7_method_22_code 47 = .ok (.invokevirtual 180, 3) := by decide +kernel
theorem d_Markup_isText_50 : decode prog_7_method_22_code 50 = .ok (.if_icmp .ne 7, 3) := by decide +kernel
theorem d_Markup_isText_57 : decode prog_7_method_22_code 57 = .ok (.iconst 0, 1) := by decide +kernel
theorem d_Markup_isText_58 : decode prog_7_method_22_code 58 = .ok (.istore_n 3, 1) := by decide +kernel
theorem d_Markup_isText_59 : decode prog_7_method_22_code 59 = .ok (.iinc 4 1, 3) := by decide +kernel
theorem d_Markup_isText_62 : decode prog_7_method_22_code 62 = .ok (.goto (-40), 3) := by decide +kernel
theorem d_Markup_isText_53 : decode prog_7_method_22_code 53 = .ok (.iconst 1, 1) := by decide +kernel
theorem d_Markup_isText_54 : decode prog_7_method_22_code 54 = .ok (.goto 4, 3) := by decide +kernel
theorem d_Markup_isText_13 : decode prog_7_method_22_code 13 = .ok (.iconst 1, 1) := by decide +kernel
theorem d_Markup_isText_14 : decode prog_7_method_22_code 14 = .ok (.goto 4, 3) := by decide +kernel
abbrev y_Markup_isText : MethodName := ⟨"PackageBook$Markup", "isText", "(ILjava/lang/String;)Z"⟩
abbrev i_Markup_isText : pb_I := (y_Markup_isText, prog_7_method_22_code, 5, (some Jvm.ClassFile.FieldType.boolean), [], { frames := 4, cells := 0, slots := 0, locals := 85 })
set_option maxRecDepth 100000 in
set_option maxHeartbeats 4000000 in
theorem g_Mu_isText {l : Launch} (hl : l.stackTraces = false) (G : pb_G) (h : Nat) (ui : Nat) (ug : Nat) (uv : Nat) (ur : Nat) (ct : Int32) (fa : Int32) (bg : Int32) (at_ : Int32) (en : Int32) (vs : Int32) (io : Int32) (hi : Int32) (ht : Int32) (uf : Nat → Int32) (x : Int32) (k : Nat) (a0 : 0 ≤ at_.toInt) (a1 : at_.toInt ≤ en.toInt) (a2 : en.toInt ≤ 12000) (a3 : 0 ≤ bg.toInt) (a4 : bg.toInt ≤ at_.toInt) (hk : k < st_n) (b0 : 0 ≤ x.toInt) (b1 : bg.toInt ≤ x.toInt) (F_uf : sb_Fit uf) : Cn l G i_Markup_isText [.ref h, .int x, .ref (G.2.2.2.2.2.1 k)] [(h, .inr (8, [.ref ui, .ref ug, .ref uv, .ref ur, .int ct, .int fa, .int bg, .int at_, .int en, .int vs, .int io, .int hi, .int ht])), (ur, .inl (G.2.1, 12000, .inl uf))] (S := Int32) (fun rv_ u => rv_ = some (.int u) ∧ (u.toInt = 0 ∨ u.toInt = 1) ∧ (hid_ (u.toInt = 1 ↔ tm6_ (mB_ uf bg.toInt) (en.toInt - bg.toInt) (x.toInt - bg.toInt) (at_.toInt - bg.toInt) (st_c k) (st_len k)))) (fun u => [(h, .inr (8, [.ref ui, .ref ug, .ref uv, .ref ur, .int ct, .int fa, .int bg, .int at_, .int en, .int vs, .int io, .int hi, .int ht])), (ur, .inl (G.2.1, 12000, .inl uf))]) := by
  refine Cn.of hl (by decide +kernel) rfl (Nat.le_of_ble_eq_true rfl) (fun M hQ => ?_)
  refine pb_eq (pc' := 0) (lo' := [(0, .ref h), (1, .int x), (2, .ref (G.2.2.2.2.2.1 k))]) (rest' := []) (ws' := [(h, .inr (8, [.ref ui, .ref ug, .ref uv, .ref ur, .int ct, .int fa, .int bg, .int at_, .int en, .int vs, .int io, .int hi, .int ht])), (ur, .inl (G.2.1, 12000, .inl uf))]) ?_
  have zl0 : (0 : Int32).toInt = 0 := by decide
  have zl1 : (1 : Int32).toInt = 1 := by decide
  have sl := st_len_rng k
  have rx := ti_rng x
  refine pb_aload_n (pc := 0) d_Markup_isText_0 0 rfl rfl ?_
  refine pb_get (pc := 1) d_Markup_isText_1 0 7 rfl rfl (by decide) in_Markup k_326 rfl ?_
  refine pb_iload_n (pc := 4) d_Markup_isText_4 1 rfl rfl ?_
  refine pb_isub (pc := 5) d_Markup_isText_5 ?_
  refine pb_topi (fun i1 ei1 => ?_)
  try have ti1 : i1.toInt = at_.toInt - x.toInt := t2_sub ei1 rfl rfl (by omega)
  refine pb_aload_n (pc := 6) d_Markup_isText_6 2 rfl rfl ?_
  refine pb_callVS (pc := 7) (I := i_Markup_isText) (k := k) (nA := 0) (rest := [.int i1]) (wr := [(h, .inr (8, [.ref ui, .ref ug, .ref uv, .ref ur, .int ct, .int fa, .int bg, .int at_, .int en, .int vs, .int io, .int hi, .int ht])), (ur, .inl (G.2.1, 12000, .inl uf))]) d_Markup_isText_7 (g_Str_length hl G k (by first | assumption | decide | omega)) hk rfl [] [0, 1] (by decide) rfl rfl rfl (by decide) (by decide) k_744 rfl k_138 k_826 k_742 k_743 ⟨rfl, hy_JString_length⟩ (by decide) rfl rfl (Nat.le_of_ble_eq_true rfl) (by decide) (fun v9 u3 ch2 => ?_)
  obtain ⟨r_4, rfl⟩ : ∃ z9, z9 = u3 := ⟨_, rfl⟩
  obtain ⟨ech2, ch2⟩ := ch2
  have ech2 : v9 = some (.int r_4) := ech2
  subst ech2
  have fh5 : r_4.toInt = st_len k := ch2
  refine pb_eq (pc' := 10) (lo' := [(0, .ref h), (1, .int x), (2, .ref (G.2.2.2.2.2.1 k))]) (rest' := [.int r_4, .int i1]) (ws' := [(h, .inr (8, [.ref ui, .ref ug, .ref uv, .ref ur, .int ct, .int fa, .int bg, .int at_, .int en, .int vs, .int io, .int hi, .int ht])), (ur, .inl (G.2.1, 12000, .inl uf))]) ?_
  refine pb_icmp_ne (pc := 10) (tgt := 17) d_Markup_isText_10 (by decide) (fun w6 => ?_) (fun w6 => ?_)
  · have tw6 : ¬ i1.toInt = r_4.toInt := fun z9 => w6 ((ti_eq rfl rfl).mpr z9)
    refine pb_iconst (pc := 17) (v := 0) d_Markup_isText_17 (by decide) ?_
    refine pb_istore_n (pc := 18) (lo' := [(3, .int 0), (0, .ref h), (1, .int x), (2, .ref (G.2.2.2.2.2.1 k))]) d_Markup_isText_18 rfl (by decide) rfl ?_
    refine pb_iconst (pc := 19) (v := 0) d_Markup_isText_19 (by decide) ?_
    refine pb_istore (pc := 20) (lo' := [(4, .int 0), (3, .int 0), (0, .ref h), (1, .int x), (2, .ref (G.2.2.2.2.2.1 k))]) d_Markup_isText_20 (by decide) rfl ?_
    have hL22_7 : ∀ (N9 : Nat) (s : Int32) (j : Int32), (s.toInt = 0 ∨ s.toInt = 1) → (s.toInt = 1 → at_.toInt - x.toInt = st_len k) → (0 ≤ j.toInt) → (j.toInt ≤ st_len k) → (tL_ (mB_ uf bg.toInt) (en.toInt - bg.toInt) (x.toInt - bg.toInt) (at_.toInt - bg.toInt) (st_c k) (st_len k) s.toInt j.toInt) → ((st_len k - j.toInt).toNat) < N9 → pb_P l G M i_Markup_isText 22 [(3, .int s), (4, .int j), (0, .ref h), (1, .int x), (2, .ref (G.2.2.2.2.2.1 k))] [] [(h, .inr (8, [.ref ui, .ref ug, .ref uv, .ref ur, .int ct, .int fa, .int bg, .int at_, .int en, .int vs, .int io, .int hi, .int ht])), (ur, .inl (G.2.1, 12000, .inl uf))] 0 0 := by
      intro N9
      induction N9 with
      | zero => intro s j k0 k1 k2 k3 kt hm9; exact absurd hm9 (Nat.not_lt_zero _)
      | succ N9 ih22 =>
        intro s j k0 k1 k2 k3 kt hm9
        refine pb_iload (pc := 22) d_Markup_isText_22 1 rfl ?_
        refine pb_aload_n (pc := 24) d_Markup_isText_24 4 rfl rfl ?_
        refine pb_callVS (pc := 25) (I := i_Markup_isText) (k := k) (nA := 0) (rest := [.int j]) (wr := [(h, .inr (8, [.ref ui, .ref ug, .ref uv, .ref ur, .int ct, .int fa, .int bg, .int at_, .int en, .int vs, .int io, .int hi, .int ht])), (ur, .inl (G.2.1, 12000, .inl uf))]) d_Markup_isText_25 (g_Str_length hl G k (by first | assumption | decide | omega)) hk rfl [] [0, 1] (by decide) rfl rfl rfl (by decide) (by decide) k_744 rfl k_138 k_826 k_742 k_743 ⟨rfl, hy_JString_length⟩ (by decide) rfl rfl (Nat.le_of_ble_eq_true rfl) (by decide) (fun v9 u9 ch8 => ?_)
        obtain ⟨r_10, rfl⟩ : ∃ z9, z9 = u9 := ⟨_, rfl⟩
        obtain ⟨ech8, ch8⟩ := ch8
        have ech8 : v9 = some (.int r_10) := ech8
        subst ech8
        have fh11 : r_10.toInt = st_len k := ch8
        refine pb_eq (pc' := 28) (lo' := [(3, .int s), (4, .int j), (0, .ref h), (1, .int x), (2, .ref (G.2.2.2.2.2.1 k))]) (rest' := [.int r_10, .int j]) (ws' := [(h, .inr (8, [.ref ui, .ref ug, .ref uv, .ref ur, .int ct, .int fa, .int bg, .int at_, .int en, .int vs, .int io, .int hi, .int ht])), (ur, .inl (G.2.1, 12000, .inl uf))]) ?_
        refine pb_icmp_ge (pc := 28) (tgt := 65) d_Markup_isText_28 (by decide) (fun w12 => ?_) (fun w12 => ?_)
        · have tw12 : r_10.toInt ≤ j.toInt := (ti_le rfl rfl).mp w12
          refine pb_iload_n (pc := 65) d_Markup_isText_65 0 rfl rfl ?_
          exact pb_iret (pc := 66) hQ d_Markup_isText_66 rfl (nar_b (by omega)) (s) ⟨rfl, (by (try dsimp only); first | done | (with_reducible assumption) | omega (splitDisjunctions := false) | assumption | (clear k1 hm9; first | omega (splitDisjunctions := false) | omega) | omega | decide), (show hid_ (s.toInt = 1 ↔ tm6_ (mB_ uf bg.toInt) (en.toInt - bg.toInt) (x.toInt - bg.toInt) (at_.toInt - bg.toInt) (st_c k) (st_len k)) from (hid_i (tL_e kt (by omega))))⟩ [0, 1] (by decide) rfl rfl (by decide) (by decide)
        · have tw12 : ¬ r_10.toInt ≤ j.toInt := fun z9 => w12 ((ti_le rfl rfl).mpr z9)
          refine pb_iload_n (pc := 31) d_Markup_isText_31 0 rfl rfl ?_
          refine pb_if_eq (pc := 32) (tgt := 65) d_Markup_isText_32 (by decide) (fun w13 => ?_) (fun w13 => ?_)
          · have tw13 : s.toInt = 0 := (ti_eq rfl (by decide)).mp w13
            refine pb_iload_n (pc := 65) d_Markup_isText_65 0 rfl rfl ?_
            exact pb_iret (pc := 66) hQ d_Markup_isText_66 rfl (nar_b (by omega)) (s) ⟨rfl, (by (try dsimp only); first | done | (with_reducible assumption) | omega (splitDisjunctions := false) | assumption | (clear k1 hm9; first | omega (splitDisjunctions := false) | omega) | omega | decide), (show hid_ (s.toInt = 1 ↔ tm6_ (mB_ uf bg.toInt) (en.toInt - bg.toInt) (x.toInt - bg.toInt) (at_.toInt - bg.toInt) (st_c k) (st_len k)) from (hid_i (tL_e kt (by omega))))⟩ [0, 1] (by decide) rfl rfl (by decide) (by decide)
          · have tw13 : ¬ s.toInt = 0 := fun z9 => w13 ((ti_eq rfl (by decide)).mpr z9)
            refine pb_aload_n (pc := 35) d_Markup_isText_35 2 rfl rfl ?_
            refine pb_get (pc := 36) d_Markup_isText_36 0 3 rfl rfl (by decide) in_Markup k_320 rfl ?_
            refine pb_iload_n (pc := 39) d_Markup_isText_39 3 rfl rfl ?_
            refine pb_iload (pc := 40) d_Markup_isText_40 1 rfl ?_
            refine pb_iadd (pc := 42) d_Markup_isText_42 ?_
            refine pb_topi (fun i14 ei14 => ?_)
            try have ti14 : i14.toInt = x.toInt + j.toInt := t2_add ei14 rfl rfl (by (exact omg_4b6a8e5a1f a1 a2 rx k0 k1 k2 ch8 tw12 tw13))
            refine pb_bald (pc := 43) d_Markup_isText_43 1 rfl (vp_in_iff.mpr (by (exact omg_2502584797 a1 a2 b0 k0 k1 k2 ch8 tw12 tw13 ti14))) ?_
            refine pb_topi (fun i15 ei15 => ?_)
            have xi15 : i15 = gr uf (bg.toInt + (x.toInt - bg.toInt + j.toInt)) := gr_ld ei15 (by omega)
            have yi15 : i15.toInt = gx uf (bg.toInt + (x.toInt - bg.toInt + j.toInt)) := congrArg Int32.toInt xi15
            have ti15 : -128 ≤ i15.toInt ∧ i15.toInt ≤ 127 := ti_fit (F_uf _) ei15
            have sgT := cm_sg (B := (mB_ uf bg.toInt)) (n := (en.toInt - bg.toInt)) (j := x.toInt - bg.toInt + j.toInt) xi15 ti15 (by omega) (by (exact omg_825d369e30 a1 k0 k1 ch8 tw12 tw13))
            refine pb_aload_n (pc := 44) d_Markup_isText_44 4 rfl rfl ?_
            refine pb_iload (pc := 45) d_Markup_isText_45 1 rfl ?_
            refine pb_callVS (pc := 47) (I := i_Markup_isText) (k := k) (nA := 1) (rest := [.int i15]) (wr := [(h, .inr (8, [.ref ui, .ref ug, .ref uv, .ref ur, .int ct, .int fa, .int bg, .int at_, .int en, .int vs, .int io, .int hi, .int ht])), (ur, .inl (G.2.1, 12000, .inl uf))]) d_Markup_isText_47 (g_Str_charAt hl G k j (by first | assumption | decide | omega) (by first | (with_reducible assumption) | omega (splitDisjunctions := false) | assumption | (clear k1 hm9; first | omega (splitDisjunctions := false) | omega) | omega | decide) (by first | (with_reducible assumption) | omega (splitDisjunctions := false) | assumption | (clear k1 hm9; first | omega (splitDisjunctions := false) | omega) | omega | decide)) hk rfl [] [0, 1] (by decide) rfl rfl rfl (by decide) (by decide) k_754 rfl k_138 k_827 k_752 k_753 ⟨rfl, hy_JString_charAt⟩ (by decide) rfl rfl (Nat.le_of_ble_eq_true rfl) (by decide) (fun v9 u17 ch16 => ?_)
            obtain ⟨r_18, rfl⟩ : ∃ z9, z9 = u17 := ⟨_, rfl⟩
            obtain ⟨ech16, ch16⟩ := ch16
            have ech16 : v9 = some (.int r_18) := ech16
            subst ech16
            obtain ⟨fh19, fh20, fh21⟩ : (0 ≤ r_18.toInt) ∧ (r_18.toInt ≤ 255) ∧ (r_18.toInt = st_c k j.toInt) := ch16
            have cF9 := fh21
            have cR9 := sc_rng hk j.toInt
            refine pb_eq (pc' := 50) (lo' := [(3, .int s), (4, .int j), (0, .ref h), (1, .int x), (2, .ref (G.2.2.2.2.2.1 k))]) (rest' := [.int r_18, .int i15]) (ws' := [(h, .inr (8, [.ref ui, .ref ug, .ref uv, .ref ur, .int ct, .int fa, .int bg, .int at_, .int en, .int vs, .int io, .int hi, .int ht])), (ur, .inl (G.2.1, 12000, .inl uf))]) ?_
            refine pb_icmp_ne (pc := 50) (tgt := 57) d_Markup_isText_50 (by decide) (fun w22 => ?_) (fun w22 => ?_)
            · have tw22 : ¬ i15.toInt = r_18.toInt := fun z9 => w22 ((ti_eq rfl rfl).mpr z9)
              refine pb_iconst (pc := 57) (v := 0) d_Markup_isText_57 (by decide) ?_
              refine pb_istore_n (pc := 58) (lo' := [(3, .int 0), (4, .int j), (0, .ref h), (1, .int x), (2, .ref (G.2.2.2.2.2.1 k))]) d_Markup_isText_58 rfl (by decide) rfl ?_
              refine pb_iincN (pc := 59) (c := 1) d_Markup_isText_59 1 rfl (by decide) (by decide) (fun i23 ei23 => ?_)
              have ti23 : i23.toInt = j.toInt + 1 := t2_add ei23 rfl (by decide) (by first | omega | (have r90 := ti_rng i23; have r91 := ti_rng x; omega))
              refine pb_eq (pc' := 62) (lo' := [(4, .int i23), (3, .int 0), (0, .ref h), (1, .int x), (2, .ref (G.2.2.2.2.2.1 k))]) (rest' := []) (ws' := [(h, .inr (8, [.ref ui, .ref ug, .ref uv, .ref ur, .int ct, .int fa, .int bg, .int at_, .int en, .int vs, .int io, .int hi, .int ht])), (ur, .inl (G.2.1, 12000, .inl uf))]) ?_
              refine pb_goto (pc := 62) (tgt := 22) d_Markup_isText_62 (by decide) ?_
              refine pb_re (ws' := [(h, .inr (8, [.ref ui, .ref ug, .ref uv, .ref ur, .int ct, .int fa, .int bg, .int at_, .int en, .int vs, .int io, .int hi, .int ht])), (ur, .inl (G.2.1, 12000, .inl uf))]) (lo' := [(3, .int 0), (4, .int i23), (0, .ref h), (1, .int x), (2, .ref (G.2.2.2.2.2.1 k))]) [0, 1] [1, 0, 2, 3, 4] (by decide) rfl rfl rfl ?_
              exact ih22 0 i23 (by first | (with_reducible assumption) | omega (splitDisjunctions := false) | assumption | (clear k1 hm9; first | omega (splitDisjunctions := false) | omega) | omega | decide) (by first | (with_reducible assumption) | omega (splitDisjunctions := false) | assumption | exact fun q90 => (by clear k1 hm9; first | omega (splitDisjunctions := false) | omega) | omega | decide) (by first | (with_reducible assumption) | omega (splitDisjunctions := false) | assumption | (clear k1 hm9; first | omega (splitDisjunctions := false) | omega) | omega | decide) (by first | (with_reducible assumption) | omega (splitDisjunctions := false) | assumption | (clear k1 hm9; first | omega (splitDisjunctions := false) | omega) | omega | decide) (tL_s kt (by omega) (by omega) k2 (by (exact omg_977dafba84 zl0 sgT fh21 cR9 tw22)) (by omega)) (by first | (clear k1; (exact omg_b30a0bed9f hm9 ch8 tw12 ti23)) | omega)
            · have tw22 : i15.toInt = r_18.toInt := (ti_eq rfl rfl).mp w22
              refine pb_iconst (pc := 53) (v := 1) d_Markup_isText_53 (by decide) ?_
              refine pb_goto (pc := 54) (tgt := 58) d_Markup_isText_54 (by decide) ?_
              refine pb_istore_n (pc := 58) (lo' := [(3, .int 1), (4, .int j), (0, .ref h), (1, .int x), (2, .ref (G.2.2.2.2.2.1 k))]) d_Markup_isText_58 rfl (by decide) rfl ?_
              refine pb_iincN (pc := 59) (c := 1) d_Markup_isText_59 1 rfl (by decide) (by decide) (fun i24 ei24 => ?_)
              have ti24 : i24.toInt = j.toInt + 1 := t2_add ei24 rfl (by decide) (by first | omega | (have r90 := ti_rng i24; have r91 := ti_rng x; omega))
              refine pb_eq (pc' := 62) (lo' := [(4, .int i24), (3, .int 1), (0, .ref h), (1, .int x), (2, .ref (G.2.2.2.2.2.1 k))]) (rest' := []) (ws' := [(h, .inr (8, [.ref ui, .ref ug, .ref uv, .ref ur, .int ct, .int fa, .int bg, .int at_, .int en, .int vs, .int io, .int hi, .int ht])), (ur, .inl (G.2.1, 12000, .inl uf))]) ?_
              refine pb_goto (pc := 62) (tgt := 22) d_Markup_isText_62 (by decide) ?_
              refine pb_re (ws' := [(h, .inr (8, [.ref ui, .ref ug, .ref uv, .ref ur, .int ct, .int fa, .int bg, .int at_, .int en, .int vs, .int io, .int hi, .int ht])), (ur, .inl (G.2.1, 12000, .inl uf))]) (lo' := [(3, .int 1), (4, .int i24), (0, .ref h), (1, .int x), (2, .ref (G.2.2.2.2.2.1 k))]) [0, 1] [1, 0, 2, 3, 4] (by decide) rfl rfl rfl ?_
              exact ih22 1 i24 (by first | (with_reducible assumption) | omega (splitDisjunctions := false) | assumption | (clear k1 hm9; first | omega (splitDisjunctions := false) | omega) | omega | decide) (by first | (with_reducible assumption) | omega (splitDisjunctions := false) | assumption | exact fun q90 => (by clear k1 hm9; first | omega (splitDisjunctions := false) | omega) | (exact omg_0ee089787d k0 k1 tw13) | decide) (by first | (with_reducible assumption) | omega (splitDisjunctions := false) | assumption | (clear k1 hm9; first | omega (splitDisjunctions := false) | omega) | omega | decide) (by first | (with_reducible assumption) | omega (splitDisjunctions := false) | assumption | (clear k1 hm9; first | omega (splitDisjunctions := false) | omega) | omega | decide) (tL_s kt (by omega) (by omega) k2 (by (exact omg_5271d995ac zl1 sgT fh21 cR9 tw22)) (by omega)) (by first | (clear k1; (exact omg_b30a0bed9f hm9 ch8 tw12 ti24)) | omega)
    refine pb_re (ws' := [(h, .inr (8, [.ref ui, .ref ug, .ref uv, .ref ur, .int ct, .int fa, .int bg, .int at_, .int en, .int vs, .int io, .int hi, .int ht])), (ur, .inl (G.2.1, 12000, .inl uf))]) (lo' := [(3, .int 0), (4, .int 0), (0, .ref h), (1, .int x), (2, .ref (G.2.2.2.2.2.1 k))]) [0, 1] [1, 0, 2, 3, 4] (by decide) rfl rfl rfl ?_
    exact hL22_7 _ 0 0 (by first | (with_reducible assumption) | omega (splitDisjunctions := false) | assumption | omega | decide) (by first | (with_reducible assumption) | omega (splitDisjunctions := false) | assumption | omega | decide) (by first | (with_reducible assumption) | omega (splitDisjunctions := false) | assumption | omega | decide) (by first | (with_reducible assumption) | omega (splitDisjunctions := false) | assumption | omega | decide) (tL_0 (by omega) zl0) (Nat.lt_succ_self _)
  · have tw6 : i1.toInt = r_4.toInt := (ti_eq rfl rfl).mp w6
    refine pb_iconst (pc := 13) (v := 1) d_Markup_isText_13 (by decide) ?_
    refine pb_goto (pc := 14) (tgt := 18) d_Markup_isText_14 (by decide) ?_
    refine pb_istore_n (pc := 18) (lo' := [(3, .int 1), (0, .ref h), (1, .int x), (2, .ref (G.2.2.2.2.2.1 k))]) d_Markup_isText_18 rfl (by decide) rfl ?_
    refine pb_iconst (pc := 19) (v := 0) d_Markup_isText_19 (by decide) ?_
    refine pb_istore (pc := 20) (lo' := [(4, .int 0), (3, .int 1), (0, .ref h), (1, .int x), (2, .ref (G.2.2.2.2.2.1 k))]) d_Markup_isText_20 (by decide) rfl ?_
    have hL22_25 : ∀ (N9 : Nat) (s : Int32) (j : Int32), (s.toInt = 0 ∨ s.toInt = 1) → (s.toInt = 1 → at_.toInt - x.toInt = st_len k) → (0 ≤ j.toInt) → (j.toInt ≤ st_len k) → (tL_ (mB_ uf bg.toInt) (en.toInt - bg.toInt) (x.toInt - bg.toInt) (at_.toInt - bg.toInt) (st_c k) (st_len k) s.toInt j.toInt) → ((st_len k - j.toInt).toNat) < N9 → pb_P l G M i_Markup_isText 22 [(3, .int s), (4, .int j), (0, .ref h), (1, .int x), (2, .ref (G.2.2.2.2.2.1 k))] [] [(h, .inr (8, [.ref ui, .ref ug, .ref uv, .ref ur, .int ct, .int fa, .int bg, .int at_, .int en, .int vs, .int io, .int hi, .int ht])), (ur, .inl (G.2.1, 12000, .inl uf))] 0 0 := by
      intro N9
      induction N9 with
      | zero => intro s j k0 k1 k2 k3 kt hm9; exact absurd hm9 (Nat.not_lt_zero _)
      | succ N9 ih22 =>
        intro s j k0 k1 k2 k3 kt hm9
        refine pb_iload (pc := 22) d_Markup_isText_22 1 rfl ?_
        refine pb_aload_n (pc := 24) d_Markup_isText_24 4 rfl rfl ?_
        refine pb_callVS (pc := 25) (I := i_Markup_isText) (k := k) (nA := 0) (rest := [.int j]) (wr := [(h, .inr (8, [.ref ui, .ref ug, .ref uv, .ref ur, .int ct, .int fa, .int bg, .int at_, .int en, .int vs, .int io, .int hi, .int ht])), (ur, .inl (G.2.1, 12000, .inl uf))]) d_Markup_isText_25 (g_Str_length hl G k (by first | assumption | decide | omega)) hk rfl [] [0, 1] (by decide) rfl rfl rfl (by decide) (by decide) k_744 rfl k_138 k_826 k_742 k_743 ⟨rfl, hy_JString_length⟩ (by decide) rfl rfl (Nat.le_of_ble_eq_true rfl) (by decide) (fun v9 u27 ch26 => ?_)
        obtain ⟨r_28, rfl⟩ : ∃ z9, z9 = u27 := ⟨_, rfl⟩
        obtain ⟨ech26, ch26⟩ := ch26
        have ech26 : v9 = some (.int r_28) := ech26
        subst ech26
        have fh29 : r_28.toInt = st_len k := ch26
        refine pb_eq (pc' := 28) (lo' := [(3, .int s), (4, .int j), (0, .ref h), (1, .int x), (2, .ref (G.2.2.2.2.2.1 k))]) (rest' := [.int r_28, .int j]) (ws' := [(h, .inr (8, [.ref ui, .ref ug, .ref uv, .ref ur, .int ct, .int fa, .int bg, .int at_, .int en, .int vs, .int io, .int hi, .int ht])), (ur, .inl (G.2.1, 12000, .inl uf))]) ?_
        refine pb_icmp_ge (pc := 28) (tgt := 65) d_Markup_isText_28 (by decide) (fun w30 => ?_) (fun w30 => ?_)
        · have tw30 : r_28.toInt ≤ j.toInt := (ti_le rfl rfl).mp w30
          refine pb_iload_n (pc := 65) d_Markup_isText_65 0 rfl rfl ?_
          exact pb_iret (pc := 66) hQ d_Markup_isText_66 rfl (nar_b (by omega)) (s) ⟨rfl, (by (try dsimp only); first | done | (with_reducible assumption) | omega (splitDisjunctions := false) | assumption | (clear k1 hm9; first | omega (splitDisjunctions := false) | omega) | omega | decide), (show hid_ (s.toInt = 1 ↔ tm6_ (mB_ uf bg.toInt) (en.toInt - bg.toInt) (x.toInt - bg.toInt) (at_.toInt - bg.toInt) (st_c k) (st_len k)) from (hid_i (tL_e kt (by omega))))⟩ [0, 1] (by decide) rfl rfl (by decide) (by decide)
        · have tw30 : ¬ r_28.toInt ≤ j.toInt := fun z9 => w30 ((ti_le rfl rfl).mpr z9)
          refine pb_iload_n (pc := 31) d_Markup_isText_31 0 rfl rfl ?_
          refine pb_if_eq (pc := 32) (tgt := 65) d_Markup_isText_32 (by decide) (fun w31 => ?_) (fun w31 => ?_)
          · have tw31 : s.toInt = 0 := (ti_eq rfl (by decide)).mp w31
            refine pb_iload_n (pc := 65) d_Markup_isText_65 0 rfl rfl ?_
            exact pb_iret (pc := 66) hQ d_Markup_isText_66 rfl (nar_b (by omega)) (s) ⟨rfl, (by (try dsimp only); first | done | (with_reducible assumption) | omega (splitDisjunctions := false) | assumption | (clear k1 hm9; first | omega (splitDisjunctions := false) | omega) | omega | decide), (show hid_ (s.toInt = 1 ↔ tm6_ (mB_ uf bg.toInt) (en.toInt - bg.toInt) (x.toInt - bg.toInt) (at_.toInt - bg.toInt) (st_c k) (st_len k)) from (hid_i (tL_e kt (by omega))))⟩ [0, 1] (by decide) rfl rfl (by decide) (by decide)
          · have tw31 : ¬ s.toInt = 0 := fun z9 => w31 ((ti_eq rfl (by decide)).mpr z9)
            refine pb_aload_n (pc := 35) d_Markup_isText_35 2 rfl rfl ?_
            refine pb_get (pc := 36) d_Markup_isText_36 0 3 rfl rfl (by decide) in_Markup k_320 rfl ?_
            refine pb_iload_n (pc := 39) d_Markup_isText_39 3 rfl rfl ?_
            refine pb_iload (pc := 40) d_Markup_isText_40 1 rfl ?_
            refine pb_iadd (pc := 42) d_Markup_isText_42 ?_
            refine pb_topi (fun i32 ei32 => ?_)
            try have ti32 : i32.toInt = x.toInt + j.toInt := t2_add ei32 rfl rfl (by omega)
            refine pb_bald (pc := 43) d_Markup_isText_43 1 rfl (vp_in_iff.mpr (by (exact omg_0f7446dc31 a1 a2 b0 ti1 ch2 tw6 k2 ch26 tw30 ti32))) ?_
            refine pb_topi (fun i33 ei33 => ?_)
            have xi33 : i33 = gr uf (bg.toInt + (x.toInt - bg.toInt + j.toInt)) := gr_ld ei33 (by omega)
            have yi33 : i33.toInt = gx uf (bg.toInt + (x.toInt - bg.toInt + j.toInt)) := congrArg Int32.toInt xi33
            have ti33 : -128 ≤ i33.toInt ∧ i33.toInt ≤ 127 := ti_fit (F_uf _) ei33
            have sgT := cm_sg (B := (mB_ uf bg.toInt)) (n := (en.toInt - bg.toInt)) (j := x.toInt - bg.toInt + j.toInt) xi33 ti33 (by omega) (by omega)
            refine pb_aload_n (pc := 44) d_Markup_isText_44 4 rfl rfl ?_
            refine pb_iload (pc := 45) d_Markup_isText_45 1 rfl ?_
            refine pb_callVS (pc := 47) (I := i_Markup_isText) (k := k) (nA := 1) (rest := [.int i33]) (wr := [(h, .inr (8, [.ref ui, .ref ug, .ref uv, .ref ur, .int ct, .int fa, .int bg, .int at_, .int en, .int vs, .int io, .int hi, .int ht])), (ur, .inl (G.2.1, 12000, .inl uf))]) d_Markup_isText_47 (g_Str_charAt hl G k j (by first | assumption | decide | omega) (by first | (with_reducible assumption) | omega (splitDisjunctions := false) | assumption | (clear k1 hm9; first | omega (splitDisjunctions := false) | omega) | omega | decide) (by first | (with_reducible assumption) | omega (splitDisjunctions := false) | assumption | (clear k1 hm9; first | omega (splitDisjunctions := false) | omega) | omega | decide)) hk rfl [] [0, 1] (by decide) rfl rfl rfl (by decide) (by decide) k_754 rfl k_138 k_827 k_752 k_753 ⟨rfl, hy_JString_charAt⟩ (by decide) rfl rfl (Nat.le_of_ble_eq_true rfl) (by decide) (fun v9 u35 ch34 => ?_)
            obtain ⟨r_36, rfl⟩ : ∃ z9, z9 = u35 := ⟨_, rfl⟩
            obtain ⟨ech34, ch34⟩ := ch34
            have ech34 : v9 = some (.int r_36) := ech34
            subst ech34
            obtain ⟨fh37, fh38, fh39⟩ : (0 ≤ r_36.toInt) ∧ (r_36.toInt ≤ 255) ∧ (r_36.toInt = st_c k j.toInt) := ch34
            have cF9 := fh39
            have cR9 := sc_rng hk j.toInt
            refine pb_eq (pc' := 50) (lo' := [(3, .int s), (4, .int j), (0, .ref h), (1, .int x), (2, .ref (G.2.2.2.2.2.1 k))]) (rest' := [.int r_36, .int i33]) (ws' := [(h, .inr (8, [.ref ui, .ref ug, .ref uv, .ref ur, .int ct, .int fa, .int bg, .int at_, .int en, .int vs, .int io, .int hi, .int ht])), (ur, .inl (G.2.1, 12000, .inl uf))]) ?_
            refine pb_icmp_ne (pc := 50) (tgt := 57) d_Markup_isText_50 (by decide) (fun w40 => ?_) (fun w40 => ?_)
            · have tw40 : ¬ i33.toInt = r_36.toInt := fun z9 => w40 ((ti_eq rfl rfl).mpr z9)
              refine pb_iconst (pc := 57) (v := 0) d_Markup_isText_57 (by decide) ?_
              refine pb_istore_n (pc := 58) (lo' := [(3, .int 0), (4, .int j), (0, .ref h), (1, .int x), (2, .ref (G.2.2.2.2.2.1 k))]) d_Markup_isText_58 rfl (by decide) rfl ?_
              refine pb_iincN (pc := 59) (c := 1) d_Markup_isText_59 1 rfl (by decide) (by decide) (fun i41 ei41 => ?_)
              have ti41 : i41.toInt = j.toInt + 1 := t2_add ei41 rfl (by decide) (by first | omega | (have r90 := ti_rng i41; have r91 := ti_rng x; omega))
              refine pb_eq (pc' := 62) (lo' := [(4, .int i41), (3, .int 0), (0, .ref h), (1, .int x), (2, .ref (G.2.2.2.2.2.1 k))]) (rest' := []) (ws' := [(h, .inr (8, [.ref ui, .ref ug, .ref uv, .ref ur, .int ct, .int fa, .int bg, .int at_, .int en, .int vs, .int io, .int hi, .int ht])), (ur, .inl (G.2.1, 12000, .inl uf))]) ?_
              refine pb_goto (pc := 62) (tgt := 22) d_Markup_isText_62 (by decide) ?_
              refine pb_re (ws' := [(h, .inr (8, [.ref ui, .ref ug, .ref uv, .ref ur, .int ct, .int fa, .int bg, .int at_, .int en, .int vs, .int io, .int hi, .int ht])), (ur, .inl (G.2.1, 12000, .inl uf))]) (lo' := [(3, .int 0), (4, .int i41), (0, .ref h), (1, .int x), (2, .ref (G.2.2.2.2.2.1 k))]) [0, 1] [1, 0, 2, 3, 4] (by decide) rfl rfl rfl ?_
              exact ih22 0 i41 (by first | (with_reducible assumption) | omega (splitDisjunctions := false) | assumption | (clear k1 hm9; first | omega (splitDisjunctions := false) | omega) | omega | decide) (by first | (with_reducible assumption) | omega (splitDisjunctions := false) | assumption | exact fun q90 => (by clear k1 hm9; first | omega (splitDisjunctions := false) | omega) | omega | decide) (by first | (with_reducible assumption) | omega (splitDisjunctions := false) | assumption | (clear k1 hm9; first | omega (splitDisjunctions := false) | omega) | omega | decide) (by first | (with_reducible assumption) | omega (splitDisjunctions := false) | assumption | (clear k1 hm9; first | omega (splitDisjunctions := false) | omega) | omega | decide) (tL_s kt (by omega) (by omega) k2 (by omega) (by omega)) (by first | (clear k1; (exact omg_b30a0bed9f hm9 ch26 tw30 ti41)) | omega)
            · have tw40 : i33.toInt = r_36.toInt := (ti_eq rfl rfl).mp w40
              refine pb_iconst (pc := 53) (v := 1) d_Markup_isText_53 (by decide) ?_
              refine pb_goto (pc := 54) (tgt := 58) d_Markup_isText_54 (by decide) ?_
              refine pb_istore_n (pc := 58) (lo' := [(3, .int 1), (4, .int j), (0, .ref h), (1, .int x), (2, .ref (G.2.2.2.2.2.1 k))]) d_Markup_isText_58 rfl (by decide) rfl ?_
              refine pb_iincN (pc := 59) (c := 1) d_Markup_isText_59 1 rfl (by decide) (by decide) (fun i42 ei42 => ?_)
              have ti42 : i42.toInt = j.toInt + 1 := t2_add ei42 rfl (by decide) (by first | omega | (have r90 := ti_rng i42; have r91 := ti_rng x; omega))
              refine pb_eq (pc' := 62) (lo' := [(4, .int i42), (3, .int 1), (0, .ref h), (1, .int x), (2, .ref (G.2.2.2.2.2.1 k))]) (rest' := []) (ws' := [(h, .inr (8, [.ref ui, .ref ug, .ref uv, .ref ur, .int ct, .int fa, .int bg, .int at_, .int en, .int vs, .int io, .int hi, .int ht])), (ur, .inl (G.2.1, 12000, .inl uf))]) ?_
              refine pb_goto (pc := 62) (tgt := 22) d_Markup_isText_62 (by decide) ?_
              refine pb_re (ws' := [(h, .inr (8, [.ref ui, .ref ug, .ref uv, .ref ur, .int ct, .int fa, .int bg, .int at_, .int en, .int vs, .int io, .int hi, .int ht])), (ur, .inl (G.2.1, 12000, .inl uf))]) (lo' := [(3, .int 1), (4, .int i42), (0, .ref h), (1, .int x), (2, .ref (G.2.2.2.2.2.1 k))]) [0, 1] [1, 0, 2, 3, 4] (by decide) rfl rfl rfl ?_
              exact ih22 1 i42 (by first | (with_reducible assumption) | omega (splitDisjunctions := false) | assumption | (clear k1 hm9; first | omega (splitDisjunctions := false) | omega) | omega | decide) (by first | (with_reducible assumption) | omega (splitDisjunctions := false) | assumption | exact fun q90 => (by clear k1 hm9; first | omega (splitDisjunctions := false) | omega) | omega | decide) (by first | (with_reducible assumption) | omega (splitDisjunctions := false) | assumption | (clear k1 hm9; first | omega (splitDisjunctions := false) | omega) | omega | decide) (by first | (with_reducible assumption) | omega (splitDisjunctions := false) | assumption | (clear k1 hm9; first | omega (splitDisjunctions := false) | omega) | omega | decide) (tL_s kt (by omega) (by omega) k2 (by omega) (by omega)) (by first | (clear k1; (exact omg_b30a0bed9f hm9 ch26 tw30 ti42)) | omega)
    refine pb_re (ws' := [(h, .inr (8, [.ref ui, .ref ug, .ref uv, .ref ur, .int ct, .int fa, .int bg, .int at_, .int en, .int vs, .int io, .int hi, .int ht])), (ur, .inl (G.2.1, 12000, .inl uf))]) (lo' := [(3, .int 1), (4, .int 0), (0, .ref h), (1, .int x), (2, .ref (G.2.2.2.2.2.1 k))]) [0, 1] [1, 0, 2, 3, 4] (by decide) rfl rfl rfl ?_
    exact hL22_25 _ 1 0 (by first | (with_reducible assumption) | omega (splitDisjunctions := false) | assumption | omega | decide) (by first | (with_reducible assumption) | omega (splitDisjunctions := false) | assumption | omega | decide) (by first | (with_reducible assumption) | omega (splitDisjunctions := false) | assumption | omega | decide) (by first | (with_reducible assumption) | omega (splitDisjunctions := false) | assumption | omega | decide) (tL_0 (by (exact omg_670d9c80e4 zl1 ti1 ch2 tw6)) zl0) (Nat.lt_succ_self _)
